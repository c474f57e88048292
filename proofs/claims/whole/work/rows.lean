section
-- ===== PART A: goes FIRST, ahead of the names: the tables' words, and 'selects' of the private methods out of them =====
/-- a private method of a class that the tables say can be made, by its rows of tables_1 -/
def lw_okq (q : MethodName × Nat) : Prop := (q.1.cls ≠ "java/lang/invoke/MethodHandle" ∧ q.1.cls ≠ "java/lang/invoke/VarHandle") ∧ Cond.instantiable q.1.cls q.2 ∈ tables_1 ∧ Cond.privateMethod q.1 ∈ tables_1 ∧ Cond.instanceMethod q.1 ∈ tables_1
theorem lw_p0 : lw_okq (⟨"FlagCore", "cellAt", "(I)I"⟩, 8) := ⟨⟨by decide +kernel, by decide +kernel⟩, List.mem_of_getElem? (i := 8) (by decide +kernel), List.mem_of_getElem? (i := 70) (by decide +kernel), List.mem_of_getElem? (i := 71) (by decide +kernel)⟩
theorem lw_p1 : lw_okq (⟨"FlagCore", "advance", "()I"⟩, 8) := ⟨⟨by decide +kernel, by decide +kernel⟩, List.mem_of_getElem? (i := 8) (by decide +kernel), List.mem_of_getElem? (i := 118) (by decide +kernel), List.mem_of_getElem? (i := 119) (by decide +kernel)⟩
theorem lw_p2 : lw_okq (⟨"FlagCore", "enterLeast", "()I"⟩, 8) := ⟨⟨by decide +kernel, by decide +kernel⟩, List.mem_of_getElem? (i := 8) (by decide +kernel), List.mem_of_getElem? (i := 126) (by decide +kernel), List.mem_of_getElem? (i := 127) (by decide +kernel)⟩
theorem lw_p3 : lw_okq (⟨"FlagCore", "perform", "(I)I"⟩, 8) := ⟨⟨by decide +kernel, by decide +kernel⟩, List.mem_of_getElem? (i := 8) (by decide +kernel), List.mem_of_getElem? (i := 153) (by decide +kernel), List.mem_of_getElem? (i := 154) (by decide +kernel)⟩
theorem lw_p4 : lw_okq (⟨"FlagCore", "onward", "(I)I"⟩, 8) := ⟨⟨by decide +kernel, by decide +kernel⟩, List.mem_of_getElem? (i := 8) (by decide +kernel), List.mem_of_getElem? (i := 187) (by decide +kernel), List.mem_of_getElem? (i := 188) (by decide +kernel)⟩
theorem lw_p5 : lw_okq (⟨"FlagCore", "movePai\x72", "(I)I"⟩, 8) := ⟨⟨by decide +kernel, by decide +kernel⟩, List.mem_of_getElem? (i := 8) (by decide +kernel), List.mem_of_getElem? (i := 191) (by decide +kernel), List.mem_of_getElem? (i := 192) (by decide +kernel)⟩
theorem lw_p6 : lw_okq (⟨"FlagCore", "multiply", "(I)I"⟩, 8) := ⟨⟨by decide +kernel, by decide +kernel⟩, List.mem_of_getElem? (i := 8) (by decide +kernel), List.mem_of_getElem? (i := 196) (by decide +kernel), List.mem_of_getElem? (i := 197) (by decide +kernel)⟩
theorem lw_p7 : lw_okq (⟨"FlagCore$Sums", "keepProduct", "(II)V"⟩, 1) := ⟨⟨by decide +kernel, by decide +kernel⟩, List.mem_of_getElem? (i := 27) (by decide +kernel), List.mem_of_getElem? (i := 208) (by decide +kernel), List.mem_of_getElem? (i := 209) (by decide +kernel)⟩
theorem lw_p8 : lw_okq (⟨"FlagCore", "multiplyFew", "(III)V"⟩, 8) := ⟨⟨by decide +kernel, by decide +kernel⟩, List.mem_of_getElem? (i := 8) (by decide +kernel), List.mem_of_getElem? (i := 223) (by decide +kernel), List.mem_of_getElem? (i := 224) (by decide +kernel)⟩
theorem lw_p9 : lw_okq (⟨"FlagCore", "combine", "(I)I"⟩, 8) := ⟨⟨by decide +kernel, by decide +kernel⟩, List.mem_of_getElem? (i := 8) (by decide +kernel), List.mem_of_getElem? (i := 231) (by decide +kernel), List.mem_of_getElem? (i := 232) (by decide +kernel)⟩
theorem lw_p10 : lw_okq (⟨"FlagCore$Sums", "subtract", "(IIII)I"⟩, 1) := ⟨⟨by decide +kernel, by decide +kernel⟩, List.mem_of_getElem? (i := 27) (by decide +kernel), List.mem_of_getElem? (i := 240) (by decide +kernel), List.mem_of_getElem? (i := 241) (by decide +kernel)⟩
theorem lw_p11 : lw_okq (⟨"FlagCore", "skip", "(Z)I"⟩, 8) := ⟨⟨by decide +kernel, by decide +kernel⟩, List.mem_of_getElem? (i := 8) (by decide +kernel), List.mem_of_getElem? (i := 251) (by decide +kernel), List.mem_of_getElem? (i := 252) (by decide +kernel)⟩
theorem lw_p12 : lw_okq (⟨"FlagCore", "combineWithNumbe\x72", "(I)I"⟩, 8) := ⟨⟨by decide +kernel, by decide +kernel⟩, List.mem_of_getElem? (i := 8) (by decide +kernel), List.mem_of_getElem? (i := 270) (by decide +kernel), List.mem_of_getElem? (i := 271) (by decide +kernel)⟩
theorem lw_p13 : lw_okq (⟨"FlagCore", "change", "(I)I"⟩, 8) := ⟨⟨by decide +kernel, by decide +kernel⟩, List.mem_of_getElem? (i := 8) (by decide +kernel), List.mem_of_getElem? (i := 274) (by decide +kernel), List.mem_of_getElem? (i := 275) (by decide +kernel)⟩
theorem lw_p14 : lw_okq (⟨"FlagCore", "setFlag", "(I)I"⟩, 8) := ⟨⟨by decide +kernel, by decide +kernel⟩, List.mem_of_getElem? (i := 8) (by decide +kernel), List.mem_of_getElem? (i := 294) (by decide +kernel), List.mem_of_getElem? (i := 295) (by decide +kernel)⟩
theorem lw_p15 : lw_okq (⟨"FlagCore", "changePai\x72", "(I)I"⟩, 8) := ⟨⟨by decide +kernel, by decide +kernel⟩, List.mem_of_getElem? (i := 8) (by decide +kernel), List.mem_of_getElem? (i := 298) (by decide +kernel), List.mem_of_getElem? (i := 299) (by decide +kernel)⟩
def lw_privs_1 : List (MethodName × Nat) := [(⟨"FlagCore", "cellAt", "(I)I"⟩, 8), (⟨"FlagCore", "advance", "()I"⟩, 8), (⟨"FlagCore", "enterLeast", "()I"⟩, 8), (⟨"FlagCore", "perform", "(I)I"⟩, 8), (⟨"FlagCore", "onward", "(I)I"⟩, 8), (⟨"FlagCore", "movePai\x72", "(I)I"⟩, 8), (⟨"FlagCore", "multiply", "(I)I"⟩, 8), (⟨"FlagCore$Sums", "keepProduct", "(II)V"⟩, 1), (⟨"FlagCore", "multiplyFew", "(III)V"⟩, 8), (⟨"FlagCore", "combine", "(I)I"⟩, 8), (⟨"FlagCore$Sums", "subtract", "(IIII)I"⟩, 1), (⟨"FlagCore", "skip", "(Z)I"⟩, 8), (⟨"FlagCore", "combineWithNumbe\x72", "(I)I"⟩, 8), (⟨"FlagCore", "change", "(I)I"⟩, 8), (⟨"FlagCore", "setFlag", "(I)I"⟩, 8), (⟨"FlagCore", "changePai\x72", "(I)I"⟩, 8)]
theorem lw_r1 : ∀ q ∈ lw_privs_1, lw_okq q := List.forall_mem_cons.mpr ⟨lw_p0, List.forall_mem_cons.mpr ⟨lw_p1, List.forall_mem_cons.mpr ⟨lw_p2, List.forall_mem_cons.mpr ⟨lw_p3, List.forall_mem_cons.mpr ⟨lw_p4, List.forall_mem_cons.mpr ⟨lw_p5, List.forall_mem_cons.mpr ⟨lw_p6, List.forall_mem_cons.mpr ⟨lw_p7, List.forall_mem_cons.mpr ⟨lw_p8, List.forall_mem_cons.mpr ⟨lw_p9, List.forall_mem_cons.mpr ⟨lw_p10, List.forall_mem_cons.mpr ⟨lw_p11, List.forall_mem_cons.mpr ⟨lw_p12, List.forall_mem_cons.mpr ⟨lw_p13, List.forall_mem_cons.mpr ⟨lw_p14, List.forall_mem_cons.mpr ⟨lw_p15, fun _ h => absurd h List.not_mem_nil⟩⟩⟩⟩⟩⟩⟩⟩⟩⟩⟩⟩⟩⟩⟩⟩
theorem lw_p16 : lw_okq (⟨"FlagCore$Sums", "pairFlags", "(III)V"⟩, 1) := ⟨⟨by decide +kernel, by decide +kernel⟩, List.mem_of_getElem? (i := 27) (by decide +kernel), List.mem_of_getElem? (i := 306) (by decide +kernel), List.mem_of_getElem? (i := 307) (by decide +kernel)⟩
theorem lw_p17 : lw_okq (⟨"FlagCore", "moveAtNext", "(I)I"⟩, 8) := ⟨⟨by decide +kernel, by decide +kernel⟩, List.mem_of_getElem? (i := 8) (by decide +kernel), List.mem_of_getElem? (i := 314) (by decide +kernel), List.mem_of_getElem? (i := 315) (by decide +kernel)⟩
theorem lw_p18 : lw_okq (⟨"FlagCore", "transfe\x72", "(II)V"⟩, 8) := ⟨⟨by decide +kernel, by decide +kernel⟩, List.mem_of_getElem? (i := 8) (by decide +kernel), List.mem_of_getElem? (i := 318) (by decide +kernel), List.mem_of_getElem? (i := 319) (by decide +kernel)⟩
theorem lw_p19 : lw_okq (⟨"FlagCore", "movePointed", "(I)I"⟩, 8) := ⟨⟨by decide +kernel, by decide +kernel⟩, List.mem_of_getElem? (i := 8) (by decide +kernel), List.mem_of_getElem? (i := 322) (by decide +kernel), List.mem_of_getElem? (i := 323) (by decide +kernel)⟩
theorem lw_p20 : lw_okq (⟨"FlagCore", "moveStacked", "(I)I"⟩, 8) := ⟨⟨by decide +kernel, by decide +kernel⟩, List.mem_of_getElem? (i := 8) (by decide +kernel), List.mem_of_getElem? (i := 327) (by decide +kernel), List.mem_of_getElem? (i := 328) (by decide +kernel)⟩
theorem lw_p21 : lw_okq (⟨"FlagCore", "moveBeside", "(I)I"⟩, 8) := ⟨⟨by decide +kernel, by decide +kernel⟩, List.mem_of_getElem? (i := 8) (by decide +kernel), List.mem_of_getElem? (i := 339) (by decide +kernel), List.mem_of_getElem? (i := 340) (by decide +kernel)⟩
theorem lw_p22 : lw_okq (⟨"FlagCore", "moveFromCode", "(I)I"⟩, 8) := ⟨⟨by decide +kernel, by decide +kernel⟩, List.mem_of_getElem? (i := 8) (by decide +kernel), List.mem_of_getElem? (i := 343) (by decide +kernel), List.mem_of_getElem? (i := 344) (by decide +kernel)⟩
theorem lw_p23 : lw_okq (⟨"FlagCore", "movePort", "(I)I"⟩, 8) := ⟨⟨by decide +kernel, by decide +kernel⟩, List.mem_of_getElem? (i := 8) (by decide +kernel), List.mem_of_getElem? (i := 348) (by decide +kernel), List.mem_of_getElem? (i := 349) (by decide +kernel)⟩
theorem lw_p24 : lw_okq (⟨"FlagCore", "setPortBit", "(I)I"⟩, 8) := ⟨⟨by decide +kernel, by decide +kernel⟩, List.mem_of_getElem? (i := 8) (by decide +kernel), List.mem_of_getElem? (i := 352) (by decide +kernel), List.mem_of_getElem? (i := 353) (by decide +kernel)⟩
theorem lw_p25 : lw_okq (⟨"FlagCore", "skipByPort", "(I)I"⟩, 8) := ⟨⟨by decide +kernel, by decide +kernel⟩, List.mem_of_getElem? (i := 8) (by decide +kernel), List.mem_of_getElem? (i := 357) (by decide +kernel), List.mem_of_getElem? (i := 358) (by decide +kernel)⟩
theorem lw_p26 : lw_okq (⟨"FlagCore", "skipByBit", "(I)I"⟩, 8) := ⟨⟨by decide +kernel, by decide +kernel⟩, List.mem_of_getElem? (i := 8) (by decide +kernel), List.mem_of_getElem? (i := 365) (by decide +kernel), List.mem_of_getElem? (i := 366) (by decide +kernel)⟩
theorem lw_p27 : lw_okq (⟨"FlagCore", "moveBit", "(I)I"⟩, 8) := ⟨⟨by decide +kernel, by decide +kernel⟩, List.mem_of_getElem? (i := 8) (by decide +kernel), List.mem_of_getElem? (i := 369) (by decide +kernel), List.mem_of_getElem? (i := 370) (by decide +kernel)⟩
theorem lw_p28 : lw_okq (⟨"FlagCore", "jumpNea\x72", "(I)I"⟩, 8) := ⟨⟨by decide +kernel, by decide +kernel⟩, List.mem_of_getElem? (i := 8) (by decide +kernel), List.mem_of_getElem? (i := 373) (by decide +kernel), List.mem_of_getElem? (i := 374) (by decide +kernel)⟩
theorem lw_p29 : lw_okq (⟨"FlagCore", "jumpTo", "(I)I"⟩, 8) := ⟨⟨by decide +kernel, by decide +kernel⟩, List.mem_of_getElem? (i := 8) (by decide +kernel), List.mem_of_getElem? (i := 377) (by decide +kernel), List.mem_of_getElem? (i := 378) (by decide +kernel)⟩
theorem lw_p30 : lw_okq (⟨"FlagCore", "callTo", "(II)I"⟩, 8) := ⟨⟨by decide +kernel, by decide +kernel⟩, List.mem_of_getElem? (i := 8) (by decide +kernel), List.mem_of_getElem? (i := 381) (by decide +kernel), List.mem_of_getElem? (i := 382) (by decide +kernel)⟩
theorem lw_p31 : lw_okq (⟨"FlagCore", "branch", "(I)I"⟩, 8) := ⟨⟨by decide +kernel, by decide +kernel⟩, List.mem_of_getElem? (i := 8) (by decide +kernel), List.mem_of_getElem? (i := 385) (by decide +kernel), List.mem_of_getElem? (i := 386) (by decide +kernel)⟩
def lw_privs_2 : List (MethodName × Nat) := [(⟨"FlagCore$Sums", "pairFlags", "(III)V"⟩, 1), (⟨"FlagCore", "moveAtNext", "(I)I"⟩, 8), (⟨"FlagCore", "transfe\x72", "(II)V"⟩, 8), (⟨"FlagCore", "movePointed", "(I)I"⟩, 8), (⟨"FlagCore", "moveStacked", "(I)I"⟩, 8), (⟨"FlagCore", "moveBeside", "(I)I"⟩, 8), (⟨"FlagCore", "moveFromCode", "(I)I"⟩, 8), (⟨"FlagCore", "movePort", "(I)I"⟩, 8), (⟨"FlagCore", "setPortBit", "(I)I"⟩, 8), (⟨"FlagCore", "skipByPort", "(I)I"⟩, 8), (⟨"FlagCore", "skipByBit", "(I)I"⟩, 8), (⟨"FlagCore", "moveBit", "(I)I"⟩, 8), (⟨"FlagCore", "jumpNea\x72", "(I)I"⟩, 8), (⟨"FlagCore", "jumpTo", "(I)I"⟩, 8), (⟨"FlagCore", "callTo", "(II)I"⟩, 8), (⟨"FlagCore", "branch", "(I)I"⟩, 8)]
theorem lw_r2 : ∀ q ∈ lw_privs_2, lw_okq q := List.forall_mem_cons.mpr ⟨lw_p16, List.forall_mem_cons.mpr ⟨lw_p17, List.forall_mem_cons.mpr ⟨lw_p18, List.forall_mem_cons.mpr ⟨lw_p19, List.forall_mem_cons.mpr ⟨lw_p20, List.forall_mem_cons.mpr ⟨lw_p21, List.forall_mem_cons.mpr ⟨lw_p22, List.forall_mem_cons.mpr ⟨lw_p23, List.forall_mem_cons.mpr ⟨lw_p24, List.forall_mem_cons.mpr ⟨lw_p25, List.forall_mem_cons.mpr ⟨lw_p26, List.forall_mem_cons.mpr ⟨lw_p27, List.forall_mem_cons.mpr ⟨lw_p28, List.forall_mem_cons.mpr ⟨lw_p29, List.forall_mem_cons.mpr ⟨lw_p30, List.forall_mem_cons.mpr ⟨lw_p31, fun _ h => absurd h List.not_mem_nil⟩⟩⟩⟩⟩⟩⟩⟩⟩⟩⟩⟩⟩⟩⟩⟩
theorem lw_p32 : lw_okq (⟨"FlagCore", "jumpFa\x72", "(I)I"⟩, 8) := ⟨⟨by decide +kernel, by decide +kernel⟩, List.mem_of_getElem? (i := 8) (by decide +kernel), List.mem_of_getElem? (i := 389) (by decide +kernel), List.mem_of_getElem? (i := 390) (by decide +kernel)⟩
theorem lw_p33 : lw_okq (⟨"FlagCore", "jumpToZ", "(I)I"⟩, 8) := ⟨⟨by decide +kernel, by decide +kernel⟩, List.mem_of_getElem? (i := 8) (by decide +kernel), List.mem_of_getElem? (i := 393) (by decide +kernel), List.mem_of_getElem? (i := 394) (by decide +kernel)⟩
theorem lw_p34 : lw_okq (⟨"FlagCore", "comeBack", "(I)I"⟩, 8) := ⟨⟨by decide +kernel, by decide +kernel⟩, List.mem_of_getElem? (i := 8) (by decide +kernel), List.mem_of_getElem? (i := 397) (by decide +kernel), List.mem_of_getElem? (i := 398) (by decide +kernel)⟩
theorem lw_p35 : lw_okq (⟨"FlagCoreModel", "pai\x72", "(I)I"⟩, 8) := ⟨⟨by decide +kernel, by decide +kernel⟩, List.mem_of_getElem? (i := 423) (by decide +kernel), List.mem_of_getElem? (i := 482) (by decide +kernel), List.mem_of_getElem? (i := 483) (by decide +kernel)⟩
theorem lw_p36 : lw_okq (⟨"FlagCoreModel", "stepOnce", "()I"⟩, 8) := ⟨⟨by decide +kernel, by decide +kernel⟩, List.mem_of_getElem? (i := 423) (by decide +kernel), List.mem_of_getElem? (i := 536) (by decide +kernel), List.mem_of_getElem? (i := 537) (by decide +kernel)⟩
theorem lw_p37 : lw_okq (⟨"FlagCoreModel", "has", "(I)Z"⟩, 8) := ⟨⟨by decide +kernel, by decide +kernel⟩, List.mem_of_getElem? (i := 423) (by decide +kernel), List.mem_of_getElem? (i := 540) (by decide +kernel), List.mem_of_getElem? (i := 541) (by decide +kernel)⟩
theorem lw_p38 : lw_okq (⟨"FlagCoreModel", "enters", "()I"⟩, 8) := ⟨⟨by decide +kernel, by decide +kernel⟩, List.mem_of_getElem? (i := 423) (by decide +kernel), List.mem_of_getElem? (i := 544) (by decide +kernel), List.mem_of_getElem? (i := 545) (by decide +kernel)⟩
theorem lw_p39 : lw_okq (⟨"FlagCoreModel", "canCall", "()Z"⟩, 8) := ⟨⟨by decide +kernel, by decide +kernel⟩, List.mem_of_getElem? (i := 423) (by decide +kernel), List.mem_of_getElem? (i := 548) (by decide +kernel), List.mem_of_getElem? (i := 549) (by decide +kernel)⟩
theorem lw_p40 : lw_okq (⟨"FlagCoreModel", "calls", "(II)V"⟩, 8) := ⟨⟨by decide +kernel, by decide +kernel⟩, List.mem_of_getElem? (i := 423) (by decide +kernel), List.mem_of_getElem? (i := 555) (by decide +kernel), List.mem_of_getElem? (i := 556) (by decide +kernel)⟩
theorem lw_p41 : lw_okq (⟨"FlagCoreModel", "pushes", "(I)V"⟩, 8) := ⟨⟨by decide +kernel, by decide +kernel⟩, List.mem_of_getElem? (i := 423) (by decide +kernel), List.mem_of_getElem? (i := 559) (by decide +kernel), List.mem_of_getElem? (i := 560) (by decide +kernel)⟩
theorem lw_p42 : lw_okq (⟨"FlagCoreModel", "setPai\x72", "(II)V"⟩, 8) := ⟨⟨by decide +kernel, by decide +kernel⟩, List.mem_of_getElem? (i := 423) (by decide +kernel), List.mem_of_getElem? (i := 563) (by decide +kernel), List.mem_of_getElem? (i := 564) (by decide +kernel)⟩
theorem lw_p43 : lw_okq (⟨"FlagCoreModel", "flag", "(IZ)V"⟩, 8) := ⟨⟨by decide +kernel, by decide +kernel⟩, List.mem_of_getElem? (i := 423) (by decide +kernel), List.mem_of_getElem? (i := 567) (by decide +kernel), List.mem_of_getElem? (i := 568) (by decide +kernel)⟩
theorem lw_p44 : lw_okq (⟨"FlagCoreModel", "does", "(I)I"⟩, 8) := ⟨⟨by decide +kernel, by decide +kernel⟩, List.mem_of_getElem? (i := 423) (by decide +kernel), List.mem_of_getElem? (i := 571) (by decide +kernel), List.mem_of_getElem? (i := 572) (by decide +kernel)⟩
theorem lw_p45 : lw_okq (⟨"FlagCoreModel", "ofPlaces", "(I)I"⟩, 8) := ⟨⟨by decide +kernel, by decide +kernel⟩, List.mem_of_getElem? (i := 423) (by decide +kernel), List.mem_of_getElem? (i := 577) (by decide +kernel), List.mem_of_getElem? (i := 578) (by decide +kernel)⟩
theorem lw_p46 : lw_okq (⟨"FlagCoreModel", "moves", "(IIZ)I"⟩, 8) := ⟨⟨by decide +kernel, by decide +kernel⟩, List.mem_of_getElem? (i := 423) (by decide +kernel), List.mem_of_getElem? (i := 581) (by decide +kernel), List.mem_of_getElem? (i := 582) (by decide +kernel)⟩
theorem lw_p47 : lw_okq (⟨"FlagCoreModel", "ofTwo", "(I)V"⟩, 8) := ⟨⟨by decide +kernel, by decide +kernel⟩, List.mem_of_getElem? (i := 423) (by decide +kernel), List.mem_of_getElem? (i := 585) (by decide +kernel), List.mem_of_getElem? (i := 586) (by decide +kernel)⟩
def lw_privs_3 : List (MethodName × Nat) := [(⟨"FlagCore", "jumpFa\x72", "(I)I"⟩, 8), (⟨"FlagCore", "jumpToZ", "(I)I"⟩, 8), (⟨"FlagCore", "comeBack", "(I)I"⟩, 8), (⟨"FlagCoreModel", "pai\x72", "(I)I"⟩, 8), (⟨"FlagCoreModel", "stepOnce", "()I"⟩, 8), (⟨"FlagCoreModel", "has", "(I)Z"⟩, 8), (⟨"FlagCoreModel", "enters", "()I"⟩, 8), (⟨"FlagCoreModel", "canCall", "()Z"⟩, 8), (⟨"FlagCoreModel", "calls", "(II)V"⟩, 8), (⟨"FlagCoreModel", "pushes", "(I)V"⟩, 8), (⟨"FlagCoreModel", "setPai\x72", "(II)V"⟩, 8), (⟨"FlagCoreModel", "flag", "(IZ)V"⟩, 8), (⟨"FlagCoreModel", "does", "(I)I"⟩, 8), (⟨"FlagCoreModel", "ofPlaces", "(I)I"⟩, 8), (⟨"FlagCoreModel", "moves", "(IIZ)I"⟩, 8), (⟨"FlagCoreModel", "ofTwo", "(I)V"⟩, 8)]
theorem lw_r3 : ∀ q ∈ lw_privs_3, lw_okq q := List.forall_mem_cons.mpr ⟨lw_p32, List.forall_mem_cons.mpr ⟨lw_p33, List.forall_mem_cons.mpr ⟨lw_p34, List.forall_mem_cons.mpr ⟨lw_p35, List.forall_mem_cons.mpr ⟨lw_p36, List.forall_mem_cons.mpr ⟨lw_p37, List.forall_mem_cons.mpr ⟨lw_p38, List.forall_mem_cons.mpr ⟨lw_p39, List.forall_mem_cons.mpr ⟨lw_p40, List.forall_mem_cons.mpr ⟨lw_p41, List.forall_mem_cons.mpr ⟨lw_p42, List.forall_mem_cons.mpr ⟨lw_p43, List.forall_mem_cons.mpr ⟨lw_p44, List.forall_mem_cons.mpr ⟨lw_p45, List.forall_mem_cons.mpr ⟨lw_p46, List.forall_mem_cons.mpr ⟨lw_p47, fun _ h => absurd h List.not_mem_nil⟩⟩⟩⟩⟩⟩⟩⟩⟩⟩⟩⟩⟩⟩⟩⟩
theorem lw_p48 : lw_okq (⟨"FlagCoreModel", "carry", "()I"⟩, 8) := ⟨⟨by decide +kernel, by decide +kernel⟩, List.mem_of_getElem? (i := 423) (by decide +kernel), List.mem_of_getElem? (i := 589) (by decide +kernel), List.mem_of_getElem? (i := 590) (by decide +kernel)⟩
theorem lw_p49 : lw_okq (⟨"FlagCoreModel", "subtract", "(IIIZ)I"⟩, 8) := ⟨⟨by decide +kernel, by decide +kernel⟩, List.mem_of_getElem? (i := 423) (by decide +kernel), List.mem_of_getElem? (i := 593) (by decide +kernel), List.mem_of_getElem? (i := 594) (by decide +kernel)⟩
theorem lw_p50 : lw_okq (⟨"FlagCoreModel", "signs", "(IZ)V"⟩, 8) := ⟨⟨by decide +kernel, by decide +kernel⟩, List.mem_of_getElem? (i := 423) (by decide +kernel), List.mem_of_getElem? (i := 597) (by decide +kernel), List.mem_of_getElem? (i := 598) (by decide +kernel)⟩
theorem lw_p51 : lw_okq (⟨"FlagCoreModel", "add", "(III)I"⟩, 8) := ⟨⟨by decide +kernel, by decide +kernel⟩, List.mem_of_getElem? (i := 423) (by decide +kernel), List.mem_of_getElem? (i := 601) (by decide +kernel), List.mem_of_getElem? (i := 602) (by decide +kernel)⟩
theorem lw_p52 : lw_okq (⟨"FlagCoreModel", "skips", "(Z)V"⟩, 8) := ⟨⟨by decide +kernel, by decide +kernel⟩, List.mem_of_getElem? (i := 423) (by decide +kernel), List.mem_of_getElem? (i := 605) (by decide +kernel), List.mem_of_getElem? (i := 606) (by decide +kernel)⟩
theorem lw_p53 : lw_okq (⟨"FlagCoreModel", "logic", "(I)I"⟩, 8) := ⟨⟨by decide +kernel, by decide +kernel⟩, List.mem_of_getElem? (i := 423) (by decide +kernel), List.mem_of_getElem? (i := 609) (by decide +kernel), List.mem_of_getElem? (i := 610) (by decide +kernel)⟩
theorem lw_p54 : lw_okq (⟨"FlagCoreModel", "products", "(I)V"⟩, 8) := ⟨⟨by decide +kernel, by decide +kernel⟩, List.mem_of_getElem? (i := 423) (by decide +kernel), List.mem_of_getElem? (i := 613) (by decide +kernel), List.mem_of_getElem? (i := 614) (by decide +kernel)⟩
theorem lw_p55 : lw_okq (⟨"FlagCoreModel", "product", "(IZ)V"⟩, 8) := ⟨⟨by decide +kernel, by decide +kernel⟩, List.mem_of_getElem? (i := 423) (by decide +kernel), List.mem_of_getElem? (i := 620) (by decide +kernel), List.mem_of_getElem? (i := 621) (by decide +kernel)⟩
theorem lw_p56 : lw_okq (⟨"FlagCoreModel", "ofNine", "(I)I"⟩, 8) := ⟨⟨by decide +kernel, by decide +kernel⟩, List.mem_of_getElem? (i := 423) (by decide +kernel), List.mem_of_getElem? (i := 624) (by decide +kernel), List.mem_of_getElem? (i := 625) (by decide +kernel)⟩
theorem lw_p57 : lw_okq (⟨"FlagCoreModel", "ofMemory", "(I)I"⟩, 8) := ⟨⟨by decide +kernel, by decide +kernel⟩, List.mem_of_getElem? (i := 423) (by decide +kernel), List.mem_of_getElem? (i := 628) (by decide +kernel), List.mem_of_getElem? (i := 629) (by decide +kernel)⟩
theorem lw_p58 : lw_okq (⟨"FlagCoreModel", "ofStack", "(I)I"⟩, 8) := ⟨⟨by decide +kernel, by decide +kernel⟩, List.mem_of_getElem? (i := 423) (by decide +kernel), List.mem_of_getElem? (i := 632) (by decide +kernel), List.mem_of_getElem? (i := 633) (by decide +kernel)⟩
theorem lw_p59 : lw_okq (⟨"FlagCoreModel", "pops", "()I"⟩, 8) := ⟨⟨by decide +kernel, by decide +kernel⟩, List.mem_of_getElem? (i := 423) (by decide +kernel), List.mem_of_getElem? (i := 636) (by decide +kernel), List.mem_of_getElem? (i := 637) (by decide +kernel)⟩
theorem lw_p60 : lw_okq (⟨"FlagCoreModel", "codeByte", "(I)I"⟩, 8) := ⟨⟨by decide +kernel, by decide +kernel⟩, List.mem_of_getElem? (i := 423) (by decide +kernel), List.mem_of_getElem? (i := 640) (by decide +kernel), List.mem_of_getElem? (i := 641) (by decide +kernel)⟩
theorem lw_p61 : lw_okq (⟨"FlagCoreModel", "ofOthers", "(I)I"⟩, 8) := ⟨⟨by decide +kernel, by decide +kernel⟩, List.mem_of_getElem? (i := 423) (by decide +kernel), List.mem_of_getElem? (i := 644) (by decide +kernel), List.mem_of_getElem? (i := 645) (by decide +kernel)⟩
theorem lw_p62 : lw_okq (⟨"FlagCoreModel", "jumps", "(IIZ)I"⟩, 8) := ⟨⟨by decide +kernel, by decide +kernel⟩, List.mem_of_getElem? (i := 423) (by decide +kernel), List.mem_of_getElem? (i := 648) (by decide +kernel), List.mem_of_getElem? (i := 649) (by decide +kernel)⟩
theorem lw_p63 : lw_okq (⟨"FlagCoreModel", "returns", "(I)I"⟩, 8) := ⟨⟨by decide +kernel, by decide +kernel⟩, List.mem_of_getElem? (i := 423) (by decide +kernel), List.mem_of_getElem? (i := 652) (by decide +kernel), List.mem_of_getElem? (i := 653) (by decide +kernel)⟩
def lw_privs_4 : List (MethodName × Nat) := [(⟨"FlagCoreModel", "carry", "()I"⟩, 8), (⟨"FlagCoreModel", "subtract", "(IIIZ)I"⟩, 8), (⟨"FlagCoreModel", "signs", "(IZ)V"⟩, 8), (⟨"FlagCoreModel", "add", "(III)I"⟩, 8), (⟨"FlagCoreModel", "skips", "(Z)V"⟩, 8), (⟨"FlagCoreModel", "logic", "(I)I"⟩, 8), (⟨"FlagCoreModel", "products", "(I)V"⟩, 8), (⟨"FlagCoreModel", "product", "(IZ)V"⟩, 8), (⟨"FlagCoreModel", "ofNine", "(I)I"⟩, 8), (⟨"FlagCoreModel", "ofMemory", "(I)I"⟩, 8), (⟨"FlagCoreModel", "ofStack", "(I)I"⟩, 8), (⟨"FlagCoreModel", "pops", "()I"⟩, 8), (⟨"FlagCoreModel", "codeByte", "(I)I"⟩, 8), (⟨"FlagCoreModel", "ofOthers", "(I)I"⟩, 8), (⟨"FlagCoreModel", "jumps", "(IIZ)I"⟩, 8), (⟨"FlagCoreModel", "returns", "(I)I"⟩, 8)]
theorem lw_r4 : ∀ q ∈ lw_privs_4, lw_okq q := List.forall_mem_cons.mpr ⟨lw_p48, List.forall_mem_cons.mpr ⟨lw_p49, List.forall_mem_cons.mpr ⟨lw_p50, List.forall_mem_cons.mpr ⟨lw_p51, List.forall_mem_cons.mpr ⟨lw_p52, List.forall_mem_cons.mpr ⟨lw_p53, List.forall_mem_cons.mpr ⟨lw_p54, List.forall_mem_cons.mpr ⟨lw_p55, List.forall_mem_cons.mpr ⟨lw_p56, List.forall_mem_cons.mpr ⟨lw_p57, List.forall_mem_cons.mpr ⟨lw_p58, List.forall_mem_cons.mpr ⟨lw_p59, List.forall_mem_cons.mpr ⟨lw_p60, List.forall_mem_cons.mpr ⟨lw_p61, List.forall_mem_cons.mpr ⟨lw_p62, List.forall_mem_cons.mpr ⟨lw_p63, fun _ h => absurd h List.not_mem_nil⟩⟩⟩⟩⟩⟩⟩⟩⟩⟩⟩⟩⟩⟩⟩⟩
theorem lw_p64 : lw_okq (⟨"FlagCoreModel", "ofOne", "(I)V"⟩, 8) := ⟨⟨by decide +kernel, by decide +kernel⟩, List.mem_of_getElem? (i := 423) (by decide +kernel), List.mem_of_getElem? (i := 656) (by decide +kernel), List.mem_of_getElem? (i := 657) (by decide +kernel)⟩
theorem lw_p65 : lw_okq (⟨"FlagCoreModel", "right", "(II)I"⟩, 8) := ⟨⟨by decide +kernel, by decide +kernel⟩, List.mem_of_getElem? (i := 423) (by decide +kernel), List.mem_of_getElem? (i := 660) (by decide +kernel), List.mem_of_getElem? (i := 661) (by decide +kernel)⟩
theorem lw_p66 : lw_okq (⟨"FlagCoreModel", "ofPai\x72", "(I)V"⟩, 8) := ⟨⟨by decide +kernel, by decide +kernel⟩, List.mem_of_getElem? (i := 423) (by decide +kernel), List.mem_of_getElem? (i := 665) (by decide +kernel), List.mem_of_getElem? (i := 666) (by decide +kernel)⟩
theorem lw_p67 : lw_okq (⟨"FlagCoreModel", "ofPortBit", "(I)V"⟩, 8) := ⟨⟨by decide +kernel, by decide +kernel⟩, List.mem_of_getElem? (i := 423) (by decide +kernel), List.mem_of_getElem? (i := 670) (by decide +kernel), List.mem_of_getElem? (i := 671) (by decide +kernel)⟩
theorem lw_p68 : lw_okq (⟨"FlagCoreModel", "ofPort", "(I)V"⟩, 8) := ⟨⟨by decide +kernel, by decide +kernel⟩, List.mem_of_getElem? (i := 423) (by decide +kernel), List.mem_of_getElem? (i := 674) (by decide +kernel), List.mem_of_getElem? (i := 675) (by decide +kernel)⟩
theorem lw_p69 : lw_okq (⟨"FlagCoreModel", "ofFifteen", "(I)I"⟩, 8) := ⟨⟨by decide +kernel, by decide +kernel⟩, List.mem_of_getElem? (i := 423) (by decide +kernel), List.mem_of_getElem? (i := 678) (by decide +kernel), List.mem_of_getElem? (i := 679) (by decide +kernel)⟩
theorem lw_p70 : lw_okq (⟨"FlagCoreModel", "ofBit", "(I)V"⟩, 8) := ⟨⟨by decide +kernel, by decide +kernel⟩, List.mem_of_getElem? (i := 423) (by decide +kernel), List.mem_of_getElem? (i := 683) (by decide +kernel), List.mem_of_getElem? (i := 684) (by decide +kernel)⟩
theorem lw_p71 : lw_okq (⟨"FlagCoreModel", "ofNumbe\x72", "(I)V"⟩, 8) := ⟨⟨by decide +kernel, by decide +kernel⟩, List.mem_of_getElem? (i := 423) (by decide +kernel), List.mem_of_getElem? (i := 687) (by decide +kernel), List.mem_of_getElem? (i := 688) (by decide +kernel)⟩
def lw_privs_5 : List (MethodName × Nat) := [(⟨"FlagCoreModel", "ofOne", "(I)V"⟩, 8), (⟨"FlagCoreModel", "right", "(II)I"⟩, 8), (⟨"FlagCoreModel", "ofPai\x72", "(I)V"⟩, 8), (⟨"FlagCoreModel", "ofPortBit", "(I)V"⟩, 8), (⟨"FlagCoreModel", "ofPort", "(I)V"⟩, 8), (⟨"FlagCoreModel", "ofFifteen", "(I)I"⟩, 8), (⟨"FlagCoreModel", "ofBit", "(I)V"⟩, 8), (⟨"FlagCoreModel", "ofNumbe\x72", "(I)V"⟩, 8)]
theorem lw_r5 : ∀ q ∈ lw_privs_5, lw_okq q := List.forall_mem_cons.mpr ⟨lw_p64, List.forall_mem_cons.mpr ⟨lw_p65, List.forall_mem_cons.mpr ⟨lw_p66, List.forall_mem_cons.mpr ⟨lw_p67, List.forall_mem_cons.mpr ⟨lw_p68, List.forall_mem_cons.mpr ⟨lw_p69, List.forall_mem_cons.mpr ⟨lw_p70, List.forall_mem_cons.mpr ⟨lw_p71, fun _ h => absurd h List.not_mem_nil⟩⟩⟩⟩⟩⟩⟩⟩
def lw_privs : List (MethodName × Nat) := lw_privs_1 ++ (lw_privs_2 ++ (lw_privs_3 ++ (lw_privs_4 ++ (lw_privs_5))))
def lw_tbl : List Cond := k2_sels lw_privs ++ tables_1
theorem lw_privs_ok : ∀ q ∈ lw_privs, lw_okq q := by
  show ∀ q ∈ lw_privs_1 ++ (lw_privs_2 ++ (lw_privs_3 ++ (lw_privs_4 ++ (lw_privs_5)))), lw_okq q
  exact List.forall_mem_append.mpr ⟨lw_r1, List.forall_mem_append.mpr ⟨lw_r2, List.forall_mem_append.mpr ⟨lw_r3, List.forall_mem_append.mpr ⟨lw_r4, lw_r5⟩⟩⟩⟩
end
section
/-! ===== BEGIN words of one list among another's, by their places ===== -/
theorem goodIn_r {big : List Cond} (ws : List Cond) (ps : List Nat) (hp : ws = ps.filterMap (fun i => big[i]?)) (h : ws.all goodWord = true) : GoodIn big ws := by
  intro w hw
  have h1 := List.all_eq_true.mp h w hw
  rw [hp] at hw
  obtain ⟨i, -, hi⟩ := List.mem_filterMap.mp hw
  have hm : w ∈ big := by first | exact List.mem_of_getElem? hi | exact List.getElem?_mem hi
  exact ⟨hm, good_of_word h1⟩
theorem goodIn_app {big a b : List Cond} (ha : GoodIn big a) (hb : GoodIn big b) : GoodIn big (a ++ b) := fun w h => (List.mem_append.mp h).elim (ha w) (hb w)
theorem goodIn_ca {big a b : List Cond} {c : Cond} (ha : GoodIn big (c :: a)) (hb : GoodIn big b) : GoodIn big (c :: (a ++ b)) := fun w h => (List.mem_cons.mp h).elim (fun e => ha w (List.mem_cons.mpr (Or.inl e))) (fun h => (List.mem_append.mp h).elim (fun h => ha w (List.mem_cons.mpr (Or.inr h))) (hb w))
theorem goodIn_sub {big ws : List Cond} (hm : ∀ w ∈ ws, w ∈ big) (h : ws.all goodWord = true) : GoodIn big ws := fun w hw => ⟨hm w hw, good_of_word (List.all_eq_true.mp h w hw)⟩
/-! ===== END ===== -/

/-! ===== BEGIN printed: names, fields, word lists, decode rows ===== -/
def RX0 : String := "FlagCore$Bytes"
def TX0 : u_T := fun k => match k with
  | _ => ("FlagCore$Bytes", "row", "[I", true)
def tyX0 : Nat → FieldType := fun k => match k with
  | _ => .array .int
abbrev wsX00 : List Cond := u_ws RX0 TX0 1
theorem nmX0 : ∀ a, a < 1 → ∀ b, b < 1 → a ≠ b → (TX0 a).2.1 ≠ (TX0 b).2.1 := by decide +kernel
theorem tyX0_ok : ∀ k, k < 1 → parseFieldDescriptor (TX0 k).2.2.1 = some (tyX0 k) := by decide +kernel
abbrev cX0_init : ByteArray := prog_2_method_1_code
def yX0_init : MethodName := ⟨RX0, "<init>", "()V"⟩
abbrev cX0_get : ByteArray := prog_2_method_2_code
def yX0_get : MethodName := ⟨RX0, "get", "(I)I"⟩
abbrev cX0_set : ByteArray := prog_2_method_3_code
def yX0_set : MethodName := ⟨RX0, "set", "(II)V"⟩
abbrev cX0_signed : ByteArray := prog_2_method_4_code
def yX0_signed : MethodName := ⟨RX0, "signed", "(I)I"⟩
abbrev cX0_pair : ByteArray := prog_2_method_5_code
def yX0_pair : MethodName := ⟨RX0, "pai\x72", "(I)I"⟩
abbrev cX0_setPair : ByteArray := prog_2_method_6_code
def yX0_setPair : MethodName := ⟨RX0, "setPai\x72", "(II)V"⟩
abbrev cX0_bit : ByteArray := prog_2_method_7_code
def yX0_bit : MethodName := ⟨RX0, "bit", "(II)I"⟩
abbrev cX0_setBit : ByteArray := prog_2_method_8_code
def yX0_setBit : MethodName := ⟨RX0, "setBit", "(III)V"⟩
abbrev cX0_flag : ByteArray := prog_2_method_9_code
def yX0_flag : MethodName := ⟨RX0, "flag", "(I)I"⟩
abbrev cX0_setFlag : ByteArray := prog_2_method_10_code
def yX0_setFlag : MethodName := ⟨RX0, "setFlag", "(II)V"⟩
abbrev cX0_setFlags : ByteArray := prog_2_method_11_code
def yX0_setFlags : MethodName := ⟨RX0, "setFlags", "(II)V"⟩
abbrev cX0_push : ByteArray := prog_2_method_12_code
def yX0_push : MethodName := ⟨RX0, "push", "(I)V"⟩
abbrev cX0_stacks : ByteArray := prog_2_method_13_code
def yX0_stacks : MethodName := ⟨RX0, "stacks", "(I)Z"⟩
abbrev cX0_pull : ByteArray := prog_2_method_14_code
def yX0_pull : MethodName := ⟨RX0, "pull", "()I"⟩
def RX1 : String := "FlagCore$Flags"
def TX1 : u_T := fun k => match k with
  | _ => ("", "", "", false)
def tyX1 : Nat → FieldType := fun k => match k with
  | _ => .int
abbrev wsX10 : List Cond := u_ws RX1 TX1 0
theorem nmX1 : ∀ a, a < 0 → ∀ b, b < 0 → a ≠ b → (TX1 a).2.1 ≠ (TX1 b).2.1 := by decide +kernel
theorem tyX1_ok : ∀ k, k < 0 → parseFieldDescriptor (TX1 k).2.2.1 = some (tyX1 k) := by decide +kernel
def RX2 : String := "FlagCore$Sums"
def TX2 : u_T := fun k => match k with
  | _ => ("FlagCore$Sums", "bytes", "LFlagCore$Bytes;", true)
def tyX2 : Nat → FieldType := fun k => match k with
  | _ => .object "FlagCore$Bytes"
abbrev wsX20 : List Cond := u_ws RX2 TX2 1
theorem nmX2 : ∀ a, a < 1 → ∀ b, b < 1 → a ≠ b → (TX2 a).2.1 ≠ (TX2 b).2.1 := by decide +kernel
theorem tyX2_ok : ∀ k, k < 1 → parseFieldDescriptor (TX2 k).2.2.1 = some (tyX2 k) := by decide +kernel
abbrev cX2_init : ByteArray := prog_4_method_1_code
def yX2_init : MethodName := ⟨RX2, "<init>", "(LFlagCore$Bytes;)V"⟩
abbrev cX2_sum : ByteArray := prog_4_method_2_code
def yX2_sum : MethodName := ⟨RX2, "sum", "(III)I"⟩
abbrev cX2_difference : ByteArray := prog_4_method_3_code
def yX2_difference : MethodName := ⟨RX2, "difference", "(II)I"⟩
abbrev cX2_differenceOn : ByteArray := prog_4_method_4_code
def yX2_differenceOn : MethodName := ⟨RX2, "differenceOn", "(III)I"⟩
abbrev cX2_subtract : ByteArray := prog_4_method_5_code
def yX2_subtract : MethodName := ⟨RX2, "subtract", "(IIII)I"⟩
abbrev cX2_logic : ByteArray := prog_4_method_6_code
def yX2_logic : MethodName := ⟨RX2, "logic", "(I)I"⟩
abbrev cX2_inverse : ByteArray := prog_4_method_7_code
def yX2_inverse : MethodName := ⟨RX2, "inverse", "(I)I"⟩
abbrev cX2_more : ByteArray := prog_4_method_8_code
def yX2_more : MethodName := ⟨RX2, "more", "(I)I"⟩
abbrev cX2_less : ByteArray := prog_4_method_9_code
def yX2_less : MethodName := ⟨RX2, "less", "(I)I"⟩
abbrev cX2_right : ByteArray := prog_4_method_10_code
def yX2_right : MethodName := ⟨RX2, "right", "(II)I"⟩
abbrev cX2_pairMore : ByteArray := prog_4_method_11_code
def yX2_pairMore : MethodName := ⟨RX2, "pairMore", "(II)I"⟩
abbrev cX2_pairLess : ByteArray := prog_4_method_12_code
def yX2_pairLess : MethodName := ⟨RX2, "pairLess", "(II)I"⟩
abbrev cX2_pairFlags : ByteArray := prog_4_method_13_code
def yX2_pairFlags : MethodName := ⟨RX2, "pairFlags", "(III)V"⟩
abbrev cX2_product : ByteArray := prog_4_method_14_code
def yX2_product : MethodName := ⟨RX2, "product", "(I)V"⟩
abbrev cX2_fraction : ByteArray := prog_4_method_15_code
def yX2_fraction : MethodName := ⟨RX2, "fraction", "(I)V"⟩
abbrev cX2_keepProduct : ByteArray := prog_4_method_16_code
def yX2_keepProduct : MethodName := ⟨RX2, "keepProduct", "(II)V"⟩
abbrev cX2_signs : ByteArray := prog_4_method_17_code
def yX2_signs : MethodName := ⟨RX2, "signs", "(IZ)I"⟩
def RX3 : String := "FlagCore$Words"
def TX3 : u_T := fun k => match k with
  | _ => ("", "", "", false)
def tyX3 : Nat → FieldType := fun k => match k with
  | _ => .int
abbrev wsX30 : List Cond := u_ws RX3 TX3 0
theorem nmX3 : ∀ a, a < 0 → ∀ b, b < 0 → a ≠ b → (TX3 a).2.1 ≠ (TX3 b).2.1 := by decide +kernel
theorem tyX3_ok : ∀ k, k < 0 → parseFieldDescriptor (TX3 k).2.2.1 = some (tyX3 k) := by decide +kernel
abbrev cX3_d : ByteArray := prog_5_method_2_code
def yX3_d : MethodName := ⟨RX3, "d", "(I)I"⟩
abbrev cX3_r : ByteArray := prog_5_method_3_code
def yX3_r : MethodName := ⟨RX3, "\x72", "(I)I"⟩
abbrev cX3_pointer : ByteArray := prog_5_method_4_code
def yX3_pointer : MethodName := ⟨RX3, "pointe\x72", "(I)I"⟩
abbrev cX3_hasNext : ByteArray := prog_5_method_5_code
def yX3_hasNext : MethodName := ⟨RX3, "hasNext", "(I)Z"⟩
abbrev cX3_groupOf : ByteArray := prog_5_method_6_code
def yX3_groupOf : MethodName := ⟨RX3, "groupOf", "(I)I"⟩
abbrev cX3_lowGroupOf : ByteArray := prog_5_method_7_code
def yX3_lowGroupOf : MethodName := ⟨RX3, "lowGroupOf", "(I)I"⟩
abbrev cX3_mixedGroupOf : ByteArray := prog_5_method_8_code
def yX3_mixedGroupOf : MethodName := ⟨RX3, "mixedGroupOf", "(I)I"⟩
abbrev cX3_memoryGroupOf : ByteArray := prog_5_method_9_code
def yX3_memoryGroupOf : MethodName := ⟨RX3, "memoryGroupOf", "(I)I"⟩
abbrev cX3_isOneOf : ByteArray := prog_5_method_10_code
def yX3_isOneOf : MethodName := ⟨RX3, "isOneOf", "(II)Z"⟩
abbrev cX3_singleGroupOf : ByteArray := prog_5_method_11_code
def yX3_singleGroupOf : MethodName := ⟨RX3, "singleGroupOf", "(I)I"⟩
abbrev cX3_flagGroupOf : ByteArray := prog_5_method_12_code
def yX3_flagGroupOf : MethodName := ⟨RX3, "flagGroupOf", "(I)I"⟩
abbrev cX3_highGroupOf : ByteArray := prog_5_method_13_code
def yX3_highGroupOf : MethodName := ⟨RX3, "highGroupOf", "(I)I"⟩
def RX4 : String := "FlagCore"
def TX4 : u_T := fun k => match k with
  | 0 => ("FlagCore", "cells", "[I", true)
  | 1 => ("FlagCore", "bytes", "LFlagCore$Bytes;", true)
  | 2 => ("FlagCore", "sums", "LFlagCore$Sums;", true)
  | 3 => ("FlagCore", "tallies", "[I", true)
  | 4 => ("FlagCore", "pc", "I", false)
  | 5 => ("FlagCore", "asked", "I", false)
  | 6 => ("FlagCore", "latest", "I", false)
  | _ => ("FlagCore", "waiting", "Z", false)
def tyX4 : Nat → FieldType := fun k => match k with
  | 0 => .array .int
  | 1 => .object "FlagCore$Bytes"
  | 2 => .object "FlagCore$Sums"
  | 3 => .array .int
  | 4 => .int
  | 5 => .int
  | 6 => .int
  | _ => .boolean
abbrev wsX40 : List Cond := u_ws RX4 TX4 8
theorem nmX4 : ∀ a, a < 8 → ∀ b, b < 8 → a ≠ b → (TX4 a).2.1 ≠ (TX4 b).2.1 := by decide +kernel
theorem tyX4_ok : ∀ k, k < 8 → parseFieldDescriptor (TX4 k).2.2.1 = some (tyX4 k) := by decide +kernel
abbrev cX4_init : ByteArray := prog_1_method_1_code
def yX4_init : MethodName := ⟨RX4, "<init>", "()V"⟩
abbrev cX4_code : ByteArray := prog_1_method_2_code
def yX4_code : MethodName := ⟨RX4, "code", "(II)I"⟩
abbrev cX4_load : ByteArray := prog_1_method_3_code
def yX4_load : MethodName := ⟨RX4, "load", "(IJ)I"⟩
abbrev cX4_word : ByteArray := prog_1_method_4_code
def yX4_word : MethodName := ⟨RX4, "word", "(I)I"⟩
abbrev cX4_put : ByteArray := prog_1_method_5_code
def yX4_put : MethodName := ⟨RX4, "put", "(II)I"⟩
abbrev cX4_data : ByteArray := prog_1_method_6_code
def yX4_data : MethodName := ⟨RX4, "data", "(I)I"⟩
abbrev cX4_told : ByteArray := prog_1_method_7_code
def yX4_told : MethodName := ⟨RX4, "told", "(I)I"⟩
abbrev cX4_go : ByteArray := prog_1_method_8_code
def yX4_go : MethodName := ⟨RX4, "go", "(I)I"⟩
abbrev cX4_ask : ByteArray := prog_1_method_9_code
def yX4_ask : MethodName := ⟨RX4, "ask", "(I)I"⟩
abbrev cX4_step : ByteArray := prog_1_method_10_code
def yX4_step : MethodName := ⟨RX4, "step", "()I"⟩
abbrev cX4_run : ByteArray := prog_1_method_11_code
def yX4_run : MethodName := ⟨RX4, "run", "(I)I"⟩
abbrev cX4_ended : ByteArray := prog_1_method_12_code
def yX4_ended : MethodName := ⟨RX4, "ended", "()I"⟩
abbrev cX4_reads : ByteArray := prog_1_method_13_code
def yX4_reads : MethodName := ⟨RX4, "reads", "(II)I"⟩
abbrev cX4_digest : ByteArray := prog_1_method_14_code
def yX4_digest : MethodName := ⟨RX4, "digest", "()I"⟩
abbrev cX4_count : ByteArray := prog_1_method_15_code
def yX4_count : MethodName := ⟨RX4, "count", "(I)I"⟩
abbrev cX4_within : ByteArray := prog_1_method_16_code
def yX4_within : MethodName := ⟨RX4, "within", "(II)Z"⟩
abbrev cX4_cellAt : ByteArray := prog_1_method_17_code
def yX4_cellAt : MethodName := ⟨RX4, "cellAt", "(I)I"⟩
abbrev cX4_advance : ByteArray := prog_1_method_18_code
def yX4_advance : MethodName := ⟨RX4, "advance", "()I"⟩
abbrev cX4_enterLeast : ByteArray := prog_1_method_19_code
def yX4_enterLeast : MethodName := ⟨RX4, "enterLeast", "()I"⟩
abbrev cX4_perform : ByteArray := prog_1_method_20_code
def yX4_perform : MethodName := ⟨RX4, "perform", "(I)I"⟩
abbrev cX4_onward : ByteArray := prog_1_method_21_code
def yX4_onward : MethodName := ⟨RX4, "onward", "(I)I"⟩
abbrev cX4_jumpTo : ByteArray := prog_1_method_22_code
def yX4_jumpTo : MethodName := ⟨RX4, "jumpTo", "(I)I"⟩
abbrev cX4_callTo : ByteArray := prog_1_method_23_code
def yX4_callTo : MethodName := ⟨RX4, "callTo", "(II)I"⟩
abbrev cX4_skip : ByteArray := prog_1_method_24_code
def yX4_skip : MethodName := ⟨RX4, "skip", "(Z)I"⟩
abbrev cX4_movePair : ByteArray := prog_1_method_25_code
def yX4_movePair : MethodName := ⟨RX4, "movePai\x72", "(I)I"⟩
abbrev cX4_multiply : ByteArray := prog_1_method_26_code
def yX4_multiply : MethodName := ⟨RX4, "multiply", "(I)I"⟩
abbrev cX4_multiplyFew : ByteArray := prog_1_method_27_code
def yX4_multiplyFew : MethodName := ⟨RX4, "multiplyFew", "(III)V"⟩
abbrev cX4_combine : ByteArray := prog_1_method_28_code
def yX4_combine : MethodName := ⟨RX4, "combine", "(I)I"⟩
abbrev cX4_combineWithNumber : ByteArray := prog_1_method_29_code
def yX4_combineWithNumber : MethodName := ⟨RX4, "combineWithNumbe\x72", "(I)I"⟩
abbrev cX4_change : ByteArray := prog_1_method_30_code
def yX4_change : MethodName := ⟨RX4, "change", "(I)I"⟩
abbrev cX4_setFlag : ByteArray := prog_1_method_31_code
def yX4_setFlag : MethodName := ⟨RX4, "setFlag", "(I)I"⟩
abbrev cX4_changePair : ByteArray := prog_1_method_32_code
def yX4_changePair : MethodName := ⟨RX4, "changePai\x72", "(I)I"⟩
abbrev cX4_transfer : ByteArray := prog_1_method_33_code
def yX4_transfer : MethodName := ⟨RX4, "transfe\x72", "(II)V"⟩
abbrev cX4_moveAtNext : ByteArray := prog_1_method_34_code
def yX4_moveAtNext : MethodName := ⟨RX4, "moveAtNext", "(I)I"⟩
abbrev cX4_movePointed : ByteArray := prog_1_method_35_code
def yX4_movePointed : MethodName := ⟨RX4, "movePointed", "(I)I"⟩
abbrev cX4_moveStacked : ByteArray := prog_1_method_36_code
def yX4_moveStacked : MethodName := ⟨RX4, "moveStacked", "(I)I"⟩
abbrev cX4_moveBeside : ByteArray := prog_1_method_37_code
def yX4_moveBeside : MethodName := ⟨RX4, "moveBeside", "(I)I"⟩
abbrev cX4_moveFromCode : ByteArray := prog_1_method_38_code
def yX4_moveFromCode : MethodName := ⟨RX4, "moveFromCode", "(I)I"⟩
abbrev cX4_movePort : ByteArray := prog_1_method_39_code
def yX4_movePort : MethodName := ⟨RX4, "movePort", "(I)I"⟩
abbrev cX4_setPortBit : ByteArray := prog_1_method_40_code
def yX4_setPortBit : MethodName := ⟨RX4, "setPortBit", "(I)I"⟩
abbrev cX4_skipByPort : ByteArray := prog_1_method_41_code
def yX4_skipByPort : MethodName := ⟨RX4, "skipByPort", "(I)I"⟩
abbrev cX4_skipByBit : ByteArray := prog_1_method_42_code
def yX4_skipByBit : MethodName := ⟨RX4, "skipByBit", "(I)I"⟩
abbrev cX4_moveBit : ByteArray := prog_1_method_43_code
def yX4_moveBit : MethodName := ⟨RX4, "moveBit", "(I)I"⟩
abbrev cX4_jumpNear : ByteArray := prog_1_method_44_code
def yX4_jumpNear : MethodName := ⟨RX4, "jumpNea\x72", "(I)I"⟩
abbrev cX4_branch : ByteArray := prog_1_method_45_code
def yX4_branch : MethodName := ⟨RX4, "branch", "(I)I"⟩
abbrev cX4_jumpFar : ByteArray := prog_1_method_46_code
def yX4_jumpFar : MethodName := ⟨RX4, "jumpFa\x72", "(I)I"⟩
abbrev cX4_jumpToZ : ByteArray := prog_1_method_47_code
def yX4_jumpToZ : MethodName := ⟨RX4, "jumpToZ", "(I)I"⟩
abbrev cX4_comeBack : ByteArray := prog_1_method_48_code
def yX4_comeBack : MethodName := ⟨RX4, "comeBack", "(I)I"⟩
def RX5 : String := "FlagCoreModel"
def TX5 : u_T := fun k => match k with
  | 0 => ("FlagCoreModel", "code", "[I", true)
  | 1 => ("FlagCoreModel", "data", "[I", true)
  | 2 => ("FlagCoreModel", "pc", "I", false)
  | 3 => ("FlagCoreModel", "isWaited", "Z", false)
  | 4 => ("FlagCoreModel", "asked", "I", false)
  | 5 => ("FlagCoreModel", "ended", "I", false)
  | 6 => ("FlagCoreModel", "count", "[I", true)
  | _ => ("FlagCoreModel", "next", "I", false)
def tyX5 : Nat → FieldType := fun k => match k with
  | 0 => .array .int
  | 1 => .array .int
  | 2 => .int
  | 3 => .boolean
  | 4 => .int
  | 5 => .int
  | 6 => .array .int
  | _ => .int
abbrev wsX50 : List Cond := u_ws RX5 TX5 8
theorem nmX5 : ∀ a, a < 8 → ∀ b, b < 8 → a ≠ b → (TX5 a).2.1 ≠ (TX5 b).2.1 := by decide +kernel
theorem tyX5_ok : ∀ k, k < 8 → parseFieldDescriptor (TX5 k).2.2.1 = some (tyX5 k) := by decide +kernel
abbrev cX5_init : ByteArray := prog_7_method_1_code
def yX5_init : MethodName := ⟨RX5, "<init>", "()V"⟩
abbrev cX5_in : ByteArray := prog_7_method_3_code
def yX5_in : MethodName := ⟨RX5, "in", "(III)Z"⟩
abbrev cX5_code : ByteArray := prog_7_method_4_code
def yX5_code : MethodName := ⟨RX5, "code", "(II)I"⟩
abbrev cX5_load : ByteArray := prog_7_method_5_code
def yX5_load : MethodName := ⟨RX5, "load", "(IJ)I"⟩
abbrev cX5_word : ByteArray := prog_7_method_6_code
def yX5_word : MethodName := ⟨RX5, "word", "(I)I"⟩
abbrev cX5_put : ByteArray := prog_7_method_7_code
def yX5_put : MethodName := ⟨RX5, "put", "(II)I"⟩
abbrev cX5_data : ByteArray := prog_7_method_8_code
def yX5_data : MethodName := ⟨RX5, "data", "(I)I"⟩
abbrev cX5_pair : ByteArray := prog_7_method_9_code
def yX5_pair : MethodName := ⟨RX5, "pai\x72", "(I)I"⟩
abbrev cX5_setPair : ByteArray := prog_7_method_10_code
def yX5_setPair : MethodName := ⟨RX5, "setPai\x72", "(II)V"⟩
abbrev cX5_told : ByteArray := prog_7_method_11_code
def yX5_told : MethodName := ⟨RX5, "told", "(I)I"⟩
abbrev cX5_go : ByteArray := prog_7_method_12_code
def yX5_go : MethodName := ⟨RX5, "go", "(I)I"⟩
abbrev cX5_ask : ByteArray := prog_7_method_13_code
def yX5_ask : MethodName := ⟨RX5, "ask", "(I)I"⟩
abbrev cX5_isMemory : ByteArray := prog_7_method_14_code
def yX5_isMemory : MethodName := ⟨RX5, "isMemory", "(I)Z"⟩
abbrev cX5_isOne : ByteArray := prog_7_method_15_code
def yX5_isOne : MethodName := ⟨RX5, "isOne", "(I)Z"⟩
abbrev cX5_hasNext : ByteArray := prog_7_method_16_code
def yX5_hasNext : MethodName := ⟨RX5, "hasNext", "(I)Z"⟩
abbrev cX5_dOf : ByteArray := prog_7_method_17_code
def yX5_dOf : MethodName := ⟨RX5, "dOf", "(I)I"⟩
abbrev cX5_changes : ByteArray := prog_7_method_18_code
def yX5_changes : MethodName := ⟨RX5, "changes", "(I)I"⟩
abbrev cX5_isBadMemory : ByteArray := prog_7_method_19_code
def yX5_isBadMemory : MethodName := ⟨RX5, "isBadMemory", "(I)Z"⟩
abbrev cX5_isBadOne : ByteArray := prog_7_method_20_code
def yX5_isBadOne : MethodName := ⟨RX5, "isBadOne", "(I)Z"⟩
abbrev cX5_isIllegal : ByteArray := prog_7_method_21_code
def yX5_isIllegal : MethodName := ⟨RX5, "isIllegal", "(I)Z"⟩
abbrev cX5_reads : ByteArray := prog_7_method_22_code
def yX5_reads : MethodName := ⟨RX5, "reads", "(II)I"⟩
abbrev cX5_has : ByteArray := prog_7_method_23_code
def yX5_has : MethodName := ⟨RX5, "has", "(I)Z"⟩
abbrev cX5_flag : ByteArray := prog_7_method_24_code
def yX5_flag : MethodName := ⟨RX5, "flag", "(IZ)V"⟩
abbrev cX5_signs : ByteArray := prog_7_method_25_code
def yX5_signs : MethodName := ⟨RX5, "signs", "(IZ)V"⟩
abbrev cX5_add : ByteArray := prog_7_method_26_code
def yX5_add : MethodName := ⟨RX5, "add", "(III)I"⟩
abbrev cX5_subtract : ByteArray := prog_7_method_27_code
def yX5_subtract : MethodName := ⟨RX5, "subtract", "(IIIZ)I"⟩
abbrev cX5_logic : ByteArray := prog_7_method_28_code
def yX5_logic : MethodName := ⟨RX5, "logic", "(I)I"⟩
abbrev cX5_carry : ByteArray := prog_7_method_29_code
def yX5_carry : MethodName := ⟨RX5, "carry", "()I"⟩
abbrev cX5_skips : ByteArray := prog_7_method_30_code
def yX5_skips : MethodName := ⟨RX5, "skips", "(Z)V"⟩
abbrev cX5_ofTwo : ByteArray := prog_7_method_31_code
def yX5_ofTwo : MethodName := ⟨RX5, "ofTwo", "(I)V"⟩
abbrev cX5_ofNumber : ByteArray := prog_7_method_32_code
def yX5_ofNumber : MethodName := ⟨RX5, "ofNumbe\x72", "(I)V"⟩
abbrev cX5_signed : ByteArray := prog_7_method_33_code
def yX5_signed : MethodName := ⟨RX5, "signed", "(I)I"⟩
abbrev cX5_product : ByteArray := prog_7_method_34_code
def yX5_product : MethodName := ⟨RX5, "product", "(IZ)V"⟩
abbrev cX5_products : ByteArray := prog_7_method_35_code
def yX5_products : MethodName := ⟨RX5, "products", "(I)V"⟩
abbrev cX5_right : ByteArray := prog_7_method_36_code
def yX5_right : MethodName := ⟨RX5, "right", "(II)I"⟩
abbrev cX5_ofOne : ByteArray := prog_7_method_37_code
def yX5_ofOne : MethodName := ⟨RX5, "ofOne", "(I)V"⟩
abbrev cX5_ofPair : ByteArray := prog_7_method_38_code
def yX5_ofPair : MethodName := ⟨RX5, "ofPai\x72", "(I)V"⟩
abbrev cX5_isFar : ByteArray := prog_7_method_39_code
def yX5_isFar : MethodName := ⟨RX5, "isFa\x72", "(I)Z"⟩
abbrev cX5_pushes : ByteArray := prog_7_method_40_code
def yX5_pushes : MethodName := ⟨RX5, "pushes", "(I)V"⟩
abbrev cX5_pops : ByteArray := prog_7_method_41_code
def yX5_pops : MethodName := ⟨RX5, "pops", "()I"⟩
abbrev cX5_canCall : ByteArray := prog_7_method_42_code
def yX5_canCall : MethodName := ⟨RX5, "canCall", "()Z"⟩
abbrev cX5_calls : ByteArray := prog_7_method_43_code
def yX5_calls : MethodName := ⟨RX5, "calls", "(II)V"⟩
abbrev cX5_codeByte : ByteArray := prog_7_method_44_code
def yX5_codeByte : MethodName := ⟨RX5, "codeByte", "(I)I"⟩
abbrev cX5_ofStack : ByteArray := prog_7_method_45_code
def yX5_ofStack : MethodName := ⟨RX5, "ofStack", "(I)I"⟩
abbrev cX5_moves : ByteArray := prog_7_method_46_code
def yX5_moves : MethodName := ⟨RX5, "moves", "(IIZ)I"⟩
abbrev cX5_ofMemory : ByteArray := prog_7_method_47_code
def yX5_ofMemory : MethodName := ⟨RX5, "ofMemory", "(I)I"⟩
abbrev cX5_ofPlaces : ByteArray := prog_7_method_48_code
def yX5_ofPlaces : MethodName := ⟨RX5, "ofPlaces", "(I)I"⟩
abbrev cX5_ofPort : ByteArray := prog_7_method_49_code
def yX5_ofPort : MethodName := ⟨RX5, "ofPort", "(I)V"⟩
abbrev cX5_ofPortBit : ByteArray := prog_7_method_50_code
def yX5_ofPortBit : MethodName := ⟨RX5, "ofPortBit", "(I)V"⟩
abbrev cX5_ofBit : ByteArray := prog_7_method_51_code
def yX5_ofBit : MethodName := ⟨RX5, "ofBit", "(I)V"⟩
abbrev cX5_jumps : ByteArray := prog_7_method_52_code
def yX5_jumps : MethodName := ⟨RX5, "jumps", "(IIZ)I"⟩
abbrev cX5_returns : ByteArray := prog_7_method_53_code
def yX5_returns : MethodName := ⟨RX5, "returns", "(I)I"⟩
abbrev cX5_ofOthers : ByteArray := prog_7_method_54_code
def yX5_ofOthers : MethodName := ⟨RX5, "ofOthers", "(I)I"⟩
abbrev cX5_ofNine : ByteArray := prog_7_method_55_code
def yX5_ofNine : MethodName := ⟨RX5, "ofNine", "(I)I"⟩
abbrev cX5_ofFifteen : ByteArray := prog_7_method_56_code
def yX5_ofFifteen : MethodName := ⟨RX5, "ofFifteen", "(I)I"⟩
abbrev cX5_does : ByteArray := prog_7_method_57_code
def yX5_does : MethodName := ⟨RX5, "does", "(I)I"⟩
abbrev cX5_enters : ByteArray := prog_7_method_58_code
def yX5_enters : MethodName := ⟨RX5, "enters", "()I"⟩
abbrev cX5_stepOnce : ByteArray := prog_7_method_59_code
def yX5_stepOnce : MethodName := ⟨RX5, "stepOnce", "()I"⟩
abbrev cX5_step : ByteArray := prog_7_method_60_code
def yX5_step : MethodName := ⟨RX5, "step", "()I"⟩
abbrev cX5_run : ByteArray := prog_7_method_61_code
def yX5_run : MethodName := ⟨RX5, "run", "(I)I"⟩
abbrev cX5_ended : ByteArray := prog_7_method_62_code
def yX5_ended : MethodName := ⟨RX5, "ended", "()I"⟩
abbrev cX5_digest : ByteArray := prog_7_method_63_code
def yX5_digest : MethodName := ⟨RX5, "digest", "()I"⟩
abbrev cX5_count : ByteArray := prog_7_method_64_code
def yX5_count : MethodName := ⟨RX5, "count", "(I)I"⟩
def RJ6 : String := "java/lang/Intege\x72"
def TJ6 : u_T := fun k => match k with
  | _ => ("", "", "", false)
def tyJ6 : Nat → FieldType := fun k => match k with
  | _ => .int
abbrev wsJ60 : List Cond := u_ws RJ6 TJ6 0
theorem nmJ6 : ∀ a, a < 0 → ∀ b, b < 0 → a ≠ b → (TJ6 a).2.1 ≠ (TJ6 b).2.1 := by decide +kernel
theorem tyJ6_ok : ∀ k, k < 0 → parseFieldDescriptor (TJ6 k).2.2.1 = some (tyJ6 k) := by decide +kernel
abbrev cJ6_numberOfTrailingZeros_0f7a4 : ByteArray := prog_8_method_48_code
def yJ6_numberOfTrailingZeros_0f7a4 : MethodName := ⟨RJ6, "numberOfTrailingZeros", "(I)I"⟩
def RL : String := "FlagCoreLaw"
abbrev cL_law : ByteArray := code
def yL_law : MethodName := ⟨RL, "law", "([I)Z"⟩
def wsX0_init : List Cond := .code yX0_init cX0_init 1 none :: ([.methodLink RX0 3 objectInit, .instanceMethod objectInit, .code objectInit ⟨#[0xb1]⟩ 1 none, .arrayClass .int, .fieldLink RX0 9 "FlagCore$Bytes" "row" "[I"] ++ wsX00)
def wsX0_get : List Cond := .code yX0_get cX0_get 2 (some .int) :: ([.fieldLink RX0 9 "FlagCore$Bytes" "row" "[I"] ++ wsX00)
def wsX0_set : List Cond := .code yX0_set cX0_set 3 none :: ([.fieldLink RX0 9 "FlagCore$Bytes" "row" "[I"] ++ wsX00)
def wsX0_signed : List Cond := .code yX0_signed cX0_signed 2 (some .int) :: ([.fieldLink RX0 9 "FlagCore$Bytes" "row" "[I"] ++ wsX00)
def wsX0_pair : List Cond := .code yX0_pair cX0_pair 2 (some .int) :: ([.fieldLink RX0 9 "FlagCore$Bytes" "row" "[I"] ++ wsX00)
def wsX0_setPair : List Cond := .code yX0_setPair cX0_setPair 3 none :: ([.fieldLink RX0 9 "FlagCore$Bytes" "row" "[I"] ++ wsX00)
def wsX0_bit : List Cond := .code yX0_bit cX0_bit 3 (some .int) :: ([.fieldLink RX0 9 "FlagCore$Bytes" "row" "[I"] ++ wsX00)
def wsX0_setBit : List Cond := .code yX0_setBit cX0_setBit 4 none :: ([.methodLink RX0 15 yX0_get, .instanceMethod yX0_get, .selects RX0 yX0_get yX0_get, .initialized RX0, .code yX0_get cX0_get 2 (some .int), .fieldLink RX0 9 "FlagCore$Bytes" "row" "[I", .methodLink RX0 19 yX0_set, .instanceMethod yX0_set, .selects RX0 yX0_set yX0_set, .code yX0_set cX0_set 3 none] ++ wsX00)
def wsX0_flag : List Cond := .code yX0_flag cX0_flag 2 (some .int) :: ([.fieldLink RX0 9 "FlagCore$Bytes" "row" "[I"] ++ wsX00)
def wsX0_setFlag : List Cond := .code yX0_setFlag cX0_setFlag 3 none :: ([.methodLink RX0 23 yX0_setBit, .instanceMethod yX0_setBit, .selects RX0 yX0_setBit yX0_setBit, .initialized RX0, .code yX0_setBit cX0_setBit 4 none, .methodLink RX0 15 yX0_get, .instanceMethod yX0_get, .selects RX0 yX0_get yX0_get, .code yX0_get cX0_get 2 (some .int), .fieldLink RX0 9 "FlagCore$Bytes" "row" "[I", .methodLink RX0 19 yX0_set, .instanceMethod yX0_set, .selects RX0 yX0_set yX0_set, .code yX0_set cX0_set 3 none] ++ wsX00)
def wsX0_setFlags : List Cond := .code yX0_setFlags cX0_setFlags 3 none :: ([.fieldLink RX0 9 "FlagCore$Bytes" "row" "[I"] ++ wsX00)
def wsX0_push : List Cond := .code yX0_push cX0_push 3 none :: ([.methodLink RX0 27 yX0_pair, .instanceMethod yX0_pair, .selects RX0 yX0_pair yX0_pair, .initialized RX0, .code yX0_pair cX0_pair 2 (some .int), .fieldLink RX0 9 "FlagCore$Bytes" "row" "[I", .methodLink RX0 19 yX0_set, .instanceMethod yX0_set, .selects RX0 yX0_set yX0_set, .code yX0_set cX0_set 3 none, .methodLink RX0 30 yX0_setPair, .instanceMethod yX0_setPair, .selects RX0 yX0_setPair yX0_setPair, .code yX0_setPair cX0_setPair 3 none] ++ wsX00)
def wsX0_stacks : List Cond := .code yX0_stacks cX0_stacks 3 (some .boolean) :: ([.methodLink RX0 27 yX0_pair, .instanceMethod yX0_pair, .selects RX0 yX0_pair yX0_pair, .initialized RX0, .code yX0_pair cX0_pair 2 (some .int), .fieldLink RX0 9 "FlagCore$Bytes" "row" "[I", .methodLink RX0 19 yX0_set, .instanceMethod yX0_set, .selects RX0 yX0_set yX0_set, .code yX0_set cX0_set 3 none, .methodLink RX0 30 yX0_setPair, .instanceMethod yX0_setPair, .selects RX0 yX0_setPair yX0_setPair, .code yX0_setPair cX0_setPair 3 none] ++ wsX00)
def wsX0_pull : List Cond := .code yX0_pull cX0_pull 2 (some .int) :: ([.methodLink RX0 27 yX0_pair, .instanceMethod yX0_pair, .selects RX0 yX0_pair yX0_pair, .initialized RX0, .code yX0_pair cX0_pair 2 (some .int), .fieldLink RX0 9 "FlagCore$Bytes" "row" "[I", .methodLink RX0 30 yX0_setPair, .instanceMethod yX0_setPair, .selects RX0 yX0_setPair yX0_setPair, .code yX0_setPair cX0_setPair 3 none, .methodLink RX0 15 yX0_get, .instanceMethod yX0_get, .selects RX0 yX0_get yX0_get, .code yX0_get cX0_get 2 (some .int)] ++ wsX00)
def wsX2_init : List Cond := .code yX2_init cX2_init 2 none :: ([.methodLink RX2 7 objectInit, .instanceMethod objectInit, .code objectInit ⟨#[0xb1]⟩ 1 none, .fieldLink RX2 13 "FlagCore$Sums" "bytes" "LFlagCore$Bytes;"] ++ wsX20)
def wsX2_signs : List Cond := .code yX2_signs cX2_signs 4 (some .int) :: ([])
def wsX2_sum : List Cond := .code yX2_sum cX2_sum 8 (some .int) :: ([.fieldLink RX2 13 "FlagCore$Sums" "bytes" "LFlagCore$Bytes;", .methodLink RX2 17 yX2_signs, .static yX2_signs, .initialized RX2, .code yX2_signs cX2_signs 4 (some .int), .methodLink RX2 21 yX0_setFlags, .instanceMethod yX0_setFlags, .selects RX0 yX0_setFlags yX0_setFlags, .initialized RX0, .code yX0_setFlags cX0_setFlags 3 none, .fieldLink RX0 9 "FlagCore$Bytes" "row" "[I"] ++ wsX20 ++ wsX00)
def wsX2_subtract : List Cond := .code yX2_subtract cX2_subtract 9 (some .int) :: ([.fieldLink RX2 13 "FlagCore$Sums" "bytes" "LFlagCore$Bytes;", .methodLink RX2 17 yX2_signs, .static yX2_signs, .initialized RX2, .code yX2_signs cX2_signs 4 (some .int), .methodLink RX2 21 yX0_setFlags, .instanceMethod yX0_setFlags, .selects RX0 yX0_setFlags yX0_setFlags, .initialized RX0, .code yX0_setFlags cX0_setFlags 3 none, .fieldLink RX0 9 "FlagCore$Bytes" "row" "[I"] ++ wsX20 ++ wsX00)
def wsX2_difference : List Cond := .code yX2_difference cX2_difference 3 (some .int) :: ([.methodLink RX2 27 yX2_subtract, .instanceMethod yX2_subtract, .selects RX2 yX2_subtract yX2_subtract, .initialized RX2, .code yX2_subtract cX2_subtract 9 (some .int), .fieldLink RX2 13 "FlagCore$Sums" "bytes" "LFlagCore$Bytes;", .methodLink RX2 17 yX2_signs, .static yX2_signs, .code yX2_signs cX2_signs 4 (some .int), .methodLink RX2 21 yX0_setFlags, .instanceMethod yX0_setFlags, .selects RX0 yX0_setFlags yX0_setFlags, .initialized RX0, .code yX0_setFlags cX0_setFlags 3 none, .fieldLink RX0 9 "FlagCore$Bytes" "row" "[I"] ++ wsX20 ++ wsX00)
def wsX2_differenceOn : List Cond := .code yX2_differenceOn cX2_differenceOn 5 (some .int) :: ([.fieldLink RX2 13 "FlagCore$Sums" "bytes" "LFlagCore$Bytes;", .methodLink RX2 31 yX0_flag, .instanceMethod yX0_flag, .selects RX0 yX0_flag yX0_flag, .initialized RX0, .code yX0_flag cX0_flag 2 (some .int), .fieldLink RX0 9 "FlagCore$Bytes" "row" "[I", .methodLink RX2 27 yX2_subtract, .instanceMethod yX2_subtract, .selects RX2 yX2_subtract yX2_subtract, .initialized RX2, .code yX2_subtract cX2_subtract 9 (some .int), .methodLink RX2 17 yX2_signs, .static yX2_signs, .code yX2_signs cX2_signs 4 (some .int), .methodLink RX2 21 yX0_setFlags, .instanceMethod yX0_setFlags, .selects RX0 yX0_setFlags yX0_setFlags, .code yX0_setFlags cX0_setFlags 3 none] ++ wsX20 ++ wsX00)
def wsX2_logic : List Cond := .code yX2_logic cX2_logic 2 (some .int) :: ([.fieldLink RX2 13 "FlagCore$Sums" "bytes" "LFlagCore$Bytes;", .methodLink RX2 17 yX2_signs, .static yX2_signs, .initialized RX2, .code yX2_signs cX2_signs 4 (some .int), .methodLink RX2 21 yX0_setFlags, .instanceMethod yX0_setFlags, .selects RX0 yX0_setFlags yX0_setFlags, .initialized RX0, .code yX0_setFlags cX0_setFlags 3 none, .fieldLink RX0 9 "FlagCore$Bytes" "row" "[I"] ++ wsX20 ++ wsX00)
def wsX2_inverse : List Cond := .code yX2_inverse cX2_inverse 3 (some .int) :: ([.fieldLink RX2 13 "FlagCore$Sums" "bytes" "LFlagCore$Bytes;", .methodLink RX2 17 yX2_signs, .static yX2_signs, .initialized RX2, .code yX2_signs cX2_signs 4 (some .int), .methodLink RX2 21 yX0_setFlags, .instanceMethod yX0_setFlags, .selects RX0 yX0_setFlags yX0_setFlags, .initialized RX0, .code yX0_setFlags cX0_setFlags 3 none, .fieldLink RX0 9 "FlagCore$Bytes" "row" "[I"] ++ wsX20 ++ wsX00)
def wsX2_more : List Cond := .code yX2_more cX2_more 3 (some .int) :: ([.fieldLink RX2 13 "FlagCore$Sums" "bytes" "LFlagCore$Bytes;", .methodLink RX2 17 yX2_signs, .static yX2_signs, .initialized RX2, .code yX2_signs cX2_signs 4 (some .int), .methodLink RX2 21 yX0_setFlags, .instanceMethod yX0_setFlags, .selects RX0 yX0_setFlags yX0_setFlags, .initialized RX0, .code yX0_setFlags cX0_setFlags 3 none, .fieldLink RX0 9 "FlagCore$Bytes" "row" "[I"] ++ wsX20 ++ wsX00)
def wsX2_less : List Cond := .code yX2_less cX2_less 3 (some .int) :: ([.fieldLink RX2 13 "FlagCore$Sums" "bytes" "LFlagCore$Bytes;", .methodLink RX2 17 yX2_signs, .static yX2_signs, .initialized RX2, .code yX2_signs cX2_signs 4 (some .int), .methodLink RX2 21 yX0_setFlags, .instanceMethod yX0_setFlags, .selects RX0 yX0_setFlags yX0_setFlags, .initialized RX0, .code yX0_setFlags cX0_setFlags 3 none, .fieldLink RX0 9 "FlagCore$Bytes" "row" "[I"] ++ wsX20 ++ wsX00)
def wsX2_right : List Cond := .code yX2_right cX2_right 5 (some .int) :: ([.fieldLink RX2 13 "FlagCore$Sums" "bytes" "LFlagCore$Bytes;", .methodLink RX2 17 yX2_signs, .static yX2_signs, .initialized RX2, .code yX2_signs cX2_signs 4 (some .int), .methodLink RX2 21 yX0_setFlags, .instanceMethod yX0_setFlags, .selects RX0 yX0_setFlags yX0_setFlags, .initialized RX0, .code yX0_setFlags cX0_setFlags 3 none, .fieldLink RX0 9 "FlagCore$Bytes" "row" "[I"] ++ wsX20 ++ wsX00)
def wsX2_pairFlags : List Cond := .code yX2_pairFlags cX2_pairFlags 5 none :: ([.constant RX2 40 (32768), .fieldLink RX2 13 "FlagCore$Sums" "bytes" "LFlagCore$Bytes;", .methodLink RX2 17 yX2_signs, .static yX2_signs, .initialized RX2, .code yX2_signs cX2_signs 4 (some .int), .methodLink RX2 21 yX0_setFlags, .instanceMethod yX0_setFlags, .selects RX0 yX0_setFlags yX0_setFlags, .initialized RX0, .code yX0_setFlags cX0_setFlags 3 none, .fieldLink RX0 9 "FlagCore$Bytes" "row" "[I"] ++ wsX20 ++ wsX00)
def wsX2_pairMore : List Cond := .code yX2_pairMore cX2_pairMore 4 (some .int) :: ([.constant RX2 35 (65535), .methodLink RX2 36 yX2_pairFlags, .instanceMethod yX2_pairFlags, .selects RX2 yX2_pairFlags yX2_pairFlags, .initialized RX2, .code yX2_pairFlags cX2_pairFlags 5 none, .constant RX2 40 (32768), .fieldLink RX2 13 "FlagCore$Sums" "bytes" "LFlagCore$Bytes;", .methodLink RX2 17 yX2_signs, .static yX2_signs, .code yX2_signs cX2_signs 4 (some .int), .methodLink RX2 21 yX0_setFlags, .instanceMethod yX0_setFlags, .selects RX0 yX0_setFlags yX0_setFlags, .initialized RX0, .code yX0_setFlags cX0_setFlags 3 none, .fieldLink RX0 9 "FlagCore$Bytes" "row" "[I"] ++ wsX20 ++ wsX00)
def wsX2_pairLess : List Cond := .code yX2_pairLess cX2_pairLess 4 (some .int) :: ([.constant RX2 35 (65535), .methodLink RX2 36 yX2_pairFlags, .instanceMethod yX2_pairFlags, .selects RX2 yX2_pairFlags yX2_pairFlags, .initialized RX2, .code yX2_pairFlags cX2_pairFlags 5 none, .constant RX2 40 (32768), .fieldLink RX2 13 "FlagCore$Sums" "bytes" "LFlagCore$Bytes;", .methodLink RX2 17 yX2_signs, .static yX2_signs, .code yX2_signs cX2_signs 4 (some .int), .methodLink RX2 21 yX0_setFlags, .instanceMethod yX0_setFlags, .selects RX0 yX0_setFlags yX0_setFlags, .initialized RX0, .code yX0_setFlags cX0_setFlags 3 none, .fieldLink RX0 9 "FlagCore$Bytes" "row" "[I"] ++ wsX20 ++ wsX00)
def wsX2_keepProduct : List Cond := .code yX2_keepProduct cX2_keepProduct 3 none :: ([.fieldLink RX2 13 "FlagCore$Sums" "bytes" "LFlagCore$Bytes;", .constant RX2 40 (32768), .constant RX2 35 (65535), .methodLink RX2 44 yX0_setPair, .instanceMethod yX0_setPair, .selects RX0 yX0_setPair yX0_setPair, .initialized RX0, .code yX0_setPair cX0_setPair 3 none, .fieldLink RX0 9 "FlagCore$Bytes" "row" "[I", .methodLink RX2 21 yX0_setFlags, .instanceMethod yX0_setFlags, .selects RX0 yX0_setFlags yX0_setFlags, .code yX0_setFlags cX0_setFlags 3 none] ++ wsX20 ++ wsX00)
def wsX2_product : List Cond := .code yX2_product cX2_product 2 none :: ([.methodLink RX2 41 yX2_keepProduct, .instanceMethod yX2_keepProduct, .selects RX2 yX2_keepProduct yX2_keepProduct, .initialized RX2, .code yX2_keepProduct cX2_keepProduct 3 none, .fieldLink RX2 13 "FlagCore$Sums" "bytes" "LFlagCore$Bytes;", .constant RX2 40 (32768), .constant RX2 35 (65535), .methodLink RX2 44 yX0_setPair, .instanceMethod yX0_setPair, .selects RX0 yX0_setPair yX0_setPair, .initialized RX0, .code yX0_setPair cX0_setPair 3 none, .fieldLink RX0 9 "FlagCore$Bytes" "row" "[I", .methodLink RX2 21 yX0_setFlags, .instanceMethod yX0_setFlags, .selects RX0 yX0_setFlags yX0_setFlags, .code yX0_setFlags cX0_setFlags 3 none] ++ wsX20 ++ wsX00)
def wsX2_fraction : List Cond := .code yX2_fraction cX2_fraction 2 none :: ([.methodLink RX2 41 yX2_keepProduct, .instanceMethod yX2_keepProduct, .selects RX2 yX2_keepProduct yX2_keepProduct, .initialized RX2, .code yX2_keepProduct cX2_keepProduct 3 none, .fieldLink RX2 13 "FlagCore$Sums" "bytes" "LFlagCore$Bytes;", .constant RX2 40 (32768), .constant RX2 35 (65535), .methodLink RX2 44 yX0_setPair, .instanceMethod yX0_setPair, .selects RX0 yX0_setPair yX0_setPair, .initialized RX0, .code yX0_setPair cX0_setPair 3 none, .fieldLink RX0 9 "FlagCore$Bytes" "row" "[I", .methodLink RX2 21 yX0_setFlags, .instanceMethod yX0_setFlags, .selects RX0 yX0_setFlags yX0_setFlags, .code yX0_setFlags cX0_setFlags 3 none] ++ wsX20 ++ wsX00)
def wsX3_d : List Cond := .code yX3_d cX3_d 1 (some .int) :: ([])
def wsX3_r : List Cond := .code yX3_r cX3_r 1 (some .int) :: ([])
def wsX3_pointer : List Cond := .code yX3_pointer cX3_pointer 1 (some .int) :: ([])
def wsX3_hasNext : List Cond := .code yX3_hasNext cX3_hasNext 1 (some .boolean) :: ([.constant RX3 9 (64527), .constant RX3 10 (36864), .constant RX3 11 (65036), .constant RX3 12 (37900)])
def wsX3_lowGroupOf : List Cond := .code yX3_lowGroupOf cX3_lowGroupOf 1 (some .int) :: ([])
def wsX3_isOneOf : List Cond := .code yX3_isOneOf cX3_isOneOf 2 (some .boolean) :: ([])
def wsX3_memoryGroupOf : List Cond := .code yX3_memoryGroupOf cX3_memoryGroupOf 1 (some .int) :: ([.methodLink RX3 31 yX3_d, .static yX3_d, .initialized RX3, .code yX3_d cX3_d 1 (some .int), .methodLink RX3 34 yX3_pointer, .static yX3_pointer, .code yX3_pointer cX3_pointer 1 (some .int), .methodLink RX3 37 yX3_isOneOf, .static yX3_isOneOf, .code yX3_isOneOf cX3_isOneOf 2 (some .boolean)])
def wsX3_flagGroupOf : List Cond := .code yX3_flagGroupOf cX3_flagGroupOf 1 (some .int) :: ([])
def wsX3_singleGroupOf : List Cond := .code yX3_singleGroupOf cX3_singleGroupOf 1 (some .int) :: ([.methodLink RX3 41 yX3_flagGroupOf, .static yX3_flagGroupOf, .initialized RX3, .code yX3_flagGroupOf cX3_flagGroupOf 1 (some .int)])
def wsX3_mixedGroupOf : List Cond := .code yX3_mixedGroupOf cX3_mixedGroupOf 1 (some .int) :: ([.methodLink RX3 25 yX3_memoryGroupOf, .static yX3_memoryGroupOf, .initialized RX3, .code yX3_memoryGroupOf cX3_memoryGroupOf 1 (some .int), .methodLink RX3 31 yX3_d, .static yX3_d, .code yX3_d cX3_d 1 (some .int), .methodLink RX3 34 yX3_pointer, .static yX3_pointer, .code yX3_pointer cX3_pointer 1 (some .int), .methodLink RX3 37 yX3_isOneOf, .static yX3_isOneOf, .code yX3_isOneOf cX3_isOneOf 2 (some .boolean), .methodLink RX3 28 yX3_singleGroupOf, .static yX3_singleGroupOf, .code yX3_singleGroupOf cX3_singleGroupOf 1 (some .int), .methodLink RX3 41 yX3_flagGroupOf, .static yX3_flagGroupOf, .code yX3_flagGroupOf cX3_flagGroupOf 1 (some .int)])
def wsX3_highGroupOf : List Cond := .code yX3_highGroupOf cX3_highGroupOf 1 (some .int) :: ([])
def wsX3_groupOf_r1 : List Cond := [Cond.methodLink RX3 13 yX3_lowGroupOf, Cond.static yX3_lowGroupOf, Cond.initialized RX3, Cond.code yX3_lowGroupOf cX3_lowGroupOf 1 (some .int), Cond.methodLink RX3 19 yX3_mixedGroupOf, Cond.static yX3_mixedGroupOf, Cond.code yX3_mixedGroupOf cX3_mixedGroupOf 1 (some .int), Cond.methodLink RX3 25 yX3_memoryGroupOf, Cond.static yX3_memoryGroupOf, Cond.code yX3_memoryGroupOf cX3_memoryGroupOf 1 (some .int), Cond.methodLink RX3 31 yX3_d, Cond.static yX3_d, Cond.code yX3_d cX3_d 1 (some .int), Cond.methodLink RX3 34 yX3_pointer, Cond.static yX3_pointer, Cond.code yX3_pointer cX3_pointer 1 (some .int), Cond.methodLink RX3 37 yX3_isOneOf, Cond.static yX3_isOneOf, Cond.code yX3_isOneOf cX3_isOneOf 2 (some .boolean), Cond.methodLink RX3 28 yX3_singleGroupOf, Cond.static yX3_singleGroupOf, Cond.code yX3_singleGroupOf cX3_singleGroupOf 1 (some .int), Cond.methodLink RX3 41 yX3_flagGroupOf, Cond.static yX3_flagGroupOf]
def wsX3_groupOf_r2 : List Cond := [Cond.code yX3_flagGroupOf cX3_flagGroupOf 1 (some .int), Cond.methodLink RX3 22 yX3_highGroupOf, Cond.static yX3_highGroupOf, Cond.code yX3_highGroupOf cX3_highGroupOf 1 (some .int)]
def wsX3_groupOf : List Cond := .code yX3_groupOf cX3_groupOf 1 (some .int) :: ((wsX3_groupOf_r1 ++ wsX3_groupOf_r2))
def wsX4_init_r1 : List Cond := [Cond.methodLink RX4 1 objectInit, Cond.instanceMethod objectInit, Cond.code objectInit ⟨#[0xb1]⟩ 1 none, Cond.arrayClass .int, Cond.fieldLink RX4 9 "FlagCore" "cells" "[I", Cond.classLink RX4 13 RX0, Cond.instantiable RX0 1, Cond.initialized RX0, Cond.fieldLink RX4 16 "FlagCore" "bytes" "LFlagCore$Bytes;", Cond.classLink RX4 20 RX2, Cond.instantiable RX2 1, Cond.initialized RX2, Cond.fieldLink RX4 25 "FlagCore" "sums" "LFlagCore$Sums;", Cond.fieldLink RX4 29 "FlagCore" "tallies" "[I", Cond.fieldLink RX4 32 "FlagCore" "pc" "I", Cond.fieldLink RX4 36 "FlagCore" "asked" "I", Cond.fieldLink RX4 39 "FlagCore" "latest" "I", Cond.fieldLink RX4 42 "FlagCore" "waiting" "Z", Cond.methodLink RX4 15 yX0_init, Cond.instanceMethod yX0_init, Cond.code yX0_init cX0_init 1 none, Cond.methodLink RX0 3 objectInit, Cond.fieldLink RX0 9 "FlagCore$Bytes" "row" "[I", Cond.methodLink RX4 22 yX2_init]
def wsX4_init_r2 : List Cond := [Cond.instanceMethod yX2_init, Cond.code yX2_init cX2_init 2 none, Cond.methodLink RX2 7 objectInit, Cond.fieldLink RX2 13 "FlagCore$Sums" "bytes" "LFlagCore$Bytes;"]
def wsX4_init : List Cond := .code yX4_init cX4_init 1 none :: ((wsX4_init_r1 ++ wsX4_init_r2) ++ wsX40 ++ wsX00 ++ wsX20)
def wsX4_within : List Cond := .code yX4_within cX4_within 2 (some .boolean) :: ([])
def wsX4_cellAt : List Cond := .code yX4_cellAt cX4_cellAt 2 (some .int) :: ([.fieldLink RX4 9 "FlagCore" "cells" "[I"] ++ wsX40)
def wsX4_code : List Cond := .code yX4_code cX4_code 4 (some .int) :: ([.constant RX4 50 (65535), .fieldLink RX4 9 "FlagCore" "cells" "[I", .methodLink RX4 46 yX4_within, .static yX4_within, .initialized RX4, .code yX4_within cX4_within 2 (some .boolean), .methodLink RX4 51 yX4_cellAt, .instanceMethod yX4_cellAt, .selects RX4 yX4_cellAt yX4_cellAt, .code yX4_cellAt cX4_cellAt 2 (some .int)] ++ wsX40)
def wsX4_load : List Cond := .code yX4_load cX4_load 5 (some .int) :: ([.fieldLink RX4 9 "FlagCore" "cells" "[I", .constant RX4 50 (65535), .methodLink RX4 46 yX4_within, .static yX4_within, .initialized RX4, .code yX4_within cX4_within 2 (some .boolean)] ++ wsX40)
def wsX4_word : List Cond := .code yX4_word cX4_word 2 (some .int) :: ([.methodLink RX4 46 yX4_within, .static yX4_within, .initialized RX4, .code yX4_within cX4_within 2 (some .boolean), .methodLink RX4 51 yX4_cellAt, .instanceMethod yX4_cellAt, .selects RX4 yX4_cellAt yX4_cellAt, .code yX4_cellAt cX4_cellAt 2 (some .int), .fieldLink RX4 9 "FlagCore" "cells" "[I"] ++ wsX40)
def wsX4_put : List Cond := .code yX4_put cX4_put 4 (some .int) :: ([.fieldLink RX4 16 "FlagCore" "bytes" "LFlagCore$Bytes;", .methodLink RX4 46 yX4_within, .static yX4_within, .initialized RX4, .code yX4_within cX4_within 2 (some .boolean), .methodLink RX4 55 yX0_get, .instanceMethod yX0_get, .selects RX0 yX0_get yX0_get, .initialized RX0, .code yX0_get cX0_get 2 (some .int), .fieldLink RX0 9 "FlagCore$Bytes" "row" "[I", .methodLink RX4 58 yX0_set, .instanceMethod yX0_set, .selects RX0 yX0_set yX0_set, .code yX0_set cX0_set 3 none] ++ wsX40 ++ wsX00)
def wsX4_data : List Cond := .code yX4_data cX4_data 2 (some .int) :: ([.fieldLink RX4 16 "FlagCore" "bytes" "LFlagCore$Bytes;", .methodLink RX4 46 yX4_within, .static yX4_within, .initialized RX4, .code yX4_within cX4_within 2 (some .boolean), .methodLink RX4 55 yX0_get, .instanceMethod yX0_get, .selects RX0 yX0_get yX0_get, .initialized RX0, .code yX0_get cX0_get 2 (some .int), .fieldLink RX0 9 "FlagCore$Bytes" "row" "[I"] ++ wsX40 ++ wsX00)
def wsX4_told : List Cond := .code yX4_told cX4_told 2 (some .int) :: ([.fieldLink RX4 32 "FlagCore" "pc" "I", .fieldLink RX4 16 "FlagCore" "bytes" "LFlagCore$Bytes;", .fieldLink RX4 42 "FlagCore" "waiting" "Z", .fieldLink RX4 36 "FlagCore" "asked" "I", .methodLink RX4 62 yX0_pair, .instanceMethod yX0_pair, .selects RX0 yX0_pair yX0_pair, .initialized RX0, .code yX0_pair cX0_pair 2 (some .int), .fieldLink RX0 9 "FlagCore$Bytes" "row" "[I", .methodLink RX4 55 yX0_get, .instanceMethod yX0_get, .selects RX0 yX0_get yX0_get, .code yX0_get cX0_get 2 (some .int)] ++ wsX40 ++ wsX00)
def wsX4_go : List Cond := .code yX4_go cX4_go 3 (some .int) :: ([.fieldLink RX4 32 "FlagCore" "pc" "I", .methodLink RX4 46 yX4_within, .static yX4_within, .initialized RX4, .code yX4_within cX4_within 2 (some .boolean)] ++ wsX40)
def wsX4_ask : List Cond := .code yX4_ask cX4_ask 3 (some .int) :: ([.fieldLink RX4 36 "FlagCore" "asked" "I"] ++ wsX40)
def wsJ6_numberOfTrailingZeros_0f7a4 : List Cond := .code yJ6_numberOfTrailingZeros_0f7a4 cJ6_numberOfTrailingZeros_0f7a4 2 (some .int) :: ([.constant RJ6 264 (65536)])
def wsX4_enterLeast_r1 : List Cond := [Cond.fieldLink RX4 16 "FlagCore" "bytes" "LFlagCore$Bytes;", Cond.fieldLink RX4 32 "FlagCore" "pc" "I", Cond.fieldLink RX4 36 "FlagCore" "asked" "I", Cond.methodLink RX4 91 yX0_stacks, Cond.instanceMethod yX0_stacks, Cond.selects RX0 yX0_stacks yX0_stacks, Cond.initialized RX0, Cond.code yX0_stacks cX0_stacks 3 (some .boolean), Cond.methodLink RX0 27 yX0_pair, Cond.instanceMethod yX0_pair, Cond.selects RX0 yX0_pair yX0_pair, Cond.code yX0_pair cX0_pair 2 (some .int), Cond.fieldLink RX0 9 "FlagCore$Bytes" "row" "[I", Cond.methodLink RX0 19 yX0_set, Cond.instanceMethod yX0_set, Cond.selects RX0 yX0_set yX0_set, Cond.code yX0_set cX0_set 3 none, Cond.methodLink RX0 30 yX0_setPair, Cond.instanceMethod yX0_setPair, Cond.selects RX0 yX0_setPair yX0_setPair, Cond.code yX0_setPair cX0_setPair 3 none, Cond.methodLink RX4 94 yJ6_numberOfTrailingZeros_0f7a4, Cond.static yJ6_numberOfTrailingZeros_0f7a4, Cond.initialized RJ6]
def wsX4_enterLeast_r2 : List Cond := [Cond.code yJ6_numberOfTrailingZeros_0f7a4 cJ6_numberOfTrailingZeros_0f7a4 2 (some .int), Cond.constant RJ6 264 (65536), Cond.methodLink RX4 99 yX0_setFlag, Cond.instanceMethod yX0_setFlag, Cond.selects RX0 yX0_setFlag yX0_setFlag, Cond.code yX0_setFlag cX0_setFlag 3 none, Cond.methodLink RX0 23 yX0_setBit, Cond.instanceMethod yX0_setBit, Cond.selects RX0 yX0_setBit yX0_setBit, Cond.code yX0_setBit cX0_setBit 4 none, Cond.methodLink RX0 15 yX0_get, Cond.instanceMethod yX0_get, Cond.selects RX0 yX0_get yX0_get, Cond.code yX0_get cX0_get 2 (some .int)]
def wsX4_enterLeast : List Cond := .code yX4_enterLeast cX4_enterLeast 1 (some .int) :: ((wsX4_enterLeast_r1 ++ wsX4_enterLeast_r2) ++ wsX40 ++ wsX00)
def wsX4_onward : List Cond := .code yX4_onward cX4_onward 2 (some .int) :: ([.fieldLink RX4 32 "FlagCore" "pc" "I"] ++ wsX40)
def wsX4_movePair : List Cond := .code yX4_movePair cX4_movePair 2 (some .int) :: ([.fieldLink RX4 16 "FlagCore" "bytes" "LFlagCore$Bytes;", .methodLink RX4 62 yX0_pair, .instanceMethod yX0_pair, .selects RX0 yX0_pair yX0_pair, .initialized RX0, .code yX0_pair cX0_pair 2 (some .int), .fieldLink RX0 9 "FlagCore$Bytes" "row" "[I", .methodLink RX4 170 yX0_setPair, .instanceMethod yX0_setPair, .selects RX0 yX0_setPair yX0_setPair, .code yX0_setPair cX0_setPair 3 none, .methodLink RX4 102 yX4_onward, .instanceMethod yX4_onward, .selects RX4 yX4_onward yX4_onward, .initialized RX4, .code yX4_onward cX4_onward 2 (some .int), .fieldLink RX4 32 "FlagCore" "pc" "I"] ++ wsX40 ++ wsX00)
def wsX4_multiplyFew_r1 : List Cond := [Cond.fieldLink RX4 25 "FlagCore" "sums" "LFlagCore$Sums;", Cond.fieldLink RX4 16 "FlagCore" "bytes" "LFlagCore$Bytes;", Cond.methodLink RX4 183 yX0_signed, Cond.instanceMethod yX0_signed, Cond.selects RX0 yX0_signed yX0_signed, Cond.initialized RX0, Cond.code yX0_signed cX0_signed 2 (some .int), Cond.fieldLink RX0 9 "FlagCore$Bytes" "row" "[I", Cond.methodLink RX4 55 yX0_get, Cond.instanceMethod yX0_get, Cond.selects RX0 yX0_get yX0_get, Cond.code yX0_get cX0_get 2 (some .int), Cond.methodLink RX4 179 yX2_product, Cond.instanceMethod yX2_product, Cond.selects RX2 yX2_product yX2_product, Cond.initialized RX2, Cond.code yX2_product cX2_product 2 none, Cond.methodLink RX2 41 yX2_keepProduct, Cond.instanceMethod yX2_keepProduct, Cond.selects RX2 yX2_keepProduct yX2_keepProduct, Cond.code yX2_keepProduct cX2_keepProduct 3 none, Cond.fieldLink RX2 13 "FlagCore$Sums" "bytes" "LFlagCore$Bytes;", Cond.constant RX2 40 (32768), Cond.constant RX2 35 (65535)]
def wsX4_multiplyFew_r2 : List Cond := [Cond.methodLink RX2 44 yX0_setPair, Cond.instanceMethod yX0_setPair, Cond.selects RX0 yX0_setPair yX0_setPair, Cond.code yX0_setPair cX0_setPair 3 none, Cond.methodLink RX2 21 yX0_setFlags, Cond.instanceMethod yX0_setFlags, Cond.selects RX0 yX0_setFlags yX0_setFlags, Cond.code yX0_setFlags cX0_setFlags 3 none, Cond.methodLink RX4 190 yX2_fraction, Cond.instanceMethod yX2_fraction, Cond.selects RX2 yX2_fraction yX2_fraction, Cond.code yX2_fraction cX2_fraction 2 none]
def wsX4_multiplyFew : List Cond := .code yX4_multiplyFew cX4_multiplyFew 4 none :: ((wsX4_multiplyFew_r1 ++ wsX4_multiplyFew_r2) ++ wsX40 ++ wsX00 ++ wsX20)
def wsX4_multiply_r1 : List Cond := [Cond.fieldLink RX4 25 "FlagCore" "sums" "LFlagCore$Sums;", Cond.fieldLink RX4 16 "FlagCore" "bytes" "LFlagCore$Bytes;", Cond.methodLink RX4 173 yX3_d, Cond.static yX3_d, Cond.initialized RX3, Cond.code yX3_d cX3_d 1 (some .int), Cond.methodLink RX4 55 yX0_get, Cond.instanceMethod yX0_get, Cond.selects RX0 yX0_get yX0_get, Cond.initialized RX0, Cond.code yX0_get cX0_get 2 (some .int), Cond.fieldLink RX0 9 "FlagCore$Bytes" "row" "[I", Cond.methodLink RX4 176 yX3_r, Cond.static yX3_r, Cond.code yX3_r cX3_r 1 (some .int), Cond.methodLink RX4 179 yX2_product, Cond.instanceMethod yX2_product, Cond.selects RX2 yX2_product yX2_product, Cond.initialized RX2, Cond.code yX2_product cX2_product 2 none, Cond.methodLink RX2 41 yX2_keepProduct, Cond.instanceMethod yX2_keepProduct, Cond.selects RX2 yX2_keepProduct yX2_keepProduct, Cond.code yX2_keepProduct cX2_keepProduct 3 none]
def wsX4_multiply_r2 : List Cond := [Cond.fieldLink RX2 13 "FlagCore$Sums" "bytes" "LFlagCore$Bytes;", Cond.constant RX2 40 (32768), Cond.constant RX2 35 (65535), Cond.methodLink RX2 44 yX0_setPair, Cond.instanceMethod yX0_setPair, Cond.selects RX0 yX0_setPair yX0_setPair, Cond.code yX0_setPair cX0_setPair 3 none, Cond.methodLink RX2 21 yX0_setFlags, Cond.instanceMethod yX0_setFlags, Cond.selects RX0 yX0_setFlags yX0_setFlags, Cond.code yX0_setFlags cX0_setFlags 3 none, Cond.methodLink RX4 183 yX0_signed, Cond.instanceMethod yX0_signed, Cond.selects RX0 yX0_signed yX0_signed, Cond.code yX0_signed cX0_signed 2 (some .int), Cond.methodLink RX4 186 yX4_multiplyFew, Cond.instanceMethod yX4_multiplyFew, Cond.selects RX4 yX4_multiplyFew yX4_multiplyFew, Cond.initialized RX4, Cond.code yX4_multiplyFew cX4_multiplyFew 4 none, Cond.methodLink RX4 190 yX2_fraction, Cond.instanceMethod yX2_fraction, Cond.selects RX2 yX2_fraction yX2_fraction, Cond.code yX2_fraction cX2_fraction 2 none]
def wsX4_multiply_r3 : List Cond := [Cond.methodLink RX4 102 yX4_onward, Cond.instanceMethod yX4_onward, Cond.selects RX4 yX4_onward yX4_onward, Cond.code yX4_onward cX4_onward 2 (some .int), Cond.fieldLink RX4 32 "FlagCore" "pc" "I"]
def wsX4_multiply : List Cond := .code yX4_multiply cX4_multiply 2 (some .int) :: ((wsX4_multiply_r1 ++ (wsX4_multiply_r2 ++ wsX4_multiply_r3)) ++ wsX40 ++ wsX00 ++ wsX20)
def wsX4_skip : List Cond := .code yX4_skip cX4_skip 2 (some .int) :: ([.fieldLink RX4 32 "FlagCore" "pc" "I", .fieldLink RX4 29 "FlagCore" "tallies" "[I", .methodLink RX4 102 yX4_onward, .instanceMethod yX4_onward, .selects RX4 yX4_onward yX4_onward, .initialized RX4, .code yX4_onward cX4_onward 2 (some .int), .methodLink RX4 51 yX4_cellAt, .instanceMethod yX4_cellAt, .selects RX4 yX4_cellAt yX4_cellAt, .code yX4_cellAt cX4_cellAt 2 (some .int), .fieldLink RX4 9 "FlagCore" "cells" "[I", .methodLink RX4 74 yX3_hasNext, .static yX3_hasNext, .initialized RX3, .code yX3_hasNext cX3_hasNext 1 (some .boolean), .constant RX3 9 (64527), .constant RX3 10 (36864), .constant RX3 11 (65036), .constant RX3 12 (37900)] ++ wsX40)
def wsX4_combine_r1 : List Cond := [Cond.fieldLink RX4 16 "FlagCore" "bytes" "LFlagCore$Bytes;", Cond.fieldLink RX4 25 "FlagCore" "sums" "LFlagCore$Sums;", Cond.methodLink RX4 173 yX3_d, Cond.static yX3_d, Cond.initialized RX3, Cond.code yX3_d cX3_d 1 (some .int), Cond.methodLink RX4 55 yX0_get, Cond.instanceMethod yX0_get, Cond.selects RX0 yX0_get yX0_get, Cond.initialized RX0, Cond.code yX0_get cX0_get 2 (some .int), Cond.fieldLink RX0 9 "FlagCore$Bytes" "row" "[I", Cond.methodLink RX4 176 yX3_r, Cond.static yX3_r, Cond.code yX3_r cX3_r 1 (some .int), Cond.methodLink RX4 80 yX0_flag, Cond.instanceMethod yX0_flag, Cond.selects RX0 yX0_flag yX0_flag, Cond.code yX0_flag cX0_flag 2 (some .int), Cond.methodLink RX4 193 yX2_differenceOn, Cond.instanceMethod yX2_differenceOn, Cond.selects RX2 yX2_differenceOn yX2_differenceOn, Cond.initialized RX2, Cond.code yX2_differenceOn cX2_differenceOn 5 (some .int)]
def wsX4_combine_r2 : List Cond := [Cond.fieldLink RX2 13 "FlagCore$Sums" "bytes" "LFlagCore$Bytes;", Cond.methodLink RX2 31 yX0_flag, Cond.methodLink RX2 27 yX2_subtract, Cond.instanceMethod yX2_subtract, Cond.selects RX2 yX2_subtract yX2_subtract, Cond.code yX2_subtract cX2_subtract 9 (some .int), Cond.methodLink RX2 17 yX2_signs, Cond.static yX2_signs, Cond.code yX2_signs cX2_signs 4 (some .int), Cond.methodLink RX2 21 yX0_setFlags, Cond.instanceMethod yX0_setFlags, Cond.selects RX0 yX0_setFlags yX0_setFlags, Cond.code yX0_setFlags cX0_setFlags 3 none, Cond.methodLink RX4 58 yX0_set, Cond.instanceMethod yX0_set, Cond.selects RX0 yX0_set yX0_set, Cond.code yX0_set cX0_set 3 none, Cond.methodLink RX4 197 yX2_sum, Cond.instanceMethod yX2_sum, Cond.selects RX2 yX2_sum yX2_sum, Cond.code yX2_sum cX2_sum 8 (some .int), Cond.methodLink RX4 200 yX4_skip, Cond.instanceMethod yX4_skip, Cond.selects RX4 yX4_skip yX4_skip]
def wsX4_combine_r3 : List Cond := [Cond.initialized RX4, Cond.code yX4_skip cX4_skip 2 (some .int), Cond.fieldLink RX4 32 "FlagCore" "pc" "I", Cond.fieldLink RX4 29 "FlagCore" "tallies" "[I", Cond.methodLink RX4 102 yX4_onward, Cond.instanceMethod yX4_onward, Cond.selects RX4 yX4_onward yX4_onward, Cond.code yX4_onward cX4_onward 2 (some .int), Cond.methodLink RX4 51 yX4_cellAt, Cond.instanceMethod yX4_cellAt, Cond.selects RX4 yX4_cellAt yX4_cellAt, Cond.code yX4_cellAt cX4_cellAt 2 (some .int), Cond.fieldLink RX4 9 "FlagCore" "cells" "[I", Cond.methodLink RX4 74 yX3_hasNext, Cond.static yX3_hasNext, Cond.code yX3_hasNext cX3_hasNext 1 (some .boolean), Cond.constant RX3 9 (64527), Cond.constant RX3 10 (36864), Cond.constant RX3 11 (65036), Cond.constant RX3 12 (37900), Cond.methodLink RX4 204 yX2_difference, Cond.instanceMethod yX2_difference, Cond.selects RX2 yX2_difference yX2_difference, Cond.code yX2_difference cX2_difference 3 (some .int)]
def wsX4_combine_r4 : List Cond := [Cond.methodLink RX4 208 yX2_logic, Cond.instanceMethod yX2_logic, Cond.selects RX2 yX2_logic yX2_logic, Cond.code yX2_logic cX2_logic 2 (some .int)]
def wsX4_combine : List Cond := .code yX4_combine cX4_combine 6 (some .int) :: ((wsX4_combine_r1 ++ (wsX4_combine_r2 ++ (wsX4_combine_r3 ++ wsX4_combine_r4))) ++ wsX40 ++ wsX00 ++ wsX20)
def wsX4_combineWithNumber_r1 : List Cond := [Cond.fieldLink RX4 16 "FlagCore" "bytes" "LFlagCore$Bytes;", Cond.fieldLink RX4 25 "FlagCore" "sums" "LFlagCore$Sums;", Cond.methodLink RX4 55 yX0_get, Cond.instanceMethod yX0_get, Cond.selects RX0 yX0_get yX0_get, Cond.initialized RX0, Cond.code yX0_get cX0_get 2 (some .int), Cond.fieldLink RX0 9 "FlagCore$Bytes" "row" "[I", Cond.methodLink RX4 204 yX2_difference, Cond.instanceMethod yX2_difference, Cond.selects RX2 yX2_difference yX2_difference, Cond.initialized RX2, Cond.code yX2_difference cX2_difference 3 (some .int), Cond.methodLink RX2 27 yX2_subtract, Cond.instanceMethod yX2_subtract, Cond.selects RX2 yX2_subtract yX2_subtract, Cond.code yX2_subtract cX2_subtract 9 (some .int), Cond.fieldLink RX2 13 "FlagCore$Sums" "bytes" "LFlagCore$Bytes;", Cond.methodLink RX2 17 yX2_signs, Cond.static yX2_signs, Cond.code yX2_signs cX2_signs 4 (some .int), Cond.methodLink RX2 21 yX0_setFlags, Cond.instanceMethod yX0_setFlags, Cond.selects RX0 yX0_setFlags yX0_setFlags]
def wsX4_combineWithNumber_r2 : List Cond := [Cond.code yX0_setFlags cX0_setFlags 3 none, Cond.methodLink RX4 80 yX0_flag, Cond.instanceMethod yX0_flag, Cond.selects RX0 yX0_flag yX0_flag, Cond.code yX0_flag cX0_flag 2 (some .int), Cond.methodLink RX4 193 yX2_differenceOn, Cond.instanceMethod yX2_differenceOn, Cond.selects RX2 yX2_differenceOn yX2_differenceOn, Cond.code yX2_differenceOn cX2_differenceOn 5 (some .int), Cond.methodLink RX2 31 yX0_flag, Cond.methodLink RX4 58 yX0_set, Cond.instanceMethod yX0_set, Cond.selects RX0 yX0_set yX0_set, Cond.code yX0_set cX0_set 3 none, Cond.methodLink RX4 208 yX2_logic, Cond.instanceMethod yX2_logic, Cond.selects RX2 yX2_logic yX2_logic, Cond.code yX2_logic cX2_logic 2 (some .int), Cond.methodLink RX4 102 yX4_onward, Cond.instanceMethod yX4_onward, Cond.selects RX4 yX4_onward yX4_onward, Cond.initialized RX4, Cond.code yX4_onward cX4_onward 2 (some .int), Cond.fieldLink RX4 32 "FlagCore" "pc" "I"]
def wsX4_combineWithNumber : List Cond := .code yX4_combineWithNumber cX4_combineWithNumber 5 (some .int) :: ((wsX4_combineWithNumber_r1 ++ wsX4_combineWithNumber_r2) ++ wsX40 ++ wsX00 ++ wsX20)
def wsX4_change_r1 : List Cond := [Cond.fieldLink RX4 16 "FlagCore" "bytes" "LFlagCore$Bytes;", Cond.fieldLink RX4 25 "FlagCore" "sums" "LFlagCore$Sums;", Cond.methodLink RX4 173 yX3_d, Cond.static yX3_d, Cond.initialized RX3, Cond.code yX3_d cX3_d 1 (some .int), Cond.methodLink RX4 55 yX0_get, Cond.instanceMethod yX0_get, Cond.selects RX0 yX0_get yX0_get, Cond.initialized RX0, Cond.code yX0_get cX0_get 2 (some .int), Cond.fieldLink RX0 9 "FlagCore$Bytes" "row" "[I", Cond.methodLink RX4 211 yX2_inverse, Cond.instanceMethod yX2_inverse, Cond.selects RX2 yX2_inverse yX2_inverse, Cond.initialized RX2, Cond.code yX2_inverse cX2_inverse 3 (some .int), Cond.fieldLink RX2 13 "FlagCore$Sums" "bytes" "LFlagCore$Bytes;", Cond.methodLink RX2 17 yX2_signs, Cond.static yX2_signs, Cond.code yX2_signs cX2_signs 4 (some .int), Cond.methodLink RX2 21 yX0_setFlags, Cond.instanceMethod yX0_setFlags, Cond.selects RX0 yX0_setFlags yX0_setFlags]
def wsX4_change_r2 : List Cond := [Cond.code yX0_setFlags cX0_setFlags 3 none, Cond.methodLink RX4 58 yX0_set, Cond.instanceMethod yX0_set, Cond.selects RX0 yX0_set yX0_set, Cond.code yX0_set cX0_set 3 none, Cond.methodLink RX4 204 yX2_difference, Cond.instanceMethod yX2_difference, Cond.selects RX2 yX2_difference yX2_difference, Cond.code yX2_difference cX2_difference 3 (some .int), Cond.methodLink RX2 27 yX2_subtract, Cond.instanceMethod yX2_subtract, Cond.selects RX2 yX2_subtract yX2_subtract, Cond.code yX2_subtract cX2_subtract 9 (some .int), Cond.methodLink RX4 214 yX2_more, Cond.instanceMethod yX2_more, Cond.selects RX2 yX2_more yX2_more, Cond.code yX2_more cX2_more 3 (some .int), Cond.methodLink RX4 217 yX2_right, Cond.instanceMethod yX2_right, Cond.selects RX2 yX2_right yX2_right, Cond.code yX2_right cX2_right 5 (some .int), Cond.methodLink RX4 80 yX0_flag, Cond.instanceMethod yX0_flag, Cond.selects RX0 yX0_flag yX0_flag]
def wsX4_change_r3 : List Cond := [Cond.code yX0_flag cX0_flag 2 (some .int), Cond.methodLink RX4 220 yX2_less, Cond.instanceMethod yX2_less, Cond.selects RX2 yX2_less yX2_less, Cond.code yX2_less cX2_less 3 (some .int), Cond.methodLink RX4 102 yX4_onward, Cond.instanceMethod yX4_onward, Cond.selects RX4 yX4_onward yX4_onward, Cond.initialized RX4, Cond.code yX4_onward cX4_onward 2 (some .int), Cond.fieldLink RX4 32 "FlagCore" "pc" "I"]
def wsX4_change : List Cond := .code yX4_change cX4_change 4 (some .int) :: ((wsX4_change_r1 ++ (wsX4_change_r2 ++ wsX4_change_r3)) ++ wsX40 ++ wsX00 ++ wsX20)
def wsX4_setFlag_r1 : List Cond := [Cond.fieldLink RX4 16 "FlagCore" "bytes" "LFlagCore$Bytes;", Cond.methodLink RX4 99 yX0_setFlag, Cond.instanceMethod yX0_setFlag, Cond.selects RX0 yX0_setFlag yX0_setFlag, Cond.initialized RX0, Cond.code yX0_setFlag cX0_setFlag 3 none, Cond.methodLink RX0 23 yX0_setBit, Cond.instanceMethod yX0_setBit, Cond.selects RX0 yX0_setBit yX0_setBit, Cond.code yX0_setBit cX0_setBit 4 none, Cond.methodLink RX0 15 yX0_get, Cond.instanceMethod yX0_get, Cond.selects RX0 yX0_get yX0_get, Cond.code yX0_get cX0_get 2 (some .int), Cond.fieldLink RX0 9 "FlagCore$Bytes" "row" "[I", Cond.methodLink RX0 19 yX0_set, Cond.instanceMethod yX0_set, Cond.selects RX0 yX0_set yX0_set, Cond.code yX0_set cX0_set 3 none, Cond.methodLink RX4 102 yX4_onward, Cond.instanceMethod yX4_onward, Cond.selects RX4 yX4_onward yX4_onward, Cond.initialized RX4, Cond.code yX4_onward cX4_onward 2 (some .int)]
def wsX4_setFlag_r2 : List Cond := [Cond.fieldLink RX4 32 "FlagCore" "pc" "I"]
def wsX4_setFlag : List Cond := .code yX4_setFlag cX4_setFlag 2 (some .int) :: ((wsX4_setFlag_r1 ++ wsX4_setFlag_r2) ++ wsX40 ++ wsX00)
def wsX4_changePair_r1 : List Cond := [Cond.fieldLink RX4 16 "FlagCore" "bytes" "LFlagCore$Bytes;", Cond.fieldLink RX4 25 "FlagCore" "sums" "LFlagCore$Sums;", Cond.methodLink RX4 62 yX0_pair, Cond.instanceMethod yX0_pair, Cond.selects RX0 yX0_pair yX0_pair, Cond.initialized RX0, Cond.code yX0_pair cX0_pair 2 (some .int), Cond.fieldLink RX0 9 "FlagCore$Bytes" "row" "[I", Cond.methodLink RX4 223 yX2_pairMore, Cond.instanceMethod yX2_pairMore, Cond.selects RX2 yX2_pairMore yX2_pairMore, Cond.initialized RX2, Cond.code yX2_pairMore cX2_pairMore 4 (some .int), Cond.constant RX2 35 (65535), Cond.methodLink RX2 36 yX2_pairFlags, Cond.instanceMethod yX2_pairFlags, Cond.selects RX2 yX2_pairFlags yX2_pairFlags, Cond.code yX2_pairFlags cX2_pairFlags 5 none, Cond.constant RX2 40 (32768), Cond.fieldLink RX2 13 "FlagCore$Sums" "bytes" "LFlagCore$Bytes;", Cond.methodLink RX2 17 yX2_signs, Cond.static yX2_signs, Cond.code yX2_signs cX2_signs 4 (some .int), Cond.methodLink RX2 21 yX0_setFlags]
def wsX4_changePair_r2 : List Cond := [Cond.instanceMethod yX0_setFlags, Cond.selects RX0 yX0_setFlags yX0_setFlags, Cond.code yX0_setFlags cX0_setFlags 3 none, Cond.methodLink RX4 226 yX2_pairLess, Cond.instanceMethod yX2_pairLess, Cond.selects RX2 yX2_pairLess yX2_pairLess, Cond.code yX2_pairLess cX2_pairLess 4 (some .int), Cond.methodLink RX4 170 yX0_setPair, Cond.instanceMethod yX0_setPair, Cond.selects RX0 yX0_setPair yX0_setPair, Cond.code yX0_setPair cX0_setPair 3 none, Cond.methodLink RX4 102 yX4_onward, Cond.instanceMethod yX4_onward, Cond.selects RX4 yX4_onward yX4_onward, Cond.initialized RX4, Cond.code yX4_onward cX4_onward 2 (some .int), Cond.fieldLink RX4 32 "FlagCore" "pc" "I"]
def wsX4_changePair : List Cond := .code yX4_changePair cX4_changePair 5 (some .int) :: ((wsX4_changePair_r1 ++ wsX4_changePair_r2) ++ wsX40 ++ wsX00 ++ wsX20)
def wsX4_transfer : List Cond := .code yX4_transfer cX4_transfer 4 none :: ([.fieldLink RX4 16 "FlagCore" "bytes" "LFlagCore$Bytes;", .methodLink RX4 173 yX3_d, .static yX3_d, .initialized RX3, .code yX3_d cX3_d 1 (some .int), .methodLink RX4 55 yX0_get, .instanceMethod yX0_get, .selects RX0 yX0_get yX0_get, .initialized RX0, .code yX0_get cX0_get 2 (some .int), .fieldLink RX0 9 "FlagCore$Bytes" "row" "[I", .methodLink RX4 58 yX0_set, .instanceMethod yX0_set, .selects RX0 yX0_set yX0_set, .code yX0_set cX0_set 3 none] ++ wsX40 ++ wsX00)
def wsX4_moveAtNext_r1 : List Cond := [Cond.fieldLink RX4 32 "FlagCore" "pc" "I", Cond.methodLink RX4 51 yX4_cellAt, Cond.instanceMethod yX4_cellAt, Cond.selects RX4 yX4_cellAt yX4_cellAt, Cond.initialized RX4, Cond.code yX4_cellAt cX4_cellAt 2 (some .int), Cond.fieldLink RX4 9 "FlagCore" "cells" "[I", Cond.methodLink RX4 229 yX4_transfer, Cond.instanceMethod yX4_transfer, Cond.selects RX4 yX4_transfer yX4_transfer, Cond.code yX4_transfer cX4_transfer 4 none, Cond.fieldLink RX4 16 "FlagCore" "bytes" "LFlagCore$Bytes;", Cond.methodLink RX4 173 yX3_d, Cond.static yX3_d, Cond.initialized RX3, Cond.code yX3_d cX3_d 1 (some .int), Cond.methodLink RX4 55 yX0_get, Cond.instanceMethod yX0_get, Cond.selects RX0 yX0_get yX0_get, Cond.initialized RX0, Cond.code yX0_get cX0_get 2 (some .int), Cond.fieldLink RX0 9 "FlagCore$Bytes" "row" "[I", Cond.methodLink RX4 58 yX0_set, Cond.instanceMethod yX0_set]
def wsX4_moveAtNext_r2 : List Cond := [Cond.selects RX0 yX0_set yX0_set, Cond.code yX0_set cX0_set 3 none, Cond.methodLink RX4 102 yX4_onward, Cond.instanceMethod yX4_onward, Cond.selects RX4 yX4_onward yX4_onward, Cond.code yX4_onward cX4_onward 2 (some .int)]
def wsX4_moveAtNext : List Cond := .code yX4_moveAtNext cX4_moveAtNext 3 (some .int) :: ((wsX4_moveAtNext_r1 ++ wsX4_moveAtNext_r2) ++ wsX40 ++ wsX00)
def wsX4_movePointed_r1 : List Cond := [Cond.fieldLink RX4 16 "FlagCore" "bytes" "LFlagCore$Bytes;", Cond.constant RX4 50 (65535), Cond.methodLink RX4 232 yX3_pointer, Cond.static yX3_pointer, Cond.initialized RX3, Cond.code yX3_pointer cX3_pointer 1 (some .int), Cond.methodLink RX4 62 yX0_pair, Cond.instanceMethod yX0_pair, Cond.selects RX0 yX0_pair yX0_pair, Cond.initialized RX0, Cond.code yX0_pair cX0_pair 2 (some .int), Cond.fieldLink RX0 9 "FlagCore$Bytes" "row" "[I", Cond.methodLink RX4 170 yX0_setPair, Cond.instanceMethod yX0_setPair, Cond.selects RX0 yX0_setPair yX0_setPair, Cond.code yX0_setPair cX0_setPair 3 none, Cond.methodLink RX4 229 yX4_transfer, Cond.instanceMethod yX4_transfer, Cond.selects RX4 yX4_transfer yX4_transfer, Cond.initialized RX4, Cond.code yX4_transfer cX4_transfer 4 none, Cond.methodLink RX4 173 yX3_d, Cond.static yX3_d, Cond.code yX3_d cX3_d 1 (some .int)]
def wsX4_movePointed_r2 : List Cond := [Cond.methodLink RX4 55 yX0_get, Cond.instanceMethod yX0_get, Cond.selects RX0 yX0_get yX0_get, Cond.code yX0_get cX0_get 2 (some .int), Cond.methodLink RX4 58 yX0_set, Cond.instanceMethod yX0_set, Cond.selects RX0 yX0_set yX0_set, Cond.code yX0_set cX0_set 3 none, Cond.methodLink RX4 102 yX4_onward, Cond.instanceMethod yX4_onward, Cond.selects RX4 yX4_onward yX4_onward, Cond.code yX4_onward cX4_onward 2 (some .int), Cond.fieldLink RX4 32 "FlagCore" "pc" "I"]
def wsX4_movePointed : List Cond := .code yX4_movePointed cX4_movePointed 7 (some .int) :: ((wsX4_movePointed_r1 ++ wsX4_movePointed_r2) ++ wsX40 ++ wsX00)
def wsX4_moveStacked_r1 : List Cond := [Cond.fieldLink RX4 16 "FlagCore" "bytes" "LFlagCore$Bytes;", Cond.constant RX4 50 (65535), Cond.methodLink RX4 62 yX0_pair, Cond.instanceMethod yX0_pair, Cond.selects RX0 yX0_pair yX0_pair, Cond.initialized RX0, Cond.code yX0_pair cX0_pair 2 (some .int), Cond.fieldLink RX0 9 "FlagCore$Bytes" "row" "[I", Cond.methodLink RX4 173 yX3_d, Cond.static yX3_d, Cond.initialized RX3, Cond.code yX3_d cX3_d 1 (some .int), Cond.methodLink RX4 235 yX0_pull, Cond.instanceMethod yX0_pull, Cond.selects RX0 yX0_pull yX0_pull, Cond.code yX0_pull cX0_pull 2 (some .int), Cond.methodLink RX0 27 yX0_pair, Cond.methodLink RX0 30 yX0_setPair, Cond.instanceMethod yX0_setPair, Cond.selects RX0 yX0_setPair yX0_setPair, Cond.code yX0_setPair cX0_setPair 3 none, Cond.methodLink RX0 15 yX0_get, Cond.instanceMethod yX0_get, Cond.selects RX0 yX0_get yX0_get]
def wsX4_moveStacked_r2 : List Cond := [Cond.code yX0_get cX0_get 2 (some .int), Cond.methodLink RX4 58 yX0_set, Cond.instanceMethod yX0_set, Cond.selects RX0 yX0_set yX0_set, Cond.code yX0_set cX0_set 3 none, Cond.methodLink RX4 55 yX0_get, Cond.methodLink RX4 238 yX0_push, Cond.instanceMethod yX0_push, Cond.selects RX0 yX0_push yX0_push, Cond.code yX0_push cX0_push 3 none, Cond.methodLink RX0 19 yX0_set, Cond.methodLink RX4 102 yX4_onward, Cond.instanceMethod yX4_onward, Cond.selects RX4 yX4_onward yX4_onward, Cond.initialized RX4, Cond.code yX4_onward cX4_onward 2 (some .int), Cond.fieldLink RX4 32 "FlagCore" "pc" "I"]
def wsX4_moveStacked : List Cond := .code yX4_moveStacked cX4_moveStacked 5 (some .int) :: ((wsX4_moveStacked_r1 ++ wsX4_moveStacked_r2) ++ wsX40 ++ wsX00)
def wsX4_moveBeside_r1 : List Cond := [Cond.fieldLink RX4 16 "FlagCore" "bytes" "LFlagCore$Bytes;", Cond.constant RX4 50 (65535), Cond.methodLink RX4 62 yX0_pair, Cond.instanceMethod yX0_pair, Cond.selects RX0 yX0_pair yX0_pair, Cond.initialized RX0, Cond.code yX0_pair cX0_pair 2 (some .int), Cond.fieldLink RX0 9 "FlagCore$Bytes" "row" "[I", Cond.methodLink RX4 229 yX4_transfer, Cond.instanceMethod yX4_transfer, Cond.selects RX4 yX4_transfer yX4_transfer, Cond.initialized RX4, Cond.code yX4_transfer cX4_transfer 4 none, Cond.methodLink RX4 173 yX3_d, Cond.static yX3_d, Cond.initialized RX3, Cond.code yX3_d cX3_d 1 (some .int), Cond.methodLink RX4 55 yX0_get, Cond.instanceMethod yX0_get, Cond.selects RX0 yX0_get yX0_get, Cond.code yX0_get cX0_get 2 (some .int), Cond.methodLink RX4 58 yX0_set, Cond.instanceMethod yX0_set, Cond.selects RX0 yX0_set yX0_set]
def wsX4_moveBeside_r2 : List Cond := [Cond.code yX0_set cX0_set 3 none, Cond.methodLink RX4 102 yX4_onward, Cond.instanceMethod yX4_onward, Cond.selects RX4 yX4_onward yX4_onward, Cond.code yX4_onward cX4_onward 2 (some .int), Cond.fieldLink RX4 32 "FlagCore" "pc" "I"]
def wsX4_moveBeside : List Cond := .code yX4_moveBeside cX4_moveBeside 5 (some .int) :: ((wsX4_moveBeside_r1 ++ wsX4_moveBeside_r2) ++ wsX40 ++ wsX00)
def wsX4_moveFromCode_r1 : List Cond := [Cond.fieldLink RX4 16 "FlagCore" "bytes" "LFlagCore$Bytes;", Cond.constant RX4 241 (38344), Cond.methodLink RX4 62 yX0_pair, Cond.instanceMethod yX0_pair, Cond.selects RX0 yX0_pair yX0_pair, Cond.initialized RX0, Cond.code yX0_pair cX0_pair 2 (some .int), Cond.fieldLink RX0 9 "FlagCore$Bytes" "row" "[I", Cond.methodLink RX4 51 yX4_cellAt, Cond.instanceMethod yX4_cellAt, Cond.selects RX4 yX4_cellAt yX4_cellAt, Cond.initialized RX4, Cond.code yX4_cellAt cX4_cellAt 2 (some .int), Cond.fieldLink RX4 9 "FlagCore" "cells" "[I", Cond.methodLink RX4 173 yX3_d, Cond.static yX3_d, Cond.initialized RX3, Cond.code yX3_d cX3_d 1 (some .int), Cond.methodLink RX4 58 yX0_set, Cond.instanceMethod yX0_set, Cond.selects RX0 yX0_set yX0_set, Cond.code yX0_set cX0_set 3 none, Cond.methodLink RX4 170 yX0_setPair, Cond.instanceMethod yX0_setPair]
def wsX4_moveFromCode_r2 : List Cond := [Cond.selects RX0 yX0_setPair yX0_setPair, Cond.code yX0_setPair cX0_setPair 3 none, Cond.methodLink RX4 102 yX4_onward, Cond.instanceMethod yX4_onward, Cond.selects RX4 yX4_onward yX4_onward, Cond.code yX4_onward cX4_onward 2 (some .int), Cond.fieldLink RX4 32 "FlagCore" "pc" "I"]
def wsX4_moveFromCode : List Cond := .code yX4_moveFromCode cX4_moveFromCode 4 (some .int) :: ((wsX4_moveFromCode_r1 ++ wsX4_moveFromCode_r2) ++ wsX40 ++ wsX00)
def wsX4_movePort : List Cond := .code yX4_movePort cX4_movePort 4 (some .int) :: ([.fieldLink RX4 16 "FlagCore" "bytes" "LFlagCore$Bytes;", .methodLink RX4 173 yX3_d, .static yX3_d, .initialized RX3, .code yX3_d cX3_d 1 (some .int), .methodLink RX4 55 yX0_get, .instanceMethod yX0_get, .selects RX0 yX0_get yX0_get, .initialized RX0, .code yX0_get cX0_get 2 (some .int), .fieldLink RX0 9 "FlagCore$Bytes" "row" "[I", .methodLink RX4 58 yX0_set, .instanceMethod yX0_set, .selects RX0 yX0_set yX0_set, .code yX0_set cX0_set 3 none, .methodLink RX4 102 yX4_onward, .instanceMethod yX4_onward, .selects RX4 yX4_onward yX4_onward, .initialized RX4, .code yX4_onward cX4_onward 2 (some .int), .fieldLink RX4 32 "FlagCore" "pc" "I"] ++ wsX40 ++ wsX00)
def wsX4_setPortBit : List Cond := .code yX4_setPortBit cX4_setPortBit 2 (some .int) :: ([.fieldLink RX4 16 "FlagCore" "bytes" "LFlagCore$Bytes;", .methodLink RX4 242 yX0_setBit, .instanceMethod yX0_setBit, .selects RX0 yX0_setBit yX0_setBit, .initialized RX0, .code yX0_setBit cX0_setBit 4 none, .methodLink RX0 15 yX0_get, .instanceMethod yX0_get, .selects RX0 yX0_get yX0_get, .code yX0_get cX0_get 2 (some .int), .fieldLink RX0 9 "FlagCore$Bytes" "row" "[I", .methodLink RX0 19 yX0_set, .instanceMethod yX0_set, .selects RX0 yX0_set yX0_set, .code yX0_set cX0_set 3 none, .methodLink RX4 102 yX4_onward, .instanceMethod yX4_onward, .selects RX4 yX4_onward yX4_onward, .initialized RX4, .code yX4_onward cX4_onward 2 (some .int), .fieldLink RX4 32 "FlagCore" "pc" "I"] ++ wsX40 ++ wsX00)
def wsX4_skipByPort_r1 : List Cond := [Cond.fieldLink RX4 16 "FlagCore" "bytes" "LFlagCore$Bytes;", Cond.methodLink RX4 245 yX0_bit, Cond.instanceMethod yX0_bit, Cond.selects RX0 yX0_bit yX0_bit, Cond.initialized RX0, Cond.code yX0_bit cX0_bit 3 (some .int), Cond.fieldLink RX0 9 "FlagCore$Bytes" "row" "[I", Cond.methodLink RX4 200 yX4_skip, Cond.instanceMethod yX4_skip, Cond.selects RX4 yX4_skip yX4_skip, Cond.initialized RX4, Cond.code yX4_skip cX4_skip 2 (some .int), Cond.fieldLink RX4 32 "FlagCore" "pc" "I", Cond.fieldLink RX4 29 "FlagCore" "tallies" "[I", Cond.methodLink RX4 102 yX4_onward, Cond.instanceMethod yX4_onward, Cond.selects RX4 yX4_onward yX4_onward, Cond.code yX4_onward cX4_onward 2 (some .int), Cond.methodLink RX4 51 yX4_cellAt, Cond.instanceMethod yX4_cellAt, Cond.selects RX4 yX4_cellAt yX4_cellAt, Cond.code yX4_cellAt cX4_cellAt 2 (some .int), Cond.fieldLink RX4 9 "FlagCore" "cells" "[I", Cond.methodLink RX4 74 yX3_hasNext]
def wsX4_skipByPort_r2 : List Cond := [Cond.static yX3_hasNext, Cond.initialized RX3, Cond.code yX3_hasNext cX3_hasNext 1 (some .boolean), Cond.constant RX3 9 (64527), Cond.constant RX3 10 (36864), Cond.constant RX3 11 (65036), Cond.constant RX3 12 (37900)]
def wsX4_skipByPort : List Cond := .code yX4_skipByPort cX4_skipByPort 2 (some .int) :: ((wsX4_skipByPort_r1 ++ wsX4_skipByPort_r2) ++ wsX40 ++ wsX00)
def wsX4_skipByBit_r1 : List Cond := [Cond.fieldLink RX4 16 "FlagCore" "bytes" "LFlagCore$Bytes;", Cond.methodLink RX4 173 yX3_d, Cond.static yX3_d, Cond.initialized RX3, Cond.code yX3_d cX3_d 1 (some .int), Cond.methodLink RX4 245 yX0_bit, Cond.instanceMethod yX0_bit, Cond.selects RX0 yX0_bit yX0_bit, Cond.initialized RX0, Cond.code yX0_bit cX0_bit 3 (some .int), Cond.fieldLink RX0 9 "FlagCore$Bytes" "row" "[I", Cond.methodLink RX4 200 yX4_skip, Cond.instanceMethod yX4_skip, Cond.selects RX4 yX4_skip yX4_skip, Cond.initialized RX4, Cond.code yX4_skip cX4_skip 2 (some .int), Cond.fieldLink RX4 32 "FlagCore" "pc" "I", Cond.fieldLink RX4 29 "FlagCore" "tallies" "[I", Cond.methodLink RX4 102 yX4_onward, Cond.instanceMethod yX4_onward, Cond.selects RX4 yX4_onward yX4_onward, Cond.code yX4_onward cX4_onward 2 (some .int), Cond.methodLink RX4 51 yX4_cellAt, Cond.instanceMethod yX4_cellAt]
def wsX4_skipByBit_r2 : List Cond := [Cond.selects RX4 yX4_cellAt yX4_cellAt, Cond.code yX4_cellAt cX4_cellAt 2 (some .int), Cond.fieldLink RX4 9 "FlagCore" "cells" "[I", Cond.methodLink RX4 74 yX3_hasNext, Cond.static yX3_hasNext, Cond.code yX3_hasNext cX3_hasNext 1 (some .boolean), Cond.constant RX3 9 (64527), Cond.constant RX3 10 (36864), Cond.constant RX3 11 (65036), Cond.constant RX3 12 (37900)]
def wsX4_skipByBit : List Cond := .code yX4_skipByBit cX4_skipByBit 2 (some .int) :: ((wsX4_skipByBit_r1 ++ wsX4_skipByBit_r2) ++ wsX40 ++ wsX00)
def wsX4_moveBit_r1 : List Cond := [Cond.fieldLink RX4 16 "FlagCore" "bytes" "LFlagCore$Bytes;", Cond.methodLink RX4 173 yX3_d, Cond.static yX3_d, Cond.initialized RX3, Cond.code yX3_d cX3_d 1 (some .int), Cond.methodLink RX4 80 yX0_flag, Cond.instanceMethod yX0_flag, Cond.selects RX0 yX0_flag yX0_flag, Cond.initialized RX0, Cond.code yX0_flag cX0_flag 2 (some .int), Cond.fieldLink RX0 9 "FlagCore$Bytes" "row" "[I", Cond.methodLink RX4 242 yX0_setBit, Cond.instanceMethod yX0_setBit, Cond.selects RX0 yX0_setBit yX0_setBit, Cond.code yX0_setBit cX0_setBit 4 none, Cond.methodLink RX0 15 yX0_get, Cond.instanceMethod yX0_get, Cond.selects RX0 yX0_get yX0_get, Cond.code yX0_get cX0_get 2 (some .int), Cond.methodLink RX0 19 yX0_set, Cond.instanceMethod yX0_set, Cond.selects RX0 yX0_set yX0_set, Cond.code yX0_set cX0_set 3 none, Cond.methodLink RX4 245 yX0_bit]
def wsX4_moveBit_r2 : List Cond := [Cond.instanceMethod yX0_bit, Cond.selects RX0 yX0_bit yX0_bit, Cond.code yX0_bit cX0_bit 3 (some .int), Cond.methodLink RX4 99 yX0_setFlag, Cond.instanceMethod yX0_setFlag, Cond.selects RX0 yX0_setFlag yX0_setFlag, Cond.code yX0_setFlag cX0_setFlag 3 none, Cond.methodLink RX0 23 yX0_setBit, Cond.methodLink RX4 102 yX4_onward, Cond.instanceMethod yX4_onward, Cond.selects RX4 yX4_onward yX4_onward, Cond.initialized RX4, Cond.code yX4_onward cX4_onward 2 (some .int), Cond.fieldLink RX4 32 "FlagCore" "pc" "I"]
def wsX4_moveBit : List Cond := .code yX4_moveBit cX4_moveBit 3 (some .int) :: ((wsX4_moveBit_r1 ++ wsX4_moveBit_r2) ++ wsX40 ++ wsX00)
def wsX4_jumpTo : List Cond := .code yX4_jumpTo cX4_jumpTo 2 (some .int) :: ([.fieldLink RX4 32 "FlagCore" "pc" "I"] ++ wsX40)
def wsX4_callTo : List Cond := .code yX4_callTo cX4_callTo 3 (some .int) :: ([.fieldLink RX4 16 "FlagCore" "bytes" "LFlagCore$Bytes;", .fieldLink RX4 29 "FlagCore" "tallies" "[I", .fieldLink RX4 32 "FlagCore" "pc" "I", .methodLink RX4 91 yX0_stacks, .instanceMethod yX0_stacks, .selects RX0 yX0_stacks yX0_stacks, .initialized RX0, .code yX0_stacks cX0_stacks 3 (some .boolean), .methodLink RX0 27 yX0_pair, .instanceMethod yX0_pair, .selects RX0 yX0_pair yX0_pair, .code yX0_pair cX0_pair 2 (some .int), .fieldLink RX0 9 "FlagCore$Bytes" "row" "[I", .methodLink RX0 19 yX0_set, .instanceMethod yX0_set, .selects RX0 yX0_set yX0_set, .code yX0_set cX0_set 3 none, .methodLink RX0 30 yX0_setPair, .instanceMethod yX0_setPair, .selects RX0 yX0_setPair yX0_setPair, .code yX0_setPair cX0_setPair 3 none] ++ wsX40 ++ wsX00)
def wsX4_jumpNear_r1 : List Cond := [Cond.fieldLink RX4 32 "FlagCore" "pc" "I", Cond.methodLink RX4 248 yX4_jumpTo, Cond.instanceMethod yX4_jumpTo, Cond.selects RX4 yX4_jumpTo yX4_jumpTo, Cond.initialized RX4, Cond.code yX4_jumpTo cX4_jumpTo 2 (some .int), Cond.methodLink RX4 251 yX4_callTo, Cond.instanceMethod yX4_callTo, Cond.selects RX4 yX4_callTo yX4_callTo, Cond.code yX4_callTo cX4_callTo 3 (some .int), Cond.fieldLink RX4 16 "FlagCore" "bytes" "LFlagCore$Bytes;", Cond.fieldLink RX4 29 "FlagCore" "tallies" "[I", Cond.methodLink RX4 91 yX0_stacks, Cond.instanceMethod yX0_stacks, Cond.selects RX0 yX0_stacks yX0_stacks, Cond.initialized RX0, Cond.code yX0_stacks cX0_stacks 3 (some .boolean), Cond.methodLink RX0 27 yX0_pair, Cond.instanceMethod yX0_pair, Cond.selects RX0 yX0_pair yX0_pair, Cond.code yX0_pair cX0_pair 2 (some .int), Cond.fieldLink RX0 9 "FlagCore$Bytes" "row" "[I", Cond.methodLink RX0 19 yX0_set, Cond.instanceMethod yX0_set]
def wsX4_jumpNear_r2 : List Cond := [Cond.selects RX0 yX0_set yX0_set, Cond.code yX0_set cX0_set 3 none, Cond.methodLink RX0 30 yX0_setPair, Cond.instanceMethod yX0_setPair, Cond.selects RX0 yX0_setPair yX0_setPair, Cond.code yX0_setPair cX0_setPair 3 none]
def wsX4_jumpNear : List Cond := .code yX4_jumpNear cX4_jumpNear 4 (some .int) :: ((wsX4_jumpNear_r1 ++ wsX4_jumpNear_r2) ++ wsX40 ++ wsX00)
def wsX4_branch : List Cond := .code yX4_branch cX4_branch 4 (some .int) :: ([.fieldLink RX4 16 "FlagCore" "bytes" "LFlagCore$Bytes;", .methodLink RX4 80 yX0_flag, .instanceMethod yX0_flag, .selects RX0 yX0_flag yX0_flag, .initialized RX0, .code yX0_flag cX0_flag 2 (some .int), .fieldLink RX0 9 "FlagCore$Bytes" "row" "[I", .methodLink RX4 102 yX4_onward, .instanceMethod yX4_onward, .selects RX4 yX4_onward yX4_onward, .initialized RX4, .code yX4_onward cX4_onward 2 (some .int), .fieldLink RX4 32 "FlagCore" "pc" "I"] ++ wsX40 ++ wsX00)
def wsX4_jumpFar_r1 : List Cond := [Cond.fieldLink RX4 32 "FlagCore" "pc" "I", Cond.methodLink RX4 51 yX4_cellAt, Cond.instanceMethod yX4_cellAt, Cond.selects RX4 yX4_cellAt yX4_cellAt, Cond.initialized RX4, Cond.code yX4_cellAt cX4_cellAt 2 (some .int), Cond.fieldLink RX4 9 "FlagCore" "cells" "[I", Cond.methodLink RX4 248 yX4_jumpTo, Cond.instanceMethod yX4_jumpTo, Cond.selects RX4 yX4_jumpTo yX4_jumpTo, Cond.code yX4_jumpTo cX4_jumpTo 2 (some .int), Cond.methodLink RX4 251 yX4_callTo, Cond.instanceMethod yX4_callTo, Cond.selects RX4 yX4_callTo yX4_callTo, Cond.code yX4_callTo cX4_callTo 3 (some .int), Cond.fieldLink RX4 16 "FlagCore" "bytes" "LFlagCore$Bytes;", Cond.fieldLink RX4 29 "FlagCore" "tallies" "[I", Cond.methodLink RX4 91 yX0_stacks, Cond.instanceMethod yX0_stacks, Cond.selects RX0 yX0_stacks yX0_stacks, Cond.initialized RX0, Cond.code yX0_stacks cX0_stacks 3 (some .boolean), Cond.methodLink RX0 27 yX0_pair, Cond.instanceMethod yX0_pair]
def wsX4_jumpFar_r2 : List Cond := [Cond.selects RX0 yX0_pair yX0_pair, Cond.code yX0_pair cX0_pair 2 (some .int), Cond.fieldLink RX0 9 "FlagCore$Bytes" "row" "[I", Cond.methodLink RX0 19 yX0_set, Cond.instanceMethod yX0_set, Cond.selects RX0 yX0_set yX0_set, Cond.code yX0_set cX0_set 3 none, Cond.methodLink RX0 30 yX0_setPair, Cond.instanceMethod yX0_setPair, Cond.selects RX0 yX0_setPair yX0_setPair, Cond.code yX0_setPair cX0_setPair 3 none]
def wsX4_jumpFar : List Cond := .code yX4_jumpFar cX4_jumpFar 3 (some .int) :: ((wsX4_jumpFar_r1 ++ wsX4_jumpFar_r2) ++ wsX40 ++ wsX00)
def wsX4_jumpToZ_r1 : List Cond := [Cond.fieldLink RX4 16 "FlagCore" "bytes" "LFlagCore$Bytes;", Cond.fieldLink RX4 32 "FlagCore" "pc" "I", Cond.methodLink RX4 62 yX0_pair, Cond.instanceMethod yX0_pair, Cond.selects RX0 yX0_pair yX0_pair, Cond.initialized RX0, Cond.code yX0_pair cX0_pair 2 (some .int), Cond.fieldLink RX0 9 "FlagCore$Bytes" "row" "[I", Cond.methodLink RX4 248 yX4_jumpTo, Cond.instanceMethod yX4_jumpTo, Cond.selects RX4 yX4_jumpTo yX4_jumpTo, Cond.initialized RX4, Cond.code yX4_jumpTo cX4_jumpTo 2 (some .int), Cond.methodLink RX4 251 yX4_callTo, Cond.instanceMethod yX4_callTo, Cond.selects RX4 yX4_callTo yX4_callTo, Cond.code yX4_callTo cX4_callTo 3 (some .int), Cond.fieldLink RX4 29 "FlagCore" "tallies" "[I", Cond.methodLink RX4 91 yX0_stacks, Cond.instanceMethod yX0_stacks, Cond.selects RX0 yX0_stacks yX0_stacks, Cond.code yX0_stacks cX0_stacks 3 (some .boolean), Cond.methodLink RX0 27 yX0_pair, Cond.methodLink RX0 19 yX0_set]
def wsX4_jumpToZ_r2 : List Cond := [Cond.instanceMethod yX0_set, Cond.selects RX0 yX0_set yX0_set, Cond.code yX0_set cX0_set 3 none, Cond.methodLink RX0 30 yX0_setPair, Cond.instanceMethod yX0_setPair, Cond.selects RX0 yX0_setPair yX0_setPair, Cond.code yX0_setPair cX0_setPair 3 none]
def wsX4_jumpToZ : List Cond := .code yX4_jumpToZ cX4_jumpToZ 3 (some .int) :: ((wsX4_jumpToZ_r1 ++ wsX4_jumpToZ_r2) ++ wsX40 ++ wsX00)
def wsX4_comeBack_r1 : List Cond := [Cond.fieldLink RX4 16 "FlagCore" "bytes" "LFlagCore$Bytes;", Cond.constant RX4 50 (65535), Cond.constant RX4 90 (38168), Cond.methodLink RX4 62 yX0_pair, Cond.instanceMethod yX0_pair, Cond.selects RX0 yX0_pair yX0_pair, Cond.initialized RX0, Cond.code yX0_pair cX0_pair 2 (some .int), Cond.fieldLink RX0 9 "FlagCore$Bytes" "row" "[I", Cond.methodLink RX4 235 yX0_pull, Cond.instanceMethod yX0_pull, Cond.selects RX0 yX0_pull yX0_pull, Cond.code yX0_pull cX0_pull 2 (some .int), Cond.methodLink RX0 27 yX0_pair, Cond.methodLink RX0 30 yX0_setPair, Cond.instanceMethod yX0_setPair, Cond.selects RX0 yX0_setPair yX0_setPair, Cond.code yX0_setPair cX0_setPair 3 none, Cond.methodLink RX0 15 yX0_get, Cond.instanceMethod yX0_get, Cond.selects RX0 yX0_get yX0_get, Cond.code yX0_get cX0_get 2 (some .int), Cond.methodLink RX4 99 yX0_setFlag, Cond.instanceMethod yX0_setFlag]
def wsX4_comeBack_r2 : List Cond := [Cond.selects RX0 yX0_setFlag yX0_setFlag, Cond.code yX0_setFlag cX0_setFlag 3 none, Cond.methodLink RX0 23 yX0_setBit, Cond.instanceMethod yX0_setBit, Cond.selects RX0 yX0_setBit yX0_setBit, Cond.code yX0_setBit cX0_setBit 4 none, Cond.methodLink RX0 19 yX0_set, Cond.instanceMethod yX0_set, Cond.selects RX0 yX0_set yX0_set, Cond.code yX0_set cX0_set 3 none, Cond.methodLink RX4 248 yX4_jumpTo, Cond.instanceMethod yX4_jumpTo, Cond.selects RX4 yX4_jumpTo yX4_jumpTo, Cond.initialized RX4, Cond.code yX4_jumpTo cX4_jumpTo 2 (some .int), Cond.fieldLink RX4 32 "FlagCore" "pc" "I"]
def wsX4_comeBack : List Cond := .code yX4_comeBack cX4_comeBack 5 (some .int) :: ((wsX4_comeBack_r1 ++ wsX4_comeBack_r2) ++ wsX40 ++ wsX00)
def wsX4_perform_r1 : List Cond := [Cond.methodLink RX4 69 yX3_groupOf, Cond.static yX3_groupOf, Cond.initialized RX3, Cond.code yX3_groupOf cX3_groupOf 1 (some .int), Cond.methodLink RX3 13 yX3_lowGroupOf, Cond.static yX3_lowGroupOf, Cond.code yX3_lowGroupOf cX3_lowGroupOf 1 (some .int), Cond.methodLink RX3 19 yX3_mixedGroupOf, Cond.static yX3_mixedGroupOf, Cond.code yX3_mixedGroupOf cX3_mixedGroupOf 1 (some .int), Cond.methodLink RX3 25 yX3_memoryGroupOf, Cond.static yX3_memoryGroupOf, Cond.code yX3_memoryGroupOf cX3_memoryGroupOf 1 (some .int), Cond.methodLink RX3 31 yX3_d, Cond.static yX3_d, Cond.code yX3_d cX3_d 1 (some .int), Cond.methodLink RX3 34 yX3_pointer, Cond.static yX3_pointer, Cond.code yX3_pointer cX3_pointer 1 (some .int), Cond.methodLink RX3 37 yX3_isOneOf, Cond.static yX3_isOneOf, Cond.code yX3_isOneOf cX3_isOneOf 2 (some .boolean), Cond.methodLink RX3 28 yX3_singleGroupOf, Cond.static yX3_singleGroupOf]
def wsX4_perform_r2 : List Cond := [Cond.code yX3_singleGroupOf cX3_singleGroupOf 1 (some .int), Cond.methodLink RX3 41 yX3_flagGroupOf, Cond.static yX3_flagGroupOf, Cond.code yX3_flagGroupOf cX3_flagGroupOf 1 (some .int), Cond.methodLink RX3 22 yX3_highGroupOf, Cond.static yX3_highGroupOf, Cond.code yX3_highGroupOf cX3_highGroupOf 1 (some .int), Cond.methodLink RX4 102 yX4_onward, Cond.instanceMethod yX4_onward, Cond.selects RX4 yX4_onward yX4_onward, Cond.initialized RX4, Cond.code yX4_onward cX4_onward 2 (some .int), Cond.fieldLink RX4 32 "FlagCore" "pc" "I", Cond.methodLink RX4 105 yX4_movePair, Cond.instanceMethod yX4_movePair, Cond.selects RX4 yX4_movePair yX4_movePair, Cond.code yX4_movePair cX4_movePair 2 (some .int), Cond.fieldLink RX4 16 "FlagCore" "bytes" "LFlagCore$Bytes;", Cond.methodLink RX4 62 yX0_pair, Cond.instanceMethod yX0_pair, Cond.selects RX0 yX0_pair yX0_pair, Cond.initialized RX0, Cond.code yX0_pair cX0_pair 2 (some .int), Cond.fieldLink RX0 9 "FlagCore$Bytes" "row" "[I"]
def wsX4_perform_r3 : List Cond := [Cond.methodLink RX4 170 yX0_setPair, Cond.instanceMethod yX0_setPair, Cond.selects RX0 yX0_setPair yX0_setPair, Cond.code yX0_setPair cX0_setPair 3 none, Cond.methodLink RX4 108 yX4_multiply, Cond.instanceMethod yX4_multiply, Cond.selects RX4 yX4_multiply yX4_multiply, Cond.code yX4_multiply cX4_multiply 2 (some .int), Cond.fieldLink RX4 25 "FlagCore" "sums" "LFlagCore$Sums;", Cond.methodLink RX4 173 yX3_d, Cond.methodLink RX4 55 yX0_get, Cond.instanceMethod yX0_get, Cond.selects RX0 yX0_get yX0_get, Cond.code yX0_get cX0_get 2 (some .int), Cond.methodLink RX4 176 yX3_r, Cond.static yX3_r, Cond.code yX3_r cX3_r 1 (some .int), Cond.methodLink RX4 179 yX2_product, Cond.instanceMethod yX2_product, Cond.selects RX2 yX2_product yX2_product, Cond.initialized RX2, Cond.code yX2_product cX2_product 2 none, Cond.methodLink RX2 41 yX2_keepProduct, Cond.instanceMethod yX2_keepProduct]
def wsX4_perform_r4 : List Cond := [Cond.selects RX2 yX2_keepProduct yX2_keepProduct, Cond.code yX2_keepProduct cX2_keepProduct 3 none, Cond.fieldLink RX2 13 "FlagCore$Sums" "bytes" "LFlagCore$Bytes;", Cond.constant RX2 40 (32768), Cond.constant RX2 35 (65535), Cond.methodLink RX2 44 yX0_setPair, Cond.methodLink RX2 21 yX0_setFlags, Cond.instanceMethod yX0_setFlags, Cond.selects RX0 yX0_setFlags yX0_setFlags, Cond.code yX0_setFlags cX0_setFlags 3 none, Cond.methodLink RX4 183 yX0_signed, Cond.instanceMethod yX0_signed, Cond.selects RX0 yX0_signed yX0_signed, Cond.code yX0_signed cX0_signed 2 (some .int), Cond.methodLink RX4 186 yX4_multiplyFew, Cond.instanceMethod yX4_multiplyFew, Cond.selects RX4 yX4_multiplyFew yX4_multiplyFew, Cond.code yX4_multiplyFew cX4_multiplyFew 4 none, Cond.methodLink RX4 190 yX2_fraction, Cond.instanceMethod yX2_fraction, Cond.selects RX2 yX2_fraction yX2_fraction, Cond.code yX2_fraction cX2_fraction 2 none, Cond.methodLink RX4 111 yX4_combine, Cond.instanceMethod yX4_combine]
def wsX4_perform_r5 : List Cond := [Cond.selects RX4 yX4_combine yX4_combine, Cond.code yX4_combine cX4_combine 6 (some .int), Cond.methodLink RX4 80 yX0_flag, Cond.instanceMethod yX0_flag, Cond.selects RX0 yX0_flag yX0_flag, Cond.code yX0_flag cX0_flag 2 (some .int), Cond.methodLink RX4 193 yX2_differenceOn, Cond.instanceMethod yX2_differenceOn, Cond.selects RX2 yX2_differenceOn yX2_differenceOn, Cond.code yX2_differenceOn cX2_differenceOn 5 (some .int), Cond.methodLink RX2 31 yX0_flag, Cond.methodLink RX2 27 yX2_subtract, Cond.instanceMethod yX2_subtract, Cond.selects RX2 yX2_subtract yX2_subtract, Cond.code yX2_subtract cX2_subtract 9 (some .int), Cond.methodLink RX2 17 yX2_signs, Cond.static yX2_signs, Cond.code yX2_signs cX2_signs 4 (some .int), Cond.methodLink RX4 58 yX0_set, Cond.instanceMethod yX0_set, Cond.selects RX0 yX0_set yX0_set, Cond.code yX0_set cX0_set 3 none, Cond.methodLink RX4 197 yX2_sum, Cond.instanceMethod yX2_sum]
def wsX4_perform_r6 : List Cond := [Cond.selects RX2 yX2_sum yX2_sum, Cond.code yX2_sum cX2_sum 8 (some .int), Cond.methodLink RX4 200 yX4_skip, Cond.instanceMethod yX4_skip, Cond.selects RX4 yX4_skip yX4_skip, Cond.code yX4_skip cX4_skip 2 (some .int), Cond.fieldLink RX4 29 "FlagCore" "tallies" "[I", Cond.methodLink RX4 51 yX4_cellAt, Cond.instanceMethod yX4_cellAt, Cond.selects RX4 yX4_cellAt yX4_cellAt, Cond.code yX4_cellAt cX4_cellAt 2 (some .int), Cond.fieldLink RX4 9 "FlagCore" "cells" "[I", Cond.methodLink RX4 74 yX3_hasNext, Cond.static yX3_hasNext, Cond.code yX3_hasNext cX3_hasNext 1 (some .boolean), Cond.constant RX3 9 (64527), Cond.constant RX3 10 (36864), Cond.constant RX3 11 (65036), Cond.constant RX3 12 (37900), Cond.methodLink RX4 204 yX2_difference, Cond.instanceMethod yX2_difference, Cond.selects RX2 yX2_difference yX2_difference, Cond.code yX2_difference cX2_difference 3 (some .int), Cond.methodLink RX4 208 yX2_logic]
def wsX4_perform_r7 : List Cond := [Cond.instanceMethod yX2_logic, Cond.selects RX2 yX2_logic yX2_logic, Cond.code yX2_logic cX2_logic 2 (some .int), Cond.methodLink RX4 114 yX4_combineWithNumber, Cond.instanceMethod yX4_combineWithNumber, Cond.selects RX4 yX4_combineWithNumber yX4_combineWithNumber, Cond.code yX4_combineWithNumber cX4_combineWithNumber 5 (some .int), Cond.methodLink RX4 117 yX4_change, Cond.instanceMethod yX4_change, Cond.selects RX4 yX4_change yX4_change, Cond.code yX4_change cX4_change 4 (some .int), Cond.methodLink RX4 211 yX2_inverse, Cond.instanceMethod yX2_inverse, Cond.selects RX2 yX2_inverse yX2_inverse, Cond.code yX2_inverse cX2_inverse 3 (some .int), Cond.methodLink RX4 214 yX2_more, Cond.instanceMethod yX2_more, Cond.selects RX2 yX2_more yX2_more, Cond.code yX2_more cX2_more 3 (some .int), Cond.methodLink RX4 217 yX2_right, Cond.instanceMethod yX2_right, Cond.selects RX2 yX2_right yX2_right, Cond.code yX2_right cX2_right 5 (some .int), Cond.methodLink RX4 220 yX2_less]
def wsX4_perform_r8 : List Cond := [Cond.instanceMethod yX2_less, Cond.selects RX2 yX2_less yX2_less, Cond.code yX2_less cX2_less 3 (some .int), Cond.methodLink RX4 120 yX4_setFlag, Cond.instanceMethod yX4_setFlag, Cond.selects RX4 yX4_setFlag yX4_setFlag, Cond.code yX4_setFlag cX4_setFlag 2 (some .int), Cond.methodLink RX4 99 yX0_setFlag, Cond.instanceMethod yX0_setFlag, Cond.selects RX0 yX0_setFlag yX0_setFlag, Cond.code yX0_setFlag cX0_setFlag 3 none, Cond.methodLink RX0 23 yX0_setBit, Cond.instanceMethod yX0_setBit, Cond.selects RX0 yX0_setBit yX0_setBit, Cond.code yX0_setBit cX0_setBit 4 none, Cond.methodLink RX0 15 yX0_get, Cond.methodLink RX0 19 yX0_set, Cond.methodLink RX4 122 yX4_changePair, Cond.instanceMethod yX4_changePair, Cond.selects RX4 yX4_changePair yX4_changePair, Cond.code yX4_changePair cX4_changePair 5 (some .int), Cond.methodLink RX4 223 yX2_pairMore, Cond.instanceMethod yX2_pairMore, Cond.selects RX2 yX2_pairMore yX2_pairMore]
def wsX4_perform_r9 : List Cond := [Cond.code yX2_pairMore cX2_pairMore 4 (some .int), Cond.methodLink RX2 36 yX2_pairFlags, Cond.instanceMethod yX2_pairFlags, Cond.selects RX2 yX2_pairFlags yX2_pairFlags, Cond.code yX2_pairFlags cX2_pairFlags 5 none, Cond.methodLink RX4 226 yX2_pairLess, Cond.instanceMethod yX2_pairLess, Cond.selects RX2 yX2_pairLess yX2_pairLess, Cond.code yX2_pairLess cX2_pairLess 4 (some .int), Cond.methodLink RX4 125 yX4_moveAtNext, Cond.instanceMethod yX4_moveAtNext, Cond.selects RX4 yX4_moveAtNext yX4_moveAtNext, Cond.code yX4_moveAtNext cX4_moveAtNext 3 (some .int), Cond.methodLink RX4 229 yX4_transfer, Cond.instanceMethod yX4_transfer, Cond.selects RX4 yX4_transfer yX4_transfer, Cond.code yX4_transfer cX4_transfer 4 none, Cond.methodLink RX4 128 yX4_movePointed, Cond.instanceMethod yX4_movePointed, Cond.selects RX4 yX4_movePointed yX4_movePointed, Cond.code yX4_movePointed cX4_movePointed 7 (some .int), Cond.constant RX4 50 (65535), Cond.methodLink RX4 232 yX3_pointer, Cond.methodLink RX4 131 yX4_moveStacked]
def wsX4_perform_r10 : List Cond := [Cond.instanceMethod yX4_moveStacked, Cond.selects RX4 yX4_moveStacked yX4_moveStacked, Cond.code yX4_moveStacked cX4_moveStacked 5 (some .int), Cond.methodLink RX4 235 yX0_pull, Cond.instanceMethod yX0_pull, Cond.selects RX0 yX0_pull yX0_pull, Cond.code yX0_pull cX0_pull 2 (some .int), Cond.methodLink RX0 27 yX0_pair, Cond.methodLink RX0 30 yX0_setPair, Cond.methodLink RX4 238 yX0_push, Cond.instanceMethod yX0_push, Cond.selects RX0 yX0_push yX0_push, Cond.code yX0_push cX0_push 3 none, Cond.methodLink RX4 134 yX4_moveBeside, Cond.instanceMethod yX4_moveBeside, Cond.selects RX4 yX4_moveBeside yX4_moveBeside, Cond.code yX4_moveBeside cX4_moveBeside 5 (some .int), Cond.methodLink RX4 137 yX4_moveFromCode, Cond.instanceMethod yX4_moveFromCode, Cond.selects RX4 yX4_moveFromCode yX4_moveFromCode, Cond.code yX4_moveFromCode cX4_moveFromCode 4 (some .int), Cond.constant RX4 241 (38344), Cond.methodLink RX4 140 yX4_movePort, Cond.instanceMethod yX4_movePort]
def wsX4_perform_r11 : List Cond := [Cond.selects RX4 yX4_movePort yX4_movePort, Cond.code yX4_movePort cX4_movePort 4 (some .int), Cond.methodLink RX4 143 yX4_setPortBit, Cond.instanceMethod yX4_setPortBit, Cond.selects RX4 yX4_setPortBit yX4_setPortBit, Cond.code yX4_setPortBit cX4_setPortBit 2 (some .int), Cond.methodLink RX4 242 yX0_setBit, Cond.methodLink RX4 146 yX4_skipByPort, Cond.instanceMethod yX4_skipByPort, Cond.selects RX4 yX4_skipByPort yX4_skipByPort, Cond.code yX4_skipByPort cX4_skipByPort 2 (some .int), Cond.methodLink RX4 245 yX0_bit, Cond.instanceMethod yX0_bit, Cond.selects RX0 yX0_bit yX0_bit, Cond.code yX0_bit cX0_bit 3 (some .int), Cond.methodLink RX4 149 yX4_skipByBit, Cond.instanceMethod yX4_skipByBit, Cond.selects RX4 yX4_skipByBit yX4_skipByBit, Cond.code yX4_skipByBit cX4_skipByBit 2 (some .int), Cond.methodLink RX4 152 yX4_moveBit, Cond.instanceMethod yX4_moveBit, Cond.selects RX4 yX4_moveBit yX4_moveBit, Cond.code yX4_moveBit cX4_moveBit 3 (some .int), Cond.methodLink RX4 155 yX4_jumpNear]
def wsX4_perform_r12 : List Cond := [Cond.instanceMethod yX4_jumpNear, Cond.selects RX4 yX4_jumpNear yX4_jumpNear, Cond.code yX4_jumpNear cX4_jumpNear 4 (some .int), Cond.methodLink RX4 248 yX4_jumpTo, Cond.instanceMethod yX4_jumpTo, Cond.selects RX4 yX4_jumpTo yX4_jumpTo, Cond.code yX4_jumpTo cX4_jumpTo 2 (some .int), Cond.methodLink RX4 251 yX4_callTo, Cond.instanceMethod yX4_callTo, Cond.selects RX4 yX4_callTo yX4_callTo, Cond.code yX4_callTo cX4_callTo 3 (some .int), Cond.methodLink RX4 91 yX0_stacks, Cond.instanceMethod yX0_stacks, Cond.selects RX0 yX0_stacks yX0_stacks, Cond.code yX0_stacks cX0_stacks 3 (some .boolean), Cond.methodLink RX4 158 yX4_branch, Cond.instanceMethod yX4_branch, Cond.selects RX4 yX4_branch yX4_branch, Cond.code yX4_branch cX4_branch 4 (some .int), Cond.methodLink RX4 161 yX4_jumpFar, Cond.instanceMethod yX4_jumpFar, Cond.selects RX4 yX4_jumpFar yX4_jumpFar, Cond.code yX4_jumpFar cX4_jumpFar 3 (some .int), Cond.methodLink RX4 164 yX4_jumpToZ]
def wsX4_perform_r13 : List Cond := [Cond.instanceMethod yX4_jumpToZ, Cond.selects RX4 yX4_jumpToZ yX4_jumpToZ, Cond.code yX4_jumpToZ cX4_jumpToZ 3 (some .int), Cond.methodLink RX4 167 yX4_comeBack, Cond.instanceMethod yX4_comeBack, Cond.selects RX4 yX4_comeBack yX4_comeBack, Cond.code yX4_comeBack cX4_comeBack 5 (some .int), Cond.constant RX4 90 (38168)]
def wsX4_perform : List Cond := .code yX4_perform cX4_perform 2 (some .int) :: ((wsX4_perform_r1 ++ (wsX4_perform_r2 ++ (wsX4_perform_r3 ++ (wsX4_perform_r4 ++ (wsX4_perform_r5 ++ (wsX4_perform_r6 ++ (wsX4_perform_r7 ++ (wsX4_perform_r8 ++ (wsX4_perform_r9 ++ (wsX4_perform_r10 ++ (wsX4_perform_r11 ++ (wsX4_perform_r12 ++ wsX4_perform_r13)))))))))))) ++ wsX40 ++ wsX00 ++ wsX20)
def wsX4_advance_r1 : List Cond := [Cond.fieldLink RX4 36 "FlagCore" "asked" "I", Cond.fieldLink RX4 42 "FlagCore" "waiting" "Z", Cond.fieldLink RX4 16 "FlagCore" "bytes" "LFlagCore$Bytes;", Cond.fieldLink RX4 39 "FlagCore" "latest" "I", Cond.fieldLink RX4 32 "FlagCore" "pc" "I", Cond.constant RX4 89 (38008), Cond.constant RX4 90 (38168), Cond.fieldLink RX4 29 "FlagCore" "tallies" "[I", Cond.methodLink RX4 80 yX0_flag, Cond.instanceMethod yX0_flag, Cond.selects RX0 yX0_flag yX0_flag, Cond.initialized RX0, Cond.code yX0_flag cX0_flag 2 (some .int), Cond.fieldLink RX0 9 "FlagCore$Bytes" "row" "[I", Cond.methodLink RX4 83 yX4_enterLeast, Cond.instanceMethod yX4_enterLeast, Cond.selects RX4 yX4_enterLeast yX4_enterLeast, Cond.initialized RX4, Cond.code yX4_enterLeast cX4_enterLeast 1 (some .int), Cond.methodLink RX4 91 yX0_stacks, Cond.instanceMethod yX0_stacks, Cond.selects RX0 yX0_stacks yX0_stacks, Cond.code yX0_stacks cX0_stacks 3 (some .boolean), Cond.methodLink RX0 27 yX0_pair]
def wsX4_advance_r2 : List Cond := [Cond.instanceMethod yX0_pair, Cond.selects RX0 yX0_pair yX0_pair, Cond.code yX0_pair cX0_pair 2 (some .int), Cond.methodLink RX0 19 yX0_set, Cond.instanceMethod yX0_set, Cond.selects RX0 yX0_set yX0_set, Cond.code yX0_set cX0_set 3 none, Cond.methodLink RX0 30 yX0_setPair, Cond.instanceMethod yX0_setPair, Cond.selects RX0 yX0_setPair yX0_setPair, Cond.code yX0_setPair cX0_setPair 3 none, Cond.methodLink RX4 94 yJ6_numberOfTrailingZeros_0f7a4, Cond.static yJ6_numberOfTrailingZeros_0f7a4, Cond.initialized RJ6, Cond.code yJ6_numberOfTrailingZeros_0f7a4 cJ6_numberOfTrailingZeros_0f7a4 2 (some .int), Cond.constant RJ6 264 (65536), Cond.methodLink RX4 99 yX0_setFlag, Cond.instanceMethod yX0_setFlag, Cond.selects RX0 yX0_setFlag yX0_setFlag, Cond.code yX0_setFlag cX0_setFlag 3 none, Cond.methodLink RX0 23 yX0_setBit, Cond.instanceMethod yX0_setBit, Cond.selects RX0 yX0_setBit yX0_setBit, Cond.code yX0_setBit cX0_setBit 4 none]
def wsX4_advance_r3 : List Cond := [Cond.methodLink RX0 15 yX0_get, Cond.instanceMethod yX0_get, Cond.selects RX0 yX0_get yX0_get, Cond.code yX0_get cX0_get 2 (some .int), Cond.methodLink RX4 51 yX4_cellAt, Cond.instanceMethod yX4_cellAt, Cond.selects RX4 yX4_cellAt yX4_cellAt, Cond.code yX4_cellAt cX4_cellAt 2 (some .int), Cond.fieldLink RX4 9 "FlagCore" "cells" "[I", Cond.methodLink RX4 86 yX4_perform, Cond.instanceMethod yX4_perform, Cond.selects RX4 yX4_perform yX4_perform, Cond.code yX4_perform cX4_perform 2 (some .int), Cond.methodLink RX4 69 yX3_groupOf, Cond.static yX3_groupOf, Cond.initialized RX3, Cond.code yX3_groupOf cX3_groupOf 1 (some .int), Cond.methodLink RX3 13 yX3_lowGroupOf, Cond.static yX3_lowGroupOf, Cond.code yX3_lowGroupOf cX3_lowGroupOf 1 (some .int), Cond.methodLink RX3 19 yX3_mixedGroupOf, Cond.static yX3_mixedGroupOf, Cond.code yX3_mixedGroupOf cX3_mixedGroupOf 1 (some .int), Cond.methodLink RX3 25 yX3_memoryGroupOf]
def wsX4_advance_r4 : List Cond := [Cond.static yX3_memoryGroupOf, Cond.code yX3_memoryGroupOf cX3_memoryGroupOf 1 (some .int), Cond.methodLink RX3 31 yX3_d, Cond.static yX3_d, Cond.code yX3_d cX3_d 1 (some .int), Cond.methodLink RX3 34 yX3_pointer, Cond.static yX3_pointer, Cond.code yX3_pointer cX3_pointer 1 (some .int), Cond.methodLink RX3 37 yX3_isOneOf, Cond.static yX3_isOneOf, Cond.code yX3_isOneOf cX3_isOneOf 2 (some .boolean), Cond.methodLink RX3 28 yX3_singleGroupOf, Cond.static yX3_singleGroupOf, Cond.code yX3_singleGroupOf cX3_singleGroupOf 1 (some .int), Cond.methodLink RX3 41 yX3_flagGroupOf, Cond.static yX3_flagGroupOf, Cond.code yX3_flagGroupOf cX3_flagGroupOf 1 (some .int), Cond.methodLink RX3 22 yX3_highGroupOf, Cond.static yX3_highGroupOf, Cond.code yX3_highGroupOf cX3_highGroupOf 1 (some .int), Cond.methodLink RX4 102 yX4_onward, Cond.instanceMethod yX4_onward, Cond.selects RX4 yX4_onward yX4_onward, Cond.code yX4_onward cX4_onward 2 (some .int)]
def wsX4_advance_r5 : List Cond := [Cond.methodLink RX4 105 yX4_movePair, Cond.instanceMethod yX4_movePair, Cond.selects RX4 yX4_movePair yX4_movePair, Cond.code yX4_movePair cX4_movePair 2 (some .int), Cond.methodLink RX4 62 yX0_pair, Cond.methodLink RX4 170 yX0_setPair, Cond.methodLink RX4 108 yX4_multiply, Cond.instanceMethod yX4_multiply, Cond.selects RX4 yX4_multiply yX4_multiply, Cond.code yX4_multiply cX4_multiply 2 (some .int), Cond.fieldLink RX4 25 "FlagCore" "sums" "LFlagCore$Sums;", Cond.methodLink RX4 173 yX3_d, Cond.methodLink RX4 55 yX0_get, Cond.methodLink RX4 176 yX3_r, Cond.static yX3_r, Cond.code yX3_r cX3_r 1 (some .int), Cond.methodLink RX4 179 yX2_product, Cond.instanceMethod yX2_product, Cond.selects RX2 yX2_product yX2_product, Cond.initialized RX2, Cond.code yX2_product cX2_product 2 none, Cond.methodLink RX2 41 yX2_keepProduct, Cond.instanceMethod yX2_keepProduct, Cond.selects RX2 yX2_keepProduct yX2_keepProduct]
def wsX4_advance_r6 : List Cond := [Cond.code yX2_keepProduct cX2_keepProduct 3 none, Cond.fieldLink RX2 13 "FlagCore$Sums" "bytes" "LFlagCore$Bytes;", Cond.constant RX2 40 (32768), Cond.constant RX2 35 (65535), Cond.methodLink RX2 44 yX0_setPair, Cond.methodLink RX2 21 yX0_setFlags, Cond.instanceMethod yX0_setFlags, Cond.selects RX0 yX0_setFlags yX0_setFlags, Cond.code yX0_setFlags cX0_setFlags 3 none, Cond.methodLink RX4 183 yX0_signed, Cond.instanceMethod yX0_signed, Cond.selects RX0 yX0_signed yX0_signed, Cond.code yX0_signed cX0_signed 2 (some .int), Cond.methodLink RX4 186 yX4_multiplyFew, Cond.instanceMethod yX4_multiplyFew, Cond.selects RX4 yX4_multiplyFew yX4_multiplyFew, Cond.code yX4_multiplyFew cX4_multiplyFew 4 none, Cond.methodLink RX4 190 yX2_fraction, Cond.instanceMethod yX2_fraction, Cond.selects RX2 yX2_fraction yX2_fraction, Cond.code yX2_fraction cX2_fraction 2 none, Cond.methodLink RX4 111 yX4_combine, Cond.instanceMethod yX4_combine, Cond.selects RX4 yX4_combine yX4_combine]
def wsX4_advance_r7 : List Cond := [Cond.code yX4_combine cX4_combine 6 (some .int), Cond.methodLink RX4 193 yX2_differenceOn, Cond.instanceMethod yX2_differenceOn, Cond.selects RX2 yX2_differenceOn yX2_differenceOn, Cond.code yX2_differenceOn cX2_differenceOn 5 (some .int), Cond.methodLink RX2 31 yX0_flag, Cond.methodLink RX2 27 yX2_subtract, Cond.instanceMethod yX2_subtract, Cond.selects RX2 yX2_subtract yX2_subtract, Cond.code yX2_subtract cX2_subtract 9 (some .int), Cond.methodLink RX2 17 yX2_signs, Cond.static yX2_signs, Cond.code yX2_signs cX2_signs 4 (some .int), Cond.methodLink RX4 58 yX0_set, Cond.methodLink RX4 197 yX2_sum, Cond.instanceMethod yX2_sum, Cond.selects RX2 yX2_sum yX2_sum, Cond.code yX2_sum cX2_sum 8 (some .int), Cond.methodLink RX4 200 yX4_skip, Cond.instanceMethod yX4_skip, Cond.selects RX4 yX4_skip yX4_skip, Cond.code yX4_skip cX4_skip 2 (some .int), Cond.methodLink RX4 74 yX3_hasNext, Cond.static yX3_hasNext]
def wsX4_advance_r8 : List Cond := [Cond.code yX3_hasNext cX3_hasNext 1 (some .boolean), Cond.constant RX3 9 (64527), Cond.constant RX3 10 (36864), Cond.constant RX3 11 (65036), Cond.constant RX3 12 (37900), Cond.methodLink RX4 204 yX2_difference, Cond.instanceMethod yX2_difference, Cond.selects RX2 yX2_difference yX2_difference, Cond.code yX2_difference cX2_difference 3 (some .int), Cond.methodLink RX4 208 yX2_logic, Cond.instanceMethod yX2_logic, Cond.selects RX2 yX2_logic yX2_logic, Cond.code yX2_logic cX2_logic 2 (some .int), Cond.methodLink RX4 114 yX4_combineWithNumber, Cond.instanceMethod yX4_combineWithNumber, Cond.selects RX4 yX4_combineWithNumber yX4_combineWithNumber, Cond.code yX4_combineWithNumber cX4_combineWithNumber 5 (some .int), Cond.methodLink RX4 117 yX4_change, Cond.instanceMethod yX4_change, Cond.selects RX4 yX4_change yX4_change, Cond.code yX4_change cX4_change 4 (some .int), Cond.methodLink RX4 211 yX2_inverse, Cond.instanceMethod yX2_inverse, Cond.selects RX2 yX2_inverse yX2_inverse]
def wsX4_advance_r9 : List Cond := [Cond.code yX2_inverse cX2_inverse 3 (some .int), Cond.methodLink RX4 214 yX2_more, Cond.instanceMethod yX2_more, Cond.selects RX2 yX2_more yX2_more, Cond.code yX2_more cX2_more 3 (some .int), Cond.methodLink RX4 217 yX2_right, Cond.instanceMethod yX2_right, Cond.selects RX2 yX2_right yX2_right, Cond.code yX2_right cX2_right 5 (some .int), Cond.methodLink RX4 220 yX2_less, Cond.instanceMethod yX2_less, Cond.selects RX2 yX2_less yX2_less, Cond.code yX2_less cX2_less 3 (some .int), Cond.methodLink RX4 120 yX4_setFlag, Cond.instanceMethod yX4_setFlag, Cond.selects RX4 yX4_setFlag yX4_setFlag, Cond.code yX4_setFlag cX4_setFlag 2 (some .int), Cond.methodLink RX4 122 yX4_changePair, Cond.instanceMethod yX4_changePair, Cond.selects RX4 yX4_changePair yX4_changePair, Cond.code yX4_changePair cX4_changePair 5 (some .int), Cond.methodLink RX4 223 yX2_pairMore, Cond.instanceMethod yX2_pairMore, Cond.selects RX2 yX2_pairMore yX2_pairMore]
def wsX4_advance_r10 : List Cond := [Cond.code yX2_pairMore cX2_pairMore 4 (some .int), Cond.methodLink RX2 36 yX2_pairFlags, Cond.instanceMethod yX2_pairFlags, Cond.selects RX2 yX2_pairFlags yX2_pairFlags, Cond.code yX2_pairFlags cX2_pairFlags 5 none, Cond.methodLink RX4 226 yX2_pairLess, Cond.instanceMethod yX2_pairLess, Cond.selects RX2 yX2_pairLess yX2_pairLess, Cond.code yX2_pairLess cX2_pairLess 4 (some .int), Cond.methodLink RX4 125 yX4_moveAtNext, Cond.instanceMethod yX4_moveAtNext, Cond.selects RX4 yX4_moveAtNext yX4_moveAtNext, Cond.code yX4_moveAtNext cX4_moveAtNext 3 (some .int), Cond.methodLink RX4 229 yX4_transfer, Cond.instanceMethod yX4_transfer, Cond.selects RX4 yX4_transfer yX4_transfer, Cond.code yX4_transfer cX4_transfer 4 none, Cond.methodLink RX4 128 yX4_movePointed, Cond.instanceMethod yX4_movePointed, Cond.selects RX4 yX4_movePointed yX4_movePointed, Cond.code yX4_movePointed cX4_movePointed 7 (some .int), Cond.constant RX4 50 (65535), Cond.methodLink RX4 232 yX3_pointer, Cond.methodLink RX4 131 yX4_moveStacked]
def wsX4_advance_r11 : List Cond := [Cond.instanceMethod yX4_moveStacked, Cond.selects RX4 yX4_moveStacked yX4_moveStacked, Cond.code yX4_moveStacked cX4_moveStacked 5 (some .int), Cond.methodLink RX4 235 yX0_pull, Cond.instanceMethod yX0_pull, Cond.selects RX0 yX0_pull yX0_pull, Cond.code yX0_pull cX0_pull 2 (some .int), Cond.methodLink RX4 238 yX0_push, Cond.instanceMethod yX0_push, Cond.selects RX0 yX0_push yX0_push, Cond.code yX0_push cX0_push 3 none, Cond.methodLink RX4 134 yX4_moveBeside, Cond.instanceMethod yX4_moveBeside, Cond.selects RX4 yX4_moveBeside yX4_moveBeside, Cond.code yX4_moveBeside cX4_moveBeside 5 (some .int), Cond.methodLink RX4 137 yX4_moveFromCode, Cond.instanceMethod yX4_moveFromCode, Cond.selects RX4 yX4_moveFromCode yX4_moveFromCode, Cond.code yX4_moveFromCode cX4_moveFromCode 4 (some .int), Cond.constant RX4 241 (38344), Cond.methodLink RX4 140 yX4_movePort, Cond.instanceMethod yX4_movePort, Cond.selects RX4 yX4_movePort yX4_movePort, Cond.code yX4_movePort cX4_movePort 4 (some .int)]
def wsX4_advance_r12 : List Cond := [Cond.methodLink RX4 143 yX4_setPortBit, Cond.instanceMethod yX4_setPortBit, Cond.selects RX4 yX4_setPortBit yX4_setPortBit, Cond.code yX4_setPortBit cX4_setPortBit 2 (some .int), Cond.methodLink RX4 242 yX0_setBit, Cond.methodLink RX4 146 yX4_skipByPort, Cond.instanceMethod yX4_skipByPort, Cond.selects RX4 yX4_skipByPort yX4_skipByPort, Cond.code yX4_skipByPort cX4_skipByPort 2 (some .int), Cond.methodLink RX4 245 yX0_bit, Cond.instanceMethod yX0_bit, Cond.selects RX0 yX0_bit yX0_bit, Cond.code yX0_bit cX0_bit 3 (some .int), Cond.methodLink RX4 149 yX4_skipByBit, Cond.instanceMethod yX4_skipByBit, Cond.selects RX4 yX4_skipByBit yX4_skipByBit, Cond.code yX4_skipByBit cX4_skipByBit 2 (some .int), Cond.methodLink RX4 152 yX4_moveBit, Cond.instanceMethod yX4_moveBit, Cond.selects RX4 yX4_moveBit yX4_moveBit, Cond.code yX4_moveBit cX4_moveBit 3 (some .int), Cond.methodLink RX4 155 yX4_jumpNear, Cond.instanceMethod yX4_jumpNear, Cond.selects RX4 yX4_jumpNear yX4_jumpNear]
def wsX4_advance_r13 : List Cond := [Cond.code yX4_jumpNear cX4_jumpNear 4 (some .int), Cond.methodLink RX4 248 yX4_jumpTo, Cond.instanceMethod yX4_jumpTo, Cond.selects RX4 yX4_jumpTo yX4_jumpTo, Cond.code yX4_jumpTo cX4_jumpTo 2 (some .int), Cond.methodLink RX4 251 yX4_callTo, Cond.instanceMethod yX4_callTo, Cond.selects RX4 yX4_callTo yX4_callTo, Cond.code yX4_callTo cX4_callTo 3 (some .int), Cond.methodLink RX4 158 yX4_branch, Cond.instanceMethod yX4_branch, Cond.selects RX4 yX4_branch yX4_branch, Cond.code yX4_branch cX4_branch 4 (some .int), Cond.methodLink RX4 161 yX4_jumpFar, Cond.instanceMethod yX4_jumpFar, Cond.selects RX4 yX4_jumpFar yX4_jumpFar, Cond.code yX4_jumpFar cX4_jumpFar 3 (some .int), Cond.methodLink RX4 164 yX4_jumpToZ, Cond.instanceMethod yX4_jumpToZ, Cond.selects RX4 yX4_jumpToZ yX4_jumpToZ, Cond.code yX4_jumpToZ cX4_jumpToZ 3 (some .int), Cond.methodLink RX4 167 yX4_comeBack, Cond.instanceMethod yX4_comeBack, Cond.selects RX4 yX4_comeBack yX4_comeBack]
def wsX4_advance_r14 : List Cond := [Cond.code yX4_comeBack cX4_comeBack 5 (some .int)]
def wsX4_advance : List Cond := .code yX4_advance cX4_advance 2 (some .int) :: ((wsX4_advance_r1 ++ (wsX4_advance_r2 ++ (wsX4_advance_r3 ++ (wsX4_advance_r4 ++ (wsX4_advance_r5 ++ (wsX4_advance_r6 ++ (wsX4_advance_r7 ++ (wsX4_advance_r8 ++ (wsX4_advance_r9 ++ (wsX4_advance_r10 ++ (wsX4_advance_r11 ++ (wsX4_advance_r12 ++ (wsX4_advance_r13 ++ wsX4_advance_r14))))))))))))) ++ wsX40 ++ wsX00 ++ wsX20)
def wsX4_step_r1 : List Cond := [Cond.methodLink RX4 65 yX4_advance, Cond.instanceMethod yX4_advance, Cond.selects RX4 yX4_advance yX4_advance, Cond.initialized RX4, Cond.code yX4_advance cX4_advance 2 (some .int), Cond.fieldLink RX4 36 "FlagCore" "asked" "I", Cond.fieldLink RX4 42 "FlagCore" "waiting" "Z", Cond.fieldLink RX4 16 "FlagCore" "bytes" "LFlagCore$Bytes;", Cond.fieldLink RX4 39 "FlagCore" "latest" "I", Cond.fieldLink RX4 32 "FlagCore" "pc" "I", Cond.constant RX4 89 (38008), Cond.constant RX4 90 (38168), Cond.fieldLink RX4 29 "FlagCore" "tallies" "[I", Cond.methodLink RX4 80 yX0_flag, Cond.instanceMethod yX0_flag, Cond.selects RX0 yX0_flag yX0_flag, Cond.initialized RX0, Cond.code yX0_flag cX0_flag 2 (some .int), Cond.fieldLink RX0 9 "FlagCore$Bytes" "row" "[I", Cond.methodLink RX4 83 yX4_enterLeast, Cond.instanceMethod yX4_enterLeast, Cond.selects RX4 yX4_enterLeast yX4_enterLeast, Cond.code yX4_enterLeast cX4_enterLeast 1 (some .int), Cond.methodLink RX4 91 yX0_stacks]
def wsX4_step_r2 : List Cond := [Cond.instanceMethod yX0_stacks, Cond.selects RX0 yX0_stacks yX0_stacks, Cond.code yX0_stacks cX0_stacks 3 (some .boolean), Cond.methodLink RX0 27 yX0_pair, Cond.instanceMethod yX0_pair, Cond.selects RX0 yX0_pair yX0_pair, Cond.code yX0_pair cX0_pair 2 (some .int), Cond.methodLink RX0 19 yX0_set, Cond.instanceMethod yX0_set, Cond.selects RX0 yX0_set yX0_set, Cond.code yX0_set cX0_set 3 none, Cond.methodLink RX0 30 yX0_setPair, Cond.instanceMethod yX0_setPair, Cond.selects RX0 yX0_setPair yX0_setPair, Cond.code yX0_setPair cX0_setPair 3 none, Cond.methodLink RX4 94 yJ6_numberOfTrailingZeros_0f7a4, Cond.static yJ6_numberOfTrailingZeros_0f7a4, Cond.initialized RJ6, Cond.code yJ6_numberOfTrailingZeros_0f7a4 cJ6_numberOfTrailingZeros_0f7a4 2 (some .int), Cond.constant RJ6 264 (65536), Cond.methodLink RX4 99 yX0_setFlag, Cond.instanceMethod yX0_setFlag, Cond.selects RX0 yX0_setFlag yX0_setFlag, Cond.code yX0_setFlag cX0_setFlag 3 none]
def wsX4_step_r3 : List Cond := [Cond.methodLink RX0 23 yX0_setBit, Cond.instanceMethod yX0_setBit, Cond.selects RX0 yX0_setBit yX0_setBit, Cond.code yX0_setBit cX0_setBit 4 none, Cond.methodLink RX0 15 yX0_get, Cond.instanceMethod yX0_get, Cond.selects RX0 yX0_get yX0_get, Cond.code yX0_get cX0_get 2 (some .int), Cond.methodLink RX4 51 yX4_cellAt, Cond.instanceMethod yX4_cellAt, Cond.selects RX4 yX4_cellAt yX4_cellAt, Cond.code yX4_cellAt cX4_cellAt 2 (some .int), Cond.fieldLink RX4 9 "FlagCore" "cells" "[I", Cond.methodLink RX4 86 yX4_perform, Cond.instanceMethod yX4_perform, Cond.selects RX4 yX4_perform yX4_perform, Cond.code yX4_perform cX4_perform 2 (some .int), Cond.methodLink RX4 69 yX3_groupOf, Cond.static yX3_groupOf, Cond.initialized RX3, Cond.code yX3_groupOf cX3_groupOf 1 (some .int), Cond.methodLink RX3 13 yX3_lowGroupOf, Cond.static yX3_lowGroupOf, Cond.code yX3_lowGroupOf cX3_lowGroupOf 1 (some .int)]
def wsX4_step_r4 : List Cond := [Cond.methodLink RX3 19 yX3_mixedGroupOf, Cond.static yX3_mixedGroupOf, Cond.code yX3_mixedGroupOf cX3_mixedGroupOf 1 (some .int), Cond.methodLink RX3 25 yX3_memoryGroupOf, Cond.static yX3_memoryGroupOf, Cond.code yX3_memoryGroupOf cX3_memoryGroupOf 1 (some .int), Cond.methodLink RX3 31 yX3_d, Cond.static yX3_d, Cond.code yX3_d cX3_d 1 (some .int), Cond.methodLink RX3 34 yX3_pointer, Cond.static yX3_pointer, Cond.code yX3_pointer cX3_pointer 1 (some .int), Cond.methodLink RX3 37 yX3_isOneOf, Cond.static yX3_isOneOf, Cond.code yX3_isOneOf cX3_isOneOf 2 (some .boolean), Cond.methodLink RX3 28 yX3_singleGroupOf, Cond.static yX3_singleGroupOf, Cond.code yX3_singleGroupOf cX3_singleGroupOf 1 (some .int), Cond.methodLink RX3 41 yX3_flagGroupOf, Cond.static yX3_flagGroupOf, Cond.code yX3_flagGroupOf cX3_flagGroupOf 1 (some .int), Cond.methodLink RX3 22 yX3_highGroupOf, Cond.static yX3_highGroupOf, Cond.code yX3_highGroupOf cX3_highGroupOf 1 (some .int)]
def wsX4_step_r5 : List Cond := [Cond.methodLink RX4 102 yX4_onward, Cond.instanceMethod yX4_onward, Cond.selects RX4 yX4_onward yX4_onward, Cond.code yX4_onward cX4_onward 2 (some .int), Cond.methodLink RX4 105 yX4_movePair, Cond.instanceMethod yX4_movePair, Cond.selects RX4 yX4_movePair yX4_movePair, Cond.code yX4_movePair cX4_movePair 2 (some .int), Cond.methodLink RX4 62 yX0_pair, Cond.methodLink RX4 170 yX0_setPair, Cond.methodLink RX4 108 yX4_multiply, Cond.instanceMethod yX4_multiply, Cond.selects RX4 yX4_multiply yX4_multiply, Cond.code yX4_multiply cX4_multiply 2 (some .int), Cond.fieldLink RX4 25 "FlagCore" "sums" "LFlagCore$Sums;", Cond.methodLink RX4 173 yX3_d, Cond.methodLink RX4 55 yX0_get, Cond.methodLink RX4 176 yX3_r, Cond.static yX3_r, Cond.code yX3_r cX3_r 1 (some .int), Cond.methodLink RX4 179 yX2_product, Cond.instanceMethod yX2_product, Cond.selects RX2 yX2_product yX2_product, Cond.initialized RX2]
def wsX4_step_r6 : List Cond := [Cond.code yX2_product cX2_product 2 none, Cond.methodLink RX2 41 yX2_keepProduct, Cond.instanceMethod yX2_keepProduct, Cond.selects RX2 yX2_keepProduct yX2_keepProduct, Cond.code yX2_keepProduct cX2_keepProduct 3 none, Cond.fieldLink RX2 13 "FlagCore$Sums" "bytes" "LFlagCore$Bytes;", Cond.constant RX2 40 (32768), Cond.constant RX2 35 (65535), Cond.methodLink RX2 44 yX0_setPair, Cond.methodLink RX2 21 yX0_setFlags, Cond.instanceMethod yX0_setFlags, Cond.selects RX0 yX0_setFlags yX0_setFlags, Cond.code yX0_setFlags cX0_setFlags 3 none, Cond.methodLink RX4 183 yX0_signed, Cond.instanceMethod yX0_signed, Cond.selects RX0 yX0_signed yX0_signed, Cond.code yX0_signed cX0_signed 2 (some .int), Cond.methodLink RX4 186 yX4_multiplyFew, Cond.instanceMethod yX4_multiplyFew, Cond.selects RX4 yX4_multiplyFew yX4_multiplyFew, Cond.code yX4_multiplyFew cX4_multiplyFew 4 none, Cond.methodLink RX4 190 yX2_fraction, Cond.instanceMethod yX2_fraction, Cond.selects RX2 yX2_fraction yX2_fraction]
def wsX4_step_r7 : List Cond := [Cond.code yX2_fraction cX2_fraction 2 none, Cond.methodLink RX4 111 yX4_combine, Cond.instanceMethod yX4_combine, Cond.selects RX4 yX4_combine yX4_combine, Cond.code yX4_combine cX4_combine 6 (some .int), Cond.methodLink RX4 193 yX2_differenceOn, Cond.instanceMethod yX2_differenceOn, Cond.selects RX2 yX2_differenceOn yX2_differenceOn, Cond.code yX2_differenceOn cX2_differenceOn 5 (some .int), Cond.methodLink RX2 31 yX0_flag, Cond.methodLink RX2 27 yX2_subtract, Cond.instanceMethod yX2_subtract, Cond.selects RX2 yX2_subtract yX2_subtract, Cond.code yX2_subtract cX2_subtract 9 (some .int), Cond.methodLink RX2 17 yX2_signs, Cond.static yX2_signs, Cond.code yX2_signs cX2_signs 4 (some .int), Cond.methodLink RX4 58 yX0_set, Cond.methodLink RX4 197 yX2_sum, Cond.instanceMethod yX2_sum, Cond.selects RX2 yX2_sum yX2_sum, Cond.code yX2_sum cX2_sum 8 (some .int), Cond.methodLink RX4 200 yX4_skip, Cond.instanceMethod yX4_skip]
def wsX4_step_r8 : List Cond := [Cond.selects RX4 yX4_skip yX4_skip, Cond.code yX4_skip cX4_skip 2 (some .int), Cond.methodLink RX4 74 yX3_hasNext, Cond.static yX3_hasNext, Cond.code yX3_hasNext cX3_hasNext 1 (some .boolean), Cond.constant RX3 9 (64527), Cond.constant RX3 10 (36864), Cond.constant RX3 11 (65036), Cond.constant RX3 12 (37900), Cond.methodLink RX4 204 yX2_difference, Cond.instanceMethod yX2_difference, Cond.selects RX2 yX2_difference yX2_difference, Cond.code yX2_difference cX2_difference 3 (some .int), Cond.methodLink RX4 208 yX2_logic, Cond.instanceMethod yX2_logic, Cond.selects RX2 yX2_logic yX2_logic, Cond.code yX2_logic cX2_logic 2 (some .int), Cond.methodLink RX4 114 yX4_combineWithNumber, Cond.instanceMethod yX4_combineWithNumber, Cond.selects RX4 yX4_combineWithNumber yX4_combineWithNumber, Cond.code yX4_combineWithNumber cX4_combineWithNumber 5 (some .int), Cond.methodLink RX4 117 yX4_change, Cond.instanceMethod yX4_change, Cond.selects RX4 yX4_change yX4_change]
def wsX4_step_r9 : List Cond := [Cond.code yX4_change cX4_change 4 (some .int), Cond.methodLink RX4 211 yX2_inverse, Cond.instanceMethod yX2_inverse, Cond.selects RX2 yX2_inverse yX2_inverse, Cond.code yX2_inverse cX2_inverse 3 (some .int), Cond.methodLink RX4 214 yX2_more, Cond.instanceMethod yX2_more, Cond.selects RX2 yX2_more yX2_more, Cond.code yX2_more cX2_more 3 (some .int), Cond.methodLink RX4 217 yX2_right, Cond.instanceMethod yX2_right, Cond.selects RX2 yX2_right yX2_right, Cond.code yX2_right cX2_right 5 (some .int), Cond.methodLink RX4 220 yX2_less, Cond.instanceMethod yX2_less, Cond.selects RX2 yX2_less yX2_less, Cond.code yX2_less cX2_less 3 (some .int), Cond.methodLink RX4 120 yX4_setFlag, Cond.instanceMethod yX4_setFlag, Cond.selects RX4 yX4_setFlag yX4_setFlag, Cond.code yX4_setFlag cX4_setFlag 2 (some .int), Cond.methodLink RX4 122 yX4_changePair, Cond.instanceMethod yX4_changePair, Cond.selects RX4 yX4_changePair yX4_changePair]
def wsX4_step_r10 : List Cond := [Cond.code yX4_changePair cX4_changePair 5 (some .int), Cond.methodLink RX4 223 yX2_pairMore, Cond.instanceMethod yX2_pairMore, Cond.selects RX2 yX2_pairMore yX2_pairMore, Cond.code yX2_pairMore cX2_pairMore 4 (some .int), Cond.methodLink RX2 36 yX2_pairFlags, Cond.instanceMethod yX2_pairFlags, Cond.selects RX2 yX2_pairFlags yX2_pairFlags, Cond.code yX2_pairFlags cX2_pairFlags 5 none, Cond.methodLink RX4 226 yX2_pairLess, Cond.instanceMethod yX2_pairLess, Cond.selects RX2 yX2_pairLess yX2_pairLess, Cond.code yX2_pairLess cX2_pairLess 4 (some .int), Cond.methodLink RX4 125 yX4_moveAtNext, Cond.instanceMethod yX4_moveAtNext, Cond.selects RX4 yX4_moveAtNext yX4_moveAtNext, Cond.code yX4_moveAtNext cX4_moveAtNext 3 (some .int), Cond.methodLink RX4 229 yX4_transfer, Cond.instanceMethod yX4_transfer, Cond.selects RX4 yX4_transfer yX4_transfer, Cond.code yX4_transfer cX4_transfer 4 none, Cond.methodLink RX4 128 yX4_movePointed, Cond.instanceMethod yX4_movePointed, Cond.selects RX4 yX4_movePointed yX4_movePointed]
def wsX4_step_r11 : List Cond := [Cond.code yX4_movePointed cX4_movePointed 7 (some .int), Cond.constant RX4 50 (65535), Cond.methodLink RX4 232 yX3_pointer, Cond.methodLink RX4 131 yX4_moveStacked, Cond.instanceMethod yX4_moveStacked, Cond.selects RX4 yX4_moveStacked yX4_moveStacked, Cond.code yX4_moveStacked cX4_moveStacked 5 (some .int), Cond.methodLink RX4 235 yX0_pull, Cond.instanceMethod yX0_pull, Cond.selects RX0 yX0_pull yX0_pull, Cond.code yX0_pull cX0_pull 2 (some .int), Cond.methodLink RX4 238 yX0_push, Cond.instanceMethod yX0_push, Cond.selects RX0 yX0_push yX0_push, Cond.code yX0_push cX0_push 3 none, Cond.methodLink RX4 134 yX4_moveBeside, Cond.instanceMethod yX4_moveBeside, Cond.selects RX4 yX4_moveBeside yX4_moveBeside, Cond.code yX4_moveBeside cX4_moveBeside 5 (some .int), Cond.methodLink RX4 137 yX4_moveFromCode, Cond.instanceMethod yX4_moveFromCode, Cond.selects RX4 yX4_moveFromCode yX4_moveFromCode, Cond.code yX4_moveFromCode cX4_moveFromCode 4 (some .int), Cond.constant RX4 241 (38344)]
def wsX4_step_r12 : List Cond := [Cond.methodLink RX4 140 yX4_movePort, Cond.instanceMethod yX4_movePort, Cond.selects RX4 yX4_movePort yX4_movePort, Cond.code yX4_movePort cX4_movePort 4 (some .int), Cond.methodLink RX4 143 yX4_setPortBit, Cond.instanceMethod yX4_setPortBit, Cond.selects RX4 yX4_setPortBit yX4_setPortBit, Cond.code yX4_setPortBit cX4_setPortBit 2 (some .int), Cond.methodLink RX4 242 yX0_setBit, Cond.methodLink RX4 146 yX4_skipByPort, Cond.instanceMethod yX4_skipByPort, Cond.selects RX4 yX4_skipByPort yX4_skipByPort, Cond.code yX4_skipByPort cX4_skipByPort 2 (some .int), Cond.methodLink RX4 245 yX0_bit, Cond.instanceMethod yX0_bit, Cond.selects RX0 yX0_bit yX0_bit, Cond.code yX0_bit cX0_bit 3 (some .int), Cond.methodLink RX4 149 yX4_skipByBit, Cond.instanceMethod yX4_skipByBit, Cond.selects RX4 yX4_skipByBit yX4_skipByBit, Cond.code yX4_skipByBit cX4_skipByBit 2 (some .int), Cond.methodLink RX4 152 yX4_moveBit, Cond.instanceMethod yX4_moveBit, Cond.selects RX4 yX4_moveBit yX4_moveBit]
def wsX4_step_r13 : List Cond := [Cond.code yX4_moveBit cX4_moveBit 3 (some .int), Cond.methodLink RX4 155 yX4_jumpNear, Cond.instanceMethod yX4_jumpNear, Cond.selects RX4 yX4_jumpNear yX4_jumpNear, Cond.code yX4_jumpNear cX4_jumpNear 4 (some .int), Cond.methodLink RX4 248 yX4_jumpTo, Cond.instanceMethod yX4_jumpTo, Cond.selects RX4 yX4_jumpTo yX4_jumpTo, Cond.code yX4_jumpTo cX4_jumpTo 2 (some .int), Cond.methodLink RX4 251 yX4_callTo, Cond.instanceMethod yX4_callTo, Cond.selects RX4 yX4_callTo yX4_callTo, Cond.code yX4_callTo cX4_callTo 3 (some .int), Cond.methodLink RX4 158 yX4_branch, Cond.instanceMethod yX4_branch, Cond.selects RX4 yX4_branch yX4_branch, Cond.code yX4_branch cX4_branch 4 (some .int), Cond.methodLink RX4 161 yX4_jumpFar, Cond.instanceMethod yX4_jumpFar, Cond.selects RX4 yX4_jumpFar yX4_jumpFar, Cond.code yX4_jumpFar cX4_jumpFar 3 (some .int), Cond.methodLink RX4 164 yX4_jumpToZ, Cond.instanceMethod yX4_jumpToZ, Cond.selects RX4 yX4_jumpToZ yX4_jumpToZ]
def wsX4_step_r14 : List Cond := [Cond.code yX4_jumpToZ cX4_jumpToZ 3 (some .int), Cond.methodLink RX4 167 yX4_comeBack, Cond.instanceMethod yX4_comeBack, Cond.selects RX4 yX4_comeBack yX4_comeBack, Cond.code yX4_comeBack cX4_comeBack 5 (some .int)]
def wsX4_step : List Cond := .code yX4_step cX4_step 1 (some .int) :: ((wsX4_step_r1 ++ (wsX4_step_r2 ++ (wsX4_step_r3 ++ (wsX4_step_r4 ++ (wsX4_step_r5 ++ (wsX4_step_r6 ++ (wsX4_step_r7 ++ (wsX4_step_r8 ++ (wsX4_step_r9 ++ (wsX4_step_r10 ++ (wsX4_step_r11 ++ (wsX4_step_r12 ++ (wsX4_step_r13 ++ wsX4_step_r14))))))))))))) ++ wsX40 ++ wsX00 ++ wsX20)
def wsX4_run_r1 : List Cond := [Cond.methodLink RX4 65 yX4_advance, Cond.instanceMethod yX4_advance, Cond.selects RX4 yX4_advance yX4_advance, Cond.initialized RX4, Cond.code yX4_advance cX4_advance 2 (some .int), Cond.fieldLink RX4 36 "FlagCore" "asked" "I", Cond.fieldLink RX4 42 "FlagCore" "waiting" "Z", Cond.fieldLink RX4 16 "FlagCore" "bytes" "LFlagCore$Bytes;", Cond.fieldLink RX4 39 "FlagCore" "latest" "I", Cond.fieldLink RX4 32 "FlagCore" "pc" "I", Cond.constant RX4 89 (38008), Cond.constant RX4 90 (38168), Cond.fieldLink RX4 29 "FlagCore" "tallies" "[I", Cond.methodLink RX4 80 yX0_flag, Cond.instanceMethod yX0_flag, Cond.selects RX0 yX0_flag yX0_flag, Cond.initialized RX0, Cond.code yX0_flag cX0_flag 2 (some .int), Cond.fieldLink RX0 9 "FlagCore$Bytes" "row" "[I", Cond.methodLink RX4 83 yX4_enterLeast, Cond.instanceMethod yX4_enterLeast, Cond.selects RX4 yX4_enterLeast yX4_enterLeast, Cond.code yX4_enterLeast cX4_enterLeast 1 (some .int), Cond.methodLink RX4 91 yX0_stacks]
def wsX4_run_r2 : List Cond := [Cond.instanceMethod yX0_stacks, Cond.selects RX0 yX0_stacks yX0_stacks, Cond.code yX0_stacks cX0_stacks 3 (some .boolean), Cond.methodLink RX0 27 yX0_pair, Cond.instanceMethod yX0_pair, Cond.selects RX0 yX0_pair yX0_pair, Cond.code yX0_pair cX0_pair 2 (some .int), Cond.methodLink RX0 19 yX0_set, Cond.instanceMethod yX0_set, Cond.selects RX0 yX0_set yX0_set, Cond.code yX0_set cX0_set 3 none, Cond.methodLink RX0 30 yX0_setPair, Cond.instanceMethod yX0_setPair, Cond.selects RX0 yX0_setPair yX0_setPair, Cond.code yX0_setPair cX0_setPair 3 none, Cond.methodLink RX4 94 yJ6_numberOfTrailingZeros_0f7a4, Cond.static yJ6_numberOfTrailingZeros_0f7a4, Cond.initialized RJ6, Cond.code yJ6_numberOfTrailingZeros_0f7a4 cJ6_numberOfTrailingZeros_0f7a4 2 (some .int), Cond.constant RJ6 264 (65536), Cond.methodLink RX4 99 yX0_setFlag, Cond.instanceMethod yX0_setFlag, Cond.selects RX0 yX0_setFlag yX0_setFlag, Cond.code yX0_setFlag cX0_setFlag 3 none]
def wsX4_run_r3 : List Cond := [Cond.methodLink RX0 23 yX0_setBit, Cond.instanceMethod yX0_setBit, Cond.selects RX0 yX0_setBit yX0_setBit, Cond.code yX0_setBit cX0_setBit 4 none, Cond.methodLink RX0 15 yX0_get, Cond.instanceMethod yX0_get, Cond.selects RX0 yX0_get yX0_get, Cond.code yX0_get cX0_get 2 (some .int), Cond.methodLink RX4 51 yX4_cellAt, Cond.instanceMethod yX4_cellAt, Cond.selects RX4 yX4_cellAt yX4_cellAt, Cond.code yX4_cellAt cX4_cellAt 2 (some .int), Cond.fieldLink RX4 9 "FlagCore" "cells" "[I", Cond.methodLink RX4 86 yX4_perform, Cond.instanceMethod yX4_perform, Cond.selects RX4 yX4_perform yX4_perform, Cond.code yX4_perform cX4_perform 2 (some .int), Cond.methodLink RX4 69 yX3_groupOf, Cond.static yX3_groupOf, Cond.initialized RX3, Cond.code yX3_groupOf cX3_groupOf 1 (some .int), Cond.methodLink RX3 13 yX3_lowGroupOf, Cond.static yX3_lowGroupOf, Cond.code yX3_lowGroupOf cX3_lowGroupOf 1 (some .int)]
def wsX4_run_r4 : List Cond := [Cond.methodLink RX3 19 yX3_mixedGroupOf, Cond.static yX3_mixedGroupOf, Cond.code yX3_mixedGroupOf cX3_mixedGroupOf 1 (some .int), Cond.methodLink RX3 25 yX3_memoryGroupOf, Cond.static yX3_memoryGroupOf, Cond.code yX3_memoryGroupOf cX3_memoryGroupOf 1 (some .int), Cond.methodLink RX3 31 yX3_d, Cond.static yX3_d, Cond.code yX3_d cX3_d 1 (some .int), Cond.methodLink RX3 34 yX3_pointer, Cond.static yX3_pointer, Cond.code yX3_pointer cX3_pointer 1 (some .int), Cond.methodLink RX3 37 yX3_isOneOf, Cond.static yX3_isOneOf, Cond.code yX3_isOneOf cX3_isOneOf 2 (some .boolean), Cond.methodLink RX3 28 yX3_singleGroupOf, Cond.static yX3_singleGroupOf, Cond.code yX3_singleGroupOf cX3_singleGroupOf 1 (some .int), Cond.methodLink RX3 41 yX3_flagGroupOf, Cond.static yX3_flagGroupOf, Cond.code yX3_flagGroupOf cX3_flagGroupOf 1 (some .int), Cond.methodLink RX3 22 yX3_highGroupOf, Cond.static yX3_highGroupOf, Cond.code yX3_highGroupOf cX3_highGroupOf 1 (some .int)]
def wsX4_run_r5 : List Cond := [Cond.methodLink RX4 102 yX4_onward, Cond.instanceMethod yX4_onward, Cond.selects RX4 yX4_onward yX4_onward, Cond.code yX4_onward cX4_onward 2 (some .int), Cond.methodLink RX4 105 yX4_movePair, Cond.instanceMethod yX4_movePair, Cond.selects RX4 yX4_movePair yX4_movePair, Cond.code yX4_movePair cX4_movePair 2 (some .int), Cond.methodLink RX4 62 yX0_pair, Cond.methodLink RX4 170 yX0_setPair, Cond.methodLink RX4 108 yX4_multiply, Cond.instanceMethod yX4_multiply, Cond.selects RX4 yX4_multiply yX4_multiply, Cond.code yX4_multiply cX4_multiply 2 (some .int), Cond.fieldLink RX4 25 "FlagCore" "sums" "LFlagCore$Sums;", Cond.methodLink RX4 173 yX3_d, Cond.methodLink RX4 55 yX0_get, Cond.methodLink RX4 176 yX3_r, Cond.static yX3_r, Cond.code yX3_r cX3_r 1 (some .int), Cond.methodLink RX4 179 yX2_product, Cond.instanceMethod yX2_product, Cond.selects RX2 yX2_product yX2_product, Cond.initialized RX2]
def wsX4_run_r6 : List Cond := [Cond.code yX2_product cX2_product 2 none, Cond.methodLink RX2 41 yX2_keepProduct, Cond.instanceMethod yX2_keepProduct, Cond.selects RX2 yX2_keepProduct yX2_keepProduct, Cond.code yX2_keepProduct cX2_keepProduct 3 none, Cond.fieldLink RX2 13 "FlagCore$Sums" "bytes" "LFlagCore$Bytes;", Cond.constant RX2 40 (32768), Cond.constant RX2 35 (65535), Cond.methodLink RX2 44 yX0_setPair, Cond.methodLink RX2 21 yX0_setFlags, Cond.instanceMethod yX0_setFlags, Cond.selects RX0 yX0_setFlags yX0_setFlags, Cond.code yX0_setFlags cX0_setFlags 3 none, Cond.methodLink RX4 183 yX0_signed, Cond.instanceMethod yX0_signed, Cond.selects RX0 yX0_signed yX0_signed, Cond.code yX0_signed cX0_signed 2 (some .int), Cond.methodLink RX4 186 yX4_multiplyFew, Cond.instanceMethod yX4_multiplyFew, Cond.selects RX4 yX4_multiplyFew yX4_multiplyFew, Cond.code yX4_multiplyFew cX4_multiplyFew 4 none, Cond.methodLink RX4 190 yX2_fraction, Cond.instanceMethod yX2_fraction, Cond.selects RX2 yX2_fraction yX2_fraction]
def wsX4_run_r7 : List Cond := [Cond.code yX2_fraction cX2_fraction 2 none, Cond.methodLink RX4 111 yX4_combine, Cond.instanceMethod yX4_combine, Cond.selects RX4 yX4_combine yX4_combine, Cond.code yX4_combine cX4_combine 6 (some .int), Cond.methodLink RX4 193 yX2_differenceOn, Cond.instanceMethod yX2_differenceOn, Cond.selects RX2 yX2_differenceOn yX2_differenceOn, Cond.code yX2_differenceOn cX2_differenceOn 5 (some .int), Cond.methodLink RX2 31 yX0_flag, Cond.methodLink RX2 27 yX2_subtract, Cond.instanceMethod yX2_subtract, Cond.selects RX2 yX2_subtract yX2_subtract, Cond.code yX2_subtract cX2_subtract 9 (some .int), Cond.methodLink RX2 17 yX2_signs, Cond.static yX2_signs, Cond.code yX2_signs cX2_signs 4 (some .int), Cond.methodLink RX4 58 yX0_set, Cond.methodLink RX4 197 yX2_sum, Cond.instanceMethod yX2_sum, Cond.selects RX2 yX2_sum yX2_sum, Cond.code yX2_sum cX2_sum 8 (some .int), Cond.methodLink RX4 200 yX4_skip, Cond.instanceMethod yX4_skip]
def wsX4_run_r8 : List Cond := [Cond.selects RX4 yX4_skip yX4_skip, Cond.code yX4_skip cX4_skip 2 (some .int), Cond.methodLink RX4 74 yX3_hasNext, Cond.static yX3_hasNext, Cond.code yX3_hasNext cX3_hasNext 1 (some .boolean), Cond.constant RX3 9 (64527), Cond.constant RX3 10 (36864), Cond.constant RX3 11 (65036), Cond.constant RX3 12 (37900), Cond.methodLink RX4 204 yX2_difference, Cond.instanceMethod yX2_difference, Cond.selects RX2 yX2_difference yX2_difference, Cond.code yX2_difference cX2_difference 3 (some .int), Cond.methodLink RX4 208 yX2_logic, Cond.instanceMethod yX2_logic, Cond.selects RX2 yX2_logic yX2_logic, Cond.code yX2_logic cX2_logic 2 (some .int), Cond.methodLink RX4 114 yX4_combineWithNumber, Cond.instanceMethod yX4_combineWithNumber, Cond.selects RX4 yX4_combineWithNumber yX4_combineWithNumber, Cond.code yX4_combineWithNumber cX4_combineWithNumber 5 (some .int), Cond.methodLink RX4 117 yX4_change, Cond.instanceMethod yX4_change, Cond.selects RX4 yX4_change yX4_change]
def wsX4_run_r9 : List Cond := [Cond.code yX4_change cX4_change 4 (some .int), Cond.methodLink RX4 211 yX2_inverse, Cond.instanceMethod yX2_inverse, Cond.selects RX2 yX2_inverse yX2_inverse, Cond.code yX2_inverse cX2_inverse 3 (some .int), Cond.methodLink RX4 214 yX2_more, Cond.instanceMethod yX2_more, Cond.selects RX2 yX2_more yX2_more, Cond.code yX2_more cX2_more 3 (some .int), Cond.methodLink RX4 217 yX2_right, Cond.instanceMethod yX2_right, Cond.selects RX2 yX2_right yX2_right, Cond.code yX2_right cX2_right 5 (some .int), Cond.methodLink RX4 220 yX2_less, Cond.instanceMethod yX2_less, Cond.selects RX2 yX2_less yX2_less, Cond.code yX2_less cX2_less 3 (some .int), Cond.methodLink RX4 120 yX4_setFlag, Cond.instanceMethod yX4_setFlag, Cond.selects RX4 yX4_setFlag yX4_setFlag, Cond.code yX4_setFlag cX4_setFlag 2 (some .int), Cond.methodLink RX4 122 yX4_changePair, Cond.instanceMethod yX4_changePair, Cond.selects RX4 yX4_changePair yX4_changePair]
def wsX4_run_r10 : List Cond := [Cond.code yX4_changePair cX4_changePair 5 (some .int), Cond.methodLink RX4 223 yX2_pairMore, Cond.instanceMethod yX2_pairMore, Cond.selects RX2 yX2_pairMore yX2_pairMore, Cond.code yX2_pairMore cX2_pairMore 4 (some .int), Cond.methodLink RX2 36 yX2_pairFlags, Cond.instanceMethod yX2_pairFlags, Cond.selects RX2 yX2_pairFlags yX2_pairFlags, Cond.code yX2_pairFlags cX2_pairFlags 5 none, Cond.methodLink RX4 226 yX2_pairLess, Cond.instanceMethod yX2_pairLess, Cond.selects RX2 yX2_pairLess yX2_pairLess, Cond.code yX2_pairLess cX2_pairLess 4 (some .int), Cond.methodLink RX4 125 yX4_moveAtNext, Cond.instanceMethod yX4_moveAtNext, Cond.selects RX4 yX4_moveAtNext yX4_moveAtNext, Cond.code yX4_moveAtNext cX4_moveAtNext 3 (some .int), Cond.methodLink RX4 229 yX4_transfer, Cond.instanceMethod yX4_transfer, Cond.selects RX4 yX4_transfer yX4_transfer, Cond.code yX4_transfer cX4_transfer 4 none, Cond.methodLink RX4 128 yX4_movePointed, Cond.instanceMethod yX4_movePointed, Cond.selects RX4 yX4_movePointed yX4_movePointed]
def wsX4_run_r11 : List Cond := [Cond.code yX4_movePointed cX4_movePointed 7 (some .int), Cond.constant RX4 50 (65535), Cond.methodLink RX4 232 yX3_pointer, Cond.methodLink RX4 131 yX4_moveStacked, Cond.instanceMethod yX4_moveStacked, Cond.selects RX4 yX4_moveStacked yX4_moveStacked, Cond.code yX4_moveStacked cX4_moveStacked 5 (some .int), Cond.methodLink RX4 235 yX0_pull, Cond.instanceMethod yX0_pull, Cond.selects RX0 yX0_pull yX0_pull, Cond.code yX0_pull cX0_pull 2 (some .int), Cond.methodLink RX4 238 yX0_push, Cond.instanceMethod yX0_push, Cond.selects RX0 yX0_push yX0_push, Cond.code yX0_push cX0_push 3 none, Cond.methodLink RX4 134 yX4_moveBeside, Cond.instanceMethod yX4_moveBeside, Cond.selects RX4 yX4_moveBeside yX4_moveBeside, Cond.code yX4_moveBeside cX4_moveBeside 5 (some .int), Cond.methodLink RX4 137 yX4_moveFromCode, Cond.instanceMethod yX4_moveFromCode, Cond.selects RX4 yX4_moveFromCode yX4_moveFromCode, Cond.code yX4_moveFromCode cX4_moveFromCode 4 (some .int), Cond.constant RX4 241 (38344)]
def wsX4_run_r12 : List Cond := [Cond.methodLink RX4 140 yX4_movePort, Cond.instanceMethod yX4_movePort, Cond.selects RX4 yX4_movePort yX4_movePort, Cond.code yX4_movePort cX4_movePort 4 (some .int), Cond.methodLink RX4 143 yX4_setPortBit, Cond.instanceMethod yX4_setPortBit, Cond.selects RX4 yX4_setPortBit yX4_setPortBit, Cond.code yX4_setPortBit cX4_setPortBit 2 (some .int), Cond.methodLink RX4 242 yX0_setBit, Cond.methodLink RX4 146 yX4_skipByPort, Cond.instanceMethod yX4_skipByPort, Cond.selects RX4 yX4_skipByPort yX4_skipByPort, Cond.code yX4_skipByPort cX4_skipByPort 2 (some .int), Cond.methodLink RX4 245 yX0_bit, Cond.instanceMethod yX0_bit, Cond.selects RX0 yX0_bit yX0_bit, Cond.code yX0_bit cX0_bit 3 (some .int), Cond.methodLink RX4 149 yX4_skipByBit, Cond.instanceMethod yX4_skipByBit, Cond.selects RX4 yX4_skipByBit yX4_skipByBit, Cond.code yX4_skipByBit cX4_skipByBit 2 (some .int), Cond.methodLink RX4 152 yX4_moveBit, Cond.instanceMethod yX4_moveBit, Cond.selects RX4 yX4_moveBit yX4_moveBit]
def wsX4_run_r13 : List Cond := [Cond.code yX4_moveBit cX4_moveBit 3 (some .int), Cond.methodLink RX4 155 yX4_jumpNear, Cond.instanceMethod yX4_jumpNear, Cond.selects RX4 yX4_jumpNear yX4_jumpNear, Cond.code yX4_jumpNear cX4_jumpNear 4 (some .int), Cond.methodLink RX4 248 yX4_jumpTo, Cond.instanceMethod yX4_jumpTo, Cond.selects RX4 yX4_jumpTo yX4_jumpTo, Cond.code yX4_jumpTo cX4_jumpTo 2 (some .int), Cond.methodLink RX4 251 yX4_callTo, Cond.instanceMethod yX4_callTo, Cond.selects RX4 yX4_callTo yX4_callTo, Cond.code yX4_callTo cX4_callTo 3 (some .int), Cond.methodLink RX4 158 yX4_branch, Cond.instanceMethod yX4_branch, Cond.selects RX4 yX4_branch yX4_branch, Cond.code yX4_branch cX4_branch 4 (some .int), Cond.methodLink RX4 161 yX4_jumpFar, Cond.instanceMethod yX4_jumpFar, Cond.selects RX4 yX4_jumpFar yX4_jumpFar, Cond.code yX4_jumpFar cX4_jumpFar 3 (some .int), Cond.methodLink RX4 164 yX4_jumpToZ, Cond.instanceMethod yX4_jumpToZ, Cond.selects RX4 yX4_jumpToZ yX4_jumpToZ]
def wsX4_run_r14 : List Cond := [Cond.code yX4_jumpToZ cX4_jumpToZ 3 (some .int), Cond.methodLink RX4 167 yX4_comeBack, Cond.instanceMethod yX4_comeBack, Cond.selects RX4 yX4_comeBack yX4_comeBack, Cond.code yX4_comeBack cX4_comeBack 5 (some .int)]
def wsX4_run : List Cond := .code yX4_run cX4_run 4 (some .int) :: ((wsX4_run_r1 ++ (wsX4_run_r2 ++ (wsX4_run_r3 ++ (wsX4_run_r4 ++ (wsX4_run_r5 ++ (wsX4_run_r6 ++ (wsX4_run_r7 ++ (wsX4_run_r8 ++ (wsX4_run_r9 ++ (wsX4_run_r10 ++ (wsX4_run_r11 ++ (wsX4_run_r12 ++ (wsX4_run_r13 ++ wsX4_run_r14))))))))))))) ++ wsX40 ++ wsX00 ++ wsX20)
def wsX4_ended : List Cond := .code yX4_ended cX4_ended 1 (some .int) :: ([.fieldLink RX4 39 "FlagCore" "latest" "I"] ++ wsX40)
def wsX4_reads_r1 : List Cond := [Cond.constant RX4 50 (65535), Cond.methodLink RX4 46 yX4_within, Cond.static yX4_within, Cond.initialized RX4, Cond.code yX4_within cX4_within 2 (some .boolean), Cond.methodLink RX4 69 yX3_groupOf, Cond.static yX3_groupOf, Cond.initialized RX3, Cond.code yX3_groupOf cX3_groupOf 1 (some .int), Cond.methodLink RX3 13 yX3_lowGroupOf, Cond.static yX3_lowGroupOf, Cond.code yX3_lowGroupOf cX3_lowGroupOf 1 (some .int), Cond.methodLink RX3 19 yX3_mixedGroupOf, Cond.static yX3_mixedGroupOf, Cond.code yX3_mixedGroupOf cX3_mixedGroupOf 1 (some .int), Cond.methodLink RX3 25 yX3_memoryGroupOf, Cond.static yX3_memoryGroupOf, Cond.code yX3_memoryGroupOf cX3_memoryGroupOf 1 (some .int), Cond.methodLink RX3 31 yX3_d, Cond.static yX3_d, Cond.code yX3_d cX3_d 1 (some .int), Cond.methodLink RX3 34 yX3_pointer, Cond.static yX3_pointer, Cond.code yX3_pointer cX3_pointer 1 (some .int)]
def wsX4_reads_r2 : List Cond := [Cond.methodLink RX3 37 yX3_isOneOf, Cond.static yX3_isOneOf, Cond.code yX3_isOneOf cX3_isOneOf 2 (some .boolean), Cond.methodLink RX3 28 yX3_singleGroupOf, Cond.static yX3_singleGroupOf, Cond.code yX3_singleGroupOf cX3_singleGroupOf 1 (some .int), Cond.methodLink RX3 41 yX3_flagGroupOf, Cond.static yX3_flagGroupOf, Cond.code yX3_flagGroupOf cX3_flagGroupOf 1 (some .int), Cond.methodLink RX3 22 yX3_highGroupOf, Cond.static yX3_highGroupOf, Cond.code yX3_highGroupOf cX3_highGroupOf 1 (some .int), Cond.methodLink RX4 74 yX3_hasNext, Cond.static yX3_hasNext, Cond.code yX3_hasNext cX3_hasNext 1 (some .boolean), Cond.constant RX3 9 (64527), Cond.constant RX3 10 (36864), Cond.constant RX3 11 (65036), Cond.constant RX3 12 (37900)]
def wsX4_reads : List Cond := .code yX4_reads cX4_reads 3 (some .int) :: ((wsX4_reads_r1 ++ wsX4_reads_r2))
def wsX4_digest : List Cond := .code yX4_digest cX4_digest 3 (some .int) :: ([.fieldLink RX4 16 "FlagCore" "bytes" "LFlagCore$Bytes;", .fieldLink RX4 32 "FlagCore" "pc" "I", .methodLink RX4 55 yX0_get, .instanceMethod yX0_get, .selects RX0 yX0_get yX0_get, .initialized RX0, .code yX0_get cX0_get 2 (some .int), .fieldLink RX0 9 "FlagCore$Bytes" "row" "[I"] ++ wsX40 ++ wsX00)
def wsX4_count : List Cond := .code yX4_count cX4_count 2 (some .int) :: ([.fieldLink RX4 29 "FlagCore" "tallies" "[I"] ++ wsX40)
def wsX5_init : List Cond := .code yX5_init cX5_init 1 none :: ([.methodLink RX5 1 objectInit, .instanceMethod objectInit, .code objectInit ⟨#[0xb1]⟩ 1 none, .arrayClass .int, .fieldLink RX5 7 "FlagCoreModel" "code" "[I", .fieldLink RX5 13 "FlagCoreModel" "data" "[I", .fieldLink RX5 16 "FlagCoreModel" "count" "[I", .fieldLink RX5 19 "FlagCoreModel" "pc" "I"] ++ wsX50)
def wsX5_in : List Cond := .code yX5_in cX5_in 3 (some .boolean) :: ([])
def wsX5_code : List Cond := .code yX5_code cX5_code 4 (some .int) :: ([.constant RX5 27 (65535), .fieldLink RX5 7 "FlagCoreModel" "code" "[I", .methodLink RX5 23 yX5_in, .static yX5_in, .initialized RX5, .code yX5_in cX5_in 3 (some .boolean)] ++ wsX50)
def wsX5_load : List Cond := .code yX5_load cX5_load 5 (some .int) :: ([.fieldLink RX5 7 "FlagCoreModel" "code" "[I", .constant RX5 27 (65535), .methodLink RX5 23 yX5_in, .static yX5_in, .initialized RX5, .code yX5_in cX5_in 3 (some .boolean)] ++ wsX50)
def wsX5_word : List Cond := .code yX5_word cX5_word 2 (some .int) :: ([.fieldLink RX5 7 "FlagCoreModel" "code" "[I", .methodLink RX5 23 yX5_in, .static yX5_in, .initialized RX5, .code yX5_in cX5_in 3 (some .boolean)] ++ wsX50)
def wsX5_put : List Cond := .code yX5_put cX5_put 4 (some .int) :: ([.fieldLink RX5 13 "FlagCoreModel" "data" "[I", .methodLink RX5 23 yX5_in, .static yX5_in, .initialized RX5, .code yX5_in cX5_in 3 (some .boolean)] ++ wsX50)
def wsX5_data : List Cond := .code yX5_data cX5_data 2 (some .int) :: ([.fieldLink RX5 13 "FlagCoreModel" "data" "[I", .methodLink RX5 23 yX5_in, .static yX5_in, .initialized RX5, .code yX5_in cX5_in 3 (some .boolean)] ++ wsX50)
def wsX5_pair : List Cond := .code yX5_pair cX5_pair 2 (some .int) :: ([.fieldLink RX5 13 "FlagCoreModel" "data" "[I"] ++ wsX50)
def wsX5_setPair : List Cond := .code yX5_setPair cX5_setPair 3 none :: ([.fieldLink RX5 13 "FlagCoreModel" "data" "[I"] ++ wsX50)
def wsX5_told : List Cond := .code yX5_told cX5_told 2 (some .int) :: ([.fieldLink RX5 19 "FlagCoreModel" "pc" "I", .fieldLink RX5 13 "FlagCoreModel" "data" "[I", .fieldLink RX5 32 "FlagCoreModel" "isWaited" "Z", .fieldLink RX5 36 "FlagCoreModel" "asked" "I", .methodLink RX5 28 yX5_pair, .instanceMethod yX5_pair, .selects RX5 yX5_pair yX5_pair, .initialized RX5, .code yX5_pair cX5_pair 2 (some .int)] ++ wsX50)
def wsX5_go : List Cond := .code yX5_go cX5_go 3 (some .int) :: ([.fieldLink RX5 19 "FlagCoreModel" "pc" "I", .methodLink RX5 23 yX5_in, .static yX5_in, .initialized RX5, .code yX5_in cX5_in 3 (some .boolean)] ++ wsX50)
def wsX5_ask : List Cond := .code yX5_ask cX5_ask 3 (some .int) :: ([.fieldLink RX5 36 "FlagCoreModel" "asked" "I", .methodLink RX5 23 yX5_in, .static yX5_in, .initialized RX5, .code yX5_in cX5_in 3 (some .boolean)] ++ wsX50)
def wsX5_isMemory : List Cond := .code yX5_isMemory cX5_isMemory 1 (some .boolean) :: ([.constant RX5 39 (64512), .constant RX5 40 (36864)])
def wsX5_isOne : List Cond := .code yX5_isOne cX5_isOne 1 (some .boolean) :: ([.constant RX5 41 (65024), .constant RX5 42 (37888)])
def wsX5_hasNext : List Cond := .code yX5_hasNext cX5_hasNext 1 (some .boolean) :: ([.methodLink RX5 43 yX5_isMemory, .static yX5_isMemory, .initialized RX5, .code yX5_isMemory cX5_isMemory 1 (some .boolean), .constant RX5 39 (64512), .constant RX5 40 (36864), .methodLink RX5 47 yX5_isOne, .static yX5_isOne, .code yX5_isOne cX5_isOne 1 (some .boolean), .constant RX5 41 (65024), .constant RX5 42 (37888)])
def wsX5_dOf : List Cond := .code yX5_dOf cX5_dOf 1 (some .int) :: ([])
def wsX5_changes : List Cond := .code yX5_changes cX5_changes 1 (some .int) :: ([])
def wsX5_isBadMemory : List Cond := .code yX5_isBadMemory cX5_isBadMemory 4 (some .boolean) :: ([.methodLink RX5 50 yX5_changes, .static yX5_changes, .initialized RX5, .code yX5_changes cX5_changes 1 (some .int), .methodLink RX5 53 yX5_dOf, .static yX5_dOf, .code yX5_dOf cX5_dOf 1 (some .int)])
def wsX5_isBadOne : List Cond := .code yX5_isBadOne cX5_isBadOne 2 (some .boolean) :: ([.constant RX5 56 (38152), .constant RX5 57 (38168), .constant RX5 58 (38344), .constant RX5 59 (37897), .constant RX5 60 (38153)])
def wsX5_isIllegal_r1 : List Cond := [Cond.constant RX5 67 (63496), Cond.methodLink RX5 43 yX5_isMemory, Cond.static yX5_isMemory, Cond.initialized RX5, Cond.code yX5_isMemory cX5_isMemory 1 (some .boolean), Cond.constant RX5 39 (64512), Cond.constant RX5 40 (36864), Cond.methodLink RX5 61 yX5_isBadMemory, Cond.static yX5_isBadMemory, Cond.code yX5_isBadMemory cX5_isBadMemory 4 (some .boolean), Cond.methodLink RX5 50 yX5_changes, Cond.static yX5_changes, Cond.code yX5_changes cX5_changes 1 (some .int), Cond.methodLink RX5 53 yX5_dOf, Cond.static yX5_dOf, Cond.code yX5_dOf cX5_dOf 1 (some .int), Cond.methodLink RX5 47 yX5_isOne, Cond.static yX5_isOne, Cond.code yX5_isOne cX5_isOne 1 (some .boolean), Cond.constant RX5 41 (65024), Cond.constant RX5 42 (37888), Cond.methodLink RX5 64 yX5_isBadOne, Cond.static yX5_isBadOne, Cond.code yX5_isBadOne cX5_isBadOne 2 (some .boolean)]
def wsX5_isIllegal_r2 : List Cond := [Cond.constant RX5 56 (38152), Cond.constant RX5 57 (38168), Cond.constant RX5 58 (38344), Cond.constant RX5 59 (37897), Cond.constant RX5 60 (38153)]
def wsX5_isIllegal : List Cond := .code yX5_isIllegal cX5_isIllegal 1 (some .boolean) :: ((wsX5_isIllegal_r1 ++ wsX5_isIllegal_r2))
def wsX5_reads_r1 : List Cond := [Cond.constant RX5 27 (65535), Cond.methodLink RX5 23 yX5_in, Cond.static yX5_in, Cond.initialized RX5, Cond.code yX5_in cX5_in 3 (some .boolean), Cond.methodLink RX5 68 yX5_isIllegal, Cond.static yX5_isIllegal, Cond.code yX5_isIllegal cX5_isIllegal 1 (some .boolean), Cond.constant RX5 67 (63496), Cond.methodLink RX5 43 yX5_isMemory, Cond.static yX5_isMemory, Cond.code yX5_isMemory cX5_isMemory 1 (some .boolean), Cond.constant RX5 39 (64512), Cond.constant RX5 40 (36864), Cond.methodLink RX5 61 yX5_isBadMemory, Cond.static yX5_isBadMemory, Cond.code yX5_isBadMemory cX5_isBadMemory 4 (some .boolean), Cond.methodLink RX5 50 yX5_changes, Cond.static yX5_changes, Cond.code yX5_changes cX5_changes 1 (some .int), Cond.methodLink RX5 53 yX5_dOf, Cond.static yX5_dOf, Cond.code yX5_dOf cX5_dOf 1 (some .int), Cond.methodLink RX5 47 yX5_isOne]
def wsX5_reads_r2 : List Cond := [Cond.static yX5_isOne, Cond.code yX5_isOne cX5_isOne 1 (some .boolean), Cond.constant RX5 41 (65024), Cond.constant RX5 42 (37888), Cond.methodLink RX5 64 yX5_isBadOne, Cond.static yX5_isBadOne, Cond.code yX5_isBadOne cX5_isBadOne 2 (some .boolean), Cond.constant RX5 56 (38152), Cond.constant RX5 57 (38168), Cond.constant RX5 58 (38344), Cond.constant RX5 59 (37897), Cond.constant RX5 60 (38153), Cond.methodLink RX5 71 yX5_hasNext, Cond.static yX5_hasNext, Cond.code yX5_hasNext cX5_hasNext 1 (some .boolean)]
def wsX5_reads : List Cond := .code yX5_reads cX5_reads 3 (some .int) :: ((wsX5_reads_r1 ++ wsX5_reads_r2))
def wsX5_has : List Cond := .code yX5_has cX5_has 2 (some .boolean) :: ([.fieldLink RX5 13 "FlagCoreModel" "data" "[I"] ++ wsX50)
def wsX5_flag : List Cond := .code yX5_flag cX5_flag 3 none :: ([.fieldLink RX5 13 "FlagCoreModel" "data" "[I"] ++ wsX50)
def wsX5_signs : List Cond := .code yX5_signs cX5_signs 3 none :: ([.methodLink RX5 74 yX5_flag, .instanceMethod yX5_flag, .selects RX5 yX5_flag yX5_flag, .initialized RX5, .code yX5_flag cX5_flag 3 none, .fieldLink RX5 13 "FlagCoreModel" "data" "[I"] ++ wsX50)
def wsX5_add : List Cond := .code yX5_add cX5_add 5 (some .int) :: ([.methodLink RX5 74 yX5_flag, .instanceMethod yX5_flag, .selects RX5 yX5_flag yX5_flag, .initialized RX5, .code yX5_flag cX5_flag 3 none, .fieldLink RX5 13 "FlagCoreModel" "data" "[I", .methodLink RX5 78 yX5_signs, .instanceMethod yX5_signs, .selects RX5 yX5_signs yX5_signs, .code yX5_signs cX5_signs 3 none] ++ wsX50)
def wsX5_subtract : List Cond := .code yX5_subtract cX5_subtract 7 (some .int) :: ([.methodLink RX5 81 yX5_has, .instanceMethod yX5_has, .selects RX5 yX5_has yX5_has, .initialized RX5, .code yX5_has cX5_has 2 (some .boolean), .fieldLink RX5 13 "FlagCoreModel" "data" "[I", .methodLink RX5 74 yX5_flag, .instanceMethod yX5_flag, .selects RX5 yX5_flag yX5_flag, .code yX5_flag cX5_flag 3 none, .methodLink RX5 78 yX5_signs, .instanceMethod yX5_signs, .selects RX5 yX5_signs yX5_signs, .code yX5_signs cX5_signs 3 none] ++ wsX50)
def wsX5_logic : List Cond := .code yX5_logic cX5_logic 2 (some .int) :: ([.methodLink RX5 78 yX5_signs, .instanceMethod yX5_signs, .selects RX5 yX5_signs yX5_signs, .initialized RX5, .code yX5_signs cX5_signs 3 none, .methodLink RX5 74 yX5_flag, .instanceMethod yX5_flag, .selects RX5 yX5_flag yX5_flag, .code yX5_flag cX5_flag 3 none, .fieldLink RX5 13 "FlagCoreModel" "data" "[I"] ++ wsX50)
def wsX5_carry : List Cond := .code yX5_carry cX5_carry 1 (some .int) :: ([.methodLink RX5 81 yX5_has, .instanceMethod yX5_has, .selects RX5 yX5_has yX5_has, .initialized RX5, .code yX5_has cX5_has 2 (some .boolean), .fieldLink RX5 13 "FlagCoreModel" "data" "[I"] ++ wsX50)
def wsX5_skips : List Cond := .code yX5_skips cX5_skips 3 none :: ([.fieldLink RX5 7 "FlagCoreModel" "code" "[I", .fieldLink RX5 84 "FlagCoreModel" "next" "I", .fieldLink RX5 16 "FlagCoreModel" "count" "[I", .methodLink RX5 71 yX5_hasNext, .static yX5_hasNext, .initialized RX5, .code yX5_hasNext cX5_hasNext 1 (some .boolean), .methodLink RX5 43 yX5_isMemory, .static yX5_isMemory, .code yX5_isMemory cX5_isMemory 1 (some .boolean), .constant RX5 39 (64512), .constant RX5 40 (36864), .methodLink RX5 47 yX5_isOne, .static yX5_isOne, .code yX5_isOne cX5_isOne 1 (some .boolean), .constant RX5 41 (65024), .constant RX5 42 (37888)] ++ wsX50)
def wsX5_ofTwo_r1 : List Cond := [Cond.fieldLink RX5 13 "FlagCoreModel" "data" "[I", Cond.methodLink RX5 53 yX5_dOf, Cond.static yX5_dOf, Cond.initialized RX5, Cond.code yX5_dOf cX5_dOf 1 (some .int), Cond.methodLink RX5 87 yX5_carry, Cond.instanceMethod yX5_carry, Cond.selects RX5 yX5_carry yX5_carry, Cond.code yX5_carry cX5_carry 1 (some .int), Cond.methodLink RX5 81 yX5_has, Cond.instanceMethod yX5_has, Cond.selects RX5 yX5_has yX5_has, Cond.code yX5_has cX5_has 2 (some .boolean), Cond.methodLink RX5 91 yX5_subtract, Cond.instanceMethod yX5_subtract, Cond.selects RX5 yX5_subtract yX5_subtract, Cond.code yX5_subtract cX5_subtract 7 (some .int), Cond.methodLink RX5 74 yX5_flag, Cond.instanceMethod yX5_flag, Cond.selects RX5 yX5_flag yX5_flag, Cond.code yX5_flag cX5_flag 3 none, Cond.methodLink RX5 78 yX5_signs, Cond.instanceMethod yX5_signs, Cond.selects RX5 yX5_signs yX5_signs]
def wsX5_ofTwo_r2 : List Cond := [Cond.code yX5_signs cX5_signs 3 none, Cond.methodLink RX5 95 yX5_add, Cond.instanceMethod yX5_add, Cond.selects RX5 yX5_add yX5_add, Cond.code yX5_add cX5_add 5 (some .int), Cond.methodLink RX5 99 yX5_skips, Cond.instanceMethod yX5_skips, Cond.selects RX5 yX5_skips yX5_skips, Cond.code yX5_skips cX5_skips 3 none, Cond.fieldLink RX5 7 "FlagCoreModel" "code" "[I", Cond.fieldLink RX5 84 "FlagCoreModel" "next" "I", Cond.fieldLink RX5 16 "FlagCoreModel" "count" "[I", Cond.methodLink RX5 71 yX5_hasNext, Cond.static yX5_hasNext, Cond.code yX5_hasNext cX5_hasNext 1 (some .boolean), Cond.methodLink RX5 43 yX5_isMemory, Cond.static yX5_isMemory, Cond.code yX5_isMemory cX5_isMemory 1 (some .boolean), Cond.constant RX5 39 (64512), Cond.constant RX5 40 (36864), Cond.methodLink RX5 47 yX5_isOne, Cond.static yX5_isOne, Cond.code yX5_isOne cX5_isOne 1 (some .boolean), Cond.constant RX5 41 (65024)]
def wsX5_ofTwo_r3 : List Cond := [Cond.constant RX5 42 (37888), Cond.methodLink RX5 103 yX5_logic, Cond.instanceMethod yX5_logic, Cond.selects RX5 yX5_logic yX5_logic, Cond.code yX5_logic cX5_logic 2 (some .int)]
def wsX5_ofTwo : List Cond := .code yX5_ofTwo cX5_ofTwo 8 none :: ((wsX5_ofTwo_r1 ++ (wsX5_ofTwo_r2 ++ wsX5_ofTwo_r3)) ++ wsX50)
def wsX5_ofNumber_r1 : List Cond := [Cond.fieldLink RX5 13 "FlagCoreModel" "data" "[I", Cond.methodLink RX5 91 yX5_subtract, Cond.instanceMethod yX5_subtract, Cond.selects RX5 yX5_subtract yX5_subtract, Cond.initialized RX5, Cond.code yX5_subtract cX5_subtract 7 (some .int), Cond.methodLink RX5 81 yX5_has, Cond.instanceMethod yX5_has, Cond.selects RX5 yX5_has yX5_has, Cond.code yX5_has cX5_has 2 (some .boolean), Cond.methodLink RX5 74 yX5_flag, Cond.instanceMethod yX5_flag, Cond.selects RX5 yX5_flag yX5_flag, Cond.code yX5_flag cX5_flag 3 none, Cond.methodLink RX5 78 yX5_signs, Cond.instanceMethod yX5_signs, Cond.selects RX5 yX5_signs yX5_signs, Cond.code yX5_signs cX5_signs 3 none, Cond.methodLink RX5 87 yX5_carry, Cond.instanceMethod yX5_carry, Cond.selects RX5 yX5_carry yX5_carry, Cond.code yX5_carry cX5_carry 1 (some .int), Cond.methodLink RX5 103 yX5_logic, Cond.instanceMethod yX5_logic]
def wsX5_ofNumber_r2 : List Cond := [Cond.selects RX5 yX5_logic yX5_logic, Cond.code yX5_logic cX5_logic 2 (some .int)]
def wsX5_ofNumber : List Cond := .code yX5_ofNumber cX5_ofNumber 6 none :: ((wsX5_ofNumber_r1 ++ wsX5_ofNumber_r2) ++ wsX50)
def wsX5_signed : List Cond := .code yX5_signed cX5_signed 1 (some .int) :: ([])
def wsX5_product : List Cond := .code yX5_product cX5_product 4 none :: ([.constant RX5 27 (65535), .methodLink RX5 74 yX5_flag, .instanceMethod yX5_flag, .selects RX5 yX5_flag yX5_flag, .initialized RX5, .code yX5_flag cX5_flag 3 none, .fieldLink RX5 13 "FlagCoreModel" "data" "[I", .methodLink RX5 106 yX5_setPair, .instanceMethod yX5_setPair, .selects RX5 yX5_setPair yX5_setPair, .code yX5_setPair cX5_setPair 3 none] ++ wsX50)
def wsX5_products : List Cond := .code yX5_products cX5_products 4 none :: ([.fieldLink RX5 13 "FlagCoreModel" "data" "[I", .methodLink RX5 110 yX5_signed, .static yX5_signed, .initialized RX5, .code yX5_signed cX5_signed 1 (some .int), .methodLink RX5 113 yX5_product, .instanceMethod yX5_product, .selects RX5 yX5_product yX5_product, .code yX5_product cX5_product 4 none, .constant RX5 27 (65535), .methodLink RX5 74 yX5_flag, .instanceMethod yX5_flag, .selects RX5 yX5_flag yX5_flag, .code yX5_flag cX5_flag 3 none, .methodLink RX5 106 yX5_setPair, .instanceMethod yX5_setPair, .selects RX5 yX5_setPair yX5_setPair, .code yX5_setPair cX5_setPair 3 none] ++ wsX50)
def wsX5_right : List Cond := .code yX5_right cX5_right 5 (some .int) :: ([.methodLink RX5 74 yX5_flag, .instanceMethod yX5_flag, .selects RX5 yX5_flag yX5_flag, .initialized RX5, .code yX5_flag cX5_flag 3 none, .fieldLink RX5 13 "FlagCoreModel" "data" "[I", .methodLink RX5 78 yX5_signs, .instanceMethod yX5_signs, .selects RX5 yX5_signs yX5_signs, .code yX5_signs cX5_signs 3 none] ++ wsX50)
def wsX5_ofOne_r1 : List Cond := [Cond.fieldLink RX5 13 "FlagCoreModel" "data" "[I", Cond.methodLink RX5 53 yX5_dOf, Cond.static yX5_dOf, Cond.initialized RX5, Cond.code yX5_dOf cX5_dOf 1 (some .int), Cond.methodLink RX5 103 yX5_logic, Cond.instanceMethod yX5_logic, Cond.selects RX5 yX5_logic yX5_logic, Cond.code yX5_logic cX5_logic 2 (some .int), Cond.methodLink RX5 78 yX5_signs, Cond.instanceMethod yX5_signs, Cond.selects RX5 yX5_signs yX5_signs, Cond.code yX5_signs cX5_signs 3 none, Cond.methodLink RX5 74 yX5_flag, Cond.instanceMethod yX5_flag, Cond.selects RX5 yX5_flag yX5_flag, Cond.code yX5_flag cX5_flag 3 none, Cond.methodLink RX5 91 yX5_subtract, Cond.instanceMethod yX5_subtract, Cond.selects RX5 yX5_subtract yX5_subtract, Cond.code yX5_subtract cX5_subtract 7 (some .int), Cond.methodLink RX5 81 yX5_has, Cond.instanceMethod yX5_has, Cond.selects RX5 yX5_has yX5_has]
def wsX5_ofOne_r2 : List Cond := [Cond.code yX5_has cX5_has 2 (some .boolean), Cond.methodLink RX5 116 yX5_right, Cond.instanceMethod yX5_right, Cond.selects RX5 yX5_right yX5_right, Cond.code yX5_right cX5_right 5 (some .int), Cond.methodLink RX5 87 yX5_carry, Cond.instanceMethod yX5_carry, Cond.selects RX5 yX5_carry yX5_carry, Cond.code yX5_carry cX5_carry 1 (some .int)]
def wsX5_ofOne : List Cond := .code yX5_ofOne cX5_ofOne 5 none :: ((wsX5_ofOne_r1 ++ wsX5_ofOne_r2) ++ wsX50)
def wsX5_ofPair : List Cond := .code yX5_ofPair cX5_ofPair 9 none :: ([.constant RX5 27 (65535), .constant RX5 120 (32768), .methodLink RX5 28 yX5_pair, .instanceMethod yX5_pair, .selects RX5 yX5_pair yX5_pair, .initialized RX5, .code yX5_pair cX5_pair 2 (some .int), .fieldLink RX5 13 "FlagCoreModel" "data" "[I", .methodLink RX5 106 yX5_setPair, .instanceMethod yX5_setPair, .selects RX5 yX5_setPair yX5_setPair, .code yX5_setPair cX5_setPair 3 none, .methodLink RX5 74 yX5_flag, .instanceMethod yX5_flag, .selects RX5 yX5_flag yX5_flag, .code yX5_flag cX5_flag 3 none] ++ wsX50)
def wsX5_isFar : List Cond := .code yX5_isFar cX5_isFar 1 (some .boolean) :: ([])
def wsX5_pushes : List Cond := .code yX5_pushes cX5_pushes 3 none :: ([.fieldLink RX5 13 "FlagCoreModel" "data" "[I", .constant RX5 27 (65535), .methodLink RX5 28 yX5_pair, .instanceMethod yX5_pair, .selects RX5 yX5_pair yX5_pair, .initialized RX5, .code yX5_pair cX5_pair 2 (some .int), .methodLink RX5 106 yX5_setPair, .instanceMethod yX5_setPair, .selects RX5 yX5_setPair yX5_setPair, .code yX5_setPair cX5_setPair 3 none] ++ wsX50)
def wsX5_pops : List Cond := .code yX5_pops cX5_pops 2 (some .int) :: ([.constant RX5 27 (65535), .fieldLink RX5 13 "FlagCoreModel" "data" "[I", .methodLink RX5 28 yX5_pair, .instanceMethod yX5_pair, .selects RX5 yX5_pair yX5_pair, .initialized RX5, .code yX5_pair cX5_pair 2 (some .int), .methodLink RX5 106 yX5_setPair, .instanceMethod yX5_setPair, .selects RX5 yX5_setPair yX5_setPair, .code yX5_setPair cX5_setPair 3 none] ++ wsX50)
def wsX5_canCall : List Cond := .code yX5_canCall cX5_canCall 2 (some .boolean) :: ([.constant RX5 27 (65535), .methodLink RX5 28 yX5_pair, .instanceMethod yX5_pair, .selects RX5 yX5_pair yX5_pair, .initialized RX5, .code yX5_pair cX5_pair 2 (some .int), .fieldLink RX5 13 "FlagCoreModel" "data" "[I", .methodLink RX5 121 yX5_isFar, .static yX5_isFar, .code yX5_isFar cX5_isFar 1 (some .boolean)] ++ wsX50)
def wsX5_calls : List Cond := .code yX5_calls cX5_calls 3 none :: ([.fieldLink RX5 84 "FlagCoreModel" "next" "I", .methodLink RX5 124 yX5_pushes, .instanceMethod yX5_pushes, .selects RX5 yX5_pushes yX5_pushes, .initialized RX5, .code yX5_pushes cX5_pushes 3 none, .fieldLink RX5 13 "FlagCoreModel" "data" "[I", .constant RX5 27 (65535), .methodLink RX5 28 yX5_pair, .instanceMethod yX5_pair, .selects RX5 yX5_pair yX5_pair, .code yX5_pair cX5_pair 2 (some .int), .methodLink RX5 106 yX5_setPair, .instanceMethod yX5_setPair, .selects RX5 yX5_setPair yX5_setPair, .code yX5_setPair cX5_setPair 3 none] ++ wsX50)
def wsX5_codeByte : List Cond := .code yX5_codeByte cX5_codeByte 3 (some .int) :: ([.fieldLink RX5 7 "FlagCoreModel" "code" "[I"] ++ wsX50)
def wsX5_ofStack_r1 : List Cond := [Cond.constant RX5 27 (65535), Cond.fieldLink RX5 13 "FlagCoreModel" "data" "[I", Cond.methodLink RX5 53 yX5_dOf, Cond.static yX5_dOf, Cond.initialized RX5, Cond.code yX5_dOf cX5_dOf 1 (some .int), Cond.methodLink RX5 28 yX5_pair, Cond.instanceMethod yX5_pair, Cond.selects RX5 yX5_pair yX5_pair, Cond.code yX5_pair cX5_pair 2 (some .int), Cond.methodLink RX5 121 yX5_isFar, Cond.static yX5_isFar, Cond.code yX5_isFar cX5_isFar 1 (some .boolean), Cond.methodLink RX5 124 yX5_pushes, Cond.instanceMethod yX5_pushes, Cond.selects RX5 yX5_pushes yX5_pushes, Cond.code yX5_pushes cX5_pushes 3 none, Cond.methodLink RX5 106 yX5_setPair, Cond.instanceMethod yX5_setPair, Cond.selects RX5 yX5_setPair yX5_setPair, Cond.code yX5_setPair cX5_setPair 3 none, Cond.methodLink RX5 128 yX5_pops, Cond.instanceMethod yX5_pops, Cond.selects RX5 yX5_pops yX5_pops]
def wsX5_ofStack_r2 : List Cond := [Cond.code yX5_pops cX5_pops 2 (some .int)]
def wsX5_ofStack : List Cond := .code yX5_ofStack cX5_ofStack 6 (some .int) :: ((wsX5_ofStack_r1 ++ wsX5_ofStack_r2) ++ wsX50)
def wsX5_moves : List Cond := .code yX5_moves cX5_moves 4 (some .int) :: ([.fieldLink RX5 13 "FlagCoreModel" "data" "[I", .methodLink RX5 121 yX5_isFar, .static yX5_isFar, .initialized RX5, .code yX5_isFar cX5_isFar 1 (some .boolean)] ++ wsX50)
def wsX5_ofMemory_r1 : List Cond := [Cond.fieldLink RX5 7 "FlagCoreModel" "code" "[I", Cond.fieldLink RX5 84 "FlagCoreModel" "next" "I", Cond.fieldLink RX5 13 "FlagCoreModel" "data" "[I", Cond.constant RX5 27 (65535), Cond.methodLink RX5 53 yX5_dOf, Cond.static yX5_dOf, Cond.initialized RX5, Cond.code yX5_dOf cX5_dOf 1 (some .int), Cond.methodLink RX5 131 yX5_ofStack, Cond.instanceMethod yX5_ofStack, Cond.selects RX5 yX5_ofStack yX5_ofStack, Cond.code yX5_ofStack cX5_ofStack 6 (some .int), Cond.methodLink RX5 28 yX5_pair, Cond.instanceMethod yX5_pair, Cond.selects RX5 yX5_pair yX5_pair, Cond.code yX5_pair cX5_pair 2 (some .int), Cond.methodLink RX5 121 yX5_isFar, Cond.static yX5_isFar, Cond.code yX5_isFar cX5_isFar 1 (some .boolean), Cond.methodLink RX5 124 yX5_pushes, Cond.instanceMethod yX5_pushes, Cond.selects RX5 yX5_pushes yX5_pushes, Cond.code yX5_pushes cX5_pushes 3 none, Cond.methodLink RX5 106 yX5_setPair]
def wsX5_ofMemory_r2 : List Cond := [Cond.instanceMethod yX5_setPair, Cond.selects RX5 yX5_setPair yX5_setPair, Cond.code yX5_setPair cX5_setPair 3 none, Cond.methodLink RX5 128 yX5_pops, Cond.instanceMethod yX5_pops, Cond.selects RX5 yX5_pops yX5_pops, Cond.code yX5_pops cX5_pops 2 (some .int), Cond.methodLink RX5 134 yX5_moves, Cond.instanceMethod yX5_moves, Cond.selects RX5 yX5_moves yX5_moves, Cond.code yX5_moves cX5_moves 4 (some .int), Cond.methodLink RX5 138 yX5_codeByte, Cond.instanceMethod yX5_codeByte, Cond.selects RX5 yX5_codeByte yX5_codeByte, Cond.code yX5_codeByte cX5_codeByte 3 (some .int), Cond.methodLink RX5 50 yX5_changes, Cond.static yX5_changes, Cond.code yX5_changes cX5_changes 1 (some .int)]
def wsX5_ofMemory : List Cond := .code yX5_ofMemory cX5_ofMemory 10 (some .int) :: ((wsX5_ofMemory_r1 ++ wsX5_ofMemory_r2) ++ wsX50)
def wsX5_ofPlaces : List Cond := .code yX5_ofPlaces cX5_ofPlaces 4 (some .int) :: ([.constant RX5 27 (65535), .methodLink RX5 28 yX5_pair, .instanceMethod yX5_pair, .selects RX5 yX5_pair yX5_pair, .initialized RX5, .code yX5_pair cX5_pair 2 (some .int), .fieldLink RX5 13 "FlagCoreModel" "data" "[I", .methodLink RX5 53 yX5_dOf, .static yX5_dOf, .code yX5_dOf cX5_dOf 1 (some .int), .methodLink RX5 134 yX5_moves, .instanceMethod yX5_moves, .selects RX5 yX5_moves yX5_moves, .code yX5_moves cX5_moves 4 (some .int), .methodLink RX5 121 yX5_isFar, .static yX5_isFar, .code yX5_isFar cX5_isFar 1 (some .boolean)] ++ wsX50)
def wsX5_ofPort : List Cond := .code yX5_ofPort cX5_ofPort 3 none :: ([.fieldLink RX5 13 "FlagCoreModel" "data" "[I", .methodLink RX5 53 yX5_dOf, .static yX5_dOf, .initialized RX5, .code yX5_dOf cX5_dOf 1 (some .int)] ++ wsX50)
def wsX5_ofPortBit : List Cond := .code yX5_ofPortBit cX5_ofPortBit 5 none :: ([.fieldLink RX5 13 "FlagCoreModel" "data" "[I", .methodLink RX5 99 yX5_skips, .instanceMethod yX5_skips, .selects RX5 yX5_skips yX5_skips, .initialized RX5, .code yX5_skips cX5_skips 3 none, .fieldLink RX5 7 "FlagCoreModel" "code" "[I", .fieldLink RX5 84 "FlagCoreModel" "next" "I", .fieldLink RX5 16 "FlagCoreModel" "count" "[I", .methodLink RX5 71 yX5_hasNext, .static yX5_hasNext, .code yX5_hasNext cX5_hasNext 1 (some .boolean), .methodLink RX5 43 yX5_isMemory, .static yX5_isMemory, .code yX5_isMemory cX5_isMemory 1 (some .boolean), .constant RX5 39 (64512), .constant RX5 40 (36864), .methodLink RX5 47 yX5_isOne, .static yX5_isOne, .code yX5_isOne cX5_isOne 1 (some .boolean), .constant RX5 41 (65024), .constant RX5 42 (37888)] ++ wsX50)
def wsX5_ofBit_r1 : List Cond := [Cond.fieldLink RX5 13 "FlagCoreModel" "data" "[I", Cond.methodLink RX5 53 yX5_dOf, Cond.static yX5_dOf, Cond.initialized RX5, Cond.code yX5_dOf cX5_dOf 1 (some .int), Cond.methodLink RX5 81 yX5_has, Cond.instanceMethod yX5_has, Cond.selects RX5 yX5_has yX5_has, Cond.code yX5_has cX5_has 2 (some .boolean), Cond.methodLink RX5 74 yX5_flag, Cond.instanceMethod yX5_flag, Cond.selects RX5 yX5_flag yX5_flag, Cond.code yX5_flag cX5_flag 3 none, Cond.methodLink RX5 99 yX5_skips, Cond.instanceMethod yX5_skips, Cond.selects RX5 yX5_skips yX5_skips, Cond.code yX5_skips cX5_skips 3 none, Cond.fieldLink RX5 7 "FlagCoreModel" "code" "[I", Cond.fieldLink RX5 84 "FlagCoreModel" "next" "I", Cond.fieldLink RX5 16 "FlagCoreModel" "count" "[I", Cond.methodLink RX5 71 yX5_hasNext, Cond.static yX5_hasNext, Cond.code yX5_hasNext cX5_hasNext 1 (some .boolean), Cond.methodLink RX5 43 yX5_isMemory]
def wsX5_ofBit_r2 : List Cond := [Cond.static yX5_isMemory, Cond.code yX5_isMemory cX5_isMemory 1 (some .boolean), Cond.constant RX5 39 (64512), Cond.constant RX5 40 (36864), Cond.methodLink RX5 47 yX5_isOne, Cond.static yX5_isOne, Cond.code yX5_isOne cX5_isOne 1 (some .boolean), Cond.constant RX5 41 (65024), Cond.constant RX5 42 (37888)]
def wsX5_ofBit : List Cond := .code yX5_ofBit cX5_ofBit 5 none :: ((wsX5_ofBit_r1 ++ wsX5_ofBit_r2) ++ wsX50)
def wsX5_jumps_r1 : List Cond := [Cond.fieldLink RX5 84 "FlagCoreModel" "next" "I", Cond.fieldLink RX5 16 "FlagCoreModel" "count" "[I", Cond.methodLink RX5 141 yX5_canCall, Cond.instanceMethod yX5_canCall, Cond.selects RX5 yX5_canCall yX5_canCall, Cond.initialized RX5, Cond.code yX5_canCall cX5_canCall 2 (some .boolean), Cond.constant RX5 27 (65535), Cond.methodLink RX5 28 yX5_pair, Cond.instanceMethod yX5_pair, Cond.selects RX5 yX5_pair yX5_pair, Cond.code yX5_pair cX5_pair 2 (some .int), Cond.fieldLink RX5 13 "FlagCoreModel" "data" "[I", Cond.methodLink RX5 121 yX5_isFar, Cond.static yX5_isFar, Cond.code yX5_isFar cX5_isFar 1 (some .boolean), Cond.methodLink RX5 145 yX5_calls, Cond.instanceMethod yX5_calls, Cond.selects RX5 yX5_calls yX5_calls, Cond.code yX5_calls cX5_calls 3 none, Cond.methodLink RX5 124 yX5_pushes, Cond.instanceMethod yX5_pushes, Cond.selects RX5 yX5_pushes yX5_pushes, Cond.code yX5_pushes cX5_pushes 3 none]
def wsX5_jumps_r2 : List Cond := [Cond.methodLink RX5 106 yX5_setPair, Cond.instanceMethod yX5_setPair, Cond.selects RX5 yX5_setPair yX5_setPair, Cond.code yX5_setPair cX5_setPair 3 none]
def wsX5_jumps : List Cond := .code yX5_jumps cX5_jumps 4 (some .int) :: ((wsX5_jumps_r1 ++ wsX5_jumps_r2) ++ wsX50)
def wsX5_returns : List Cond := .code yX5_returns cX5_returns 5 (some .int) :: ([.constant RX5 27 (65535), .fieldLink RX5 84 "FlagCoreModel" "next" "I", .constant RX5 57 (38168), .methodLink RX5 28 yX5_pair, .instanceMethod yX5_pair, .selects RX5 yX5_pair yX5_pair, .initialized RX5, .code yX5_pair cX5_pair 2 (some .int), .fieldLink RX5 13 "FlagCoreModel" "data" "[I", .methodLink RX5 121 yX5_isFar, .static yX5_isFar, .code yX5_isFar cX5_isFar 1 (some .boolean), .methodLink RX5 128 yX5_pops, .instanceMethod yX5_pops, .selects RX5 yX5_pops yX5_pops, .code yX5_pops cX5_pops 2 (some .int), .methodLink RX5 106 yX5_setPair, .instanceMethod yX5_setPair, .selects RX5 yX5_setPair yX5_setPair, .code yX5_setPair cX5_setPair 3 none, .methodLink RX5 74 yX5_flag, .instanceMethod yX5_flag, .selects RX5 yX5_flag yX5_flag, .code yX5_flag cX5_flag 3 none] ++ wsX50)
def wsX5_ofOthers_r1 : List Cond := [Cond.fieldLink RX5 7 "FlagCoreModel" "code" "[I", Cond.fieldLink RX5 84 "FlagCoreModel" "next" "I", Cond.constant RX5 60 (38153), Cond.constant RX5 56 (38152), Cond.constant RX5 57 (38168), Cond.constant RX5 58 (38344), Cond.fieldLink RX5 13 "FlagCoreModel" "data" "[I", Cond.methodLink RX5 148 yX5_jumps, Cond.instanceMethod yX5_jumps, Cond.selects RX5 yX5_jumps yX5_jumps, Cond.initialized RX5, Cond.code yX5_jumps cX5_jumps 4 (some .int), Cond.fieldLink RX5 16 "FlagCoreModel" "count" "[I", Cond.methodLink RX5 141 yX5_canCall, Cond.instanceMethod yX5_canCall, Cond.selects RX5 yX5_canCall yX5_canCall, Cond.code yX5_canCall cX5_canCall 2 (some .boolean), Cond.constant RX5 27 (65535), Cond.methodLink RX5 28 yX5_pair, Cond.instanceMethod yX5_pair, Cond.selects RX5 yX5_pair yX5_pair, Cond.code yX5_pair cX5_pair 2 (some .int), Cond.methodLink RX5 121 yX5_isFar, Cond.static yX5_isFar]
def wsX5_ofOthers_r2 : List Cond := [Cond.code yX5_isFar cX5_isFar 1 (some .boolean), Cond.methodLink RX5 145 yX5_calls, Cond.instanceMethod yX5_calls, Cond.selects RX5 yX5_calls yX5_calls, Cond.code yX5_calls cX5_calls 3 none, Cond.methodLink RX5 124 yX5_pushes, Cond.instanceMethod yX5_pushes, Cond.selects RX5 yX5_pushes yX5_pushes, Cond.code yX5_pushes cX5_pushes 3 none, Cond.methodLink RX5 106 yX5_setPair, Cond.instanceMethod yX5_setPair, Cond.selects RX5 yX5_setPair yX5_setPair, Cond.code yX5_setPair cX5_setPair 3 none, Cond.methodLink RX5 151 yX5_returns, Cond.instanceMethod yX5_returns, Cond.selects RX5 yX5_returns yX5_returns, Cond.code yX5_returns cX5_returns 5 (some .int), Cond.methodLink RX5 128 yX5_pops, Cond.instanceMethod yX5_pops, Cond.selects RX5 yX5_pops yX5_pops, Cond.code yX5_pops cX5_pops 2 (some .int), Cond.methodLink RX5 74 yX5_flag, Cond.instanceMethod yX5_flag, Cond.selects RX5 yX5_flag yX5_flag]
def wsX5_ofOthers_r3 : List Cond := [Cond.code yX5_flag cX5_flag 3 none, Cond.methodLink RX5 138 yX5_codeByte, Cond.instanceMethod yX5_codeByte, Cond.selects RX5 yX5_codeByte yX5_codeByte, Cond.code yX5_codeByte cX5_codeByte 3 (some .int)]
def wsX5_ofOthers : List Cond := .code yX5_ofOthers cX5_ofOthers 4 (some .int) :: ((wsX5_ofOthers_r1 ++ (wsX5_ofOthers_r2 ++ wsX5_ofOthers_r3)) ++ wsX50)
def wsX5_ofNine_r1 : List Cond := [Cond.constant RX5 163 (38912), Cond.constant RX5 167 (39936), Cond.fieldLink RX5 13 "FlagCoreModel" "data" "[I", Cond.methodLink RX5 43 yX5_isMemory, Cond.static yX5_isMemory, Cond.initialized RX5, Cond.code yX5_isMemory cX5_isMemory 1 (some .boolean), Cond.constant RX5 39 (64512), Cond.constant RX5 40 (36864), Cond.methodLink RX5 154 yX5_ofMemory, Cond.instanceMethod yX5_ofMemory, Cond.selects RX5 yX5_ofMemory yX5_ofMemory, Cond.code yX5_ofMemory cX5_ofMemory 10 (some .int), Cond.fieldLink RX5 7 "FlagCoreModel" "code" "[I", Cond.fieldLink RX5 84 "FlagCoreModel" "next" "I", Cond.constant RX5 27 (65535), Cond.methodLink RX5 53 yX5_dOf, Cond.static yX5_dOf, Cond.code yX5_dOf cX5_dOf 1 (some .int), Cond.methodLink RX5 131 yX5_ofStack, Cond.instanceMethod yX5_ofStack, Cond.selects RX5 yX5_ofStack yX5_ofStack, Cond.code yX5_ofStack cX5_ofStack 6 (some .int), Cond.methodLink RX5 28 yX5_pair]
def wsX5_ofNine_r2 : List Cond := [Cond.instanceMethod yX5_pair, Cond.selects RX5 yX5_pair yX5_pair, Cond.code yX5_pair cX5_pair 2 (some .int), Cond.methodLink RX5 121 yX5_isFar, Cond.static yX5_isFar, Cond.code yX5_isFar cX5_isFar 1 (some .boolean), Cond.methodLink RX5 124 yX5_pushes, Cond.instanceMethod yX5_pushes, Cond.selects RX5 yX5_pushes yX5_pushes, Cond.code yX5_pushes cX5_pushes 3 none, Cond.methodLink RX5 106 yX5_setPair, Cond.instanceMethod yX5_setPair, Cond.selects RX5 yX5_setPair yX5_setPair, Cond.code yX5_setPair cX5_setPair 3 none, Cond.methodLink RX5 128 yX5_pops, Cond.instanceMethod yX5_pops, Cond.selects RX5 yX5_pops yX5_pops, Cond.code yX5_pops cX5_pops 2 (some .int), Cond.methodLink RX5 134 yX5_moves, Cond.instanceMethod yX5_moves, Cond.selects RX5 yX5_moves yX5_moves, Cond.code yX5_moves cX5_moves 4 (some .int), Cond.methodLink RX5 138 yX5_codeByte, Cond.instanceMethod yX5_codeByte]
def wsX5_ofNine_r3 : List Cond := [Cond.selects RX5 yX5_codeByte yX5_codeByte, Cond.code yX5_codeByte cX5_codeByte 3 (some .int), Cond.methodLink RX5 50 yX5_changes, Cond.static yX5_changes, Cond.code yX5_changes cX5_changes 1 (some .int), Cond.methodLink RX5 47 yX5_isOne, Cond.static yX5_isOne, Cond.code yX5_isOne cX5_isOne 1 (some .boolean), Cond.constant RX5 41 (65024), Cond.constant RX5 42 (37888), Cond.methodLink RX5 157 yX5_ofOthers, Cond.instanceMethod yX5_ofOthers, Cond.selects RX5 yX5_ofOthers yX5_ofOthers, Cond.code yX5_ofOthers cX5_ofOthers 4 (some .int), Cond.constant RX5 60 (38153), Cond.constant RX5 56 (38152), Cond.constant RX5 57 (38168), Cond.constant RX5 58 (38344), Cond.methodLink RX5 148 yX5_jumps, Cond.instanceMethod yX5_jumps, Cond.selects RX5 yX5_jumps yX5_jumps, Cond.code yX5_jumps cX5_jumps 4 (some .int), Cond.fieldLink RX5 16 "FlagCoreModel" "count" "[I", Cond.methodLink RX5 141 yX5_canCall]
def wsX5_ofNine_r4 : List Cond := [Cond.instanceMethod yX5_canCall, Cond.selects RX5 yX5_canCall yX5_canCall, Cond.code yX5_canCall cX5_canCall 2 (some .boolean), Cond.methodLink RX5 145 yX5_calls, Cond.instanceMethod yX5_calls, Cond.selects RX5 yX5_calls yX5_calls, Cond.code yX5_calls cX5_calls 3 none, Cond.methodLink RX5 151 yX5_returns, Cond.instanceMethod yX5_returns, Cond.selects RX5 yX5_returns yX5_returns, Cond.code yX5_returns cX5_returns 5 (some .int), Cond.methodLink RX5 74 yX5_flag, Cond.instanceMethod yX5_flag, Cond.selects RX5 yX5_flag yX5_flag, Cond.code yX5_flag cX5_flag 3 none, Cond.methodLink RX5 160 yX5_ofOne, Cond.instanceMethod yX5_ofOne, Cond.selects RX5 yX5_ofOne yX5_ofOne, Cond.code yX5_ofOne cX5_ofOne 5 none, Cond.methodLink RX5 103 yX5_logic, Cond.instanceMethod yX5_logic, Cond.selects RX5 yX5_logic yX5_logic, Cond.code yX5_logic cX5_logic 2 (some .int), Cond.methodLink RX5 78 yX5_signs]
def wsX5_ofNine_r5 : List Cond := [Cond.instanceMethod yX5_signs, Cond.selects RX5 yX5_signs yX5_signs, Cond.code yX5_signs cX5_signs 3 none, Cond.methodLink RX5 91 yX5_subtract, Cond.instanceMethod yX5_subtract, Cond.selects RX5 yX5_subtract yX5_subtract, Cond.code yX5_subtract cX5_subtract 7 (some .int), Cond.methodLink RX5 81 yX5_has, Cond.instanceMethod yX5_has, Cond.selects RX5 yX5_has yX5_has, Cond.code yX5_has cX5_has 2 (some .boolean), Cond.methodLink RX5 116 yX5_right, Cond.instanceMethod yX5_right, Cond.selects RX5 yX5_right yX5_right, Cond.code yX5_right cX5_right 5 (some .int), Cond.methodLink RX5 87 yX5_carry, Cond.instanceMethod yX5_carry, Cond.selects RX5 yX5_carry yX5_carry, Cond.code yX5_carry cX5_carry 1 (some .int), Cond.methodLink RX5 164 yX5_ofPair, Cond.instanceMethod yX5_ofPair, Cond.selects RX5 yX5_ofPair yX5_ofPair, Cond.code yX5_ofPair cX5_ofPair 9 none, Cond.constant RX5 120 (32768)]
def wsX5_ofNine_r6 : List Cond := [Cond.methodLink RX5 168 yX5_ofPortBit, Cond.instanceMethod yX5_ofPortBit, Cond.selects RX5 yX5_ofPortBit yX5_ofPortBit, Cond.code yX5_ofPortBit cX5_ofPortBit 5 none, Cond.methodLink RX5 99 yX5_skips, Cond.instanceMethod yX5_skips, Cond.selects RX5 yX5_skips yX5_skips, Cond.code yX5_skips cX5_skips 3 none, Cond.methodLink RX5 71 yX5_hasNext, Cond.static yX5_hasNext, Cond.code yX5_hasNext cX5_hasNext 1 (some .boolean), Cond.methodLink RX5 113 yX5_product, Cond.instanceMethod yX5_product, Cond.selects RX5 yX5_product yX5_product, Cond.code yX5_product cX5_product 4 none]
def wsX5_ofNine : List Cond := .code yX5_ofNine cX5_ofNine 3 (some .int) :: ((wsX5_ofNine_r1 ++ (wsX5_ofNine_r2 ++ (wsX5_ofNine_r3 ++ (wsX5_ofNine_r4 ++ (wsX5_ofNine_r5 ++ wsX5_ofNine_r6))))) ++ wsX50)
def wsX5_ofFifteen_r1 : List Cond := [Cond.constant RX5 171 (63488), Cond.fieldLink RX5 84 "FlagCoreModel" "next" "I", Cond.methodLink RX5 172 yX5_ofBit, Cond.instanceMethod yX5_ofBit, Cond.selects RX5 yX5_ofBit yX5_ofBit, Cond.initialized RX5, Cond.code yX5_ofBit cX5_ofBit 5 none, Cond.fieldLink RX5 13 "FlagCoreModel" "data" "[I", Cond.methodLink RX5 53 yX5_dOf, Cond.static yX5_dOf, Cond.code yX5_dOf cX5_dOf 1 (some .int), Cond.methodLink RX5 81 yX5_has, Cond.instanceMethod yX5_has, Cond.selects RX5 yX5_has yX5_has, Cond.code yX5_has cX5_has 2 (some .boolean), Cond.methodLink RX5 74 yX5_flag, Cond.instanceMethod yX5_flag, Cond.selects RX5 yX5_flag yX5_flag, Cond.code yX5_flag cX5_flag 3 none, Cond.methodLink RX5 99 yX5_skips, Cond.instanceMethod yX5_skips, Cond.selects RX5 yX5_skips yX5_skips, Cond.code yX5_skips cX5_skips 3 none, Cond.fieldLink RX5 7 "FlagCoreModel" "code" "[I"]
def wsX5_ofFifteen_r2 : List Cond := [Cond.fieldLink RX5 16 "FlagCoreModel" "count" "[I", Cond.methodLink RX5 71 yX5_hasNext, Cond.static yX5_hasNext, Cond.code yX5_hasNext cX5_hasNext 1 (some .boolean), Cond.methodLink RX5 43 yX5_isMemory, Cond.static yX5_isMemory, Cond.code yX5_isMemory cX5_isMemory 1 (some .boolean), Cond.constant RX5 39 (64512), Cond.constant RX5 40 (36864), Cond.methodLink RX5 47 yX5_isOne, Cond.static yX5_isOne, Cond.code yX5_isOne cX5_isOne 1 (some .boolean), Cond.constant RX5 41 (65024), Cond.constant RX5 42 (37888)]
def wsX5_ofFifteen : List Cond := .code yX5_ofFifteen cX5_ofFifteen 4 (some .int) :: ((wsX5_ofFifteen_r1 ++ wsX5_ofFifteen_r2) ++ wsX50)
def wsX5_does_r1 : List Cond := [Cond.constant RX5 175 (53248), Cond.constant RX5 120 (32768), Cond.fieldLink RX5 84 "FlagCoreModel" "next" "I", Cond.methodLink RX5 176 yX5_ofPlaces, Cond.instanceMethod yX5_ofPlaces, Cond.selects RX5 yX5_ofPlaces yX5_ofPlaces, Cond.initialized RX5, Cond.code yX5_ofPlaces cX5_ofPlaces 4 (some .int), Cond.constant RX5 27 (65535), Cond.methodLink RX5 28 yX5_pair, Cond.instanceMethod yX5_pair, Cond.selects RX5 yX5_pair yX5_pair, Cond.code yX5_pair cX5_pair 2 (some .int), Cond.fieldLink RX5 13 "FlagCoreModel" "data" "[I", Cond.methodLink RX5 53 yX5_dOf, Cond.static yX5_dOf, Cond.code yX5_dOf cX5_dOf 1 (some .int), Cond.methodLink RX5 134 yX5_moves, Cond.instanceMethod yX5_moves, Cond.selects RX5 yX5_moves yX5_moves, Cond.code yX5_moves cX5_moves 4 (some .int), Cond.methodLink RX5 121 yX5_isFar, Cond.static yX5_isFar, Cond.code yX5_isFar cX5_isFar 1 (some .boolean)]
def wsX5_does_r2 : List Cond := [Cond.methodLink RX5 179 yX5_ofTwo, Cond.instanceMethod yX5_ofTwo, Cond.selects RX5 yX5_ofTwo yX5_ofTwo, Cond.code yX5_ofTwo cX5_ofTwo 8 none, Cond.methodLink RX5 87 yX5_carry, Cond.instanceMethod yX5_carry, Cond.selects RX5 yX5_carry yX5_carry, Cond.code yX5_carry cX5_carry 1 (some .int), Cond.methodLink RX5 81 yX5_has, Cond.instanceMethod yX5_has, Cond.selects RX5 yX5_has yX5_has, Cond.code yX5_has cX5_has 2 (some .boolean), Cond.methodLink RX5 91 yX5_subtract, Cond.instanceMethod yX5_subtract, Cond.selects RX5 yX5_subtract yX5_subtract, Cond.code yX5_subtract cX5_subtract 7 (some .int), Cond.methodLink RX5 74 yX5_flag, Cond.instanceMethod yX5_flag, Cond.selects RX5 yX5_flag yX5_flag, Cond.code yX5_flag cX5_flag 3 none, Cond.methodLink RX5 78 yX5_signs, Cond.instanceMethod yX5_signs, Cond.selects RX5 yX5_signs yX5_signs, Cond.code yX5_signs cX5_signs 3 none]
def wsX5_does_r3 : List Cond := [Cond.methodLink RX5 95 yX5_add, Cond.instanceMethod yX5_add, Cond.selects RX5 yX5_add yX5_add, Cond.code yX5_add cX5_add 5 (some .int), Cond.methodLink RX5 99 yX5_skips, Cond.instanceMethod yX5_skips, Cond.selects RX5 yX5_skips yX5_skips, Cond.code yX5_skips cX5_skips 3 none, Cond.fieldLink RX5 7 "FlagCoreModel" "code" "[I", Cond.fieldLink RX5 16 "FlagCoreModel" "count" "[I", Cond.methodLink RX5 71 yX5_hasNext, Cond.static yX5_hasNext, Cond.code yX5_hasNext cX5_hasNext 1 (some .boolean), Cond.methodLink RX5 43 yX5_isMemory, Cond.static yX5_isMemory, Cond.code yX5_isMemory cX5_isMemory 1 (some .boolean), Cond.constant RX5 39 (64512), Cond.constant RX5 40 (36864), Cond.methodLink RX5 47 yX5_isOne, Cond.static yX5_isOne, Cond.code yX5_isOne cX5_isOne 1 (some .boolean), Cond.constant RX5 41 (65024), Cond.constant RX5 42 (37888), Cond.methodLink RX5 103 yX5_logic]
def wsX5_does_r4 : List Cond := [Cond.instanceMethod yX5_logic, Cond.selects RX5 yX5_logic yX5_logic, Cond.code yX5_logic cX5_logic 2 (some .int), Cond.methodLink RX5 182 yX5_products, Cond.instanceMethod yX5_products, Cond.selects RX5 yX5_products yX5_products, Cond.code yX5_products cX5_products 4 none, Cond.methodLink RX5 110 yX5_signed, Cond.static yX5_signed, Cond.code yX5_signed cX5_signed 1 (some .int), Cond.methodLink RX5 113 yX5_product, Cond.instanceMethod yX5_product, Cond.selects RX5 yX5_product yX5_product, Cond.code yX5_product cX5_product 4 none, Cond.methodLink RX5 106 yX5_setPair, Cond.instanceMethod yX5_setPair, Cond.selects RX5 yX5_setPair yX5_setPair, Cond.code yX5_setPair cX5_setPair 3 none, Cond.methodLink RX5 185 yX5_ofNine, Cond.instanceMethod yX5_ofNine, Cond.selects RX5 yX5_ofNine yX5_ofNine, Cond.code yX5_ofNine cX5_ofNine 3 (some .int), Cond.constant RX5 163 (38912), Cond.constant RX5 167 (39936)]
def wsX5_does_r5 : List Cond := [Cond.methodLink RX5 154 yX5_ofMemory, Cond.instanceMethod yX5_ofMemory, Cond.selects RX5 yX5_ofMemory yX5_ofMemory, Cond.code yX5_ofMemory cX5_ofMemory 10 (some .int), Cond.methodLink RX5 131 yX5_ofStack, Cond.instanceMethod yX5_ofStack, Cond.selects RX5 yX5_ofStack yX5_ofStack, Cond.code yX5_ofStack cX5_ofStack 6 (some .int), Cond.methodLink RX5 124 yX5_pushes, Cond.instanceMethod yX5_pushes, Cond.selects RX5 yX5_pushes yX5_pushes, Cond.code yX5_pushes cX5_pushes 3 none, Cond.methodLink RX5 128 yX5_pops, Cond.instanceMethod yX5_pops, Cond.selects RX5 yX5_pops yX5_pops, Cond.code yX5_pops cX5_pops 2 (some .int), Cond.methodLink RX5 138 yX5_codeByte, Cond.instanceMethod yX5_codeByte, Cond.selects RX5 yX5_codeByte yX5_codeByte, Cond.code yX5_codeByte cX5_codeByte 3 (some .int), Cond.methodLink RX5 50 yX5_changes, Cond.static yX5_changes, Cond.code yX5_changes cX5_changes 1 (some .int), Cond.methodLink RX5 157 yX5_ofOthers]
def wsX5_does_r6 : List Cond := [Cond.instanceMethod yX5_ofOthers, Cond.selects RX5 yX5_ofOthers yX5_ofOthers, Cond.code yX5_ofOthers cX5_ofOthers 4 (some .int), Cond.constant RX5 60 (38153), Cond.constant RX5 56 (38152), Cond.constant RX5 57 (38168), Cond.constant RX5 58 (38344), Cond.methodLink RX5 148 yX5_jumps, Cond.instanceMethod yX5_jumps, Cond.selects RX5 yX5_jumps yX5_jumps, Cond.code yX5_jumps cX5_jumps 4 (some .int), Cond.methodLink RX5 141 yX5_canCall, Cond.instanceMethod yX5_canCall, Cond.selects RX5 yX5_canCall yX5_canCall, Cond.code yX5_canCall cX5_canCall 2 (some .boolean), Cond.methodLink RX5 145 yX5_calls, Cond.instanceMethod yX5_calls, Cond.selects RX5 yX5_calls yX5_calls, Cond.code yX5_calls cX5_calls 3 none, Cond.methodLink RX5 151 yX5_returns, Cond.instanceMethod yX5_returns, Cond.selects RX5 yX5_returns yX5_returns, Cond.code yX5_returns cX5_returns 5 (some .int), Cond.methodLink RX5 160 yX5_ofOne]
def wsX5_does_r7 : List Cond := [Cond.instanceMethod yX5_ofOne, Cond.selects RX5 yX5_ofOne yX5_ofOne, Cond.code yX5_ofOne cX5_ofOne 5 none, Cond.methodLink RX5 116 yX5_right, Cond.instanceMethod yX5_right, Cond.selects RX5 yX5_right yX5_right, Cond.code yX5_right cX5_right 5 (some .int), Cond.methodLink RX5 164 yX5_ofPair, Cond.instanceMethod yX5_ofPair, Cond.selects RX5 yX5_ofPair yX5_ofPair, Cond.code yX5_ofPair cX5_ofPair 9 none, Cond.methodLink RX5 168 yX5_ofPortBit, Cond.instanceMethod yX5_ofPortBit, Cond.selects RX5 yX5_ofPortBit yX5_ofPortBit, Cond.code yX5_ofPortBit cX5_ofPortBit 5 none, Cond.methodLink RX5 188 yX5_ofPort, Cond.instanceMethod yX5_ofPort, Cond.selects RX5 yX5_ofPort yX5_ofPort, Cond.code yX5_ofPort cX5_ofPort 3 none, Cond.methodLink RX5 191 yX5_ofFifteen, Cond.instanceMethod yX5_ofFifteen, Cond.selects RX5 yX5_ofFifteen yX5_ofFifteen, Cond.code yX5_ofFifteen cX5_ofFifteen 4 (some .int), Cond.constant RX5 171 (63488)]
def wsX5_does_r8 : List Cond := [Cond.methodLink RX5 172 yX5_ofBit, Cond.instanceMethod yX5_ofBit, Cond.selects RX5 yX5_ofBit yX5_ofBit, Cond.code yX5_ofBit cX5_ofBit 5 none, Cond.methodLink RX5 194 yX5_ofNumber, Cond.instanceMethod yX5_ofNumber, Cond.selects RX5 yX5_ofNumber yX5_ofNumber, Cond.code yX5_ofNumber cX5_ofNumber 6 none]
def wsX5_does : List Cond := .code yX5_does cX5_does 4 (some .int) :: ((wsX5_does_r1 ++ (wsX5_does_r2 ++ (wsX5_does_r3 ++ (wsX5_does_r4 ++ (wsX5_does_r5 ++ (wsX5_does_r6 ++ (wsX5_does_r7 ++ wsX5_does_r8))))))) ++ wsX50)
def wsX5_enters_r1 : List Cond := [Cond.fieldLink RX5 36 "FlagCoreModel" "asked" "I", Cond.fieldLink RX5 19 "FlagCoreModel" "pc" "I", Cond.fieldLink RX5 84 "FlagCoreModel" "next" "I", Cond.methodLink RX5 141 yX5_canCall, Cond.instanceMethod yX5_canCall, Cond.selects RX5 yX5_canCall yX5_canCall, Cond.initialized RX5, Cond.code yX5_canCall cX5_canCall 2 (some .boolean), Cond.constant RX5 27 (65535), Cond.methodLink RX5 28 yX5_pair, Cond.instanceMethod yX5_pair, Cond.selects RX5 yX5_pair yX5_pair, Cond.code yX5_pair cX5_pair 2 (some .int), Cond.fieldLink RX5 13 "FlagCoreModel" "data" "[I", Cond.methodLink RX5 121 yX5_isFar, Cond.static yX5_isFar, Cond.code yX5_isFar cX5_isFar 1 (some .boolean), Cond.methodLink RX5 145 yX5_calls, Cond.instanceMethod yX5_calls, Cond.selects RX5 yX5_calls yX5_calls, Cond.code yX5_calls cX5_calls 3 none, Cond.methodLink RX5 124 yX5_pushes, Cond.instanceMethod yX5_pushes, Cond.selects RX5 yX5_pushes yX5_pushes]
def wsX5_enters_r2 : List Cond := [Cond.code yX5_pushes cX5_pushes 3 none, Cond.methodLink RX5 106 yX5_setPair, Cond.instanceMethod yX5_setPair, Cond.selects RX5 yX5_setPair yX5_setPair, Cond.code yX5_setPair cX5_setPair 3 none, Cond.methodLink RX5 74 yX5_flag, Cond.instanceMethod yX5_flag, Cond.selects RX5 yX5_flag yX5_flag, Cond.code yX5_flag cX5_flag 3 none]
def wsX5_enters : List Cond := .code yX5_enters cX5_enters 2 (some .int) :: ((wsX5_enters_r1 ++ wsX5_enters_r2) ++ wsX50)
def wsX5_stepOnce_r1 : List Cond := [Cond.fieldLink RX5 36 "FlagCoreModel" "asked" "I", Cond.fieldLink RX5 32 "FlagCoreModel" "isWaited" "Z", Cond.fieldLink RX5 7 "FlagCoreModel" "code" "[I", Cond.fieldLink RX5 19 "FlagCoreModel" "pc" "I", Cond.fieldLink RX5 84 "FlagCoreModel" "next" "I", Cond.constant RX5 203 (38008), Cond.constant RX5 57 (38168), Cond.methodLink RX5 81 yX5_has, Cond.instanceMethod yX5_has, Cond.selects RX5 yX5_has yX5_has, Cond.initialized RX5, Cond.code yX5_has cX5_has 2 (some .boolean), Cond.fieldLink RX5 13 "FlagCoreModel" "data" "[I", Cond.methodLink RX5 197 yX5_enters, Cond.instanceMethod yX5_enters, Cond.selects RX5 yX5_enters yX5_enters, Cond.code yX5_enters cX5_enters 2 (some .int), Cond.methodLink RX5 141 yX5_canCall, Cond.instanceMethod yX5_canCall, Cond.selects RX5 yX5_canCall yX5_canCall, Cond.code yX5_canCall cX5_canCall 2 (some .boolean), Cond.constant RX5 27 (65535), Cond.methodLink RX5 28 yX5_pair, Cond.instanceMethod yX5_pair]
def wsX5_stepOnce_r2 : List Cond := [Cond.selects RX5 yX5_pair yX5_pair, Cond.code yX5_pair cX5_pair 2 (some .int), Cond.methodLink RX5 121 yX5_isFar, Cond.static yX5_isFar, Cond.code yX5_isFar cX5_isFar 1 (some .boolean), Cond.methodLink RX5 145 yX5_calls, Cond.instanceMethod yX5_calls, Cond.selects RX5 yX5_calls yX5_calls, Cond.code yX5_calls cX5_calls 3 none, Cond.methodLink RX5 124 yX5_pushes, Cond.instanceMethod yX5_pushes, Cond.selects RX5 yX5_pushes yX5_pushes, Cond.code yX5_pushes cX5_pushes 3 none, Cond.methodLink RX5 106 yX5_setPair, Cond.instanceMethod yX5_setPair, Cond.selects RX5 yX5_setPair yX5_setPair, Cond.code yX5_setPair cX5_setPair 3 none, Cond.methodLink RX5 74 yX5_flag, Cond.instanceMethod yX5_flag, Cond.selects RX5 yX5_flag yX5_flag, Cond.code yX5_flag cX5_flag 3 none, Cond.methodLink RX5 68 yX5_isIllegal, Cond.static yX5_isIllegal, Cond.code yX5_isIllegal cX5_isIllegal 1 (some .boolean)]
def wsX5_stepOnce_r3 : List Cond := [Cond.constant RX5 67 (63496), Cond.methodLink RX5 43 yX5_isMemory, Cond.static yX5_isMemory, Cond.code yX5_isMemory cX5_isMemory 1 (some .boolean), Cond.constant RX5 39 (64512), Cond.constant RX5 40 (36864), Cond.methodLink RX5 61 yX5_isBadMemory, Cond.static yX5_isBadMemory, Cond.code yX5_isBadMemory cX5_isBadMemory 4 (some .boolean), Cond.methodLink RX5 50 yX5_changes, Cond.static yX5_changes, Cond.code yX5_changes cX5_changes 1 (some .int), Cond.methodLink RX5 53 yX5_dOf, Cond.static yX5_dOf, Cond.code yX5_dOf cX5_dOf 1 (some .int), Cond.methodLink RX5 47 yX5_isOne, Cond.static yX5_isOne, Cond.code yX5_isOne cX5_isOne 1 (some .boolean), Cond.constant RX5 41 (65024), Cond.constant RX5 42 (37888), Cond.methodLink RX5 64 yX5_isBadOne, Cond.static yX5_isBadOne, Cond.code yX5_isBadOne cX5_isBadOne 2 (some .boolean), Cond.constant RX5 56 (38152)]
def wsX5_stepOnce_r4 : List Cond := [Cond.constant RX5 58 (38344), Cond.constant RX5 59 (37897), Cond.constant RX5 60 (38153), Cond.methodLink RX5 200 yX5_does, Cond.instanceMethod yX5_does, Cond.selects RX5 yX5_does yX5_does, Cond.code yX5_does cX5_does 4 (some .int), Cond.constant RX5 175 (53248), Cond.constant RX5 120 (32768), Cond.methodLink RX5 176 yX5_ofPlaces, Cond.instanceMethod yX5_ofPlaces, Cond.selects RX5 yX5_ofPlaces yX5_ofPlaces, Cond.code yX5_ofPlaces cX5_ofPlaces 4 (some .int), Cond.methodLink RX5 134 yX5_moves, Cond.instanceMethod yX5_moves, Cond.selects RX5 yX5_moves yX5_moves, Cond.code yX5_moves cX5_moves 4 (some .int), Cond.methodLink RX5 179 yX5_ofTwo, Cond.instanceMethod yX5_ofTwo, Cond.selects RX5 yX5_ofTwo yX5_ofTwo, Cond.code yX5_ofTwo cX5_ofTwo 8 none, Cond.methodLink RX5 87 yX5_carry, Cond.instanceMethod yX5_carry, Cond.selects RX5 yX5_carry yX5_carry]
def wsX5_stepOnce_r5 : List Cond := [Cond.code yX5_carry cX5_carry 1 (some .int), Cond.methodLink RX5 91 yX5_subtract, Cond.instanceMethod yX5_subtract, Cond.selects RX5 yX5_subtract yX5_subtract, Cond.code yX5_subtract cX5_subtract 7 (some .int), Cond.methodLink RX5 78 yX5_signs, Cond.instanceMethod yX5_signs, Cond.selects RX5 yX5_signs yX5_signs, Cond.code yX5_signs cX5_signs 3 none, Cond.methodLink RX5 95 yX5_add, Cond.instanceMethod yX5_add, Cond.selects RX5 yX5_add yX5_add, Cond.code yX5_add cX5_add 5 (some .int), Cond.methodLink RX5 99 yX5_skips, Cond.instanceMethod yX5_skips, Cond.selects RX5 yX5_skips yX5_skips, Cond.code yX5_skips cX5_skips 3 none, Cond.fieldLink RX5 16 "FlagCoreModel" "count" "[I", Cond.methodLink RX5 71 yX5_hasNext, Cond.static yX5_hasNext, Cond.code yX5_hasNext cX5_hasNext 1 (some .boolean), Cond.methodLink RX5 103 yX5_logic, Cond.instanceMethod yX5_logic, Cond.selects RX5 yX5_logic yX5_logic]
def wsX5_stepOnce_r6 : List Cond := [Cond.code yX5_logic cX5_logic 2 (some .int), Cond.methodLink RX5 182 yX5_products, Cond.instanceMethod yX5_products, Cond.selects RX5 yX5_products yX5_products, Cond.code yX5_products cX5_products 4 none, Cond.methodLink RX5 110 yX5_signed, Cond.static yX5_signed, Cond.code yX5_signed cX5_signed 1 (some .int), Cond.methodLink RX5 113 yX5_product, Cond.instanceMethod yX5_product, Cond.selects RX5 yX5_product yX5_product, Cond.code yX5_product cX5_product 4 none, Cond.methodLink RX5 185 yX5_ofNine, Cond.instanceMethod yX5_ofNine, Cond.selects RX5 yX5_ofNine yX5_ofNine, Cond.code yX5_ofNine cX5_ofNine 3 (some .int), Cond.constant RX5 163 (38912), Cond.constant RX5 167 (39936), Cond.methodLink RX5 154 yX5_ofMemory, Cond.instanceMethod yX5_ofMemory, Cond.selects RX5 yX5_ofMemory yX5_ofMemory, Cond.code yX5_ofMemory cX5_ofMemory 10 (some .int), Cond.methodLink RX5 131 yX5_ofStack, Cond.instanceMethod yX5_ofStack]
def wsX5_stepOnce_r7 : List Cond := [Cond.selects RX5 yX5_ofStack yX5_ofStack, Cond.code yX5_ofStack cX5_ofStack 6 (some .int), Cond.methodLink RX5 128 yX5_pops, Cond.instanceMethod yX5_pops, Cond.selects RX5 yX5_pops yX5_pops, Cond.code yX5_pops cX5_pops 2 (some .int), Cond.methodLink RX5 138 yX5_codeByte, Cond.instanceMethod yX5_codeByte, Cond.selects RX5 yX5_codeByte yX5_codeByte, Cond.code yX5_codeByte cX5_codeByte 3 (some .int), Cond.methodLink RX5 157 yX5_ofOthers, Cond.instanceMethod yX5_ofOthers, Cond.selects RX5 yX5_ofOthers yX5_ofOthers, Cond.code yX5_ofOthers cX5_ofOthers 4 (some .int), Cond.methodLink RX5 148 yX5_jumps, Cond.instanceMethod yX5_jumps, Cond.selects RX5 yX5_jumps yX5_jumps, Cond.code yX5_jumps cX5_jumps 4 (some .int), Cond.methodLink RX5 151 yX5_returns, Cond.instanceMethod yX5_returns, Cond.selects RX5 yX5_returns yX5_returns, Cond.code yX5_returns cX5_returns 5 (some .int), Cond.methodLink RX5 160 yX5_ofOne, Cond.instanceMethod yX5_ofOne]
def wsX5_stepOnce_r8 : List Cond := [Cond.selects RX5 yX5_ofOne yX5_ofOne, Cond.code yX5_ofOne cX5_ofOne 5 none, Cond.methodLink RX5 116 yX5_right, Cond.instanceMethod yX5_right, Cond.selects RX5 yX5_right yX5_right, Cond.code yX5_right cX5_right 5 (some .int), Cond.methodLink RX5 164 yX5_ofPair, Cond.instanceMethod yX5_ofPair, Cond.selects RX5 yX5_ofPair yX5_ofPair, Cond.code yX5_ofPair cX5_ofPair 9 none, Cond.methodLink RX5 168 yX5_ofPortBit, Cond.instanceMethod yX5_ofPortBit, Cond.selects RX5 yX5_ofPortBit yX5_ofPortBit, Cond.code yX5_ofPortBit cX5_ofPortBit 5 none, Cond.methodLink RX5 188 yX5_ofPort, Cond.instanceMethod yX5_ofPort, Cond.selects RX5 yX5_ofPort yX5_ofPort, Cond.code yX5_ofPort cX5_ofPort 3 none, Cond.methodLink RX5 191 yX5_ofFifteen, Cond.instanceMethod yX5_ofFifteen, Cond.selects RX5 yX5_ofFifteen yX5_ofFifteen, Cond.code yX5_ofFifteen cX5_ofFifteen 4 (some .int), Cond.constant RX5 171 (63488), Cond.methodLink RX5 172 yX5_ofBit]
def wsX5_stepOnce_r9 : List Cond := [Cond.instanceMethod yX5_ofBit, Cond.selects RX5 yX5_ofBit yX5_ofBit, Cond.code yX5_ofBit cX5_ofBit 5 none, Cond.methodLink RX5 194 yX5_ofNumber, Cond.instanceMethod yX5_ofNumber, Cond.selects RX5 yX5_ofNumber yX5_ofNumber, Cond.code yX5_ofNumber cX5_ofNumber 6 none]
def wsX5_stepOnce : List Cond := .code yX5_stepOnce cX5_stepOnce 3 (some .int) :: ((wsX5_stepOnce_r1 ++ (wsX5_stepOnce_r2 ++ (wsX5_stepOnce_r3 ++ (wsX5_stepOnce_r4 ++ (wsX5_stepOnce_r5 ++ (wsX5_stepOnce_r6 ++ (wsX5_stepOnce_r7 ++ (wsX5_stepOnce_r8 ++ wsX5_stepOnce_r9)))))))) ++ wsX50)
def wsX5_step_r1 : List Cond := [Cond.fieldLink RX5 207 "FlagCoreModel" "ended" "I", Cond.fieldLink RX5 16 "FlagCoreModel" "count" "[I", Cond.methodLink RX5 204 yX5_stepOnce, Cond.instanceMethod yX5_stepOnce, Cond.selects RX5 yX5_stepOnce yX5_stepOnce, Cond.initialized RX5, Cond.code yX5_stepOnce cX5_stepOnce 3 (some .int), Cond.fieldLink RX5 36 "FlagCoreModel" "asked" "I", Cond.fieldLink RX5 32 "FlagCoreModel" "isWaited" "Z", Cond.fieldLink RX5 7 "FlagCoreModel" "code" "[I", Cond.fieldLink RX5 19 "FlagCoreModel" "pc" "I", Cond.fieldLink RX5 84 "FlagCoreModel" "next" "I", Cond.constant RX5 203 (38008), Cond.constant RX5 57 (38168), Cond.methodLink RX5 81 yX5_has, Cond.instanceMethod yX5_has, Cond.selects RX5 yX5_has yX5_has, Cond.code yX5_has cX5_has 2 (some .boolean), Cond.fieldLink RX5 13 "FlagCoreModel" "data" "[I", Cond.methodLink RX5 197 yX5_enters, Cond.instanceMethod yX5_enters, Cond.selects RX5 yX5_enters yX5_enters, Cond.code yX5_enters cX5_enters 2 (some .int), Cond.methodLink RX5 141 yX5_canCall]
def wsX5_step_r2 : List Cond := [Cond.instanceMethod yX5_canCall, Cond.selects RX5 yX5_canCall yX5_canCall, Cond.code yX5_canCall cX5_canCall 2 (some .boolean), Cond.constant RX5 27 (65535), Cond.methodLink RX5 28 yX5_pair, Cond.instanceMethod yX5_pair, Cond.selects RX5 yX5_pair yX5_pair, Cond.code yX5_pair cX5_pair 2 (some .int), Cond.methodLink RX5 121 yX5_isFar, Cond.static yX5_isFar, Cond.code yX5_isFar cX5_isFar 1 (some .boolean), Cond.methodLink RX5 145 yX5_calls, Cond.instanceMethod yX5_calls, Cond.selects RX5 yX5_calls yX5_calls, Cond.code yX5_calls cX5_calls 3 none, Cond.methodLink RX5 124 yX5_pushes, Cond.instanceMethod yX5_pushes, Cond.selects RX5 yX5_pushes yX5_pushes, Cond.code yX5_pushes cX5_pushes 3 none, Cond.methodLink RX5 106 yX5_setPair, Cond.instanceMethod yX5_setPair, Cond.selects RX5 yX5_setPair yX5_setPair, Cond.code yX5_setPair cX5_setPair 3 none, Cond.methodLink RX5 74 yX5_flag]
def wsX5_step_r3 : List Cond := [Cond.instanceMethod yX5_flag, Cond.selects RX5 yX5_flag yX5_flag, Cond.code yX5_flag cX5_flag 3 none, Cond.methodLink RX5 68 yX5_isIllegal, Cond.static yX5_isIllegal, Cond.code yX5_isIllegal cX5_isIllegal 1 (some .boolean), Cond.constant RX5 67 (63496), Cond.methodLink RX5 43 yX5_isMemory, Cond.static yX5_isMemory, Cond.code yX5_isMemory cX5_isMemory 1 (some .boolean), Cond.constant RX5 39 (64512), Cond.constant RX5 40 (36864), Cond.methodLink RX5 61 yX5_isBadMemory, Cond.static yX5_isBadMemory, Cond.code yX5_isBadMemory cX5_isBadMemory 4 (some .boolean), Cond.methodLink RX5 50 yX5_changes, Cond.static yX5_changes, Cond.code yX5_changes cX5_changes 1 (some .int), Cond.methodLink RX5 53 yX5_dOf, Cond.static yX5_dOf, Cond.code yX5_dOf cX5_dOf 1 (some .int), Cond.methodLink RX5 47 yX5_isOne, Cond.static yX5_isOne, Cond.code yX5_isOne cX5_isOne 1 (some .boolean)]
def wsX5_step_r4 : List Cond := [Cond.constant RX5 41 (65024), Cond.constant RX5 42 (37888), Cond.methodLink RX5 64 yX5_isBadOne, Cond.static yX5_isBadOne, Cond.code yX5_isBadOne cX5_isBadOne 2 (some .boolean), Cond.constant RX5 56 (38152), Cond.constant RX5 58 (38344), Cond.constant RX5 59 (37897), Cond.constant RX5 60 (38153), Cond.methodLink RX5 200 yX5_does, Cond.instanceMethod yX5_does, Cond.selects RX5 yX5_does yX5_does, Cond.code yX5_does cX5_does 4 (some .int), Cond.constant RX5 175 (53248), Cond.constant RX5 120 (32768), Cond.methodLink RX5 176 yX5_ofPlaces, Cond.instanceMethod yX5_ofPlaces, Cond.selects RX5 yX5_ofPlaces yX5_ofPlaces, Cond.code yX5_ofPlaces cX5_ofPlaces 4 (some .int), Cond.methodLink RX5 134 yX5_moves, Cond.instanceMethod yX5_moves, Cond.selects RX5 yX5_moves yX5_moves, Cond.code yX5_moves cX5_moves 4 (some .int), Cond.methodLink RX5 179 yX5_ofTwo]
def wsX5_step_r5 : List Cond := [Cond.instanceMethod yX5_ofTwo, Cond.selects RX5 yX5_ofTwo yX5_ofTwo, Cond.code yX5_ofTwo cX5_ofTwo 8 none, Cond.methodLink RX5 87 yX5_carry, Cond.instanceMethod yX5_carry, Cond.selects RX5 yX5_carry yX5_carry, Cond.code yX5_carry cX5_carry 1 (some .int), Cond.methodLink RX5 91 yX5_subtract, Cond.instanceMethod yX5_subtract, Cond.selects RX5 yX5_subtract yX5_subtract, Cond.code yX5_subtract cX5_subtract 7 (some .int), Cond.methodLink RX5 78 yX5_signs, Cond.instanceMethod yX5_signs, Cond.selects RX5 yX5_signs yX5_signs, Cond.code yX5_signs cX5_signs 3 none, Cond.methodLink RX5 95 yX5_add, Cond.instanceMethod yX5_add, Cond.selects RX5 yX5_add yX5_add, Cond.code yX5_add cX5_add 5 (some .int), Cond.methodLink RX5 99 yX5_skips, Cond.instanceMethod yX5_skips, Cond.selects RX5 yX5_skips yX5_skips, Cond.code yX5_skips cX5_skips 3 none, Cond.methodLink RX5 71 yX5_hasNext]
def wsX5_step_r6 : List Cond := [Cond.static yX5_hasNext, Cond.code yX5_hasNext cX5_hasNext 1 (some .boolean), Cond.methodLink RX5 103 yX5_logic, Cond.instanceMethod yX5_logic, Cond.selects RX5 yX5_logic yX5_logic, Cond.code yX5_logic cX5_logic 2 (some .int), Cond.methodLink RX5 182 yX5_products, Cond.instanceMethod yX5_products, Cond.selects RX5 yX5_products yX5_products, Cond.code yX5_products cX5_products 4 none, Cond.methodLink RX5 110 yX5_signed, Cond.static yX5_signed, Cond.code yX5_signed cX5_signed 1 (some .int), Cond.methodLink RX5 113 yX5_product, Cond.instanceMethod yX5_product, Cond.selects RX5 yX5_product yX5_product, Cond.code yX5_product cX5_product 4 none, Cond.methodLink RX5 185 yX5_ofNine, Cond.instanceMethod yX5_ofNine, Cond.selects RX5 yX5_ofNine yX5_ofNine, Cond.code yX5_ofNine cX5_ofNine 3 (some .int), Cond.constant RX5 163 (38912), Cond.constant RX5 167 (39936), Cond.methodLink RX5 154 yX5_ofMemory]
def wsX5_step_r7 : List Cond := [Cond.instanceMethod yX5_ofMemory, Cond.selects RX5 yX5_ofMemory yX5_ofMemory, Cond.code yX5_ofMemory cX5_ofMemory 10 (some .int), Cond.methodLink RX5 131 yX5_ofStack, Cond.instanceMethod yX5_ofStack, Cond.selects RX5 yX5_ofStack yX5_ofStack, Cond.code yX5_ofStack cX5_ofStack 6 (some .int), Cond.methodLink RX5 128 yX5_pops, Cond.instanceMethod yX5_pops, Cond.selects RX5 yX5_pops yX5_pops, Cond.code yX5_pops cX5_pops 2 (some .int), Cond.methodLink RX5 138 yX5_codeByte, Cond.instanceMethod yX5_codeByte, Cond.selects RX5 yX5_codeByte yX5_codeByte, Cond.code yX5_codeByte cX5_codeByte 3 (some .int), Cond.methodLink RX5 157 yX5_ofOthers, Cond.instanceMethod yX5_ofOthers, Cond.selects RX5 yX5_ofOthers yX5_ofOthers, Cond.code yX5_ofOthers cX5_ofOthers 4 (some .int), Cond.methodLink RX5 148 yX5_jumps, Cond.instanceMethod yX5_jumps, Cond.selects RX5 yX5_jumps yX5_jumps, Cond.code yX5_jumps cX5_jumps 4 (some .int), Cond.methodLink RX5 151 yX5_returns]
def wsX5_step_r8 : List Cond := [Cond.instanceMethod yX5_returns, Cond.selects RX5 yX5_returns yX5_returns, Cond.code yX5_returns cX5_returns 5 (some .int), Cond.methodLink RX5 160 yX5_ofOne, Cond.instanceMethod yX5_ofOne, Cond.selects RX5 yX5_ofOne yX5_ofOne, Cond.code yX5_ofOne cX5_ofOne 5 none, Cond.methodLink RX5 116 yX5_right, Cond.instanceMethod yX5_right, Cond.selects RX5 yX5_right yX5_right, Cond.code yX5_right cX5_right 5 (some .int), Cond.methodLink RX5 164 yX5_ofPair, Cond.instanceMethod yX5_ofPair, Cond.selects RX5 yX5_ofPair yX5_ofPair, Cond.code yX5_ofPair cX5_ofPair 9 none, Cond.methodLink RX5 168 yX5_ofPortBit, Cond.instanceMethod yX5_ofPortBit, Cond.selects RX5 yX5_ofPortBit yX5_ofPortBit, Cond.code yX5_ofPortBit cX5_ofPortBit 5 none, Cond.methodLink RX5 188 yX5_ofPort, Cond.instanceMethod yX5_ofPort, Cond.selects RX5 yX5_ofPort yX5_ofPort, Cond.code yX5_ofPort cX5_ofPort 3 none, Cond.methodLink RX5 191 yX5_ofFifteen]
def wsX5_step_r9 : List Cond := [Cond.instanceMethod yX5_ofFifteen, Cond.selects RX5 yX5_ofFifteen yX5_ofFifteen, Cond.code yX5_ofFifteen cX5_ofFifteen 4 (some .int), Cond.constant RX5 171 (63488), Cond.methodLink RX5 172 yX5_ofBit, Cond.instanceMethod yX5_ofBit, Cond.selects RX5 yX5_ofBit yX5_ofBit, Cond.code yX5_ofBit cX5_ofBit 5 none, Cond.methodLink RX5 194 yX5_ofNumber, Cond.instanceMethod yX5_ofNumber, Cond.selects RX5 yX5_ofNumber yX5_ofNumber, Cond.code yX5_ofNumber cX5_ofNumber 6 none]
def wsX5_step : List Cond := .code yX5_step cX5_step 1 (some .int) :: ((wsX5_step_r1 ++ (wsX5_step_r2 ++ (wsX5_step_r3 ++ (wsX5_step_r4 ++ (wsX5_step_r5 ++ (wsX5_step_r6 ++ (wsX5_step_r7 ++ (wsX5_step_r8 ++ wsX5_step_r9)))))))) ++ wsX50)
def wsX5_run_r1 : List Cond := [Cond.methodLink RX5 23 yX5_in, Cond.static yX5_in, Cond.initialized RX5, Cond.code yX5_in cX5_in 3 (some .boolean), Cond.methodLink RX5 210 yX5_step, Cond.instanceMethod yX5_step, Cond.selects RX5 yX5_step yX5_step, Cond.code yX5_step cX5_step 1 (some .int), Cond.fieldLink RX5 207 "FlagCoreModel" "ended" "I", Cond.fieldLink RX5 16 "FlagCoreModel" "count" "[I", Cond.methodLink RX5 204 yX5_stepOnce, Cond.instanceMethod yX5_stepOnce, Cond.selects RX5 yX5_stepOnce yX5_stepOnce, Cond.code yX5_stepOnce cX5_stepOnce 3 (some .int), Cond.fieldLink RX5 36 "FlagCoreModel" "asked" "I", Cond.fieldLink RX5 32 "FlagCoreModel" "isWaited" "Z", Cond.fieldLink RX5 7 "FlagCoreModel" "code" "[I", Cond.fieldLink RX5 19 "FlagCoreModel" "pc" "I", Cond.fieldLink RX5 84 "FlagCoreModel" "next" "I", Cond.constant RX5 203 (38008), Cond.constant RX5 57 (38168), Cond.methodLink RX5 81 yX5_has, Cond.instanceMethod yX5_has, Cond.selects RX5 yX5_has yX5_has]
def wsX5_run_r2 : List Cond := [Cond.code yX5_has cX5_has 2 (some .boolean), Cond.fieldLink RX5 13 "FlagCoreModel" "data" "[I", Cond.methodLink RX5 197 yX5_enters, Cond.instanceMethod yX5_enters, Cond.selects RX5 yX5_enters yX5_enters, Cond.code yX5_enters cX5_enters 2 (some .int), Cond.methodLink RX5 141 yX5_canCall, Cond.instanceMethod yX5_canCall, Cond.selects RX5 yX5_canCall yX5_canCall, Cond.code yX5_canCall cX5_canCall 2 (some .boolean), Cond.constant RX5 27 (65535), Cond.methodLink RX5 28 yX5_pair, Cond.instanceMethod yX5_pair, Cond.selects RX5 yX5_pair yX5_pair, Cond.code yX5_pair cX5_pair 2 (some .int), Cond.methodLink RX5 121 yX5_isFar, Cond.static yX5_isFar, Cond.code yX5_isFar cX5_isFar 1 (some .boolean), Cond.methodLink RX5 145 yX5_calls, Cond.instanceMethod yX5_calls, Cond.selects RX5 yX5_calls yX5_calls, Cond.code yX5_calls cX5_calls 3 none, Cond.methodLink RX5 124 yX5_pushes, Cond.instanceMethod yX5_pushes]
def wsX5_run_r3 : List Cond := [Cond.selects RX5 yX5_pushes yX5_pushes, Cond.code yX5_pushes cX5_pushes 3 none, Cond.methodLink RX5 106 yX5_setPair, Cond.instanceMethod yX5_setPair, Cond.selects RX5 yX5_setPair yX5_setPair, Cond.code yX5_setPair cX5_setPair 3 none, Cond.methodLink RX5 74 yX5_flag, Cond.instanceMethod yX5_flag, Cond.selects RX5 yX5_flag yX5_flag, Cond.code yX5_flag cX5_flag 3 none, Cond.methodLink RX5 68 yX5_isIllegal, Cond.static yX5_isIllegal, Cond.code yX5_isIllegal cX5_isIllegal 1 (some .boolean), Cond.constant RX5 67 (63496), Cond.methodLink RX5 43 yX5_isMemory, Cond.static yX5_isMemory, Cond.code yX5_isMemory cX5_isMemory 1 (some .boolean), Cond.constant RX5 39 (64512), Cond.constant RX5 40 (36864), Cond.methodLink RX5 61 yX5_isBadMemory, Cond.static yX5_isBadMemory, Cond.code yX5_isBadMemory cX5_isBadMemory 4 (some .boolean), Cond.methodLink RX5 50 yX5_changes, Cond.static yX5_changes]
def wsX5_run_r4 : List Cond := [Cond.code yX5_changes cX5_changes 1 (some .int), Cond.methodLink RX5 53 yX5_dOf, Cond.static yX5_dOf, Cond.code yX5_dOf cX5_dOf 1 (some .int), Cond.methodLink RX5 47 yX5_isOne, Cond.static yX5_isOne, Cond.code yX5_isOne cX5_isOne 1 (some .boolean), Cond.constant RX5 41 (65024), Cond.constant RX5 42 (37888), Cond.methodLink RX5 64 yX5_isBadOne, Cond.static yX5_isBadOne, Cond.code yX5_isBadOne cX5_isBadOne 2 (some .boolean), Cond.constant RX5 56 (38152), Cond.constant RX5 58 (38344), Cond.constant RX5 59 (37897), Cond.constant RX5 60 (38153), Cond.methodLink RX5 200 yX5_does, Cond.instanceMethod yX5_does, Cond.selects RX5 yX5_does yX5_does, Cond.code yX5_does cX5_does 4 (some .int), Cond.constant RX5 175 (53248), Cond.constant RX5 120 (32768), Cond.methodLink RX5 176 yX5_ofPlaces, Cond.instanceMethod yX5_ofPlaces]
def wsX5_run_r5 : List Cond := [Cond.selects RX5 yX5_ofPlaces yX5_ofPlaces, Cond.code yX5_ofPlaces cX5_ofPlaces 4 (some .int), Cond.methodLink RX5 134 yX5_moves, Cond.instanceMethod yX5_moves, Cond.selects RX5 yX5_moves yX5_moves, Cond.code yX5_moves cX5_moves 4 (some .int), Cond.methodLink RX5 179 yX5_ofTwo, Cond.instanceMethod yX5_ofTwo, Cond.selects RX5 yX5_ofTwo yX5_ofTwo, Cond.code yX5_ofTwo cX5_ofTwo 8 none, Cond.methodLink RX5 87 yX5_carry, Cond.instanceMethod yX5_carry, Cond.selects RX5 yX5_carry yX5_carry, Cond.code yX5_carry cX5_carry 1 (some .int), Cond.methodLink RX5 91 yX5_subtract, Cond.instanceMethod yX5_subtract, Cond.selects RX5 yX5_subtract yX5_subtract, Cond.code yX5_subtract cX5_subtract 7 (some .int), Cond.methodLink RX5 78 yX5_signs, Cond.instanceMethod yX5_signs, Cond.selects RX5 yX5_signs yX5_signs, Cond.code yX5_signs cX5_signs 3 none, Cond.methodLink RX5 95 yX5_add, Cond.instanceMethod yX5_add]
def wsX5_run_r6 : List Cond := [Cond.selects RX5 yX5_add yX5_add, Cond.code yX5_add cX5_add 5 (some .int), Cond.methodLink RX5 99 yX5_skips, Cond.instanceMethod yX5_skips, Cond.selects RX5 yX5_skips yX5_skips, Cond.code yX5_skips cX5_skips 3 none, Cond.methodLink RX5 71 yX5_hasNext, Cond.static yX5_hasNext, Cond.code yX5_hasNext cX5_hasNext 1 (some .boolean), Cond.methodLink RX5 103 yX5_logic, Cond.instanceMethod yX5_logic, Cond.selects RX5 yX5_logic yX5_logic, Cond.code yX5_logic cX5_logic 2 (some .int), Cond.methodLink RX5 182 yX5_products, Cond.instanceMethod yX5_products, Cond.selects RX5 yX5_products yX5_products, Cond.code yX5_products cX5_products 4 none, Cond.methodLink RX5 110 yX5_signed, Cond.static yX5_signed, Cond.code yX5_signed cX5_signed 1 (some .int), Cond.methodLink RX5 113 yX5_product, Cond.instanceMethod yX5_product, Cond.selects RX5 yX5_product yX5_product, Cond.code yX5_product cX5_product 4 none]
def wsX5_run_r7 : List Cond := [Cond.methodLink RX5 185 yX5_ofNine, Cond.instanceMethod yX5_ofNine, Cond.selects RX5 yX5_ofNine yX5_ofNine, Cond.code yX5_ofNine cX5_ofNine 3 (some .int), Cond.constant RX5 163 (38912), Cond.constant RX5 167 (39936), Cond.methodLink RX5 154 yX5_ofMemory, Cond.instanceMethod yX5_ofMemory, Cond.selects RX5 yX5_ofMemory yX5_ofMemory, Cond.code yX5_ofMemory cX5_ofMemory 10 (some .int), Cond.methodLink RX5 131 yX5_ofStack, Cond.instanceMethod yX5_ofStack, Cond.selects RX5 yX5_ofStack yX5_ofStack, Cond.code yX5_ofStack cX5_ofStack 6 (some .int), Cond.methodLink RX5 128 yX5_pops, Cond.instanceMethod yX5_pops, Cond.selects RX5 yX5_pops yX5_pops, Cond.code yX5_pops cX5_pops 2 (some .int), Cond.methodLink RX5 138 yX5_codeByte, Cond.instanceMethod yX5_codeByte, Cond.selects RX5 yX5_codeByte yX5_codeByte, Cond.code yX5_codeByte cX5_codeByte 3 (some .int), Cond.methodLink RX5 157 yX5_ofOthers, Cond.instanceMethod yX5_ofOthers]
def wsX5_run_r8 : List Cond := [Cond.selects RX5 yX5_ofOthers yX5_ofOthers, Cond.code yX5_ofOthers cX5_ofOthers 4 (some .int), Cond.methodLink RX5 148 yX5_jumps, Cond.instanceMethod yX5_jumps, Cond.selects RX5 yX5_jumps yX5_jumps, Cond.code yX5_jumps cX5_jumps 4 (some .int), Cond.methodLink RX5 151 yX5_returns, Cond.instanceMethod yX5_returns, Cond.selects RX5 yX5_returns yX5_returns, Cond.code yX5_returns cX5_returns 5 (some .int), Cond.methodLink RX5 160 yX5_ofOne, Cond.instanceMethod yX5_ofOne, Cond.selects RX5 yX5_ofOne yX5_ofOne, Cond.code yX5_ofOne cX5_ofOne 5 none, Cond.methodLink RX5 116 yX5_right, Cond.instanceMethod yX5_right, Cond.selects RX5 yX5_right yX5_right, Cond.code yX5_right cX5_right 5 (some .int), Cond.methodLink RX5 164 yX5_ofPair, Cond.instanceMethod yX5_ofPair, Cond.selects RX5 yX5_ofPair yX5_ofPair, Cond.code yX5_ofPair cX5_ofPair 9 none, Cond.methodLink RX5 168 yX5_ofPortBit, Cond.instanceMethod yX5_ofPortBit]
def wsX5_run_r9 : List Cond := [Cond.selects RX5 yX5_ofPortBit yX5_ofPortBit, Cond.code yX5_ofPortBit cX5_ofPortBit 5 none, Cond.methodLink RX5 188 yX5_ofPort, Cond.instanceMethod yX5_ofPort, Cond.selects RX5 yX5_ofPort yX5_ofPort, Cond.code yX5_ofPort cX5_ofPort 3 none, Cond.methodLink RX5 191 yX5_ofFifteen, Cond.instanceMethod yX5_ofFifteen, Cond.selects RX5 yX5_ofFifteen yX5_ofFifteen, Cond.code yX5_ofFifteen cX5_ofFifteen 4 (some .int), Cond.constant RX5 171 (63488), Cond.methodLink RX5 172 yX5_ofBit, Cond.instanceMethod yX5_ofBit, Cond.selects RX5 yX5_ofBit yX5_ofBit, Cond.code yX5_ofBit cX5_ofBit 5 none, Cond.methodLink RX5 194 yX5_ofNumber, Cond.instanceMethod yX5_ofNumber, Cond.selects RX5 yX5_ofNumber yX5_ofNumber, Cond.code yX5_ofNumber cX5_ofNumber 6 none]
def wsX5_run : List Cond := .code yX5_run cX5_run 4 (some .int) :: ((wsX5_run_r1 ++ (wsX5_run_r2 ++ (wsX5_run_r3 ++ (wsX5_run_r4 ++ (wsX5_run_r5 ++ (wsX5_run_r6 ++ (wsX5_run_r7 ++ (wsX5_run_r8 ++ wsX5_run_r9)))))))) ++ wsX50)
def wsX5_ended : List Cond := .code yX5_ended cX5_ended 1 (some .int) :: ([.fieldLink RX5 207 "FlagCoreModel" "ended" "I"] ++ wsX50)
def wsX5_digest : List Cond := .code yX5_digest cX5_digest 3 (some .int) :: ([.fieldLink RX5 13 "FlagCoreModel" "data" "[I", .fieldLink RX5 19 "FlagCoreModel" "pc" "I"] ++ wsX50)
def wsX5_count : List Cond := .code yX5_count cX5_count 2 (some .int) :: ([.fieldLink RX5 16 "FlagCoreModel" "count" "[I", .methodLink RX5 23 yX5_in, .static yX5_in, .initialized RX5, .code yX5_in cX5_in 3 (some .boolean)] ++ wsX50)
def wsL_law_r1 : List Cond := [Cond.classLink RL 7 RX4, Cond.instantiable RX4 8, Cond.initialized RX4, Cond.classLink RL 10 RX5, Cond.instantiable RX5 8, Cond.initialized RX5, Cond.constantLong RL 18 (4294967295), Cond.methodLink RL 9 yX4_init, Cond.instanceMethod yX4_init, Cond.code yX4_init cX4_init 1 none, Cond.methodLink RX4 1 objectInit, Cond.instanceMethod objectInit, Cond.code objectInit ⟨#[0xb1]⟩ 1 none, Cond.arrayClass .int, Cond.fieldLink RX4 9 "FlagCore" "cells" "[I", Cond.classLink RX4 13 RX0, Cond.instantiable RX0 1, Cond.initialized RX0, Cond.fieldLink RX4 16 "FlagCore" "bytes" "LFlagCore$Bytes;", Cond.classLink RX4 20 RX2, Cond.instantiable RX2 1, Cond.initialized RX2, Cond.fieldLink RX4 25 "FlagCore" "sums" "LFlagCore$Sums;", Cond.fieldLink RX4 29 "FlagCore" "tallies" "[I"]
def wsL_law_r2 : List Cond := [Cond.fieldLink RX4 32 "FlagCore" "pc" "I", Cond.fieldLink RX4 36 "FlagCore" "asked" "I", Cond.fieldLink RX4 39 "FlagCore" "latest" "I", Cond.fieldLink RX4 42 "FlagCore" "waiting" "Z", Cond.methodLink RX4 15 yX0_init, Cond.instanceMethod yX0_init, Cond.code yX0_init cX0_init 1 none, Cond.methodLink RX0 3 objectInit, Cond.fieldLink RX0 9 "FlagCore$Bytes" "row" "[I", Cond.methodLink RX4 22 yX2_init, Cond.instanceMethod yX2_init, Cond.code yX2_init cX2_init 2 none, Cond.methodLink RX2 7 objectInit, Cond.fieldLink RX2 13 "FlagCore$Sums" "bytes" "LFlagCore$Bytes;", Cond.methodLink RL 12 yX5_init, Cond.instanceMethod yX5_init, Cond.code yX5_init cX5_init 1 none, Cond.methodLink RX5 1 objectInit, Cond.fieldLink RX5 7 "FlagCoreModel" "code" "[I", Cond.fieldLink RX5 13 "FlagCoreModel" "data" "[I", Cond.fieldLink RX5 16 "FlagCoreModel" "count" "[I", Cond.fieldLink RX5 19 "FlagCoreModel" "pc" "I", Cond.methodLink RL 13 yX4_code, Cond.instanceMethod yX4_code]
def wsL_law_r3 : List Cond := [Cond.selects RX4 yX4_code yX4_code, Cond.code yX4_code cX4_code 4 (some .int), Cond.constant RX4 50 (65535), Cond.methodLink RX4 46 yX4_within, Cond.static yX4_within, Cond.code yX4_within cX4_within 2 (some .boolean), Cond.methodLink RX4 51 yX4_cellAt, Cond.instanceMethod yX4_cellAt, Cond.selects RX4 yX4_cellAt yX4_cellAt, Cond.code yX4_cellAt cX4_cellAt 2 (some .int), Cond.methodLink RL 17 yX5_code, Cond.instanceMethod yX5_code, Cond.selects RX5 yX5_code yX5_code, Cond.code yX5_code cX5_code 4 (some .int), Cond.constant RX5 27 (65535), Cond.methodLink RX5 23 yX5_in, Cond.static yX5_in, Cond.code yX5_in cX5_in 3 (some .boolean), Cond.methodLink RL 20 yX4_load, Cond.instanceMethod yX4_load, Cond.selects RX4 yX4_load yX4_load, Cond.code yX4_load cX4_load 5 (some .int), Cond.methodLink RL 24 yX5_load, Cond.instanceMethod yX5_load]
def wsL_law_r4 : List Cond := [Cond.selects RX5 yX5_load yX5_load, Cond.code yX5_load cX5_load 5 (some .int), Cond.methodLink RL 25 yX4_word, Cond.instanceMethod yX4_word, Cond.selects RX4 yX4_word yX4_word, Cond.code yX4_word cX4_word 2 (some .int), Cond.methodLink RL 29 yX5_word, Cond.instanceMethod yX5_word, Cond.selects RX5 yX5_word yX5_word, Cond.code yX5_word cX5_word 2 (some .int), Cond.methodLink RL 30 yX4_put, Cond.instanceMethod yX4_put, Cond.selects RX4 yX4_put yX4_put, Cond.code yX4_put cX4_put 4 (some .int), Cond.methodLink RX4 55 yX0_get, Cond.instanceMethod yX0_get, Cond.selects RX0 yX0_get yX0_get, Cond.code yX0_get cX0_get 2 (some .int), Cond.methodLink RX4 58 yX0_set, Cond.instanceMethod yX0_set, Cond.selects RX0 yX0_set yX0_set, Cond.code yX0_set cX0_set 3 none, Cond.methodLink RL 33 yX5_put, Cond.instanceMethod yX5_put]
def wsL_law_r5 : List Cond := [Cond.selects RX5 yX5_put yX5_put, Cond.code yX5_put cX5_put 4 (some .int), Cond.methodLink RL 34 yX4_data, Cond.instanceMethod yX4_data, Cond.selects RX4 yX4_data yX4_data, Cond.code yX4_data cX4_data 2 (some .int), Cond.methodLink RL 37 yX5_data, Cond.instanceMethod yX5_data, Cond.selects RX5 yX5_data yX5_data, Cond.code yX5_data cX5_data 2 (some .int), Cond.methodLink RL 38 yX4_told, Cond.instanceMethod yX4_told, Cond.selects RX4 yX4_told yX4_told, Cond.code yX4_told cX4_told 2 (some .int), Cond.methodLink RX4 62 yX0_pair, Cond.instanceMethod yX0_pair, Cond.selects RX0 yX0_pair yX0_pair, Cond.code yX0_pair cX0_pair 2 (some .int), Cond.methodLink RL 41 yX5_told, Cond.instanceMethod yX5_told, Cond.selects RX5 yX5_told yX5_told, Cond.code yX5_told cX5_told 2 (some .int), Cond.fieldLink RX5 32 "FlagCoreModel" "isWaited" "Z", Cond.fieldLink RX5 36 "FlagCoreModel" "asked" "I"]
def wsL_law_r6 : List Cond := [Cond.methodLink RX5 28 yX5_pair, Cond.instanceMethod yX5_pair, Cond.selects RX5 yX5_pair yX5_pair, Cond.code yX5_pair cX5_pair 2 (some .int), Cond.methodLink RL 42 yX4_go, Cond.instanceMethod yX4_go, Cond.selects RX4 yX4_go yX4_go, Cond.code yX4_go cX4_go 3 (some .int), Cond.methodLink RL 45 yX5_go, Cond.instanceMethod yX5_go, Cond.selects RX5 yX5_go yX5_go, Cond.code yX5_go cX5_go 3 (some .int), Cond.methodLink RL 46 yX4_ask, Cond.instanceMethod yX4_ask, Cond.selects RX4 yX4_ask yX4_ask, Cond.code yX4_ask cX4_ask 3 (some .int), Cond.methodLink RL 49 yX5_ask, Cond.instanceMethod yX5_ask, Cond.selects RX5 yX5_ask yX5_ask, Cond.code yX5_ask cX5_ask 3 (some .int), Cond.methodLink RL 50 yX4_step, Cond.instanceMethod yX4_step, Cond.selects RX4 yX4_step yX4_step, Cond.code yX4_step cX4_step 1 (some .int)]
def wsL_law_r7 : List Cond := [Cond.methodLink RX4 65 yX4_advance, Cond.instanceMethod yX4_advance, Cond.selects RX4 yX4_advance yX4_advance, Cond.code yX4_advance cX4_advance 2 (some .int), Cond.constant RX4 89 (38008), Cond.constant RX4 90 (38168), Cond.methodLink RX4 80 yX0_flag, Cond.instanceMethod yX0_flag, Cond.selects RX0 yX0_flag yX0_flag, Cond.code yX0_flag cX0_flag 2 (some .int), Cond.methodLink RX4 83 yX4_enterLeast, Cond.instanceMethod yX4_enterLeast, Cond.selects RX4 yX4_enterLeast yX4_enterLeast, Cond.code yX4_enterLeast cX4_enterLeast 1 (some .int), Cond.methodLink RX4 91 yX0_stacks, Cond.instanceMethod yX0_stacks, Cond.selects RX0 yX0_stacks yX0_stacks, Cond.code yX0_stacks cX0_stacks 3 (some .boolean), Cond.methodLink RX0 27 yX0_pair, Cond.methodLink RX0 19 yX0_set, Cond.methodLink RX0 30 yX0_setPair, Cond.instanceMethod yX0_setPair, Cond.selects RX0 yX0_setPair yX0_setPair, Cond.code yX0_setPair cX0_setPair 3 none]
def wsL_law_r8 : List Cond := [Cond.methodLink RX4 94 yJ6_numberOfTrailingZeros_0f7a4, Cond.static yJ6_numberOfTrailingZeros_0f7a4, Cond.initialized RJ6, Cond.code yJ6_numberOfTrailingZeros_0f7a4 cJ6_numberOfTrailingZeros_0f7a4 2 (some .int), Cond.constant RJ6 264 (65536), Cond.methodLink RX4 99 yX0_setFlag, Cond.instanceMethod yX0_setFlag, Cond.selects RX0 yX0_setFlag yX0_setFlag, Cond.code yX0_setFlag cX0_setFlag 3 none, Cond.methodLink RX0 23 yX0_setBit, Cond.instanceMethod yX0_setBit, Cond.selects RX0 yX0_setBit yX0_setBit, Cond.code yX0_setBit cX0_setBit 4 none, Cond.methodLink RX0 15 yX0_get, Cond.methodLink RX4 86 yX4_perform, Cond.instanceMethod yX4_perform, Cond.selects RX4 yX4_perform yX4_perform, Cond.code yX4_perform cX4_perform 2 (some .int), Cond.methodLink RX4 69 yX3_groupOf, Cond.static yX3_groupOf, Cond.initialized RX3, Cond.code yX3_groupOf cX3_groupOf 1 (some .int), Cond.methodLink RX3 13 yX3_lowGroupOf, Cond.static yX3_lowGroupOf]
def wsL_law_r9 : List Cond := [Cond.code yX3_lowGroupOf cX3_lowGroupOf 1 (some .int), Cond.methodLink RX3 19 yX3_mixedGroupOf, Cond.static yX3_mixedGroupOf, Cond.code yX3_mixedGroupOf cX3_mixedGroupOf 1 (some .int), Cond.methodLink RX3 25 yX3_memoryGroupOf, Cond.static yX3_memoryGroupOf, Cond.code yX3_memoryGroupOf cX3_memoryGroupOf 1 (some .int), Cond.methodLink RX3 31 yX3_d, Cond.static yX3_d, Cond.code yX3_d cX3_d 1 (some .int), Cond.methodLink RX3 34 yX3_pointer, Cond.static yX3_pointer, Cond.code yX3_pointer cX3_pointer 1 (some .int), Cond.methodLink RX3 37 yX3_isOneOf, Cond.static yX3_isOneOf, Cond.code yX3_isOneOf cX3_isOneOf 2 (some .boolean), Cond.methodLink RX3 28 yX3_singleGroupOf, Cond.static yX3_singleGroupOf, Cond.code yX3_singleGroupOf cX3_singleGroupOf 1 (some .int), Cond.methodLink RX3 41 yX3_flagGroupOf, Cond.static yX3_flagGroupOf, Cond.code yX3_flagGroupOf cX3_flagGroupOf 1 (some .int), Cond.methodLink RX3 22 yX3_highGroupOf, Cond.static yX3_highGroupOf]
def wsL_law_r10 : List Cond := [Cond.code yX3_highGroupOf cX3_highGroupOf 1 (some .int), Cond.methodLink RX4 102 yX4_onward, Cond.instanceMethod yX4_onward, Cond.selects RX4 yX4_onward yX4_onward, Cond.code yX4_onward cX4_onward 2 (some .int), Cond.methodLink RX4 105 yX4_movePair, Cond.instanceMethod yX4_movePair, Cond.selects RX4 yX4_movePair yX4_movePair, Cond.code yX4_movePair cX4_movePair 2 (some .int), Cond.methodLink RX4 170 yX0_setPair, Cond.methodLink RX4 108 yX4_multiply, Cond.instanceMethod yX4_multiply, Cond.selects RX4 yX4_multiply yX4_multiply, Cond.code yX4_multiply cX4_multiply 2 (some .int), Cond.methodLink RX4 173 yX3_d, Cond.methodLink RX4 176 yX3_r, Cond.static yX3_r, Cond.code yX3_r cX3_r 1 (some .int), Cond.methodLink RX4 179 yX2_product, Cond.instanceMethod yX2_product, Cond.selects RX2 yX2_product yX2_product, Cond.code yX2_product cX2_product 2 none, Cond.methodLink RX2 41 yX2_keepProduct, Cond.instanceMethod yX2_keepProduct]
def wsL_law_r11 : List Cond := [Cond.selects RX2 yX2_keepProduct yX2_keepProduct, Cond.code yX2_keepProduct cX2_keepProduct 3 none, Cond.constant RX2 40 (32768), Cond.constant RX2 35 (65535), Cond.methodLink RX2 44 yX0_setPair, Cond.methodLink RX2 21 yX0_setFlags, Cond.instanceMethod yX0_setFlags, Cond.selects RX0 yX0_setFlags yX0_setFlags, Cond.code yX0_setFlags cX0_setFlags 3 none, Cond.methodLink RX4 183 yX0_signed, Cond.instanceMethod yX0_signed, Cond.selects RX0 yX0_signed yX0_signed, Cond.code yX0_signed cX0_signed 2 (some .int), Cond.methodLink RX4 186 yX4_multiplyFew, Cond.instanceMethod yX4_multiplyFew, Cond.selects RX4 yX4_multiplyFew yX4_multiplyFew, Cond.code yX4_multiplyFew cX4_multiplyFew 4 none, Cond.methodLink RX4 190 yX2_fraction, Cond.instanceMethod yX2_fraction, Cond.selects RX2 yX2_fraction yX2_fraction, Cond.code yX2_fraction cX2_fraction 2 none, Cond.methodLink RX4 111 yX4_combine, Cond.instanceMethod yX4_combine, Cond.selects RX4 yX4_combine yX4_combine]
def wsL_law_r12 : List Cond := [Cond.code yX4_combine cX4_combine 6 (some .int), Cond.methodLink RX4 193 yX2_differenceOn, Cond.instanceMethod yX2_differenceOn, Cond.selects RX2 yX2_differenceOn yX2_differenceOn, Cond.code yX2_differenceOn cX2_differenceOn 5 (some .int), Cond.methodLink RX2 31 yX0_flag, Cond.methodLink RX2 27 yX2_subtract, Cond.instanceMethod yX2_subtract, Cond.selects RX2 yX2_subtract yX2_subtract, Cond.code yX2_subtract cX2_subtract 9 (some .int), Cond.methodLink RX2 17 yX2_signs, Cond.static yX2_signs, Cond.code yX2_signs cX2_signs 4 (some .int), Cond.methodLink RX4 197 yX2_sum, Cond.instanceMethod yX2_sum, Cond.selects RX2 yX2_sum yX2_sum, Cond.code yX2_sum cX2_sum 8 (some .int), Cond.methodLink RX4 200 yX4_skip, Cond.instanceMethod yX4_skip, Cond.selects RX4 yX4_skip yX4_skip, Cond.code yX4_skip cX4_skip 2 (some .int), Cond.methodLink RX4 74 yX3_hasNext, Cond.static yX3_hasNext, Cond.code yX3_hasNext cX3_hasNext 1 (some .boolean)]
def wsL_law_r13 : List Cond := [Cond.constant RX3 9 (64527), Cond.constant RX3 10 (36864), Cond.constant RX3 11 (65036), Cond.constant RX3 12 (37900), Cond.methodLink RX4 204 yX2_difference, Cond.instanceMethod yX2_difference, Cond.selects RX2 yX2_difference yX2_difference, Cond.code yX2_difference cX2_difference 3 (some .int), Cond.methodLink RX4 208 yX2_logic, Cond.instanceMethod yX2_logic, Cond.selects RX2 yX2_logic yX2_logic, Cond.code yX2_logic cX2_logic 2 (some .int), Cond.methodLink RX4 114 yX4_combineWithNumber, Cond.instanceMethod yX4_combineWithNumber, Cond.selects RX4 yX4_combineWithNumber yX4_combineWithNumber, Cond.code yX4_combineWithNumber cX4_combineWithNumber 5 (some .int), Cond.methodLink RX4 117 yX4_change, Cond.instanceMethod yX4_change, Cond.selects RX4 yX4_change yX4_change, Cond.code yX4_change cX4_change 4 (some .int), Cond.methodLink RX4 211 yX2_inverse, Cond.instanceMethod yX2_inverse, Cond.selects RX2 yX2_inverse yX2_inverse, Cond.code yX2_inverse cX2_inverse 3 (some .int)]
def wsL_law_r14 : List Cond := [Cond.methodLink RX4 214 yX2_more, Cond.instanceMethod yX2_more, Cond.selects RX2 yX2_more yX2_more, Cond.code yX2_more cX2_more 3 (some .int), Cond.methodLink RX4 217 yX2_right, Cond.instanceMethod yX2_right, Cond.selects RX2 yX2_right yX2_right, Cond.code yX2_right cX2_right 5 (some .int), Cond.methodLink RX4 220 yX2_less, Cond.instanceMethod yX2_less, Cond.selects RX2 yX2_less yX2_less, Cond.code yX2_less cX2_less 3 (some .int), Cond.methodLink RX4 120 yX4_setFlag, Cond.instanceMethod yX4_setFlag, Cond.selects RX4 yX4_setFlag yX4_setFlag, Cond.code yX4_setFlag cX4_setFlag 2 (some .int), Cond.methodLink RX4 122 yX4_changePair, Cond.instanceMethod yX4_changePair, Cond.selects RX4 yX4_changePair yX4_changePair, Cond.code yX4_changePair cX4_changePair 5 (some .int), Cond.methodLink RX4 223 yX2_pairMore, Cond.instanceMethod yX2_pairMore, Cond.selects RX2 yX2_pairMore yX2_pairMore, Cond.code yX2_pairMore cX2_pairMore 4 (some .int)]
def wsL_law_r15 : List Cond := [Cond.methodLink RX2 36 yX2_pairFlags, Cond.instanceMethod yX2_pairFlags, Cond.selects RX2 yX2_pairFlags yX2_pairFlags, Cond.code yX2_pairFlags cX2_pairFlags 5 none, Cond.methodLink RX4 226 yX2_pairLess, Cond.instanceMethod yX2_pairLess, Cond.selects RX2 yX2_pairLess yX2_pairLess, Cond.code yX2_pairLess cX2_pairLess 4 (some .int), Cond.methodLink RX4 125 yX4_moveAtNext, Cond.instanceMethod yX4_moveAtNext, Cond.selects RX4 yX4_moveAtNext yX4_moveAtNext, Cond.code yX4_moveAtNext cX4_moveAtNext 3 (some .int), Cond.methodLink RX4 229 yX4_transfer, Cond.instanceMethod yX4_transfer, Cond.selects RX4 yX4_transfer yX4_transfer, Cond.code yX4_transfer cX4_transfer 4 none, Cond.methodLink RX4 128 yX4_movePointed, Cond.instanceMethod yX4_movePointed, Cond.selects RX4 yX4_movePointed yX4_movePointed, Cond.code yX4_movePointed cX4_movePointed 7 (some .int), Cond.methodLink RX4 232 yX3_pointer, Cond.methodLink RX4 131 yX4_moveStacked, Cond.instanceMethod yX4_moveStacked, Cond.selects RX4 yX4_moveStacked yX4_moveStacked]
def wsL_law_r16 : List Cond := [Cond.code yX4_moveStacked cX4_moveStacked 5 (some .int), Cond.methodLink RX4 235 yX0_pull, Cond.instanceMethod yX0_pull, Cond.selects RX0 yX0_pull yX0_pull, Cond.code yX0_pull cX0_pull 2 (some .int), Cond.methodLink RX4 238 yX0_push, Cond.instanceMethod yX0_push, Cond.selects RX0 yX0_push yX0_push, Cond.code yX0_push cX0_push 3 none, Cond.methodLink RX4 134 yX4_moveBeside, Cond.instanceMethod yX4_moveBeside, Cond.selects RX4 yX4_moveBeside yX4_moveBeside, Cond.code yX4_moveBeside cX4_moveBeside 5 (some .int), Cond.methodLink RX4 137 yX4_moveFromCode, Cond.instanceMethod yX4_moveFromCode, Cond.selects RX4 yX4_moveFromCode yX4_moveFromCode, Cond.code yX4_moveFromCode cX4_moveFromCode 4 (some .int), Cond.constant RX4 241 (38344), Cond.methodLink RX4 140 yX4_movePort, Cond.instanceMethod yX4_movePort, Cond.selects RX4 yX4_movePort yX4_movePort, Cond.code yX4_movePort cX4_movePort 4 (some .int), Cond.methodLink RX4 143 yX4_setPortBit, Cond.instanceMethod yX4_setPortBit]
def wsL_law_r17 : List Cond := [Cond.selects RX4 yX4_setPortBit yX4_setPortBit, Cond.code yX4_setPortBit cX4_setPortBit 2 (some .int), Cond.methodLink RX4 242 yX0_setBit, Cond.methodLink RX4 146 yX4_skipByPort, Cond.instanceMethod yX4_skipByPort, Cond.selects RX4 yX4_skipByPort yX4_skipByPort, Cond.code yX4_skipByPort cX4_skipByPort 2 (some .int), Cond.methodLink RX4 245 yX0_bit, Cond.instanceMethod yX0_bit, Cond.selects RX0 yX0_bit yX0_bit, Cond.code yX0_bit cX0_bit 3 (some .int), Cond.methodLink RX4 149 yX4_skipByBit, Cond.instanceMethod yX4_skipByBit, Cond.selects RX4 yX4_skipByBit yX4_skipByBit, Cond.code yX4_skipByBit cX4_skipByBit 2 (some .int), Cond.methodLink RX4 152 yX4_moveBit, Cond.instanceMethod yX4_moveBit, Cond.selects RX4 yX4_moveBit yX4_moveBit, Cond.code yX4_moveBit cX4_moveBit 3 (some .int), Cond.methodLink RX4 155 yX4_jumpNear, Cond.instanceMethod yX4_jumpNear, Cond.selects RX4 yX4_jumpNear yX4_jumpNear, Cond.code yX4_jumpNear cX4_jumpNear 4 (some .int), Cond.methodLink RX4 248 yX4_jumpTo]
def wsL_law_r18 : List Cond := [Cond.instanceMethod yX4_jumpTo, Cond.selects RX4 yX4_jumpTo yX4_jumpTo, Cond.code yX4_jumpTo cX4_jumpTo 2 (some .int), Cond.methodLink RX4 251 yX4_callTo, Cond.instanceMethod yX4_callTo, Cond.selects RX4 yX4_callTo yX4_callTo, Cond.code yX4_callTo cX4_callTo 3 (some .int), Cond.methodLink RX4 158 yX4_branch, Cond.instanceMethod yX4_branch, Cond.selects RX4 yX4_branch yX4_branch, Cond.code yX4_branch cX4_branch 4 (some .int), Cond.methodLink RX4 161 yX4_jumpFar, Cond.instanceMethod yX4_jumpFar, Cond.selects RX4 yX4_jumpFar yX4_jumpFar, Cond.code yX4_jumpFar cX4_jumpFar 3 (some .int), Cond.methodLink RX4 164 yX4_jumpToZ, Cond.instanceMethod yX4_jumpToZ, Cond.selects RX4 yX4_jumpToZ yX4_jumpToZ, Cond.code yX4_jumpToZ cX4_jumpToZ 3 (some .int), Cond.methodLink RX4 167 yX4_comeBack, Cond.instanceMethod yX4_comeBack, Cond.selects RX4 yX4_comeBack yX4_comeBack, Cond.code yX4_comeBack cX4_comeBack 5 (some .int), Cond.methodLink RL 54 yX5_step]
def wsL_law_r19 : List Cond := [Cond.instanceMethod yX5_step, Cond.selects RX5 yX5_step yX5_step, Cond.code yX5_step cX5_step 1 (some .int), Cond.fieldLink RX5 207 "FlagCoreModel" "ended" "I", Cond.methodLink RX5 204 yX5_stepOnce, Cond.instanceMethod yX5_stepOnce, Cond.selects RX5 yX5_stepOnce yX5_stepOnce, Cond.code yX5_stepOnce cX5_stepOnce 3 (some .int), Cond.fieldLink RX5 84 "FlagCoreModel" "next" "I", Cond.constant RX5 203 (38008), Cond.constant RX5 57 (38168), Cond.methodLink RX5 81 yX5_has, Cond.instanceMethod yX5_has, Cond.selects RX5 yX5_has yX5_has, Cond.code yX5_has cX5_has 2 (some .boolean), Cond.methodLink RX5 197 yX5_enters, Cond.instanceMethod yX5_enters, Cond.selects RX5 yX5_enters yX5_enters, Cond.code yX5_enters cX5_enters 2 (some .int), Cond.methodLink RX5 141 yX5_canCall, Cond.instanceMethod yX5_canCall, Cond.selects RX5 yX5_canCall yX5_canCall, Cond.code yX5_canCall cX5_canCall 2 (some .boolean), Cond.methodLink RX5 121 yX5_isFar]
def wsL_law_r20 : List Cond := [Cond.static yX5_isFar, Cond.code yX5_isFar cX5_isFar 1 (some .boolean), Cond.methodLink RX5 145 yX5_calls, Cond.instanceMethod yX5_calls, Cond.selects RX5 yX5_calls yX5_calls, Cond.code yX5_calls cX5_calls 3 none, Cond.methodLink RX5 124 yX5_pushes, Cond.instanceMethod yX5_pushes, Cond.selects RX5 yX5_pushes yX5_pushes, Cond.code yX5_pushes cX5_pushes 3 none, Cond.methodLink RX5 106 yX5_setPair, Cond.instanceMethod yX5_setPair, Cond.selects RX5 yX5_setPair yX5_setPair, Cond.code yX5_setPair cX5_setPair 3 none, Cond.methodLink RX5 74 yX5_flag, Cond.instanceMethod yX5_flag, Cond.selects RX5 yX5_flag yX5_flag, Cond.code yX5_flag cX5_flag 3 none, Cond.methodLink RX5 68 yX5_isIllegal, Cond.static yX5_isIllegal, Cond.code yX5_isIllegal cX5_isIllegal 1 (some .boolean), Cond.constant RX5 67 (63496), Cond.methodLink RX5 43 yX5_isMemory, Cond.static yX5_isMemory]
def wsL_law_r21 : List Cond := [Cond.code yX5_isMemory cX5_isMemory 1 (some .boolean), Cond.constant RX5 39 (64512), Cond.constant RX5 40 (36864), Cond.methodLink RX5 61 yX5_isBadMemory, Cond.static yX5_isBadMemory, Cond.code yX5_isBadMemory cX5_isBadMemory 4 (some .boolean), Cond.methodLink RX5 50 yX5_changes, Cond.static yX5_changes, Cond.code yX5_changes cX5_changes 1 (some .int), Cond.methodLink RX5 53 yX5_dOf, Cond.static yX5_dOf, Cond.code yX5_dOf cX5_dOf 1 (some .int), Cond.methodLink RX5 47 yX5_isOne, Cond.static yX5_isOne, Cond.code yX5_isOne cX5_isOne 1 (some .boolean), Cond.constant RX5 41 (65024), Cond.constant RX5 42 (37888), Cond.methodLink RX5 64 yX5_isBadOne, Cond.static yX5_isBadOne, Cond.code yX5_isBadOne cX5_isBadOne 2 (some .boolean), Cond.constant RX5 56 (38152), Cond.constant RX5 58 (38344), Cond.constant RX5 59 (37897), Cond.constant RX5 60 (38153)]
def wsL_law_r22 : List Cond := [Cond.methodLink RX5 200 yX5_does, Cond.instanceMethod yX5_does, Cond.selects RX5 yX5_does yX5_does, Cond.code yX5_does cX5_does 4 (some .int), Cond.constant RX5 175 (53248), Cond.constant RX5 120 (32768), Cond.methodLink RX5 176 yX5_ofPlaces, Cond.instanceMethod yX5_ofPlaces, Cond.selects RX5 yX5_ofPlaces yX5_ofPlaces, Cond.code yX5_ofPlaces cX5_ofPlaces 4 (some .int), Cond.methodLink RX5 134 yX5_moves, Cond.instanceMethod yX5_moves, Cond.selects RX5 yX5_moves yX5_moves, Cond.code yX5_moves cX5_moves 4 (some .int), Cond.methodLink RX5 179 yX5_ofTwo, Cond.instanceMethod yX5_ofTwo, Cond.selects RX5 yX5_ofTwo yX5_ofTwo, Cond.code yX5_ofTwo cX5_ofTwo 8 none, Cond.methodLink RX5 87 yX5_carry, Cond.instanceMethod yX5_carry, Cond.selects RX5 yX5_carry yX5_carry, Cond.code yX5_carry cX5_carry 1 (some .int), Cond.methodLink RX5 91 yX5_subtract, Cond.instanceMethod yX5_subtract]
def wsL_law_r23 : List Cond := [Cond.selects RX5 yX5_subtract yX5_subtract, Cond.code yX5_subtract cX5_subtract 7 (some .int), Cond.methodLink RX5 78 yX5_signs, Cond.instanceMethod yX5_signs, Cond.selects RX5 yX5_signs yX5_signs, Cond.code yX5_signs cX5_signs 3 none, Cond.methodLink RX5 95 yX5_add, Cond.instanceMethod yX5_add, Cond.selects RX5 yX5_add yX5_add, Cond.code yX5_add cX5_add 5 (some .int), Cond.methodLink RX5 99 yX5_skips, Cond.instanceMethod yX5_skips, Cond.selects RX5 yX5_skips yX5_skips, Cond.code yX5_skips cX5_skips 3 none, Cond.methodLink RX5 71 yX5_hasNext, Cond.static yX5_hasNext, Cond.code yX5_hasNext cX5_hasNext 1 (some .boolean), Cond.methodLink RX5 103 yX5_logic, Cond.instanceMethod yX5_logic, Cond.selects RX5 yX5_logic yX5_logic, Cond.code yX5_logic cX5_logic 2 (some .int), Cond.methodLink RX5 182 yX5_products, Cond.instanceMethod yX5_products, Cond.selects RX5 yX5_products yX5_products]
def wsL_law_r24 : List Cond := [Cond.code yX5_products cX5_products 4 none, Cond.methodLink RX5 110 yX5_signed, Cond.static yX5_signed, Cond.code yX5_signed cX5_signed 1 (some .int), Cond.methodLink RX5 113 yX5_product, Cond.instanceMethod yX5_product, Cond.selects RX5 yX5_product yX5_product, Cond.code yX5_product cX5_product 4 none, Cond.methodLink RX5 185 yX5_ofNine, Cond.instanceMethod yX5_ofNine, Cond.selects RX5 yX5_ofNine yX5_ofNine, Cond.code yX5_ofNine cX5_ofNine 3 (some .int), Cond.constant RX5 163 (38912), Cond.constant RX5 167 (39936), Cond.methodLink RX5 154 yX5_ofMemory, Cond.instanceMethod yX5_ofMemory, Cond.selects RX5 yX5_ofMemory yX5_ofMemory, Cond.code yX5_ofMemory cX5_ofMemory 10 (some .int), Cond.methodLink RX5 131 yX5_ofStack, Cond.instanceMethod yX5_ofStack, Cond.selects RX5 yX5_ofStack yX5_ofStack, Cond.code yX5_ofStack cX5_ofStack 6 (some .int), Cond.methodLink RX5 128 yX5_pops, Cond.instanceMethod yX5_pops]
def wsL_law_r25 : List Cond := [Cond.selects RX5 yX5_pops yX5_pops, Cond.code yX5_pops cX5_pops 2 (some .int), Cond.methodLink RX5 138 yX5_codeByte, Cond.instanceMethod yX5_codeByte, Cond.selects RX5 yX5_codeByte yX5_codeByte, Cond.code yX5_codeByte cX5_codeByte 3 (some .int), Cond.methodLink RX5 157 yX5_ofOthers, Cond.instanceMethod yX5_ofOthers, Cond.selects RX5 yX5_ofOthers yX5_ofOthers, Cond.code yX5_ofOthers cX5_ofOthers 4 (some .int), Cond.methodLink RX5 148 yX5_jumps, Cond.instanceMethod yX5_jumps, Cond.selects RX5 yX5_jumps yX5_jumps, Cond.code yX5_jumps cX5_jumps 4 (some .int), Cond.methodLink RX5 151 yX5_returns, Cond.instanceMethod yX5_returns, Cond.selects RX5 yX5_returns yX5_returns, Cond.code yX5_returns cX5_returns 5 (some .int), Cond.methodLink RX5 160 yX5_ofOne, Cond.instanceMethod yX5_ofOne, Cond.selects RX5 yX5_ofOne yX5_ofOne, Cond.code yX5_ofOne cX5_ofOne 5 none, Cond.methodLink RX5 116 yX5_right, Cond.instanceMethod yX5_right]
def wsL_law_r26 : List Cond := [Cond.selects RX5 yX5_right yX5_right, Cond.code yX5_right cX5_right 5 (some .int), Cond.methodLink RX5 164 yX5_ofPair, Cond.instanceMethod yX5_ofPair, Cond.selects RX5 yX5_ofPair yX5_ofPair, Cond.code yX5_ofPair cX5_ofPair 9 none, Cond.methodLink RX5 168 yX5_ofPortBit, Cond.instanceMethod yX5_ofPortBit, Cond.selects RX5 yX5_ofPortBit yX5_ofPortBit, Cond.code yX5_ofPortBit cX5_ofPortBit 5 none, Cond.methodLink RX5 188 yX5_ofPort, Cond.instanceMethod yX5_ofPort, Cond.selects RX5 yX5_ofPort yX5_ofPort, Cond.code yX5_ofPort cX5_ofPort 3 none, Cond.methodLink RX5 191 yX5_ofFifteen, Cond.instanceMethod yX5_ofFifteen, Cond.selects RX5 yX5_ofFifteen yX5_ofFifteen, Cond.code yX5_ofFifteen cX5_ofFifteen 4 (some .int), Cond.constant RX5 171 (63488), Cond.methodLink RX5 172 yX5_ofBit, Cond.instanceMethod yX5_ofBit, Cond.selects RX5 yX5_ofBit yX5_ofBit, Cond.code yX5_ofBit cX5_ofBit 5 none, Cond.methodLink RX5 194 yX5_ofNumber]
def wsL_law_r27 : List Cond := [Cond.instanceMethod yX5_ofNumber, Cond.selects RX5 yX5_ofNumber yX5_ofNumber, Cond.code yX5_ofNumber cX5_ofNumber 6 none, Cond.methodLink RL 55 yX4_run, Cond.instanceMethod yX4_run, Cond.selects RX4 yX4_run yX4_run, Cond.code yX4_run cX4_run 4 (some .int), Cond.methodLink RL 58 yX5_run, Cond.instanceMethod yX5_run, Cond.selects RX5 yX5_run yX5_run, Cond.code yX5_run cX5_run 4 (some .int), Cond.methodLink RX5 210 yX5_step, Cond.methodLink RL 59 yX4_ended, Cond.instanceMethod yX4_ended, Cond.selects RX4 yX4_ended yX4_ended, Cond.code yX4_ended cX4_ended 1 (some .int), Cond.methodLink RL 62 yX5_ended, Cond.instanceMethod yX5_ended, Cond.selects RX5 yX5_ended yX5_ended, Cond.code yX5_ended cX5_ended 1 (some .int), Cond.methodLink RL 63 yX4_reads, Cond.instanceMethod yX4_reads, Cond.selects RX4 yX4_reads yX4_reads, Cond.code yX4_reads cX4_reads 3 (some .int)]
def wsL_law_r28 : List Cond := [Cond.methodLink RL 66 yX5_reads, Cond.instanceMethod yX5_reads, Cond.selects RX5 yX5_reads yX5_reads, Cond.code yX5_reads cX5_reads 3 (some .int), Cond.methodLink RL 67 yX4_digest, Cond.instanceMethod yX4_digest, Cond.selects RX4 yX4_digest yX4_digest, Cond.code yX4_digest cX4_digest 3 (some .int), Cond.methodLink RL 70 yX5_digest, Cond.instanceMethod yX5_digest, Cond.selects RX5 yX5_digest yX5_digest, Cond.code yX5_digest cX5_digest 3 (some .int), Cond.methodLink RL 71 yX4_count, Cond.instanceMethod yX4_count, Cond.selects RX4 yX4_count yX4_count, Cond.code yX4_count cX4_count 2 (some .int), Cond.methodLink RL 74 yX5_count, Cond.instanceMethod yX5_count, Cond.selects RX5 yX5_count yX5_count, Cond.code yX5_count cX5_count 2 (some .int)]
def wsL_law : List Cond := (wsL_law_r1 ++ (wsL_law_r2 ++ (wsL_law_r3 ++ (wsL_law_r4 ++ (wsL_law_r5 ++ (wsL_law_r6 ++ (wsL_law_r7 ++ (wsL_law_r8 ++ (wsL_law_r9 ++ (wsL_law_r10 ++ (wsL_law_r11 ++ (wsL_law_r12 ++ (wsL_law_r13 ++ (wsL_law_r14 ++ (wsL_law_r15 ++ (wsL_law_r16 ++ (wsL_law_r17 ++ (wsL_law_r18 ++ (wsL_law_r19 ++ (wsL_law_r20 ++ (wsL_law_r21 ++ (wsL_law_r22 ++ (wsL_law_r23 ++ (wsL_law_r24 ++ (wsL_law_r25 ++ (wsL_law_r26 ++ (wsL_law_r27 ++ wsL_law_r28))))))))))))))))))))))))))) ++ wsX40 ++ wsX50 ++ wsX00 ++ wsX20 ++ ([] : List Cond)
end
section
theorem dX0_init_0 : decode cX0_init 0 = .ok (.aload_n 0, 1) := by decide +kernel
theorem dX0_init_1 : decode cX0_init 1 = .ok (.invokespecial 3, 3) := by decide +kernel
theorem dX0_init_4 : decode cX0_init 4 = .ok (.aload_n 0, 1) := by decide +kernel
theorem dX0_init_5 : decode cX0_init 5 = .ok (.sipush 1024, 3) := by decide +kernel
theorem dX0_init_8 : decode cX0_init 8 = .ok (.newarray .int, 2) := by decide +kernel
theorem dX0_init_10 : decode cX0_init 10 = .ok (.putfield 9, 3) := by decide +kernel
theorem dX0_init_13 : decode cX0_init 13 = .ok (.return_, 1) := by decide +kernel
theorem dX0_get_0 : decode cX0_get 0 = .ok (.aload_n 0, 1) := by decide +kernel
theorem dX0_get_1 : decode cX0_get 1 = .ok (.getfield 9, 3) := by decide +kernel
theorem dX0_get_4 : decode cX0_get 4 = .ok (.iload_n 1, 1) := by decide +kernel
theorem dX0_get_5 : decode cX0_get 5 = .ok (.sipush 1023, 3) := by decide +kernel
theorem dX0_get_8 : decode cX0_get 8 = .ok (.iand, 1) := by decide +kernel
theorem dX0_get_9 : decode cX0_get 9 = .ok (.iaload, 1) := by decide +kernel
theorem dX0_get_10 : decode cX0_get 10 = .ok (.ireturn, 1) := by decide +kernel
theorem dX0_set_0 : decode cX0_set 0 = .ok (.aload_n 0, 1) := by decide +kernel
theorem dX0_set_1 : decode cX0_set 1 = .ok (.getfield 9, 3) := by decide +kernel
theorem dX0_set_4 : decode cX0_set 4 = .ok (.iload_n 1, 1) := by decide +kernel
theorem dX0_set_5 : decode cX0_set 5 = .ok (.sipush 1023, 3) := by decide +kernel
theorem dX0_set_8 : decode cX0_set 8 = .ok (.iand, 1) := by decide +kernel
theorem dX0_set_9 : decode cX0_set 9 = .ok (.iload_n 2, 1) := by decide +kernel
theorem dX0_set_10 : decode cX0_set 10 = .ok (.sipush 255, 3) := by decide +kernel
theorem dX0_set_13 : decode cX0_set 13 = .ok (.iand, 1) := by decide +kernel
theorem dX0_set_14 : decode cX0_set 14 = .ok (.iastore, 1) := by decide +kernel
theorem dX0_set_15 : decode cX0_set 15 = .ok (.return_, 1) := by decide +kernel
theorem dX0_signed_0 : decode cX0_signed 0 = .ok (.aload_n 0, 1) := by decide +kernel
theorem dX0_signed_1 : decode cX0_signed 1 = .ok (.getfield 9, 3) := by decide +kernel
theorem dX0_signed_4 : decode cX0_signed 4 = .ok (.iload_n 1, 1) := by decide +kernel
theorem dX0_signed_5 : decode cX0_signed 5 = .ok (.sipush 1023, 3) := by decide +kernel
theorem dX0_signed_8 : decode cX0_signed 8 = .ok (.iand, 1) := by decide +kernel
theorem dX0_signed_9 : decode cX0_signed 9 = .ok (.iaload, 1) := by decide +kernel
theorem dX0_signed_10 : decode cX0_signed 10 = .ok (.i2b, 1) := by decide +kernel
theorem dX0_signed_11 : decode cX0_signed 11 = .ok (.ireturn, 1) := by decide +kernel
theorem dX0_pair_0 : decode cX0_pair 0 = .ok (.aload_n 0, 1) := by decide +kernel
theorem dX0_pair_1 : decode cX0_pair 1 = .ok (.getfield 9, 3) := by decide +kernel
theorem dX0_pair_4 : decode cX0_pair 4 = .ok (.iload_n 1, 1) := by decide +kernel
theorem dX0_pair_5 : decode cX0_pair 5 = .ok (.sipush 1023, 3) := by decide +kernel
theorem dX0_pair_8 : decode cX0_pair 8 = .ok (.iand, 1) := by decide +kernel
theorem dX0_pair_9 : decode cX0_pair 9 = .ok (.iaload, 1) := by decide +kernel
theorem dX0_pair_10 : decode cX0_pair 10 = .ok (.aload_n 0, 1) := by decide +kernel
theorem dX0_pair_11 : decode cX0_pair 11 = .ok (.getfield 9, 3) := by decide +kernel
theorem dX0_pair_14 : decode cX0_pair 14 = .ok (.iload_n 1, 1) := by decide +kernel
theorem dX0_pair_15 : decode cX0_pair 15 = .ok (.iconst 1, 1) := by decide +kernel
theorem dX0_pair_16 : decode cX0_pair 16 = .ok (.iadd, 1) := by decide +kernel
theorem dX0_pair_17 : decode cX0_pair 17 = .ok (.sipush 1023, 3) := by decide +kernel
theorem dX0_pair_20 : decode cX0_pair 20 = .ok (.iand, 1) := by decide +kernel
theorem dX0_pair_21 : decode cX0_pair 21 = .ok (.iaload, 1) := by decide +kernel
theorem dX0_pair_22 : decode cX0_pair 22 = .ok (.bipush 8, 2) := by decide +kernel
theorem dX0_pair_24 : decode cX0_pair 24 = .ok (.ishl, 1) := by decide +kernel
theorem dX0_pair_25 : decode cX0_pair 25 = .ok (.ior, 1) := by decide +kernel
theorem dX0_pair_26 : decode cX0_pair 26 = .ok (.ireturn, 1) := by decide +kernel
theorem dX0_setPair_0 : decode cX0_setPair 0 = .ok (.aload_n 0, 1) := by decide +kernel
theorem dX0_setPair_1 : decode cX0_setPair 1 = .ok (.getfield 9, 3) := by decide +kernel
theorem dX0_setPair_4 : decode cX0_setPair 4 = .ok (.iload_n 1, 1) := by decide +kernel
theorem dX0_setPair_5 : decode cX0_setPair 5 = .ok (.sipush 1023, 3) := by decide +kernel
theorem dX0_setPair_8 : decode cX0_setPair 8 = .ok (.iand, 1) := by decide +kernel
theorem dX0_setPair_9 : decode cX0_setPair 9 = .ok (.iload_n 2, 1) := by decide +kernel
theorem dX0_setPair_10 : decode cX0_setPair 10 = .ok (.sipush 255, 3) := by decide +kernel
theorem dX0_setPair_13 : decode cX0_setPair 13 = .ok (.iand, 1) := by decide +kernel
theorem dX0_setPair_14 : decode cX0_setPair 14 = .ok (.iastore, 1) := by decide +kernel
theorem dX0_setPair_15 : decode cX0_setPair 15 = .ok (.aload_n 0, 1) := by decide +kernel
theorem dX0_setPair_16 : decode cX0_setPair 16 = .ok (.getfield 9, 3) := by decide +kernel
theorem dX0_setPair_19 : decode cX0_setPair 19 = .ok (.iload_n 1, 1) := by decide +kernel
theorem dX0_setPair_20 : decode cX0_setPair 20 = .ok (.iconst 1, 1) := by decide +kernel
theorem dX0_setPair_21 : decode cX0_setPair 21 = .ok (.iadd, 1) := by decide +kernel
theorem dX0_setPair_22 : decode cX0_setPair 22 = .ok (.sipush 1023, 3) := by decide +kernel
theorem dX0_setPair_25 : decode cX0_setPair 25 = .ok (.iand, 1) := by decide +kernel
theorem dX0_setPair_26 : decode cX0_setPair 26 = .ok (.iload_n 2, 1) := by decide +kernel
theorem dX0_setPair_27 : decode cX0_setPair 27 = .ok (.bipush 8, 2) := by decide +kernel
theorem dX0_setPair_29 : decode cX0_setPair 29 = .ok (.ishr, 1) := by decide +kernel
theorem dX0_setPair_30 : decode cX0_setPair 30 = .ok (.sipush 255, 3) := by decide +kernel
theorem dX0_setPair_33 : decode cX0_setPair 33 = .ok (.iand, 1) := by decide +kernel
theorem dX0_setPair_34 : decode cX0_setPair 34 = .ok (.iastore, 1) := by decide +kernel
theorem dX0_setPair_35 : decode cX0_setPair 35 = .ok (.return_, 1) := by decide +kernel
theorem dX0_bit_0 : decode cX0_bit 0 = .ok (.aload_n 0, 1) := by decide +kernel
theorem dX0_bit_1 : decode cX0_bit 1 = .ok (.getfield 9, 3) := by decide +kernel
theorem dX0_bit_4 : decode cX0_bit 4 = .ok (.iload_n 1, 1) := by decide +kernel
theorem dX0_bit_5 : decode cX0_bit 5 = .ok (.sipush 1023, 3) := by decide +kernel
theorem dX0_bit_8 : decode cX0_bit 8 = .ok (.iand, 1) := by decide +kernel
theorem dX0_bit_9 : decode cX0_bit 9 = .ok (.iaload, 1) := by decide +kernel
theorem dX0_bit_10 : decode cX0_bit 10 = .ok (.iload_n 2, 1) := by decide +kernel
theorem dX0_bit_11 : decode cX0_bit 11 = .ok (.ishr, 1) := by decide +kernel
theorem dX0_bit_12 : decode cX0_bit 12 = .ok (.iconst 1, 1) := by decide +kernel
theorem dX0_bit_13 : decode cX0_bit 13 = .ok (.iand, 1) := by decide +kernel
theorem dX0_bit_14 : decode cX0_bit 14 = .ok (.ireturn, 1) := by decide +kernel
set_option maxRecDepth 20000 in
theorem ggX0_setBit_X0_get : GoodIn wsX0_setBit wsX0_get := goodIn_r _ [5, 6, 11] (by decide +kernel) (by decide +kernel)
set_option maxRecDepth 20000 in
theorem gX0_setBit_X0_get : GoodIn wsX0_setBit (wsV RX0 15 RX0 yX0_get wsX0_get) := goodIn_app (goodIn_of _ (by decide +kernel)) ggX0_setBit_X0_get
set_option maxRecDepth 20000 in
theorem ggX0_setBit_X0_set : GoodIn wsX0_setBit wsX0_set := goodIn_r _ [10, 6, 11] (by decide +kernel) (by decide +kernel)
set_option maxRecDepth 20000 in
theorem gX0_setBit_X0_set : GoodIn wsX0_setBit (wsV RX0 19 RX0 yX0_set wsX0_set) := goodIn_app (goodIn_of _ (by decide +kernel)) ggX0_setBit_X0_set
theorem dX0_setBit_0 : decode cX0_setBit 0 = .ok (.aload_n 0, 1) := by decide +kernel
theorem dX0_setBit_1 : decode cX0_setBit 1 = .ok (.iload_n 1, 1) := by decide +kernel
theorem dX0_setBit_2 : decode cX0_setBit 2 = .ok (.aload_n 0, 1) := by decide +kernel
theorem dX0_setBit_3 : decode cX0_setBit 3 = .ok (.iload_n 1, 1) := by decide +kernel
theorem dX0_setBit_4 : decode cX0_setBit 4 = .ok (.invokevirtual 15, 3) := by decide +kernel
theorem dX0_setBit_7 : decode cX0_setBit 7 = .ok (.iconst 1, 1) := by decide +kernel
theorem dX0_setBit_8 : decode cX0_setBit 8 = .ok (.iload_n 2, 1) := by decide +kernel
theorem dX0_setBit_9 : decode cX0_setBit 9 = .ok (.ishl, 1) := by decide +kernel
theorem dX0_setBit_10 : decode cX0_setBit 10 = .ok (.iconst (-1), 1) := by decide +kernel
theorem dX0_setBit_11 : decode cX0_setBit 11 = .ok (.ixor, 1) := by decide +kernel
theorem dX0_setBit_12 : decode cX0_setBit 12 = .ok (.iand, 1) := by decide +kernel
theorem dX0_setBit_13 : decode cX0_setBit 13 = .ok (.iload_n 3, 1) := by decide +kernel
theorem dX0_setBit_14 : decode cX0_setBit 14 = .ok (.iload_n 2, 1) := by decide +kernel
theorem dX0_setBit_15 : decode cX0_setBit 15 = .ok (.ishl, 1) := by decide +kernel
theorem dX0_setBit_16 : decode cX0_setBit 16 = .ok (.ior, 1) := by decide +kernel
theorem dX0_setBit_17 : decode cX0_setBit 17 = .ok (.invokevirtual 19, 3) := by decide +kernel
theorem dX0_setBit_20 : decode cX0_setBit 20 = .ok (.return_, 1) := by decide +kernel
theorem dX0_flag_0 : decode cX0_flag 0 = .ok (.aload_n 0, 1) := by decide +kernel
theorem dX0_flag_1 : decode cX0_flag 1 = .ok (.getfield 9, 3) := by decide +kernel
theorem dX0_flag_4 : decode cX0_flag 4 = .ok (.bipush 95, 2) := by decide +kernel
theorem dX0_flag_6 : decode cX0_flag 6 = .ok (.iaload, 1) := by decide +kernel
theorem dX0_flag_7 : decode cX0_flag 7 = .ok (.iload_n 1, 1) := by decide +kernel
theorem dX0_flag_8 : decode cX0_flag 8 = .ok (.ishr, 1) := by decide +kernel
theorem dX0_flag_9 : decode cX0_flag 9 = .ok (.iconst 1, 1) := by decide +kernel
theorem dX0_flag_10 : decode cX0_flag 10 = .ok (.iand, 1) := by decide +kernel
theorem dX0_flag_11 : decode cX0_flag 11 = .ok (.ireturn, 1) := by decide +kernel
set_option maxRecDepth 20000 in
theorem ggX0_setFlag_X0_setBit : GoodIn wsX0_setFlag wsX0_setBit := goodIn_r _ [5, 6, 7, 8, 4, 9, 10, 11, 12, 13, 14, 15] (by decide +kernel) (by decide +kernel)
set_option maxRecDepth 20000 in
theorem gX0_setFlag_X0_setBit : GoodIn wsX0_setFlag (wsV RX0 23 RX0 yX0_setBit wsX0_setBit) := goodIn_app (goodIn_of _ (by decide +kernel)) ggX0_setFlag_X0_setBit
theorem dX0_setFlag_0 : decode cX0_setFlag 0 = .ok (.aload_n 0, 1) := by decide +kernel
theorem dX0_setFlag_1 : decode cX0_setFlag 1 = .ok (.bipush 95, 2) := by decide +kernel
theorem dX0_setFlag_3 : decode cX0_setFlag 3 = .ok (.iload_n 1, 1) := by decide +kernel
theorem dX0_setFlag_4 : decode cX0_setFlag 4 = .ok (.iload_n 2, 1) := by decide +kernel
theorem dX0_setFlag_5 : decode cX0_setFlag 5 = .ok (.invokevirtual 23, 3) := by decide +kernel
theorem dX0_setFlag_8 : decode cX0_setFlag 8 = .ok (.return_, 1) := by decide +kernel
theorem dX0_setFlags_0 : decode cX0_setFlags 0 = .ok (.aload_n 0, 1) := by decide +kernel
theorem dX0_setFlags_1 : decode cX0_setFlags 1 = .ok (.getfield 9, 3) := by decide +kernel
theorem dX0_setFlags_4 : decode cX0_setFlags 4 = .ok (.bipush 95, 2) := by decide +kernel
theorem dX0_setFlags_6 : decode cX0_setFlags 6 = .ok (.aload_n 0, 1) := by decide +kernel
theorem dX0_setFlags_7 : decode cX0_setFlags 7 = .ok (.getfield 9, 3) := by decide +kernel
theorem dX0_setFlags_10 : decode cX0_setFlags 10 = .ok (.bipush 95, 2) := by decide +kernel
theorem dX0_setFlags_12 : decode cX0_setFlags 12 = .ok (.iaload, 1) := by decide +kernel
theorem dX0_setFlags_13 : decode cX0_setFlags 13 = .ok (.iload_n 1, 1) := by decide +kernel
theorem dX0_setFlags_14 : decode cX0_setFlags 14 = .ok (.iconst (-1), 1) := by decide +kernel
theorem dX0_setFlags_15 : decode cX0_setFlags 15 = .ok (.ixor, 1) := by decide +kernel
theorem dX0_setFlags_16 : decode cX0_setFlags 16 = .ok (.iand, 1) := by decide +kernel
theorem dX0_setFlags_17 : decode cX0_setFlags 17 = .ok (.iload_n 2, 1) := by decide +kernel
theorem dX0_setFlags_18 : decode cX0_setFlags 18 = .ok (.iload_n 1, 1) := by decide +kernel
theorem dX0_setFlags_19 : decode cX0_setFlags 19 = .ok (.iand, 1) := by decide +kernel
theorem dX0_setFlags_20 : decode cX0_setFlags 20 = .ok (.ior, 1) := by decide +kernel
theorem dX0_setFlags_21 : decode cX0_setFlags 21 = .ok (.iastore, 1) := by decide +kernel
theorem dX0_setFlags_22 : decode cX0_setFlags 22 = .ok (.return_, 1) := by decide +kernel
set_option maxRecDepth 20000 in
theorem ggX0_push_X0_pair : GoodIn wsX0_push wsX0_pair := goodIn_r _ [5, 6, 15] (by decide +kernel) (by decide +kernel)
set_option maxRecDepth 20000 in
theorem gX0_push_X0_pair : GoodIn wsX0_push (wsV RX0 27 RX0 yX0_pair wsX0_pair) := goodIn_app (goodIn_of _ (by decide +kernel)) ggX0_push_X0_pair
set_option maxRecDepth 20000 in
theorem ggX0_push_X0_set : GoodIn wsX0_push wsX0_set := goodIn_r _ [10, 6, 15] (by decide +kernel) (by decide +kernel)
set_option maxRecDepth 20000 in
theorem gX0_push_X0_set : GoodIn wsX0_push (wsV RX0 19 RX0 yX0_set wsX0_set) := goodIn_app (goodIn_of _ (by decide +kernel)) ggX0_push_X0_set
set_option maxRecDepth 20000 in
theorem ggX0_push_X0_setPair : GoodIn wsX0_push wsX0_setPair := goodIn_r _ [14, 6, 15] (by decide +kernel) (by decide +kernel)
set_option maxRecDepth 20000 in
theorem gX0_push_X0_setPair : GoodIn wsX0_push (wsV RX0 30 RX0 yX0_setPair wsX0_setPair) := goodIn_app (goodIn_of _ (by decide +kernel)) ggX0_push_X0_setPair
theorem dX0_push_0 : decode cX0_push 0 = .ok (.aload_n 0, 1) := by decide +kernel
theorem dX0_push_1 : decode cX0_push 1 = .ok (.bipush 93, 2) := by decide +kernel
theorem dX0_push_3 : decode cX0_push 3 = .ok (.invokevirtual 27, 3) := by decide +kernel
theorem dX0_push_6 : decode cX0_push 6 = .ok (.istore_n 2, 1) := by decide +kernel
theorem dX0_push_7 : decode cX0_push 7 = .ok (.aload_n 0, 1) := by decide +kernel
theorem dX0_push_8 : decode cX0_push 8 = .ok (.iload_n 2, 1) := by decide +kernel
theorem dX0_push_9 : decode cX0_push 9 = .ok (.iload_n 1, 1) := by decide +kernel
theorem dX0_push_10 : decode cX0_push 10 = .ok (.invokevirtual 19, 3) := by decide +kernel
theorem dX0_push_13 : decode cX0_push 13 = .ok (.aload_n 0, 1) := by decide +kernel
theorem dX0_push_14 : decode cX0_push 14 = .ok (.bipush 93, 2) := by decide +kernel
theorem dX0_push_16 : decode cX0_push 16 = .ok (.iload_n 2, 1) := by decide +kernel
theorem dX0_push_17 : decode cX0_push 17 = .ok (.iconst 1, 1) := by decide +kernel
theorem dX0_push_18 : decode cX0_push 18 = .ok (.isub, 1) := by decide +kernel
theorem dX0_push_19 : decode cX0_push 19 = .ok (.invokevirtual 30, 3) := by decide +kernel
theorem dX0_push_22 : decode cX0_push 22 = .ok (.return_, 1) := by decide +kernel
set_option maxRecDepth 20000 in
theorem ggX0_stacks_X0_pair : GoodIn wsX0_stacks wsX0_pair := goodIn_r _ [5, 6, 15] (by decide +kernel) (by decide +kernel)
set_option maxRecDepth 20000 in
theorem gX0_stacks_X0_pair : GoodIn wsX0_stacks (wsV RX0 27 RX0 yX0_pair wsX0_pair) := goodIn_app (goodIn_of _ (by decide +kernel)) ggX0_stacks_X0_pair
set_option maxRecDepth 20000 in
theorem ggX0_stacks_X0_set : GoodIn wsX0_stacks wsX0_set := goodIn_r _ [10, 6, 15] (by decide +kernel) (by decide +kernel)
set_option maxRecDepth 20000 in
theorem gX0_stacks_X0_set : GoodIn wsX0_stacks (wsV RX0 19 RX0 yX0_set wsX0_set) := goodIn_app (goodIn_of _ (by decide +kernel)) ggX0_stacks_X0_set
set_option maxRecDepth 20000 in
theorem ggX0_stacks_X0_setPair : GoodIn wsX0_stacks wsX0_setPair := goodIn_r _ [14, 6, 15] (by decide +kernel) (by decide +kernel)
set_option maxRecDepth 20000 in
theorem gX0_stacks_X0_setPair : GoodIn wsX0_stacks (wsV RX0 30 RX0 yX0_setPair wsX0_setPair) := goodIn_app (goodIn_of _ (by decide +kernel)) ggX0_stacks_X0_setPair
theorem dX0_stacks_0 : decode cX0_stacks 0 = .ok (.aload_n 0, 1) := by decide +kernel
theorem dX0_stacks_1 : decode cX0_stacks 1 = .ok (.bipush 93, 2) := by decide +kernel
theorem dX0_stacks_3 : decode cX0_stacks 3 = .ok (.invokevirtual 27, 3) := by decide +kernel
theorem dX0_stacks_6 : decode cX0_stacks 6 = .ok (.istore_n 2, 1) := by decide +kernel
theorem dX0_stacks_7 : decode cX0_stacks 7 = .ok (.iload_n 2, 1) := by decide +kernel
theorem dX0_stacks_8 : decode cX0_stacks 8 = .ok (.iconst 1, 1) := by decide +kernel
theorem dX0_stacks_9 : decode cX0_stacks 9 = .ok (.if_icmp .lt 10, 3) := by decide +kernel
theorem dX0_stacks_12 : decode cX0_stacks 12 = .ok (.iload_n 2, 1) := by decide +kernel
theorem dX0_stacks_13 : decode cX0_stacks 13 = .ok (.sipush 1023, 3) := by decide +kernel
theorem dX0_stacks_16 : decode cX0_stacks 16 = .ok (.if_icmp .le 5, 3) := by decide +kernel
theorem dX0_stacks_19 : decode cX0_stacks 19 = .ok (.iconst 0, 1) := by decide +kernel
theorem dX0_stacks_20 : decode cX0_stacks 20 = .ok (.ireturn, 1) := by decide +kernel
theorem dX0_stacks_21 : decode cX0_stacks 21 = .ok (.aload_n 0, 1) := by decide +kernel
theorem dX0_stacks_22 : decode cX0_stacks 22 = .ok (.iload_n 2, 1) := by decide +kernel
theorem dX0_stacks_23 : decode cX0_stacks 23 = .ok (.iload_n 1, 1) := by decide +kernel
theorem dX0_stacks_24 : decode cX0_stacks 24 = .ok (.invokevirtual 19, 3) := by decide +kernel
theorem dX0_stacks_27 : decode cX0_stacks 27 = .ok (.aload_n 0, 1) := by decide +kernel
theorem dX0_stacks_28 : decode cX0_stacks 28 = .ok (.iload_n 2, 1) := by decide +kernel
theorem dX0_stacks_29 : decode cX0_stacks 29 = .ok (.iconst 1, 1) := by decide +kernel
theorem dX0_stacks_30 : decode cX0_stacks 30 = .ok (.isub, 1) := by decide +kernel
theorem dX0_stacks_31 : decode cX0_stacks 31 = .ok (.iload_n 1, 1) := by decide +kernel
theorem dX0_stacks_32 : decode cX0_stacks 32 = .ok (.bipush 8, 2) := by decide +kernel
theorem dX0_stacks_34 : decode cX0_stacks 34 = .ok (.ishr, 1) := by decide +kernel
theorem dX0_stacks_35 : decode cX0_stacks 35 = .ok (.invokevirtual 19, 3) := by decide +kernel
theorem dX0_stacks_38 : decode cX0_stacks 38 = .ok (.aload_n 0, 1) := by decide +kernel
theorem dX0_stacks_39 : decode cX0_stacks 39 = .ok (.bipush 93, 2) := by decide +kernel
theorem dX0_stacks_41 : decode cX0_stacks 41 = .ok (.iload_n 2, 1) := by decide +kernel
theorem dX0_stacks_42 : decode cX0_stacks 42 = .ok (.iconst 2, 1) := by decide +kernel
theorem dX0_stacks_43 : decode cX0_stacks 43 = .ok (.isub, 1) := by decide +kernel
theorem dX0_stacks_44 : decode cX0_stacks 44 = .ok (.invokevirtual 30, 3) := by decide +kernel
theorem dX0_stacks_47 : decode cX0_stacks 47 = .ok (.iconst 1, 1) := by decide +kernel
theorem dX0_stacks_48 : decode cX0_stacks 48 = .ok (.ireturn, 1) := by decide +kernel
set_option maxRecDepth 20000 in
theorem ggX0_pull_X0_pair : GoodIn wsX0_pull wsX0_pair := goodIn_r _ [5, 6, 15] (by decide +kernel) (by decide +kernel)
set_option maxRecDepth 20000 in
theorem gX0_pull_X0_pair : GoodIn wsX0_pull (wsV RX0 27 RX0 yX0_pair wsX0_pair) := goodIn_app (goodIn_of _ (by decide +kernel)) ggX0_pull_X0_pair
set_option maxRecDepth 20000 in
theorem ggX0_pull_X0_setPair : GoodIn wsX0_pull wsX0_setPair := goodIn_r _ [10, 6, 15] (by decide +kernel) (by decide +kernel)
set_option maxRecDepth 20000 in
theorem gX0_pull_X0_setPair : GoodIn wsX0_pull (wsV RX0 30 RX0 yX0_setPair wsX0_setPair) := goodIn_app (goodIn_of _ (by decide +kernel)) ggX0_pull_X0_setPair
set_option maxRecDepth 20000 in
theorem ggX0_pull_X0_get : GoodIn wsX0_pull wsX0_get := goodIn_r _ [14, 6, 15] (by decide +kernel) (by decide +kernel)
set_option maxRecDepth 20000 in
theorem gX0_pull_X0_get : GoodIn wsX0_pull (wsV RX0 15 RX0 yX0_get wsX0_get) := goodIn_app (goodIn_of _ (by decide +kernel)) ggX0_pull_X0_get
theorem dX0_pull_0 : decode cX0_pull 0 = .ok (.aload_n 0, 1) := by decide +kernel
theorem dX0_pull_1 : decode cX0_pull 1 = .ok (.bipush 93, 2) := by decide +kernel
theorem dX0_pull_3 : decode cX0_pull 3 = .ok (.invokevirtual 27, 3) := by decide +kernel
theorem dX0_pull_6 : decode cX0_pull 6 = .ok (.iconst 1, 1) := by decide +kernel
theorem dX0_pull_7 : decode cX0_pull 7 = .ok (.iadd, 1) := by decide +kernel
theorem dX0_pull_8 : decode cX0_pull 8 = .ok (.istore_n 1, 1) := by decide +kernel
theorem dX0_pull_9 : decode cX0_pull 9 = .ok (.aload_n 0, 1) := by decide +kernel
theorem dX0_pull_10 : decode cX0_pull 10 = .ok (.bipush 93, 2) := by decide +kernel
theorem dX0_pull_12 : decode cX0_pull 12 = .ok (.iload_n 1, 1) := by decide +kernel
theorem dX0_pull_13 : decode cX0_pull 13 = .ok (.invokevirtual 30, 3) := by decide +kernel
theorem dX0_pull_16 : decode cX0_pull 16 = .ok (.aload_n 0, 1) := by decide +kernel
theorem dX0_pull_17 : decode cX0_pull 17 = .ok (.iload_n 1, 1) := by decide +kernel
theorem dX0_pull_18 : decode cX0_pull 18 = .ok (.invokevirtual 15, 3) := by decide +kernel
theorem dX0_pull_21 : decode cX0_pull 21 = .ok (.ireturn, 1) := by decide +kernel
theorem dX2_init_0 : decode cX2_init 0 = .ok (.aload_n 0, 1) := by decide +kernel
theorem dX2_init_1 : decode cX2_init 1 = .ok (.invokespecial 7, 3) := by decide +kernel
theorem dX2_init_4 : decode cX2_init 4 = .ok (.aload_n 0, 1) := by decide +kernel
theorem dX2_init_5 : decode cX2_init 5 = .ok (.aload_n 1, 1) := by decide +kernel
theorem dX2_init_6 : decode cX2_init 6 = .ok (.putfield 13, 3) := by decide +kernel
theorem dX2_init_9 : decode cX2_init 9 = .ok (.return_, 1) := by decide +kernel
set_option maxRecDepth 20000 in
theorem ggX2_sum_X2_signs : GoodIn wsX2_sum wsX2_signs := goodIn_r _ [5] (by decide +kernel) (by decide +kernel)
set_option maxRecDepth 20000 in
theorem gX2_sum_X2_signs : GoodIn wsX2_sum (va_wsS RX2 17 yX2_signs wsX2_signs) := goodIn_app (goodIn_of _ (by decide +kernel)) ggX2_sum_X2_signs
set_option maxRecDepth 20000 in
theorem ggX2_sum_X0_setFlags : GoodIn wsX2_sum wsX0_setFlags := goodIn_r _ [10, 11, 13] (by decide +kernel) (by decide +kernel)
set_option maxRecDepth 20000 in
theorem gX2_sum_X0_setFlags : GoodIn wsX2_sum (wsV RX2 21 RX0 yX0_setFlags wsX0_setFlags) := goodIn_app (goodIn_of _ (by decide +kernel)) ggX2_sum_X0_setFlags
theorem dX2_sum_0 : decode cX2_sum 0 = .ok (.iload_n 1, 1) := by decide +kernel
theorem dX2_sum_1 : decode cX2_sum 1 = .ok (.iload_n 2, 1) := by decide +kernel
theorem dX2_sum_2 : decode cX2_sum 2 = .ok (.iadd, 1) := by decide +kernel
theorem dX2_sum_3 : decode cX2_sum 3 = .ok (.iload_n 3, 1) := by decide +kernel
theorem dX2_sum_4 : decode cX2_sum 4 = .ok (.iadd, 1) := by decide +kernel
theorem dX2_sum_5 : decode cX2_sum 5 = .ok (.istore 4, 2) := by decide +kernel
theorem dX2_sum_7 : decode cX2_sum 7 = .ok (.iload 4, 2) := by decide +kernel
theorem dX2_sum_9 : decode cX2_sum 9 = .ok (.sipush 255, 3) := by decide +kernel
theorem dX2_sum_12 : decode cX2_sum 12 = .ok (.iand, 1) := by decide +kernel
theorem dX2_sum_13 : decode cX2_sum 13 = .ok (.istore 5, 2) := by decide +kernel
theorem dX2_sum_15 : decode cX2_sum 15 = .ok (.iload_n 1, 1) := by decide +kernel
theorem dX2_sum_16 : decode cX2_sum 16 = .ok (.bipush 15, 2) := by decide +kernel
theorem dX2_sum_18 : decode cX2_sum 18 = .ok (.iand, 1) := by decide +kernel
theorem dX2_sum_19 : decode cX2_sum 19 = .ok (.iload_n 2, 1) := by decide +kernel
theorem dX2_sum_20 : decode cX2_sum 20 = .ok (.bipush 15, 2) := by decide +kernel
theorem dX2_sum_22 : decode cX2_sum 22 = .ok (.iand, 1) := by decide +kernel
theorem dX2_sum_23 : decode cX2_sum 23 = .ok (.iadd, 1) := by decide +kernel
theorem dX2_sum_24 : decode cX2_sum 24 = .ok (.iload_n 3, 1) := by decide +kernel
theorem dX2_sum_25 : decode cX2_sum 25 = .ok (.iadd, 1) := by decide +kernel
theorem dX2_sum_26 : decode cX2_sum 26 = .ok (.istore 6, 2) := by decide +kernel
theorem dX2_sum_28 : decode cX2_sum 28 = .ok (.iload_n 1, 1) := by decide +kernel
theorem dX2_sum_29 : decode cX2_sum 29 = .ok (.iload 5, 2) := by decide +kernel
theorem dX2_sum_31 : decode cX2_sum 31 = .ok (.ixor, 1) := by decide +kernel
theorem dX2_sum_32 : decode cX2_sum 32 = .ok (.iload_n 2, 1) := by decide +kernel
theorem dX2_sum_33 : decode cX2_sum 33 = .ok (.iload 5, 2) := by decide +kernel
theorem dX2_sum_35 : decode cX2_sum 35 = .ok (.ixor, 1) := by decide +kernel
theorem dX2_sum_36 : decode cX2_sum 36 = .ok (.iand, 1) := by decide +kernel
theorem dX2_sum_37 : decode cX2_sum 37 = .ok (.sipush 128, 3) := by decide +kernel
theorem dX2_sum_40 : decode cX2_sum 40 = .ok (.iand, 1) := by decide +kernel
theorem dX2_sum_41 : decode cX2_sum 41 = .ok (.ifCond .eq 7, 3) := by decide +kernel
theorem dX2_sum_44 : decode cX2_sum 44 = .ok (.iconst 1, 1) := by decide +kernel
theorem dX2_sum_45 : decode cX2_sum 45 = .ok (.goto 4, 3) := by decide +kernel
theorem dX2_sum_48 : decode cX2_sum 48 = .ok (.iconst 0, 1) := by decide +kernel
theorem dX2_sum_49 : decode cX2_sum 49 = .ok (.istore 7, 2) := by decide +kernel
theorem dX2_sum_51 : decode cX2_sum 51 = .ok (.aload_n 0, 1) := by decide +kernel
theorem dX2_sum_52 : decode cX2_sum 52 = .ok (.getfield 13, 3) := by decide +kernel
theorem dX2_sum_55 : decode cX2_sum 55 = .ok (.bipush 63, 2) := by decide +kernel
theorem dX2_sum_57 : decode cX2_sum 57 = .ok (.iload 5, 2) := by decide +kernel
theorem dX2_sum_59 : decode cX2_sum 59 = .ok (.iload 7, 2) := by decide +kernel
theorem dX2_sum_61 : decode cX2_sum 61 = .ok (.invokestatic 17, 3) := by decide +kernel
theorem dX2_sum_64 : decode cX2_sum 64 = .ok (.iload 4, 2) := by decide +kernel
theorem dX2_sum_66 : decode cX2_sum 66 = .ok (.sipush 255, 3) := by decide +kernel
theorem dX2_sum_69 : decode cX2_sum 69 = .ok (.if_icmp .le 7, 3) := by decide +kernel
theorem dX2_sum_72 : decode cX2_sum 72 = .ok (.iconst 1, 1) := by decide +kernel
theorem dX2_sum_73 : decode cX2_sum 73 = .ok (.goto 4, 3) := by decide +kernel
theorem dX2_sum_76 : decode cX2_sum 76 = .ok (.iconst 0, 1) := by decide +kernel
theorem dX2_sum_77 : decode cX2_sum 77 = .ok (.ior, 1) := by decide +kernel
theorem dX2_sum_78 : decode cX2_sum 78 = .ok (.iload 6, 2) := by decide +kernel
theorem dX2_sum_80 : decode cX2_sum 80 = .ok (.bipush 15, 2) := by decide +kernel
theorem dX2_sum_82 : decode cX2_sum 82 = .ok (.if_icmp .le 8, 3) := by decide +kernel
theorem dX2_sum_85 : decode cX2_sum 85 = .ok (.bipush 32, 2) := by decide +kernel
theorem dX2_sum_87 : decode cX2_sum 87 = .ok (.goto 4, 3) := by decide +kernel
theorem dX2_sum_90 : decode cX2_sum 90 = .ok (.iconst 0, 1) := by decide +kernel
theorem dX2_sum_91 : decode cX2_sum 91 = .ok (.ior, 1) := by decide +kernel
theorem dX2_sum_92 : decode cX2_sum 92 = .ok (.invokevirtual 21, 3) := by decide +kernel
theorem dX2_sum_95 : decode cX2_sum 95 = .ok (.iload 5, 2) := by decide +kernel
theorem dX2_sum_97 : decode cX2_sum 97 = .ok (.ireturn, 1) := by decide +kernel
set_option maxRecDepth 20000 in
theorem ggX2_difference_X2_subtract : GoodIn wsX2_difference wsX2_subtract := goodIn_r _ [5, 6, 7, 8, 4, 9, 10, 11, 12, 13, 14, 15, 16, 17] (by decide +kernel) (by decide +kernel)
set_option maxRecDepth 20000 in
theorem gX2_difference_X2_subtract : GoodIn wsX2_difference (wsV RX2 27 RX2 yX2_subtract wsX2_subtract) := goodIn_app (goodIn_of _ (by decide +kernel)) ggX2_difference_X2_subtract
theorem dX2_difference_0 : decode cX2_difference 0 = .ok (.aload_n 0, 1) := by decide +kernel
theorem dX2_difference_1 : decode cX2_difference 1 = .ok (.iload_n 1, 1) := by decide +kernel
theorem dX2_difference_2 : decode cX2_difference 2 = .ok (.iload_n 2, 1) := by decide +kernel
theorem dX2_difference_3 : decode cX2_difference 3 = .ok (.iconst 0, 1) := by decide +kernel
theorem dX2_difference_4 : decode cX2_difference 4 = .ok (.bipush 30, 2) := by decide +kernel
theorem dX2_difference_6 : decode cX2_difference 6 = .ok (.invokevirtual 27, 3) := by decide +kernel
theorem dX2_difference_9 : decode cX2_difference 9 = .ok (.ireturn, 1) := by decide +kernel
set_option maxRecDepth 20000 in
theorem ggX2_differenceOn_X0_flag : GoodIn wsX2_differenceOn wsX0_flag := goodIn_r _ [6, 7, 21] (by decide +kernel) (by decide +kernel)
set_option maxRecDepth 20000 in
theorem gX2_differenceOn_X0_flag : GoodIn wsX2_differenceOn (wsV RX2 31 RX0 yX0_flag wsX0_flag) := goodIn_app (goodIn_of _ (by decide +kernel)) ggX2_differenceOn_X0_flag
set_option maxRecDepth 20000 in
theorem ggX2_differenceOn_X2_subtract : GoodIn wsX2_differenceOn wsX2_subtract := goodIn_r _ [12, 1, 13, 14, 11, 15, 16, 17, 18, 5, 19, 7, 20, 21] (by decide +kernel) (by decide +kernel)
set_option maxRecDepth 20000 in
theorem gX2_differenceOn_X2_subtract : GoodIn wsX2_differenceOn (wsV RX2 27 RX2 yX2_subtract wsX2_subtract) := goodIn_app (goodIn_of _ (by decide +kernel)) ggX2_differenceOn_X2_subtract
theorem dX2_differenceOn_0 : decode cX2_differenceOn 0 = .ok (.aload_n 0, 1) := by decide +kernel
theorem dX2_differenceOn_1 : decode cX2_differenceOn 1 = .ok (.getfield 13, 3) := by decide +kernel
theorem dX2_differenceOn_4 : decode cX2_differenceOn 4 = .ok (.iconst 1, 1) := by decide +kernel
theorem dX2_differenceOn_5 : decode cX2_differenceOn 5 = .ok (.invokevirtual 31, 3) := by decide +kernel
theorem dX2_differenceOn_8 : decode cX2_differenceOn 8 = .ok (.iconst 1, 1) := by decide +kernel
theorem dX2_differenceOn_9 : decode cX2_differenceOn 9 = .ok (.if_icmp .ne 8, 3) := by decide +kernel
theorem dX2_differenceOn_12 : decode cX2_differenceOn 12 = .ok (.bipush 30, 2) := by decide +kernel
theorem dX2_differenceOn_14 : decode cX2_differenceOn 14 = .ok (.goto 5, 3) := by decide +kernel
theorem dX2_differenceOn_17 : decode cX2_differenceOn 17 = .ok (.bipush 28, 2) := by decide +kernel
theorem dX2_differenceOn_19 : decode cX2_differenceOn 19 = .ok (.istore 4, 2) := by decide +kernel
theorem dX2_differenceOn_21 : decode cX2_differenceOn 21 = .ok (.aload_n 0, 1) := by decide +kernel
theorem dX2_differenceOn_22 : decode cX2_differenceOn 22 = .ok (.iload_n 1, 1) := by decide +kernel
theorem dX2_differenceOn_23 : decode cX2_differenceOn 23 = .ok (.iload_n 2, 1) := by decide +kernel
theorem dX2_differenceOn_24 : decode cX2_differenceOn 24 = .ok (.iload_n 3, 1) := by decide +kernel
theorem dX2_differenceOn_25 : decode cX2_differenceOn 25 = .ok (.iload 4, 2) := by decide +kernel
theorem dX2_differenceOn_27 : decode cX2_differenceOn 27 = .ok (.invokevirtual 27, 3) := by decide +kernel
theorem dX2_differenceOn_30 : decode cX2_differenceOn 30 = .ok (.ireturn, 1) := by decide +kernel
set_option maxRecDepth 20000 in
theorem ggX2_subtract_X2_signs : GoodIn wsX2_subtract wsX2_signs := goodIn_r _ [5] (by decide +kernel) (by decide +kernel)
set_option maxRecDepth 20000 in
theorem gX2_subtract_X2_signs : GoodIn wsX2_subtract (va_wsS RX2 17 yX2_signs wsX2_signs) := goodIn_app (goodIn_of _ (by decide +kernel)) ggX2_subtract_X2_signs
set_option maxRecDepth 20000 in
theorem ggX2_subtract_X0_setFlags : GoodIn wsX2_subtract wsX0_setFlags := goodIn_r _ [10, 11, 13] (by decide +kernel) (by decide +kernel)
set_option maxRecDepth 20000 in
theorem gX2_subtract_X0_setFlags : GoodIn wsX2_subtract (wsV RX2 21 RX0 yX0_setFlags wsX0_setFlags) := goodIn_app (goodIn_of _ (by decide +kernel)) ggX2_subtract_X0_setFlags
theorem dX2_subtract_0 : decode cX2_subtract 0 = .ok (.iload_n 1, 1) := by decide +kernel
theorem dX2_subtract_1 : decode cX2_subtract 1 = .ok (.iload_n 2, 1) := by decide +kernel
theorem dX2_subtract_2 : decode cX2_subtract 2 = .ok (.isub, 1) := by decide +kernel
theorem dX2_subtract_3 : decode cX2_subtract 3 = .ok (.iload_n 3, 1) := by decide +kernel
theorem dX2_subtract_4 : decode cX2_subtract 4 = .ok (.isub, 1) := by decide +kernel
theorem dX2_subtract_5 : decode cX2_subtract 5 = .ok (.istore 5, 2) := by decide +kernel
theorem dX2_subtract_7 : decode cX2_subtract 7 = .ok (.iload 5, 2) := by decide +kernel
theorem dX2_subtract_9 : decode cX2_subtract 9 = .ok (.sipush 255, 3) := by decide +kernel
theorem dX2_subtract_12 : decode cX2_subtract 12 = .ok (.iand, 1) := by decide +kernel
theorem dX2_subtract_13 : decode cX2_subtract 13 = .ok (.istore 6, 2) := by decide +kernel
theorem dX2_subtract_15 : decode cX2_subtract 15 = .ok (.iload_n 1, 1) := by decide +kernel
theorem dX2_subtract_16 : decode cX2_subtract 16 = .ok (.bipush 15, 2) := by decide +kernel
theorem dX2_subtract_18 : decode cX2_subtract 18 = .ok (.iand, 1) := by decide +kernel
theorem dX2_subtract_19 : decode cX2_subtract 19 = .ok (.iload_n 2, 1) := by decide +kernel
theorem dX2_subtract_20 : decode cX2_subtract 20 = .ok (.bipush 15, 2) := by decide +kernel
theorem dX2_subtract_22 : decode cX2_subtract 22 = .ok (.iand, 1) := by decide +kernel
theorem dX2_subtract_23 : decode cX2_subtract 23 = .ok (.isub, 1) := by decide +kernel
theorem dX2_subtract_24 : decode cX2_subtract 24 = .ok (.iload_n 3, 1) := by decide +kernel
theorem dX2_subtract_25 : decode cX2_subtract 25 = .ok (.isub, 1) := by decide +kernel
theorem dX2_subtract_26 : decode cX2_subtract 26 = .ok (.istore 7, 2) := by decide +kernel
theorem dX2_subtract_28 : decode cX2_subtract 28 = .ok (.iload_n 1, 1) := by decide +kernel
theorem dX2_subtract_29 : decode cX2_subtract 29 = .ok (.iload_n 2, 1) := by decide +kernel
theorem dX2_subtract_30 : decode cX2_subtract 30 = .ok (.ixor, 1) := by decide +kernel
theorem dX2_subtract_31 : decode cX2_subtract 31 = .ok (.iload_n 1, 1) := by decide +kernel
theorem dX2_subtract_32 : decode cX2_subtract 32 = .ok (.iload 6, 2) := by decide +kernel
theorem dX2_subtract_34 : decode cX2_subtract 34 = .ok (.ixor, 1) := by decide +kernel
theorem dX2_subtract_35 : decode cX2_subtract 35 = .ok (.iand, 1) := by decide +kernel
theorem dX2_subtract_36 : decode cX2_subtract 36 = .ok (.sipush 128, 3) := by decide +kernel
theorem dX2_subtract_39 : decode cX2_subtract 39 = .ok (.iand, 1) := by decide +kernel
theorem dX2_subtract_40 : decode cX2_subtract 40 = .ok (.ifCond .eq 7, 3) := by decide +kernel
theorem dX2_subtract_43 : decode cX2_subtract 43 = .ok (.iconst 1, 1) := by decide +kernel
theorem dX2_subtract_44 : decode cX2_subtract 44 = .ok (.goto 4, 3) := by decide +kernel
theorem dX2_subtract_47 : decode cX2_subtract 47 = .ok (.iconst 0, 1) := by decide +kernel
theorem dX2_subtract_48 : decode cX2_subtract 48 = .ok (.istore 8, 2) := by decide +kernel
theorem dX2_subtract_50 : decode cX2_subtract 50 = .ok (.aload_n 0, 1) := by decide +kernel
theorem dX2_subtract_51 : decode cX2_subtract 51 = .ok (.getfield 13, 3) := by decide +kernel
theorem dX2_subtract_54 : decode cX2_subtract 54 = .ok (.iload 4, 2) := by decide +kernel
theorem dX2_subtract_56 : decode cX2_subtract 56 = .ok (.iconst 1, 1) := by decide +kernel
theorem dX2_subtract_57 : decode cX2_subtract 57 = .ok (.ior, 1) := by decide +kernel
theorem dX2_subtract_58 : decode cX2_subtract 58 = .ok (.bipush 32, 2) := by decide +kernel
theorem dX2_subtract_60 : decode cX2_subtract 60 = .ok (.ior, 1) := by decide +kernel
theorem dX2_subtract_61 : decode cX2_subtract 61 = .ok (.iload 6, 2) := by decide +kernel
theorem dX2_subtract_63 : decode cX2_subtract 63 = .ok (.iload 8, 2) := by decide +kernel
theorem dX2_subtract_65 : decode cX2_subtract 65 = .ok (.invokestatic 17, 3) := by decide +kernel
theorem dX2_subtract_68 : decode cX2_subtract 68 = .ok (.iload 5, 2) := by decide +kernel
theorem dX2_subtract_70 : decode cX2_subtract 70 = .ok (.ifCond .ge 7, 3) := by decide +kernel
theorem dX2_subtract_73 : decode cX2_subtract 73 = .ok (.iconst 1, 1) := by decide +kernel
theorem dX2_subtract_74 : decode cX2_subtract 74 = .ok (.goto 4, 3) := by decide +kernel
theorem dX2_subtract_77 : decode cX2_subtract 77 = .ok (.iconst 0, 1) := by decide +kernel
theorem dX2_subtract_78 : decode cX2_subtract 78 = .ok (.ior, 1) := by decide +kernel
theorem dX2_subtract_79 : decode cX2_subtract 79 = .ok (.iload 7, 2) := by decide +kernel
theorem dX2_subtract_81 : decode cX2_subtract 81 = .ok (.ifCond .ge 8, 3) := by decide +kernel
theorem dX2_subtract_84 : decode cX2_subtract 84 = .ok (.bipush 32, 2) := by decide +kernel
theorem dX2_subtract_86 : decode cX2_subtract 86 = .ok (.goto 4, 3) := by decide +kernel
theorem dX2_subtract_89 : decode cX2_subtract 89 = .ok (.iconst 0, 1) := by decide +kernel
theorem dX2_subtract_90 : decode cX2_subtract 90 = .ok (.ior, 1) := by decide +kernel
theorem dX2_subtract_91 : decode cX2_subtract 91 = .ok (.invokevirtual 21, 3) := by decide +kernel
theorem dX2_subtract_94 : decode cX2_subtract 94 = .ok (.iload 6, 2) := by decide +kernel
theorem dX2_subtract_96 : decode cX2_subtract 96 = .ok (.ireturn, 1) := by decide +kernel
set_option maxRecDepth 20000 in
theorem ggX2_logic_X2_signs : GoodIn wsX2_logic wsX2_signs := goodIn_r _ [5] (by decide +kernel) (by decide +kernel)
set_option maxRecDepth 20000 in
theorem gX2_logic_X2_signs : GoodIn wsX2_logic (va_wsS RX2 17 yX2_signs wsX2_signs) := goodIn_app (goodIn_of _ (by decide +kernel)) ggX2_logic_X2_signs
set_option maxRecDepth 20000 in
theorem ggX2_logic_X0_setFlags : GoodIn wsX2_logic wsX0_setFlags := goodIn_r _ [10, 11, 13] (by decide +kernel) (by decide +kernel)
set_option maxRecDepth 20000 in
theorem gX2_logic_X0_setFlags : GoodIn wsX2_logic (wsV RX2 21 RX0 yX0_setFlags wsX0_setFlags) := goodIn_app (goodIn_of _ (by decide +kernel)) ggX2_logic_X0_setFlags
theorem dX2_logic_0 : decode cX2_logic 0 = .ok (.aload_n 0, 1) := by decide +kernel
theorem dX2_logic_1 : decode cX2_logic 1 = .ok (.getfield 13, 3) := by decide +kernel
theorem dX2_logic_4 : decode cX2_logic 4 = .ok (.bipush 30, 2) := by decide +kernel
theorem dX2_logic_6 : decode cX2_logic 6 = .ok (.iload_n 1, 1) := by decide +kernel
theorem dX2_logic_7 : decode cX2_logic 7 = .ok (.iconst 0, 1) := by decide +kernel
theorem dX2_logic_8 : decode cX2_logic 8 = .ok (.invokestatic 17, 3) := by decide +kernel
theorem dX2_logic_11 : decode cX2_logic 11 = .ok (.invokevirtual 21, 3) := by decide +kernel
theorem dX2_logic_14 : decode cX2_logic 14 = .ok (.iload_n 1, 1) := by decide +kernel
theorem dX2_logic_15 : decode cX2_logic 15 = .ok (.ireturn, 1) := by decide +kernel
set_option maxRecDepth 20000 in
theorem ggX2_inverse_X2_signs : GoodIn wsX2_inverse wsX2_signs := goodIn_r _ [5] (by decide +kernel) (by decide +kernel)
set_option maxRecDepth 20000 in
theorem gX2_inverse_X2_signs : GoodIn wsX2_inverse (va_wsS RX2 17 yX2_signs wsX2_signs) := goodIn_app (goodIn_of _ (by decide +kernel)) ggX2_inverse_X2_signs
set_option maxRecDepth 20000 in
theorem ggX2_inverse_X0_setFlags : GoodIn wsX2_inverse wsX0_setFlags := goodIn_r _ [10, 11, 13] (by decide +kernel) (by decide +kernel)
set_option maxRecDepth 20000 in
theorem gX2_inverse_X0_setFlags : GoodIn wsX2_inverse (wsV RX2 21 RX0 yX0_setFlags wsX0_setFlags) := goodIn_app (goodIn_of _ (by decide +kernel)) ggX2_inverse_X0_setFlags
theorem dX2_inverse_0 : decode cX2_inverse 0 = .ok (.sipush 255, 3) := by decide +kernel
theorem dX2_inverse_3 : decode cX2_inverse 3 = .ok (.iload_n 1, 1) := by decide +kernel
theorem dX2_inverse_4 : decode cX2_inverse 4 = .ok (.isub, 1) := by decide +kernel
theorem dX2_inverse_5 : decode cX2_inverse 5 = .ok (.istore_n 2, 1) := by decide +kernel
theorem dX2_inverse_6 : decode cX2_inverse 6 = .ok (.aload_n 0, 1) := by decide +kernel
theorem dX2_inverse_7 : decode cX2_inverse 7 = .ok (.getfield 13, 3) := by decide +kernel
theorem dX2_inverse_10 : decode cX2_inverse 10 = .ok (.bipush 31, 2) := by decide +kernel
theorem dX2_inverse_12 : decode cX2_inverse 12 = .ok (.iload_n 2, 1) := by decide +kernel
theorem dX2_inverse_13 : decode cX2_inverse 13 = .ok (.iconst 0, 1) := by decide +kernel
theorem dX2_inverse_14 : decode cX2_inverse 14 = .ok (.invokestatic 17, 3) := by decide +kernel
theorem dX2_inverse_17 : decode cX2_inverse 17 = .ok (.iconst 1, 1) := by decide +kernel
theorem dX2_inverse_18 : decode cX2_inverse 18 = .ok (.ior, 1) := by decide +kernel
theorem dX2_inverse_19 : decode cX2_inverse 19 = .ok (.invokevirtual 21, 3) := by decide +kernel
theorem dX2_inverse_22 : decode cX2_inverse 22 = .ok (.iload_n 2, 1) := by decide +kernel
theorem dX2_inverse_23 : decode cX2_inverse 23 = .ok (.ireturn, 1) := by decide +kernel
set_option maxRecDepth 20000 in
theorem ggX2_more_X2_signs : GoodIn wsX2_more wsX2_signs := goodIn_r _ [5] (by decide +kernel) (by decide +kernel)
set_option maxRecDepth 20000 in
theorem gX2_more_X2_signs : GoodIn wsX2_more (va_wsS RX2 17 yX2_signs wsX2_signs) := goodIn_app (goodIn_of _ (by decide +kernel)) ggX2_more_X2_signs
set_option maxRecDepth 20000 in
theorem ggX2_more_X0_setFlags : GoodIn wsX2_more wsX0_setFlags := goodIn_r _ [10, 11, 13] (by decide +kernel) (by decide +kernel)
set_option maxRecDepth 20000 in
theorem gX2_more_X0_setFlags : GoodIn wsX2_more (wsV RX2 21 RX0 yX0_setFlags wsX0_setFlags) := goodIn_app (goodIn_of _ (by decide +kernel)) ggX2_more_X0_setFlags
theorem dX2_more_0 : decode cX2_more 0 = .ok (.iload_n 1, 1) := by decide +kernel
theorem dX2_more_1 : decode cX2_more 1 = .ok (.iconst 1, 1) := by decide +kernel
theorem dX2_more_2 : decode cX2_more 2 = .ok (.iadd, 1) := by decide +kernel
theorem dX2_more_3 : decode cX2_more 3 = .ok (.sipush 255, 3) := by decide +kernel
theorem dX2_more_6 : decode cX2_more 6 = .ok (.iand, 1) := by decide +kernel
theorem dX2_more_7 : decode cX2_more 7 = .ok (.istore_n 2, 1) := by decide +kernel
theorem dX2_more_8 : decode cX2_more 8 = .ok (.aload_n 0, 1) := by decide +kernel
theorem dX2_more_9 : decode cX2_more 9 = .ok (.getfield 13, 3) := by decide +kernel
theorem dX2_more_12 : decode cX2_more 12 = .ok (.bipush 30, 2) := by decide +kernel
theorem dX2_more_14 : decode cX2_more 14 = .ok (.iload_n 2, 1) := by decide +kernel
theorem dX2_more_15 : decode cX2_more 15 = .ok (.iload_n 2, 1) := by decide +kernel
theorem dX2_more_16 : decode cX2_more 16 = .ok (.sipush 128, 3) := by decide +kernel
theorem dX2_more_19 : decode cX2_more 19 = .ok (.if_icmp .ne 7, 3) := by decide +kernel
theorem dX2_more_22 : decode cX2_more 22 = .ok (.iconst 1, 1) := by decide +kernel
theorem dX2_more_23 : decode cX2_more 23 = .ok (.goto 4, 3) := by decide +kernel
theorem dX2_more_26 : decode cX2_more 26 = .ok (.iconst 0, 1) := by decide +kernel
theorem dX2_more_27 : decode cX2_more 27 = .ok (.invokestatic 17, 3) := by decide +kernel
theorem dX2_more_30 : decode cX2_more 30 = .ok (.invokevirtual 21, 3) := by decide +kernel
theorem dX2_more_33 : decode cX2_more 33 = .ok (.iload_n 2, 1) := by decide +kernel
theorem dX2_more_34 : decode cX2_more 34 = .ok (.ireturn, 1) := by decide +kernel
set_option maxRecDepth 20000 in
theorem ggX2_less_X2_signs : GoodIn wsX2_less wsX2_signs := goodIn_r _ [5] (by decide +kernel) (by decide +kernel)
set_option maxRecDepth 20000 in
theorem gX2_less_X2_signs : GoodIn wsX2_less (va_wsS RX2 17 yX2_signs wsX2_signs) := goodIn_app (goodIn_of _ (by decide +kernel)) ggX2_less_X2_signs
set_option maxRecDepth 20000 in
theorem ggX2_less_X0_setFlags : GoodIn wsX2_less wsX0_setFlags := goodIn_r _ [10, 11, 13] (by decide +kernel) (by decide +kernel)
set_option maxRecDepth 20000 in
theorem gX2_less_X0_setFlags : GoodIn wsX2_less (wsV RX2 21 RX0 yX0_setFlags wsX0_setFlags) := goodIn_app (goodIn_of _ (by decide +kernel)) ggX2_less_X0_setFlags
theorem dX2_less_0 : decode cX2_less 0 = .ok (.iload_n 1, 1) := by decide +kernel
theorem dX2_less_1 : decode cX2_less 1 = .ok (.iconst 1, 1) := by decide +kernel
theorem dX2_less_2 : decode cX2_less 2 = .ok (.isub, 1) := by decide +kernel
theorem dX2_less_3 : decode cX2_less 3 = .ok (.sipush 255, 3) := by decide +kernel
theorem dX2_less_6 : decode cX2_less 6 = .ok (.iand, 1) := by decide +kernel
theorem dX2_less_7 : decode cX2_less 7 = .ok (.istore_n 2, 1) := by decide +kernel
theorem dX2_less_8 : decode cX2_less 8 = .ok (.aload_n 0, 1) := by decide +kernel
theorem dX2_less_9 : decode cX2_less 9 = .ok (.getfield 13, 3) := by decide +kernel
theorem dX2_less_12 : decode cX2_less 12 = .ok (.bipush 30, 2) := by decide +kernel
theorem dX2_less_14 : decode cX2_less 14 = .ok (.iload_n 2, 1) := by decide +kernel
theorem dX2_less_15 : decode cX2_less 15 = .ok (.iload_n 2, 1) := by decide +kernel
theorem dX2_less_16 : decode cX2_less 16 = .ok (.bipush 127, 2) := by decide +kernel
theorem dX2_less_18 : decode cX2_less 18 = .ok (.if_icmp .ne 7, 3) := by decide +kernel
theorem dX2_less_21 : decode cX2_less 21 = .ok (.iconst 1, 1) := by decide +kernel
theorem dX2_less_22 : decode cX2_less 22 = .ok (.goto 4, 3) := by decide +kernel
theorem dX2_less_25 : decode cX2_less 25 = .ok (.iconst 0, 1) := by decide +kernel
theorem dX2_less_26 : decode cX2_less 26 = .ok (.invokestatic 17, 3) := by decide +kernel
theorem dX2_less_29 : decode cX2_less 29 = .ok (.invokevirtual 21, 3) := by decide +kernel
theorem dX2_less_32 : decode cX2_less 32 = .ok (.iload_n 2, 1) := by decide +kernel
theorem dX2_less_33 : decode cX2_less 33 = .ok (.ireturn, 1) := by decide +kernel
set_option maxRecDepth 20000 in
theorem ggX2_right_X2_signs : GoodIn wsX2_right wsX2_signs := goodIn_r _ [5] (by decide +kernel) (by decide +kernel)
set_option maxRecDepth 20000 in
theorem gX2_right_X2_signs : GoodIn wsX2_right (va_wsS RX2 17 yX2_signs wsX2_signs) := goodIn_app (goodIn_of _ (by decide +kernel)) ggX2_right_X2_signs
set_option maxRecDepth 20000 in
theorem ggX2_right_X0_setFlags : GoodIn wsX2_right wsX0_setFlags := goodIn_r _ [10, 11, 13] (by decide +kernel) (by decide +kernel)
set_option maxRecDepth 20000 in
theorem gX2_right_X0_setFlags : GoodIn wsX2_right (wsV RX2 21 RX0 yX0_setFlags wsX0_setFlags) := goodIn_app (goodIn_of _ (by decide +kernel)) ggX2_right_X0_setFlags
theorem dX2_right_0 : decode cX2_right 0 = .ok (.iload_n 1, 1) := by decide +kernel
theorem dX2_right_1 : decode cX2_right 1 = .ok (.iconst 1, 1) := by decide +kernel
theorem dX2_right_2 : decode cX2_right 2 = .ok (.ishr, 1) := by decide +kernel
theorem dX2_right_3 : decode cX2_right 3 = .ok (.iload_n 2, 1) := by decide +kernel
theorem dX2_right_4 : decode cX2_right 4 = .ok (.bipush 7, 2) := by decide +kernel
theorem dX2_right_6 : decode cX2_right 6 = .ok (.ishl, 1) := by decide +kernel
theorem dX2_right_7 : decode cX2_right 7 = .ok (.ior, 1) := by decide +kernel
theorem dX2_right_8 : decode cX2_right 8 = .ok (.istore_n 3, 1) := by decide +kernel
theorem dX2_right_9 : decode cX2_right 9 = .ok (.iload_n 1, 1) := by decide +kernel
theorem dX2_right_10 : decode cX2_right 10 = .ok (.iconst 1, 1) := by decide +kernel
theorem dX2_right_11 : decode cX2_right 11 = .ok (.iand, 1) := by decide +kernel
theorem dX2_right_12 : decode cX2_right 12 = .ok (.istore 4, 2) := by decide +kernel
theorem dX2_right_14 : decode cX2_right 14 = .ok (.aload_n 0, 1) := by decide +kernel
theorem dX2_right_15 : decode cX2_right 15 = .ok (.getfield 13, 3) := by decide +kernel
theorem dX2_right_18 : decode cX2_right 18 = .ok (.bipush 31, 2) := by decide +kernel
theorem dX2_right_20 : decode cX2_right 20 = .ok (.iload_n 3, 1) := by decide +kernel
theorem dX2_right_21 : decode cX2_right 21 = .ok (.iload_n 2, 1) := by decide +kernel
theorem dX2_right_22 : decode cX2_right 22 = .ok (.iload 4, 2) := by decide +kernel
theorem dX2_right_24 : decode cX2_right 24 = .ok (.if_icmp .eq 7, 3) := by decide +kernel
theorem dX2_right_27 : decode cX2_right 27 = .ok (.iconst 1, 1) := by decide +kernel
theorem dX2_right_28 : decode cX2_right 28 = .ok (.goto 4, 3) := by decide +kernel
theorem dX2_right_31 : decode cX2_right 31 = .ok (.iconst 0, 1) := by decide +kernel
theorem dX2_right_32 : decode cX2_right 32 = .ok (.invokestatic 17, 3) := by decide +kernel
theorem dX2_right_35 : decode cX2_right 35 = .ok (.iload 4, 2) := by decide +kernel
theorem dX2_right_37 : decode cX2_right 37 = .ok (.iconst 1, 1) := by decide +kernel
theorem dX2_right_38 : decode cX2_right 38 = .ok (.if_icmp .ne 7, 3) := by decide +kernel
theorem dX2_right_41 : decode cX2_right 41 = .ok (.iconst 1, 1) := by decide +kernel
theorem dX2_right_42 : decode cX2_right 42 = .ok (.goto 4, 3) := by decide +kernel
theorem dX2_right_45 : decode cX2_right 45 = .ok (.iconst 0, 1) := by decide +kernel
theorem dX2_right_46 : decode cX2_right 46 = .ok (.ior, 1) := by decide +kernel
theorem dX2_right_47 : decode cX2_right 47 = .ok (.invokevirtual 21, 3) := by decide +kernel
theorem dX2_right_50 : decode cX2_right 50 = .ok (.iload_n 3, 1) := by decide +kernel
theorem dX2_right_51 : decode cX2_right 51 = .ok (.ireturn, 1) := by decide +kernel
set_option maxRecDepth 20000 in
theorem ggX2_pairMore_X2_pairFlags : GoodIn wsX2_pairMore wsX2_pairFlags := goodIn_r _ [6, 7, 8, 9, 10, 5, 11, 12, 13, 14, 15, 16, 17, 18, 19] (by decide +kernel) (by decide +kernel)
set_option maxRecDepth 20000 in
theorem gX2_pairMore_X2_pairFlags : GoodIn wsX2_pairMore (wsV RX2 36 RX2 yX2_pairFlags wsX2_pairFlags) := goodIn_app (goodIn_of _ (by decide +kernel)) ggX2_pairMore_X2_pairFlags
theorem dX2_pairMore_0 : decode cX2_pairMore 0 = .ok (.iload_n 1, 1) := by decide +kernel
theorem dX2_pairMore_1 : decode cX2_pairMore 1 = .ok (.iload_n 2, 1) := by decide +kernel
theorem dX2_pairMore_2 : decode cX2_pairMore 2 = .ok (.iadd, 1) := by decide +kernel
theorem dX2_pairMore_3 : decode cX2_pairMore 3 = .ok (.ldc 35, 2) := by decide +kernel
theorem dX2_pairMore_5 : decode cX2_pairMore 5 = .ok (.iand, 1) := by decide +kernel
theorem dX2_pairMore_6 : decode cX2_pairMore 6 = .ok (.istore_n 3, 1) := by decide +kernel
theorem dX2_pairMore_7 : decode cX2_pairMore 7 = .ok (.aload_n 0, 1) := by decide +kernel
theorem dX2_pairMore_8 : decode cX2_pairMore 8 = .ok (.iload_n 3, 1) := by decide +kernel
theorem dX2_pairMore_9 : decode cX2_pairMore 9 = .ok (.iload_n 1, 1) := by decide +kernel
theorem dX2_pairMore_10 : decode cX2_pairMore 10 = .ok (.iconst (-1), 1) := by decide +kernel
theorem dX2_pairMore_11 : decode cX2_pairMore 11 = .ok (.ixor, 1) := by decide +kernel
theorem dX2_pairMore_12 : decode cX2_pairMore 12 = .ok (.iload_n 3, 1) := by decide +kernel
theorem dX2_pairMore_13 : decode cX2_pairMore 13 = .ok (.iand, 1) := by decide +kernel
theorem dX2_pairMore_14 : decode cX2_pairMore 14 = .ok (.iload_n 1, 1) := by decide +kernel
theorem dX2_pairMore_15 : decode cX2_pairMore 15 = .ok (.iload_n 3, 1) := by decide +kernel
theorem dX2_pairMore_16 : decode cX2_pairMore 16 = .ok (.iconst (-1), 1) := by decide +kernel
theorem dX2_pairMore_17 : decode cX2_pairMore 17 = .ok (.ixor, 1) := by decide +kernel
theorem dX2_pairMore_18 : decode cX2_pairMore 18 = .ok (.iand, 1) := by decide +kernel
theorem dX2_pairMore_19 : decode cX2_pairMore 19 = .ok (.invokevirtual 36, 3) := by decide +kernel
theorem dX2_pairMore_22 : decode cX2_pairMore 22 = .ok (.iload_n 3, 1) := by decide +kernel
theorem dX2_pairMore_23 : decode cX2_pairMore 23 = .ok (.ireturn, 1) := by decide +kernel
set_option maxRecDepth 20000 in
theorem ggX2_pairLess_X2_pairFlags : GoodIn wsX2_pairLess wsX2_pairFlags := goodIn_r _ [6, 7, 8, 9, 10, 5, 11, 12, 13, 14, 15, 16, 17, 18, 19] (by decide +kernel) (by decide +kernel)
set_option maxRecDepth 20000 in
theorem gX2_pairLess_X2_pairFlags : GoodIn wsX2_pairLess (wsV RX2 36 RX2 yX2_pairFlags wsX2_pairFlags) := goodIn_app (goodIn_of _ (by decide +kernel)) ggX2_pairLess_X2_pairFlags
theorem dX2_pairLess_0 : decode cX2_pairLess 0 = .ok (.iload_n 1, 1) := by decide +kernel
theorem dX2_pairLess_1 : decode cX2_pairLess 1 = .ok (.iload_n 2, 1) := by decide +kernel
theorem dX2_pairLess_2 : decode cX2_pairLess 2 = .ok (.isub, 1) := by decide +kernel
theorem dX2_pairLess_3 : decode cX2_pairLess 3 = .ok (.ldc 35, 2) := by decide +kernel
theorem dX2_pairLess_5 : decode cX2_pairLess 5 = .ok (.iand, 1) := by decide +kernel
theorem dX2_pairLess_6 : decode cX2_pairLess 6 = .ok (.istore_n 3, 1) := by decide +kernel
theorem dX2_pairLess_7 : decode cX2_pairLess 7 = .ok (.aload_n 0, 1) := by decide +kernel
theorem dX2_pairLess_8 : decode cX2_pairLess 8 = .ok (.iload_n 3, 1) := by decide +kernel
theorem dX2_pairLess_9 : decode cX2_pairLess 9 = .ok (.iload_n 1, 1) := by decide +kernel
theorem dX2_pairLess_10 : decode cX2_pairLess 10 = .ok (.iload_n 3, 1) := by decide +kernel
theorem dX2_pairLess_11 : decode cX2_pairLess 11 = .ok (.iconst (-1), 1) := by decide +kernel
theorem dX2_pairLess_12 : decode cX2_pairLess 12 = .ok (.ixor, 1) := by decide +kernel
theorem dX2_pairLess_13 : decode cX2_pairLess 13 = .ok (.iand, 1) := by decide +kernel
theorem dX2_pairLess_14 : decode cX2_pairLess 14 = .ok (.iload_n 1, 1) := by decide +kernel
theorem dX2_pairLess_15 : decode cX2_pairLess 15 = .ok (.iconst (-1), 1) := by decide +kernel
theorem dX2_pairLess_16 : decode cX2_pairLess 16 = .ok (.ixor, 1) := by decide +kernel
theorem dX2_pairLess_17 : decode cX2_pairLess 17 = .ok (.iload_n 3, 1) := by decide +kernel
theorem dX2_pairLess_18 : decode cX2_pairLess 18 = .ok (.iand, 1) := by decide +kernel
theorem dX2_pairLess_19 : decode cX2_pairLess 19 = .ok (.invokevirtual 36, 3) := by decide +kernel
theorem dX2_pairLess_22 : decode cX2_pairLess 22 = .ok (.iload_n 3, 1) := by decide +kernel
theorem dX2_pairLess_23 : decode cX2_pairLess 23 = .ok (.ireturn, 1) := by decide +kernel
set_option maxRecDepth 20000 in
theorem ggX2_pairFlags_X2_signs : GoodIn wsX2_pairFlags wsX2_signs := goodIn_r _ [6] (by decide +kernel) (by decide +kernel)
set_option maxRecDepth 20000 in
theorem gX2_pairFlags_X2_signs : GoodIn wsX2_pairFlags (va_wsS RX2 17 yX2_signs wsX2_signs) := goodIn_app (goodIn_of _ (by decide +kernel)) ggX2_pairFlags_X2_signs
set_option maxRecDepth 20000 in
theorem ggX2_pairFlags_X0_setFlags : GoodIn wsX2_pairFlags wsX0_setFlags := goodIn_r _ [11, 12, 14] (by decide +kernel) (by decide +kernel)
set_option maxRecDepth 20000 in
theorem gX2_pairFlags_X0_setFlags : GoodIn wsX2_pairFlags (wsV RX2 21 RX0 yX0_setFlags wsX0_setFlags) := goodIn_app (goodIn_of _ (by decide +kernel)) ggX2_pairFlags_X0_setFlags
theorem dX2_pairFlags_0 : decode cX2_pairFlags 0 = .ok (.iload_n 1, 1) := by decide +kernel
theorem dX2_pairFlags_1 : decode cX2_pairFlags 1 = .ok (.bipush 8, 2) := by decide +kernel
theorem dX2_pairFlags_3 : decode cX2_pairFlags 3 = .ok (.ishr, 1) := by decide +kernel
theorem dX2_pairFlags_4 : decode cX2_pairFlags 4 = .ok (.iload_n 2, 1) := by decide +kernel
theorem dX2_pairFlags_5 : decode cX2_pairFlags 5 = .ok (.ldc 40, 2) := by decide +kernel
theorem dX2_pairFlags_7 : decode cX2_pairFlags 7 = .ok (.iand, 1) := by decide +kernel
theorem dX2_pairFlags_8 : decode cX2_pairFlags 8 = .ok (.ifCond .eq 7, 3) := by decide +kernel
theorem dX2_pairFlags_11 : decode cX2_pairFlags 11 = .ok (.iconst 1, 1) := by decide +kernel
theorem dX2_pairFlags_12 : decode cX2_pairFlags 12 = .ok (.goto 4, 3) := by decide +kernel
theorem dX2_pairFlags_15 : decode cX2_pairFlags 15 = .ok (.iconst 0, 1) := by decide +kernel
theorem dX2_pairFlags_16 : decode cX2_pairFlags 16 = .ok (.invokestatic 17, 3) := by decide +kernel
theorem dX2_pairFlags_19 : decode cX2_pairFlags 19 = .ok (.bipush (-3), 2) := by decide +kernel
theorem dX2_pairFlags_21 : decode cX2_pairFlags 21 = .ok (.iand, 1) := by decide +kernel
theorem dX2_pairFlags_22 : decode cX2_pairFlags 22 = .ok (.istore 4, 2) := by decide +kernel
theorem dX2_pairFlags_24 : decode cX2_pairFlags 24 = .ok (.aload_n 0, 1) := by decide +kernel
theorem dX2_pairFlags_25 : decode cX2_pairFlags 25 = .ok (.getfield 13, 3) := by decide +kernel
theorem dX2_pairFlags_28 : decode cX2_pairFlags 28 = .ok (.bipush 31, 2) := by decide +kernel
theorem dX2_pairFlags_30 : decode cX2_pairFlags 30 = .ok (.iload 4, 2) := by decide +kernel
theorem dX2_pairFlags_32 : decode cX2_pairFlags 32 = .ok (.iload_n 1, 1) := by decide +kernel
theorem dX2_pairFlags_33 : decode cX2_pairFlags 33 = .ok (.ifCond .ne 7, 3) := by decide +kernel
theorem dX2_pairFlags_36 : decode cX2_pairFlags 36 = .ok (.iconst 2, 1) := by decide +kernel
theorem dX2_pairFlags_37 : decode cX2_pairFlags 37 = .ok (.goto 4, 3) := by decide +kernel
theorem dX2_pairFlags_40 : decode cX2_pairFlags 40 = .ok (.iconst 0, 1) := by decide +kernel
theorem dX2_pairFlags_41 : decode cX2_pairFlags 41 = .ok (.ior, 1) := by decide +kernel
theorem dX2_pairFlags_42 : decode cX2_pairFlags 42 = .ok (.iload_n 3, 1) := by decide +kernel
theorem dX2_pairFlags_43 : decode cX2_pairFlags 43 = .ok (.ldc 40, 2) := by decide +kernel
theorem dX2_pairFlags_45 : decode cX2_pairFlags 45 = .ok (.iand, 1) := by decide +kernel
theorem dX2_pairFlags_46 : decode cX2_pairFlags 46 = .ok (.ifCond .eq 7, 3) := by decide +kernel
theorem dX2_pairFlags_49 : decode cX2_pairFlags 49 = .ok (.iconst 1, 1) := by decide +kernel
theorem dX2_pairFlags_50 : decode cX2_pairFlags 50 = .ok (.goto 4, 3) := by decide +kernel
theorem dX2_pairFlags_53 : decode cX2_pairFlags 53 = .ok (.iconst 0, 1) := by decide +kernel
theorem dX2_pairFlags_54 : decode cX2_pairFlags 54 = .ok (.ior, 1) := by decide +kernel
theorem dX2_pairFlags_55 : decode cX2_pairFlags 55 = .ok (.invokevirtual 21, 3) := by decide +kernel
theorem dX2_pairFlags_58 : decode cX2_pairFlags 58 = .ok (.return_, 1) := by decide +kernel
set_option maxRecDepth 20000 in
theorem ggX2_product_X2_keepProduct : GoodIn wsX2_product wsX2_keepProduct := goodIn_r _ [5, 6, 7, 8, 9, 10, 11, 12, 13, 14, 15, 16, 17, 18, 19, 20] (by decide +kernel) (by decide +kernel)
set_option maxRecDepth 20000 in
theorem gX2_product_X2_keepProduct : GoodIn wsX2_product (wsV RX2 41 RX2 yX2_keepProduct wsX2_keepProduct) := goodIn_app (goodIn_of _ (by decide +kernel)) ggX2_product_X2_keepProduct
theorem dX2_product_0 : decode cX2_product 0 = .ok (.aload_n 0, 1) := by decide +kernel
theorem dX2_product_1 : decode cX2_product 1 = .ok (.iload_n 1, 1) := by decide +kernel
theorem dX2_product_2 : decode cX2_product 2 = .ok (.iload_n 1, 1) := by decide +kernel
theorem dX2_product_3 : decode cX2_product 3 = .ok (.invokevirtual 41, 3) := by decide +kernel
theorem dX2_product_6 : decode cX2_product 6 = .ok (.return_, 1) := by decide +kernel
set_option maxRecDepth 20000 in
theorem ggX2_fraction_X2_keepProduct : GoodIn wsX2_fraction wsX2_keepProduct := goodIn_r _ [5, 6, 7, 8, 9, 10, 11, 12, 13, 14, 15, 16, 17, 18, 19, 20] (by decide +kernel) (by decide +kernel)
set_option maxRecDepth 20000 in
theorem gX2_fraction_X2_keepProduct : GoodIn wsX2_fraction (wsV RX2 41 RX2 yX2_keepProduct wsX2_keepProduct) := goodIn_app (goodIn_of _ (by decide +kernel)) ggX2_fraction_X2_keepProduct
theorem dX2_fraction_0 : decode cX2_fraction 0 = .ok (.aload_n 0, 1) := by decide +kernel
theorem dX2_fraction_1 : decode cX2_fraction 1 = .ok (.iload_n 1, 1) := by decide +kernel
theorem dX2_fraction_2 : decode cX2_fraction 2 = .ok (.iload_n 1, 1) := by decide +kernel
theorem dX2_fraction_3 : decode cX2_fraction 3 = .ok (.iconst 1, 1) := by decide +kernel
theorem dX2_fraction_4 : decode cX2_fraction 4 = .ok (.ishl, 1) := by decide +kernel
theorem dX2_fraction_5 : decode cX2_fraction 5 = .ok (.invokevirtual 41, 3) := by decide +kernel
theorem dX2_fraction_8 : decode cX2_fraction 8 = .ok (.return_, 1) := by decide +kernel
set_option maxRecDepth 20000 in
theorem ggX2_keepProduct_X0_setPair : GoodIn wsX2_keepProduct wsX0_setPair := goodIn_r _ [8, 9, 15] (by decide +kernel) (by decide +kernel)
set_option maxRecDepth 20000 in
theorem gX2_keepProduct_X0_setPair : GoodIn wsX2_keepProduct (wsV RX2 44 RX0 yX0_setPair wsX0_setPair) := goodIn_app (goodIn_of _ (by decide +kernel)) ggX2_keepProduct_X0_setPair
set_option maxRecDepth 20000 in
theorem ggX2_keepProduct_X0_setFlags : GoodIn wsX2_keepProduct wsX0_setFlags := goodIn_r _ [13, 9, 15] (by decide +kernel) (by decide +kernel)
set_option maxRecDepth 20000 in
theorem gX2_keepProduct_X0_setFlags : GoodIn wsX2_keepProduct (wsV RX2 21 RX0 yX0_setFlags wsX0_setFlags) := goodIn_app (goodIn_of _ (by decide +kernel)) ggX2_keepProduct_X0_setFlags
theorem dX2_keepProduct_0 : decode cX2_keepProduct 0 = .ok (.aload_n 0, 1) := by decide +kernel
theorem dX2_keepProduct_1 : decode cX2_keepProduct 1 = .ok (.getfield 13, 3) := by decide +kernel
theorem dX2_keepProduct_4 : decode cX2_keepProduct 4 = .ok (.iconst 0, 1) := by decide +kernel
theorem dX2_keepProduct_5 : decode cX2_keepProduct 5 = .ok (.iload_n 2, 1) := by decide +kernel
theorem dX2_keepProduct_6 : decode cX2_keepProduct 6 = .ok (.invokevirtual 44, 3) := by decide +kernel
theorem dX2_keepProduct_9 : decode cX2_keepProduct 9 = .ok (.aload_n 0, 1) := by decide +kernel
theorem dX2_keepProduct_10 : decode cX2_keepProduct 10 = .ok (.getfield 13, 3) := by decide +kernel
theorem dX2_keepProduct_13 : decode cX2_keepProduct 13 = .ok (.iconst 3, 1) := by decide +kernel
theorem dX2_keepProduct_14 : decode cX2_keepProduct 14 = .ok (.iload_n 1, 1) := by decide +kernel
theorem dX2_keepProduct_15 : decode cX2_keepProduct 15 = .ok (.ldc 40, 2) := by decide +kernel
theorem dX2_keepProduct_17 : decode cX2_keepProduct 17 = .ok (.iand, 1) := by decide +kernel
theorem dX2_keepProduct_18 : decode cX2_keepProduct 18 = .ok (.ifCond .eq 7, 3) := by decide +kernel
theorem dX2_keepProduct_21 : decode cX2_keepProduct 21 = .ok (.iconst 1, 1) := by decide +kernel
theorem dX2_keepProduct_22 : decode cX2_keepProduct 22 = .ok (.goto 4, 3) := by decide +kernel
theorem dX2_keepProduct_25 : decode cX2_keepProduct 25 = .ok (.iconst 0, 1) := by decide +kernel
theorem dX2_keepProduct_26 : decode cX2_keepProduct 26 = .ok (.iload_n 2, 1) := by decide +kernel
theorem dX2_keepProduct_27 : decode cX2_keepProduct 27 = .ok (.ldc 35, 2) := by decide +kernel
theorem dX2_keepProduct_29 : decode cX2_keepProduct 29 = .ok (.iand, 1) := by decide +kernel
theorem dX2_keepProduct_30 : decode cX2_keepProduct 30 = .ok (.ifCond .ne 7, 3) := by decide +kernel
theorem dX2_keepProduct_33 : decode cX2_keepProduct 33 = .ok (.iconst 2, 1) := by decide +kernel
theorem dX2_keepProduct_34 : decode cX2_keepProduct 34 = .ok (.goto 4, 3) := by decide +kernel
theorem dX2_keepProduct_37 : decode cX2_keepProduct 37 = .ok (.iconst 0, 1) := by decide +kernel
theorem dX2_keepProduct_38 : decode cX2_keepProduct 38 = .ok (.ior, 1) := by decide +kernel
theorem dX2_keepProduct_39 : decode cX2_keepProduct 39 = .ok (.invokevirtual 21, 3) := by decide +kernel
theorem dX2_keepProduct_42 : decode cX2_keepProduct 42 = .ok (.return_, 1) := by decide +kernel
theorem dX2_signs_0 : decode cX2_signs 0 = .ok (.iload_n 0, 1) := by decide +kernel
theorem dX2_signs_1 : decode cX2_signs 1 = .ok (.bipush 7, 2) := by decide +kernel
theorem dX2_signs_3 : decode cX2_signs 3 = .ok (.ishr, 1) := by decide +kernel
theorem dX2_signs_4 : decode cX2_signs 4 = .ok (.iconst 1, 1) := by decide +kernel
theorem dX2_signs_5 : decode cX2_signs 5 = .ok (.iand, 1) := by decide +kernel
theorem dX2_signs_6 : decode cX2_signs 6 = .ok (.istore_n 2, 1) := by decide +kernel
theorem dX2_signs_7 : decode cX2_signs 7 = .ok (.iload_n 1, 1) := by decide +kernel
theorem dX2_signs_8 : decode cX2_signs 8 = .ok (.ifCond .eq 7, 3) := by decide +kernel
theorem dX2_signs_11 : decode cX2_signs 11 = .ok (.iconst 1, 1) := by decide +kernel
theorem dX2_signs_12 : decode cX2_signs 12 = .ok (.goto 4, 3) := by decide +kernel
theorem dX2_signs_15 : decode cX2_signs 15 = .ok (.iconst 0, 1) := by decide +kernel
theorem dX2_signs_16 : decode cX2_signs 16 = .ok (.istore_n 3, 1) := by decide +kernel
theorem dX2_signs_17 : decode cX2_signs 17 = .ok (.iload_n 0, 1) := by decide +kernel
theorem dX2_signs_18 : decode cX2_signs 18 = .ok (.ifCond .ne 7, 3) := by decide +kernel
theorem dX2_signs_21 : decode cX2_signs 21 = .ok (.iconst 2, 1) := by decide +kernel
theorem dX2_signs_22 : decode cX2_signs 22 = .ok (.goto 4, 3) := by decide +kernel
theorem dX2_signs_25 : decode cX2_signs 25 = .ok (.iconst 0, 1) := by decide +kernel
theorem dX2_signs_26 : decode cX2_signs 26 = .ok (.iload_n 2, 1) := by decide +kernel
theorem dX2_signs_27 : decode cX2_signs 27 = .ok (.iconst 2, 1) := by decide +kernel
theorem dX2_signs_28 : decode cX2_signs 28 = .ok (.ishl, 1) := by decide +kernel
theorem dX2_signs_29 : decode cX2_signs 29 = .ok (.ior, 1) := by decide +kernel
theorem dX2_signs_30 : decode cX2_signs 30 = .ok (.iload_n 3, 1) := by decide +kernel
theorem dX2_signs_31 : decode cX2_signs 31 = .ok (.iconst 3, 1) := by decide +kernel
theorem dX2_signs_32 : decode cX2_signs 32 = .ok (.ishl, 1) := by decide +kernel
theorem dX2_signs_33 : decode cX2_signs 33 = .ok (.ior, 1) := by decide +kernel
theorem dX2_signs_34 : decode cX2_signs 34 = .ok (.iload_n 2, 1) := by decide +kernel
theorem dX2_signs_35 : decode cX2_signs 35 = .ok (.iload_n 3, 1) := by decide +kernel
theorem dX2_signs_36 : decode cX2_signs 36 = .ok (.ixor, 1) := by decide +kernel
theorem dX2_signs_37 : decode cX2_signs 37 = .ok (.iconst 4, 1) := by decide +kernel
theorem dX2_signs_38 : decode cX2_signs 38 = .ok (.ishl, 1) := by decide +kernel
theorem dX2_signs_39 : decode cX2_signs 39 = .ok (.ior, 1) := by decide +kernel
theorem dX2_signs_40 : decode cX2_signs 40 = .ok (.ireturn, 1) := by decide +kernel
theorem dX3_d_0 : decode cX3_d 0 = .ok (.iload_n 0, 1) := by decide +kernel
theorem dX3_d_1 : decode cX3_d 1 = .ok (.iconst 4, 1) := by decide +kernel
theorem dX3_d_2 : decode cX3_d 2 = .ok (.ishr, 1) := by decide +kernel
theorem dX3_d_3 : decode cX3_d 3 = .ok (.bipush 31, 2) := by decide +kernel
theorem dX3_d_5 : decode cX3_d 5 = .ok (.iand, 1) := by decide +kernel
theorem dX3_d_6 : decode cX3_d 6 = .ok (.ireturn, 1) := by decide +kernel
theorem dX3_r_0 : decode cX3_r 0 = .ok (.iload_n 0, 1) := by decide +kernel
theorem dX3_r_1 : decode cX3_r 1 = .ok (.iconst 5, 1) := by decide +kernel
theorem dX3_r_2 : decode cX3_r 2 = .ok (.ishr, 1) := by decide +kernel
theorem dX3_r_3 : decode cX3_r 3 = .ok (.bipush 16, 2) := by decide +kernel
theorem dX3_r_5 : decode cX3_r 5 = .ok (.iand, 1) := by decide +kernel
theorem dX3_r_6 : decode cX3_r 6 = .ok (.iload_n 0, 1) := by decide +kernel
theorem dX3_r_7 : decode cX3_r 7 = .ok (.bipush 15, 2) := by decide +kernel
theorem dX3_r_9 : decode cX3_r 9 = .ok (.iand, 1) := by decide +kernel
theorem dX3_r_10 : decode cX3_r 10 = .ok (.ior, 1) := by decide +kernel
theorem dX3_r_11 : decode cX3_r 11 = .ok (.ireturn, 1) := by decide +kernel
theorem dX3_pointer_0 : decode cX3_pointer 0 = .ok (.iload_n 0, 1) := by decide +kernel
theorem dX3_pointer_1 : decode cX3_pointer 1 = .ok (.iconst 2, 1) := by decide +kernel
theorem dX3_pointer_2 : decode cX3_pointer 2 = .ok (.ishr, 1) := by decide +kernel
theorem dX3_pointer_3 : decode cX3_pointer 3 = .ok (.iconst 3, 1) := by decide +kernel
theorem dX3_pointer_4 : decode cX3_pointer 4 = .ok (.iand, 1) := by decide +kernel
theorem dX3_pointer_5 : decode cX3_pointer 5 = .ok (.lookupswitch 33 #[(0, 27), (2, 30)], 27) := by decide +kernel
theorem dX3_pointer_32 : decode cX3_pointer 32 = .ok (.bipush 30, 2) := by decide +kernel
theorem dX3_pointer_34 : decode cX3_pointer 34 = .ok (.ireturn, 1) := by decide +kernel
theorem dX3_pointer_35 : decode cX3_pointer 35 = .ok (.bipush 28, 2) := by decide +kernel
theorem dX3_pointer_37 : decode cX3_pointer 37 = .ok (.ireturn, 1) := by decide +kernel
theorem dX3_pointer_38 : decode cX3_pointer 38 = .ok (.bipush 26, 2) := by decide +kernel
theorem dX3_pointer_40 : decode cX3_pointer 40 = .ok (.ireturn, 1) := by decide +kernel
theorem dX3_hasNext_0 : decode cX3_hasNext 0 = .ok (.iload_n 0, 1) := by decide +kernel
theorem dX3_hasNext_1 : decode cX3_hasNext 1 = .ok (.ldc 9, 2) := by decide +kernel
theorem dX3_hasNext_3 : decode cX3_hasNext 3 = .ok (.iand, 1) := by decide +kernel
theorem dX3_hasNext_4 : decode cX3_hasNext 4 = .ok (.ldc 10, 2) := by decide +kernel
theorem dX3_hasNext_6 : decode cX3_hasNext 6 = .ok (.if_icmp .eq 12, 3) := by decide +kernel
theorem dX3_hasNext_9 : decode cX3_hasNext 9 = .ok (.iload_n 0, 1) := by decide +kernel
theorem dX3_hasNext_10 : decode cX3_hasNext 10 = .ok (.ldc 11, 2) := by decide +kernel
theorem dX3_hasNext_12 : decode cX3_hasNext 12 = .ok (.iand, 1) := by decide +kernel
theorem dX3_hasNext_13 : decode cX3_hasNext 13 = .ok (.ldc 12, 2) := by decide +kernel
theorem dX3_hasNext_15 : decode cX3_hasNext 15 = .ok (.if_icmp .ne 7, 3) := by decide +kernel
theorem dX3_hasNext_18 : decode cX3_hasNext 18 = .ok (.iconst 1, 1) := by decide +kernel
theorem dX3_hasNext_19 : decode cX3_hasNext 19 = .ok (.goto 4, 3) := by decide +kernel
theorem dX3_hasNext_22 : decode cX3_hasNext 22 = .ok (.iconst 0, 1) := by decide +kernel
theorem dX3_hasNext_23 : decode cX3_hasNext 23 = .ok (.ireturn, 1) := by decide +kernel
set_option maxRecDepth 20000 in
theorem ggX3_groupOf_X3_lowGroupOf : GoodIn wsX3_groupOf wsX3_lowGroupOf := goodIn_r _ [4] (by decide +kernel) (by decide +kernel)
set_option maxRecDepth 20000 in
theorem gX3_groupOf_X3_lowGroupOf : GoodIn wsX3_groupOf (va_wsS RX3 13 yX3_lowGroupOf wsX3_lowGroupOf) := goodIn_app (goodIn_of _ (by decide +kernel)) ggX3_groupOf_X3_lowGroupOf
set_option maxRecDepth 20000 in
theorem ggX3_groupOf_X3_mixedGroupOf : GoodIn wsX3_groupOf wsX3_mixedGroupOf := goodIn_r _ [7, 8, 9, 3, 10, 11, 12, 13, 14, 15, 16, 17, 18, 19, 20, 21, 22, 23, 24, 25] (by decide +kernel) (by decide +kernel)
set_option maxRecDepth 20000 in
theorem gX3_groupOf_X3_mixedGroupOf : GoodIn wsX3_groupOf (va_wsS RX3 19 yX3_mixedGroupOf wsX3_mixedGroupOf) := goodIn_app (goodIn_of _ (by decide +kernel)) ggX3_groupOf_X3_mixedGroupOf
set_option maxRecDepth 20000 in
theorem ggX3_groupOf_X3_highGroupOf : GoodIn wsX3_groupOf wsX3_highGroupOf := goodIn_r _ [28] (by decide +kernel) (by decide +kernel)
set_option maxRecDepth 20000 in
theorem gX3_groupOf_X3_highGroupOf : GoodIn wsX3_groupOf (va_wsS RX3 22 yX3_highGroupOf wsX3_highGroupOf) := goodIn_app (goodIn_of _ (by decide +kernel)) ggX3_groupOf_X3_highGroupOf
theorem dX3_groupOf_0 : decode cX3_groupOf 0 = .ok (.iload_n 0, 1) := by decide +kernel
theorem dX3_groupOf_1 : decode cX3_groupOf 1 = .ok (.bipush 12, 2) := by decide +kernel
theorem dX3_groupOf_3 : decode cX3_groupOf 3 = .ok (.ishr, 1) := by decide +kernel
theorem dX3_groupOf_4 : decode cX3_groupOf 4 = .ok (.tableswitch 106 0 15 #[80, 85, 85, 106, 106, 106, 106, 106, 87, 90, 87, 95, 98, 98, 106, 101], 80) := by decide +kernel
theorem dX3_groupOf_84 : decode cX3_groupOf 84 = .ok (.iload_n 0, 1) := by decide +kernel
theorem dX3_groupOf_85 : decode cX3_groupOf 85 = .ok (.invokestatic 13, 3) := by decide +kernel
theorem dX3_groupOf_88 : decode cX3_groupOf 88 = .ok (.ireturn, 1) := by decide +kernel
theorem dX3_groupOf_89 : decode cX3_groupOf 89 = .ok (.iconst 4, 1) := by decide +kernel
theorem dX3_groupOf_90 : decode cX3_groupOf 90 = .ok (.ireturn, 1) := by decide +kernel
theorem dX3_groupOf_91 : decode cX3_groupOf 91 = .ok (.bipush 12, 2) := by decide +kernel
theorem dX3_groupOf_93 : decode cX3_groupOf 93 = .ok (.ireturn, 1) := by decide +kernel
theorem dX3_groupOf_94 : decode cX3_groupOf 94 = .ok (.iload_n 0, 1) := by decide +kernel
theorem dX3_groupOf_95 : decode cX3_groupOf 95 = .ok (.invokestatic 19, 3) := by decide +kernel
theorem dX3_groupOf_98 : decode cX3_groupOf 98 = .ok (.ireturn, 1) := by decide +kernel
theorem dX3_groupOf_99 : decode cX3_groupOf 99 = .ok (.bipush 14, 2) := by decide +kernel
theorem dX3_groupOf_101 : decode cX3_groupOf 101 = .ok (.ireturn, 1) := by decide +kernel
theorem dX3_groupOf_102 : decode cX3_groupOf 102 = .ok (.bipush 19, 2) := by decide +kernel
theorem dX3_groupOf_104 : decode cX3_groupOf 104 = .ok (.ireturn, 1) := by decide +kernel
theorem dX3_groupOf_105 : decode cX3_groupOf 105 = .ok (.iload_n 0, 1) := by decide +kernel
theorem dX3_groupOf_106 : decode cX3_groupOf 106 = .ok (.invokestatic 22, 3) := by decide +kernel
theorem dX3_groupOf_109 : decode cX3_groupOf 109 = .ok (.ireturn, 1) := by decide +kernel
theorem dX3_groupOf_110 : decode cX3_groupOf 110 = .ok (.iconst 5, 1) := by decide +kernel
theorem dX3_groupOf_111 : decode cX3_groupOf 111 = .ok (.ireturn, 1) := by decide +kernel
theorem dX3_lowGroupOf_0 : decode cX3_lowGroupOf 0 = .ok (.iload_n 0, 1) := by decide +kernel
theorem dX3_lowGroupOf_1 : decode cX3_lowGroupOf 1 = .ok (.ifCond .ne 5, 3) := by decide +kernel
theorem dX3_lowGroupOf_4 : decode cX3_lowGroupOf 4 = .ok (.iconst 1, 1) := by decide +kernel
theorem dX3_lowGroupOf_5 : decode cX3_lowGroupOf 5 = .ok (.ireturn, 1) := by decide +kernel
theorem dX3_lowGroupOf_6 : decode cX3_lowGroupOf 6 = .ok (.iload_n 0, 1) := by decide +kernel
theorem dX3_lowGroupOf_7 : decode cX3_lowGroupOf 7 = .ok (.bipush 8, 2) := by decide +kernel
theorem dX3_lowGroupOf_9 : decode cX3_lowGroupOf 9 = .ok (.ishr, 1) := by decide +kernel
theorem dX3_lowGroupOf_10 : decode cX3_lowGroupOf 10 = .ok (.tableswitch 36 0 3 #[30, 32, 34, 34], 30) := by decide +kernel
theorem dX3_lowGroupOf_40 : decode cX3_lowGroupOf 40 = .ok (.iconst 0, 1) := by decide +kernel
theorem dX3_lowGroupOf_41 : decode cX3_lowGroupOf 41 = .ok (.ireturn, 1) := by decide +kernel
theorem dX3_lowGroupOf_42 : decode cX3_lowGroupOf 42 = .ok (.iconst 2, 1) := by decide +kernel
theorem dX3_lowGroupOf_43 : decode cX3_lowGroupOf 43 = .ok (.ireturn, 1) := by decide +kernel
theorem dX3_lowGroupOf_44 : decode cX3_lowGroupOf 44 = .ok (.iconst 3, 1) := by decide +kernel
theorem dX3_lowGroupOf_45 : decode cX3_lowGroupOf 45 = .ok (.ireturn, 1) := by decide +kernel
theorem dX3_lowGroupOf_46 : decode cX3_lowGroupOf 46 = .ok (.iconst 4, 1) := by decide +kernel
theorem dX3_lowGroupOf_47 : decode cX3_lowGroupOf 47 = .ok (.ireturn, 1) := by decide +kernel
set_option maxRecDepth 20000 in
theorem ggX3_mixedGroupOf_X3_memoryGroupOf : GoodIn wsX3_mixedGroupOf wsX3_memoryGroupOf := goodIn_r _ [4, 5, 6, 3, 7, 8, 9, 10, 11, 12, 13] (by decide +kernel) (by decide +kernel)
set_option maxRecDepth 20000 in
theorem gX3_mixedGroupOf_X3_memoryGroupOf : GoodIn wsX3_mixedGroupOf (va_wsS RX3 25 yX3_memoryGroupOf wsX3_memoryGroupOf) := goodIn_app (goodIn_of _ (by decide +kernel)) ggX3_mixedGroupOf_X3_memoryGroupOf
set_option maxRecDepth 20000 in
theorem ggX3_mixedGroupOf_X3_singleGroupOf : GoodIn wsX3_mixedGroupOf wsX3_singleGroupOf := goodIn_r _ [16, 17, 18, 3, 19] (by decide +kernel) (by decide +kernel)
set_option maxRecDepth 20000 in
theorem gX3_mixedGroupOf_X3_singleGroupOf : GoodIn wsX3_mixedGroupOf (va_wsS RX3 28 yX3_singleGroupOf wsX3_singleGroupOf) := goodIn_app (goodIn_of _ (by decide +kernel)) ggX3_mixedGroupOf_X3_singleGroupOf
theorem dX3_mixedGroupOf_0 : decode cX3_mixedGroupOf 0 = .ok (.iload_n 0, 1) := by decide +kernel
theorem dX3_mixedGroupOf_1 : decode cX3_mixedGroupOf 1 = .ok (.bipush 8, 2) := by decide +kernel
theorem dX3_mixedGroupOf_3 : decode cX3_mixedGroupOf 3 = .ok (.ishr, 1) := by decide +kernel
theorem dX3_mixedGroupOf_4 : decode cX3_mixedGroupOf 4 = .ok (.bipush 15, 2) := by decide +kernel
theorem dX3_mixedGroupOf_6 : decode cX3_mixedGroupOf 6 = .ok (.iand, 1) := by decide +kernel
theorem dX3_mixedGroupOf_7 : decode cX3_mixedGroupOf 7 = .ok (.tableswitch 80 0 11 #[61, 61, 61, 61, 66, 66, 71, 71, 74, 77, 74, 77], 61) := by decide +kernel
theorem dX3_mixedGroupOf_68 : decode cX3_mixedGroupOf 68 = .ok (.iload_n 0, 1) := by decide +kernel
theorem dX3_mixedGroupOf_69 : decode cX3_mixedGroupOf 69 = .ok (.invokestatic 25, 3) := by decide +kernel
theorem dX3_mixedGroupOf_72 : decode cX3_mixedGroupOf 72 = .ok (.ireturn, 1) := by decide +kernel
theorem dX3_mixedGroupOf_73 : decode cX3_mixedGroupOf 73 = .ok (.iload_n 0, 1) := by decide +kernel
theorem dX3_mixedGroupOf_74 : decode cX3_mixedGroupOf 74 = .ok (.invokestatic 28, 3) := by decide +kernel
theorem dX3_mixedGroupOf_77 : decode cX3_mixedGroupOf 77 = .ok (.ireturn, 1) := by decide +kernel
theorem dX3_mixedGroupOf_78 : decode cX3_mixedGroupOf 78 = .ok (.bipush 8, 2) := by decide +kernel
theorem dX3_mixedGroupOf_80 : decode cX3_mixedGroupOf 80 = .ok (.ireturn, 1) := by decide +kernel
theorem dX3_mixedGroupOf_81 : decode cX3_mixedGroupOf 81 = .ok (.bipush 15, 2) := by decide +kernel
theorem dX3_mixedGroupOf_83 : decode cX3_mixedGroupOf 83 = .ok (.ireturn, 1) := by decide +kernel
theorem dX3_mixedGroupOf_84 : decode cX3_mixedGroupOf 84 = .ok (.bipush 16, 2) := by decide +kernel
theorem dX3_mixedGroupOf_86 : decode cX3_mixedGroupOf 86 = .ok (.ireturn, 1) := by decide +kernel
theorem dX3_mixedGroupOf_87 : decode cX3_mixedGroupOf 87 = .ok (.iconst 3, 1) := by decide +kernel
theorem dX3_mixedGroupOf_88 : decode cX3_mixedGroupOf 88 = .ok (.ireturn, 1) := by decide +kernel
set_option maxRecDepth 20000 in
theorem ggX3_memoryGroupOf_X3_d : GoodIn wsX3_memoryGroupOf wsX3_d := goodIn_r _ [4] (by decide +kernel) (by decide +kernel)
set_option maxRecDepth 20000 in
theorem gX3_memoryGroupOf_X3_d : GoodIn wsX3_memoryGroupOf (va_wsS RX3 31 yX3_d wsX3_d) := goodIn_app (goodIn_of _ (by decide +kernel)) ggX3_memoryGroupOf_X3_d
set_option maxRecDepth 20000 in
theorem ggX3_memoryGroupOf_X3_pointer : GoodIn wsX3_memoryGroupOf wsX3_pointer := goodIn_r _ [7] (by decide +kernel) (by decide +kernel)
set_option maxRecDepth 20000 in
theorem gX3_memoryGroupOf_X3_pointer : GoodIn wsX3_memoryGroupOf (va_wsS RX3 34 yX3_pointer wsX3_pointer) := goodIn_app (goodIn_of _ (by decide +kernel)) ggX3_memoryGroupOf_X3_pointer
set_option maxRecDepth 20000 in
theorem ggX3_memoryGroupOf_X3_isOneOf : GoodIn wsX3_memoryGroupOf wsX3_isOneOf := goodIn_r _ [10] (by decide +kernel) (by decide +kernel)
set_option maxRecDepth 20000 in
theorem gX3_memoryGroupOf_X3_isOneOf : GoodIn wsX3_memoryGroupOf (va_wsS RX3 37 yX3_isOneOf wsX3_isOneOf) := goodIn_app (goodIn_of _ (by decide +kernel)) ggX3_memoryGroupOf_X3_isOneOf
theorem dX3_memoryGroupOf_0 : decode cX3_memoryGroupOf 0 = .ok (.iload_n 0, 1) := by decide +kernel
theorem dX3_memoryGroupOf_1 : decode cX3_memoryGroupOf 1 = .ok (.bipush 15, 2) := by decide +kernel
theorem dX3_memoryGroupOf_3 : decode cX3_memoryGroupOf 3 = .ok (.iand, 1) := by decide +kernel
theorem dX3_memoryGroupOf_4 : decode cX3_memoryGroupOf 4 = .ok (.tableswitch 152 0 15 #[80, 83, 83, 152, 104, 119, 152, 152, 152, 83, 83, 152, 146, 83, 83, 149], 80) := by decide +kernel
theorem dX3_memoryGroupOf_84 : decode cX3_memoryGroupOf 84 = .ok (.bipush 9, 2) := by decide +kernel
theorem dX3_memoryGroupOf_86 : decode cX3_memoryGroupOf 86 = .ok (.ireturn, 1) := by decide +kernel
theorem dX3_memoryGroupOf_87 : decode cX3_memoryGroupOf 87 = .ok (.iload_n 0, 1) := by decide +kernel
theorem dX3_memoryGroupOf_88 : decode cX3_memoryGroupOf 88 = .ok (.invokestatic 31, 3) := by decide +kernel
theorem dX3_memoryGroupOf_91 : decode cX3_memoryGroupOf 91 = .ok (.iload_n 0, 1) := by decide +kernel
theorem dX3_memoryGroupOf_92 : decode cX3_memoryGroupOf 92 = .ok (.invokestatic 34, 3) := by decide +kernel
theorem dX3_memoryGroupOf_95 : decode cX3_memoryGroupOf 95 = .ok (.invokestatic 37, 3) := by decide +kernel
theorem dX3_memoryGroupOf_98 : decode cX3_memoryGroupOf 98 = .ok (.ifCond .eq 7, 3) := by decide +kernel
theorem dX3_memoryGroupOf_101 : decode cX3_memoryGroupOf 101 = .ok (.iconst 0, 1) := by decide +kernel
theorem dX3_memoryGroupOf_102 : decode cX3_memoryGroupOf 102 = .ok (.goto 5, 3) := by decide +kernel
theorem dX3_memoryGroupOf_105 : decode cX3_memoryGroupOf 105 = .ok (.bipush 10, 2) := by decide +kernel
theorem dX3_memoryGroupOf_107 : decode cX3_memoryGroupOf 107 = .ok (.ireturn, 1) := by decide +kernel
theorem dX3_memoryGroupOf_108 : decode cX3_memoryGroupOf 108 = .ok (.iload_n 0, 1) := by decide +kernel
theorem dX3_memoryGroupOf_109 : decode cX3_memoryGroupOf 109 = .ok (.sipush 512, 3) := by decide +kernel
theorem dX3_memoryGroupOf_112 : decode cX3_memoryGroupOf 112 = .ok (.iand, 1) := by decide +kernel
theorem dX3_memoryGroupOf_113 : decode cX3_memoryGroupOf 113 = .ok (.ifCond .ne 8, 3) := by decide +kernel
theorem dX3_memoryGroupOf_116 : decode cX3_memoryGroupOf 116 = .ok (.bipush 13, 2) := by decide +kernel
theorem dX3_memoryGroupOf_118 : decode cX3_memoryGroupOf 118 = .ok (.goto 4, 3) := by decide +kernel
theorem dX3_memoryGroupOf_121 : decode cX3_memoryGroupOf 121 = .ok (.iconst 0, 1) := by decide +kernel
theorem dX3_memoryGroupOf_122 : decode cX3_memoryGroupOf 122 = .ok (.ireturn, 1) := by decide +kernel
theorem dX3_memoryGroupOf_123 : decode cX3_memoryGroupOf 123 = .ok (.iload_n 0, 1) := by decide +kernel
theorem dX3_memoryGroupOf_124 : decode cX3_memoryGroupOf 124 = .ok (.sipush 512, 3) := by decide +kernel
theorem dX3_memoryGroupOf_127 : decode cX3_memoryGroupOf 127 = .ok (.iand, 1) := by decide +kernel
theorem dX3_memoryGroupOf_128 : decode cX3_memoryGroupOf 128 = .ok (.ifCond .ne 20, 3) := by decide +kernel
theorem dX3_memoryGroupOf_131 : decode cX3_memoryGroupOf 131 = .ok (.iload_n 0, 1) := by decide +kernel
theorem dX3_memoryGroupOf_132 : decode cX3_memoryGroupOf 132 = .ok (.invokestatic 31, 3) := by decide +kernel
theorem dX3_memoryGroupOf_135 : decode cX3_memoryGroupOf 135 = .ok (.bipush 30, 2) := by decide +kernel
theorem dX3_memoryGroupOf_137 : decode cX3_memoryGroupOf 137 = .ok (.invokestatic 37, 3) := by decide +kernel
theorem dX3_memoryGroupOf_140 : decode cX3_memoryGroupOf 140 = .ok (.ifCond .ne 8, 3) := by decide +kernel
theorem dX3_memoryGroupOf_143 : decode cX3_memoryGroupOf 143 = .ok (.bipush 13, 2) := by decide +kernel
theorem dX3_memoryGroupOf_145 : decode cX3_memoryGroupOf 145 = .ok (.goto 4, 3) := by decide +kernel
theorem dX3_memoryGroupOf_148 : decode cX3_memoryGroupOf 148 = .ok (.iconst 0, 1) := by decide +kernel
theorem dX3_memoryGroupOf_149 : decode cX3_memoryGroupOf 149 = .ok (.ireturn, 1) := by decide +kernel
theorem dX3_memoryGroupOf_150 : decode cX3_memoryGroupOf 150 = .ok (.bipush 10, 2) := by decide +kernel
theorem dX3_memoryGroupOf_152 : decode cX3_memoryGroupOf 152 = .ok (.ireturn, 1) := by decide +kernel
theorem dX3_memoryGroupOf_153 : decode cX3_memoryGroupOf 153 = .ok (.bipush 11, 2) := by decide +kernel
theorem dX3_memoryGroupOf_155 : decode cX3_memoryGroupOf 155 = .ok (.ireturn, 1) := by decide +kernel
theorem dX3_memoryGroupOf_156 : decode cX3_memoryGroupOf 156 = .ok (.iconst 0, 1) := by decide +kernel
theorem dX3_memoryGroupOf_157 : decode cX3_memoryGroupOf 157 = .ok (.ireturn, 1) := by decide +kernel
theorem dX3_isOneOf_0 : decode cX3_isOneOf 0 = .ok (.iload_n 0, 1) := by decide +kernel
theorem dX3_isOneOf_1 : decode cX3_isOneOf 1 = .ok (.bipush 30, 2) := by decide +kernel
theorem dX3_isOneOf_3 : decode cX3_isOneOf 3 = .ok (.iand, 1) := by decide +kernel
theorem dX3_isOneOf_4 : decode cX3_isOneOf 4 = .ok (.iload_n 1, 1) := by decide +kernel
theorem dX3_isOneOf_5 : decode cX3_isOneOf 5 = .ok (.if_icmp .ne 7, 3) := by decide +kernel
theorem dX3_isOneOf_8 : decode cX3_isOneOf 8 = .ok (.iconst 1, 1) := by decide +kernel
theorem dX3_isOneOf_9 : decode cX3_isOneOf 9 = .ok (.goto 4, 3) := by decide +kernel
theorem dX3_isOneOf_12 : decode cX3_isOneOf 12 = .ok (.iconst 0, 1) := by decide +kernel
theorem dX3_isOneOf_13 : decode cX3_isOneOf 13 = .ok (.ireturn, 1) := by decide +kernel
set_option maxRecDepth 20000 in
theorem ggX3_singleGroupOf_X3_flagGroupOf : GoodIn wsX3_singleGroupOf wsX3_flagGroupOf := goodIn_r _ [4] (by decide +kernel) (by decide +kernel)
set_option maxRecDepth 20000 in
theorem gX3_singleGroupOf_X3_flagGroupOf : GoodIn wsX3_singleGroupOf (va_wsS RX3 41 yX3_flagGroupOf wsX3_flagGroupOf) := goodIn_app (goodIn_of _ (by decide +kernel)) ggX3_singleGroupOf_X3_flagGroupOf
theorem dX3_singleGroupOf_0 : decode cX3_singleGroupOf 0 = .ok (.iload_n 0, 1) := by decide +kernel
theorem dX3_singleGroupOf_1 : decode cX3_singleGroupOf 1 = .ok (.bipush 15, 2) := by decide +kernel
theorem dX3_singleGroupOf_3 : decode cX3_singleGroupOf 3 = .ok (.iand, 1) := by decide +kernel
theorem dX3_singleGroupOf_4 : decode cX3_singleGroupOf 4 = .ok (.tableswitch 89 4 15 #[64, 89, 89, 89, 66, 71, 89, 64, 86, 86, 86, 86], 64) := by decide +kernel
theorem dX3_singleGroupOf_68 : decode cX3_singleGroupOf 68 = .ok (.iconst 0, 1) := by decide +kernel
theorem dX3_singleGroupOf_69 : decode cX3_singleGroupOf 69 = .ok (.ireturn, 1) := by decide +kernel
theorem dX3_singleGroupOf_70 : decode cX3_singleGroupOf 70 = .ok (.iload_n 0, 1) := by decide +kernel
theorem dX3_singleGroupOf_71 : decode cX3_singleGroupOf 71 = .ok (.invokestatic 41, 3) := by decide +kernel
theorem dX3_singleGroupOf_74 : decode cX3_singleGroupOf 74 = .ok (.ireturn, 1) := by decide +kernel
theorem dX3_singleGroupOf_75 : decode cX3_singleGroupOf 75 = .ok (.iload_n 0, 1) := by decide +kernel
theorem dX3_singleGroupOf_76 : decode cX3_singleGroupOf 76 = .ok (.sipush 240, 3) := by decide +kernel
theorem dX3_singleGroupOf_79 : decode cX3_singleGroupOf 79 = .ok (.iand, 1) := by decide +kernel
theorem dX3_singleGroupOf_80 : decode cX3_singleGroupOf 80 = .ok (.ifCond .ne 8, 3) := by decide +kernel
theorem dX3_singleGroupOf_83 : decode cX3_singleGroupOf 83 = .ok (.bipush 22, 2) := by decide +kernel
theorem dX3_singleGroupOf_85 : decode cX3_singleGroupOf 85 = .ok (.goto 4, 3) := by decide +kernel
theorem dX3_singleGroupOf_88 : decode cX3_singleGroupOf 88 = .ok (.iconst 0, 1) := by decide +kernel
theorem dX3_singleGroupOf_89 : decode cX3_singleGroupOf 89 = .ok (.ireturn, 1) := by decide +kernel
theorem dX3_singleGroupOf_90 : decode cX3_singleGroupOf 90 = .ok (.bipush 21, 2) := by decide +kernel
theorem dX3_singleGroupOf_92 : decode cX3_singleGroupOf 92 = .ok (.ireturn, 1) := by decide +kernel
theorem dX3_singleGroupOf_93 : decode cX3_singleGroupOf 93 = .ok (.bipush 6, 2) := by decide +kernel
theorem dX3_singleGroupOf_95 : decode cX3_singleGroupOf 95 = .ok (.ireturn, 1) := by decide +kernel
theorem dX3_flagGroupOf_0 : decode cX3_flagGroupOf 0 = .ok (.iload_n 0, 1) := by decide +kernel
theorem dX3_flagGroupOf_1 : decode cX3_flagGroupOf 1 = .ok (.sipush 256, 3) := by decide +kernel
theorem dX3_flagGroupOf_4 : decode cX3_flagGroupOf 4 = .ok (.iand, 1) := by decide +kernel
theorem dX3_flagGroupOf_5 : decode cX3_flagGroupOf 5 = .ok (.ifCond .ne 6, 3) := by decide +kernel
theorem dX3_flagGroupOf_8 : decode cX3_flagGroupOf 8 = .ok (.bipush 7, 2) := by decide +kernel
theorem dX3_flagGroupOf_10 : decode cX3_flagGroupOf 10 = .ok (.ireturn, 1) := by decide +kernel
theorem dX3_flagGroupOf_11 : decode cX3_flagGroupOf 11 = .ok (.iload_n 0, 1) := by decide +kernel
theorem dX3_flagGroupOf_12 : decode cX3_flagGroupOf 12 = .ok (.sipush 240, 3) := by decide +kernel
theorem dX3_flagGroupOf_15 : decode cX3_flagGroupOf 15 = .ok (.iand, 1) := by decide +kernel
theorem dX3_flagGroupOf_16 : decode cX3_flagGroupOf 16 = .ok (.lookupswitch 42 #[(0, 36), (16, 36), (192, 39)], 36) := by decide +kernel
theorem dX3_flagGroupOf_52 : decode cX3_flagGroupOf 52 = .ok (.bipush 23, 2) := by decide +kernel
theorem dX3_flagGroupOf_54 : decode cX3_flagGroupOf 54 = .ok (.ireturn, 1) := by decide +kernel
theorem dX3_flagGroupOf_55 : decode cX3_flagGroupOf 55 = .ok (.bipush 13, 2) := by decide +kernel
theorem dX3_flagGroupOf_57 : decode cX3_flagGroupOf 57 = .ok (.ireturn, 1) := by decide +kernel
theorem dX3_flagGroupOf_58 : decode cX3_flagGroupOf 58 = .ok (.iconst 0, 1) := by decide +kernel
theorem dX3_flagGroupOf_59 : decode cX3_flagGroupOf 59 = .ok (.ireturn, 1) := by decide +kernel
theorem dX3_highGroupOf_0 : decode cX3_highGroupOf 0 = .ok (.iload_n 0, 1) := by decide +kernel
theorem dX3_highGroupOf_1 : decode cX3_highGroupOf 1 = .ok (.sipush 2048, 3) := by decide +kernel
theorem dX3_highGroupOf_4 : decode cX3_highGroupOf 4 = .ok (.iand, 1) := by decide +kernel
theorem dX3_highGroupOf_5 : decode cX3_highGroupOf 5 = .ok (.ifCond .ne 6, 3) := by decide +kernel
theorem dX3_highGroupOf_8 : decode cX3_highGroupOf 8 = .ok (.bipush 20, 2) := by decide +kernel
theorem dX3_highGroupOf_10 : decode cX3_highGroupOf 10 = .ok (.ireturn, 1) := by decide +kernel
theorem dX3_highGroupOf_11 : decode cX3_highGroupOf 11 = .ok (.iload_n 0, 1) := by decide +kernel
theorem dX3_highGroupOf_12 : decode cX3_highGroupOf 12 = .ok (.bipush 8, 2) := by decide +kernel
theorem dX3_highGroupOf_14 : decode cX3_highGroupOf 14 = .ok (.iand, 1) := by decide +kernel
theorem dX3_highGroupOf_15 : decode cX3_highGroupOf 15 = .ok (.ifCond .eq 5, 3) := by decide +kernel
theorem dX3_highGroupOf_18 : decode cX3_highGroupOf 18 = .ok (.iconst 0, 1) := by decide +kernel
theorem dX3_highGroupOf_19 : decode cX3_highGroupOf 19 = .ok (.ireturn, 1) := by decide +kernel
theorem dX3_highGroupOf_20 : decode cX3_highGroupOf 20 = .ok (.iload_n 0, 1) := by decide +kernel
theorem dX3_highGroupOf_21 : decode cX3_highGroupOf 21 = .ok (.sipush 1024, 3) := by decide +kernel
theorem dX3_highGroupOf_24 : decode cX3_highGroupOf 24 = .ok (.iand, 1) := by decide +kernel
theorem dX3_highGroupOf_25 : decode cX3_highGroupOf 25 = .ok (.ifCond .ne 8, 3) := by decide +kernel
theorem dX3_highGroupOf_28 : decode cX3_highGroupOf 28 = .ok (.bipush 18, 2) := by decide +kernel
theorem dX3_highGroupOf_30 : decode cX3_highGroupOf 30 = .ok (.goto 5, 3) := by decide +kernel
theorem dX3_highGroupOf_33 : decode cX3_highGroupOf 33 = .ok (.bipush 17, 2) := by decide +kernel
theorem dX3_highGroupOf_35 : decode cX3_highGroupOf 35 = .ok (.ireturn, 1) := by decide +kernel
set_option maxRecDepth 20000 in
theorem ggX4_init_X0_init : GoodIn wsX4_init wsX0_init := goodIn_r _ [21, 22, 2, 3, 4, 23, 37] (by decide +kernel) (by decide +kernel)
set_option maxRecDepth 20000 in
theorem gX4_init_X0_init : GoodIn wsX4_init (wsX0_init) := ggX4_init_X0_init
set_option maxRecDepth 20000 in
theorem ggX4_init_X2_init : GoodIn wsX4_init wsX2_init := goodIn_r _ [26, 27, 2, 3, 28, 38] (by decide +kernel) (by decide +kernel)
set_option maxRecDepth 20000 in
theorem gX4_init_X2_init : GoodIn wsX4_init (wsX2_init) := ggX4_init_X2_init
theorem dX4_init_0 : decode cX4_init 0 = .ok (.aload_n 0, 1) := by decide +kernel
theorem dX4_init_1 : decode cX4_init 1 = .ok (.invokespecial 1, 3) := by decide +kernel
theorem dX4_init_4 : decode cX4_init 4 = .ok (.aload_n 0, 1) := by decide +kernel
theorem dX4_init_5 : decode cX4_init 5 = .ok (.sipush 1024, 3) := by decide +kernel
theorem dX4_init_8 : decode cX4_init 8 = .ok (.newarray .int, 2) := by decide +kernel
theorem dX4_init_10 : decode cX4_init 10 = .ok (.putfield 9, 3) := by decide +kernel
theorem dX4_init_13 : decode cX4_init 13 = .ok (.aload_n 0, 1) := by decide +kernel
theorem dX4_init_14 : decode cX4_init 14 = .ok (.new 13, 3) := by decide +kernel
theorem dX4_init_17 : decode cX4_init 17 = .ok (.dup, 1) := by decide +kernel
theorem dX4_init_18 : decode cX4_init 18 = .ok (.invokespecial 15, 3) := by decide +kernel
theorem dX4_init_21 : decode cX4_init 21 = .ok (.putfield 16, 3) := by decide +kernel
theorem dX4_init_24 : decode cX4_init 24 = .ok (.aload_n 0, 1) := by decide +kernel
theorem dX4_init_25 : decode cX4_init 25 = .ok (.new 20, 3) := by decide +kernel
theorem dX4_init_28 : decode cX4_init 28 = .ok (.dup, 1) := by decide +kernel
theorem dX4_init_29 : decode cX4_init 29 = .ok (.aload_n 0, 1) := by decide +kernel
theorem dX4_init_30 : decode cX4_init 30 = .ok (.getfield 16, 3) := by decide +kernel
theorem dX4_init_33 : decode cX4_init 33 = .ok (.invokespecial 22, 3) := by decide +kernel
theorem dX4_init_36 : decode cX4_init 36 = .ok (.putfield 25, 3) := by decide +kernel
theorem dX4_init_39 : decode cX4_init 39 = .ok (.aload_n 0, 1) := by decide +kernel
theorem dX4_init_40 : decode cX4_init 40 = .ok (.bipush 7, 2) := by decide +kernel
theorem dX4_init_42 : decode cX4_init 42 = .ok (.newarray .int, 2) := by decide +kernel
theorem dX4_init_44 : decode cX4_init 44 = .ok (.putfield 29, 3) := by decide +kernel
theorem dX4_init_47 : decode cX4_init 47 = .ok (.aload_n 0, 1) := by decide +kernel
theorem dX4_init_48 : decode cX4_init 48 = .ok (.iconst 0, 1) := by decide +kernel
theorem dX4_init_49 : decode cX4_init 49 = .ok (.putfield 32, 3) := by decide +kernel
theorem dX4_init_52 : decode cX4_init 52 = .ok (.aload_n 0, 1) := by decide +kernel
theorem dX4_init_53 : decode cX4_init 53 = .ok (.iconst 0, 1) := by decide +kernel
theorem dX4_init_54 : decode cX4_init 54 = .ok (.putfield 36, 3) := by decide +kernel
theorem dX4_init_57 : decode cX4_init 57 = .ok (.aload_n 0, 1) := by decide +kernel
theorem dX4_init_58 : decode cX4_init 58 = .ok (.iconst 0, 1) := by decide +kernel
theorem dX4_init_59 : decode cX4_init 59 = .ok (.putfield 39, 3) := by decide +kernel
theorem dX4_init_62 : decode cX4_init 62 = .ok (.aload_n 0, 1) := by decide +kernel
theorem dX4_init_63 : decode cX4_init 63 = .ok (.iconst 0, 1) := by decide +kernel
theorem dX4_init_64 : decode cX4_init 64 = .ok (.putfield 42, 3) := by decide +kernel
theorem dX4_init_67 : decode cX4_init 67 = .ok (.return_, 1) := by decide +kernel
set_option maxRecDepth 20000 in
theorem ggX4_code_X4_within : GoodIn wsX4_code wsX4_within := goodIn_r _ [6] (by decide +kernel) (by decide +kernel)
set_option maxRecDepth 20000 in
theorem gX4_code_X4_within : GoodIn wsX4_code (va_wsS RX4 46 yX4_within wsX4_within) := goodIn_app (goodIn_of _ (by decide +kernel)) ggX4_code_X4_within
set_option maxRecDepth 20000 in
theorem ggX4_code_X4_cellAt : GoodIn wsX4_code wsX4_cellAt := goodIn_r _ [10, 2, 11, 12, 13, 14, 15, 16, 17, 18] (by decide +kernel) (by decide +kernel)
set_option maxRecDepth 20000 in
theorem gX4_code_X4_cellAt : GoodIn wsX4_code (wsV RX4 51 RX4 yX4_cellAt wsX4_cellAt) := goodIn_app (goodIn_of _ (by decide +kernel)) ggX4_code_X4_cellAt
theorem dX4_code_0 : decode cX4_code 0 = .ok (.iload_n 1, 1) := by decide +kernel
theorem dX4_code_1 : decode cX4_code 1 = .ok (.sipush 1023, 3) := by decide +kernel
theorem dX4_code_4 : decode cX4_code 4 = .ok (.invokestatic 46, 3) := by decide +kernel
theorem dX4_code_7 : decode cX4_code 7 = .ok (.ifCond .eq 12, 3) := by decide +kernel
theorem dX4_code_10 : decode cX4_code 10 = .ok (.iload_n 2, 1) := by decide +kernel
theorem dX4_code_11 : decode cX4_code 11 = .ok (.ldc 50, 2) := by decide +kernel
theorem dX4_code_13 : decode cX4_code 13 = .ok (.invokestatic 46, 3) := by decide +kernel
theorem dX4_code_16 : decode cX4_code 16 = .ok (.ifCond .ne 5, 3) := by decide +kernel
theorem dX4_code_19 : decode cX4_code 19 = .ok (.iconst (-1), 1) := by decide +kernel
theorem dX4_code_20 : decode cX4_code 20 = .ok (.ireturn, 1) := by decide +kernel
theorem dX4_code_21 : decode cX4_code 21 = .ok (.aload_n 0, 1) := by decide +kernel
theorem dX4_code_22 : decode cX4_code 22 = .ok (.iload_n 1, 1) := by decide +kernel
theorem dX4_code_23 : decode cX4_code 23 = .ok (.invokevirtual 51, 3) := by decide +kernel
theorem dX4_code_26 : decode cX4_code 26 = .ok (.istore_n 3, 1) := by decide +kernel
theorem dX4_code_27 : decode cX4_code 27 = .ok (.aload_n 0, 1) := by decide +kernel
theorem dX4_code_28 : decode cX4_code 28 = .ok (.getfield 9, 3) := by decide +kernel
theorem dX4_code_31 : decode cX4_code 31 = .ok (.iload_n 1, 1) := by decide +kernel
theorem dX4_code_32 : decode cX4_code 32 = .ok (.sipush 1023, 3) := by decide +kernel
theorem dX4_code_35 : decode cX4_code 35 = .ok (.iand, 1) := by decide +kernel
theorem dX4_code_36 : decode cX4_code 36 = .ok (.iload_n 2, 1) := by decide +kernel
theorem dX4_code_37 : decode cX4_code 37 = .ok (.iastore, 1) := by decide +kernel
theorem dX4_code_38 : decode cX4_code 38 = .ok (.iload_n 3, 1) := by decide +kernel
theorem dX4_code_39 : decode cX4_code 39 = .ok (.ireturn, 1) := by decide +kernel
set_option maxRecDepth 20000 in
theorem ggX4_load_X4_within : GoodIn wsX4_load wsX4_within := goodIn_r _ [6] (by decide +kernel) (by decide +kernel)
set_option maxRecDepth 20000 in
theorem gX4_load_X4_within : GoodIn wsX4_load (va_wsS RX4 46 yX4_within wsX4_within) := goodIn_app (goodIn_of _ (by decide +kernel)) ggX4_load_X4_within
theorem dX4_load_0 : decode cX4_load 0 = .ok (.iload_n 1, 1) := by decide +kernel
theorem dX4_load_1 : decode cX4_load 1 = .ok (.sipush 1023, 3) := by decide +kernel
theorem dX4_load_4 : decode cX4_load 4 = .ok (.invokestatic 46, 3) := by decide +kernel
theorem dX4_load_7 : decode cX4_load 7 = .ok (.ifCond .ne 5, 3) := by decide +kernel
theorem dX4_load_10 : decode cX4_load 10 = .ok (.iconst (-1), 1) := by decide +kernel
theorem dX4_load_11 : decode cX4_load 11 = .ok (.ireturn, 1) := by decide +kernel
theorem dX4_load_12 : decode cX4_load 12 = .ok (.iconst 0, 1) := by decide +kernel
theorem dX4_load_13 : decode cX4_load 13 = .ok (.istore 4, 2) := by decide +kernel
theorem dX4_load_15 : decode cX4_load 15 = .ok (.iload 4, 2) := by decide +kernel
theorem dX4_load_17 : decode cX4_load 17 = .ok (.iconst 4, 1) := by decide +kernel
theorem dX4_load_18 : decode cX4_load 18 = .ok (.if_icmp .ge 36, 3) := by decide +kernel
theorem dX4_load_21 : decode cX4_load 21 = .ok (.aload_n 0, 1) := by decide +kernel
theorem dX4_load_22 : decode cX4_load 22 = .ok (.getfield 9, 3) := by decide +kernel
theorem dX4_load_25 : decode cX4_load 25 = .ok (.iload_n 1, 1) := by decide +kernel
theorem dX4_load_26 : decode cX4_load 26 = .ok (.iload 4, 2) := by decide +kernel
theorem dX4_load_28 : decode cX4_load 28 = .ok (.iadd, 1) := by decide +kernel
theorem dX4_load_29 : decode cX4_load 29 = .ok (.sipush 1023, 3) := by decide +kernel
theorem dX4_load_32 : decode cX4_load 32 = .ok (.iand, 1) := by decide +kernel
theorem dX4_load_33 : decode cX4_load 33 = .ok (.lload_n 2, 1) := by decide +kernel
theorem dX4_load_34 : decode cX4_load 34 = .ok (.bipush 48, 2) := by decide +kernel
theorem dX4_load_36 : decode cX4_load 36 = .ok (.bipush 16, 2) := by decide +kernel
theorem dX4_load_38 : decode cX4_load 38 = .ok (.iload 4, 2) := by decide +kernel
theorem dX4_load_40 : decode cX4_load 40 = .ok (.imul, 1) := by decide +kernel
theorem dX4_load_41 : decode cX4_load 41 = .ok (.isub, 1) := by decide +kernel
theorem dX4_load_42 : decode cX4_load 42 = .ok (.lshr, 1) := by decide +kernel
theorem dX4_load_43 : decode cX4_load 43 = .ok (.l2i, 1) := by decide +kernel
theorem dX4_load_44 : decode cX4_load 44 = .ok (.ldc 50, 2) := by decide +kernel
theorem dX4_load_46 : decode cX4_load 46 = .ok (.iand, 1) := by decide +kernel
theorem dX4_load_47 : decode cX4_load 47 = .ok (.iastore, 1) := by decide +kernel
theorem dX4_load_48 : decode cX4_load 48 = .ok (.iinc 4 1, 3) := by decide +kernel
theorem dX4_load_51 : decode cX4_load 51 = .ok (.goto (-36), 3) := by decide +kernel
theorem dX4_load_54 : decode cX4_load 54 = .ok (.iconst 1, 1) := by decide +kernel
theorem dX4_load_55 : decode cX4_load 55 = .ok (.ireturn, 1) := by decide +kernel
set_option maxRecDepth 20000 in
theorem ggX4_word_X4_within : GoodIn wsX4_word wsX4_within := goodIn_r _ [4] (by decide +kernel) (by decide +kernel)
set_option maxRecDepth 20000 in
theorem gX4_word_X4_within : GoodIn wsX4_word (va_wsS RX4 46 yX4_within wsX4_within) := goodIn_app (goodIn_of _ (by decide +kernel)) ggX4_word_X4_within
set_option maxRecDepth 20000 in
theorem ggX4_word_X4_cellAt : GoodIn wsX4_word wsX4_cellAt := goodIn_r _ [8, 9, 10, 11, 12, 13, 14, 15, 16, 17] (by decide +kernel) (by decide +kernel)
set_option maxRecDepth 20000 in
theorem gX4_word_X4_cellAt : GoodIn wsX4_word (wsV RX4 51 RX4 yX4_cellAt wsX4_cellAt) := goodIn_app (goodIn_of _ (by decide +kernel)) ggX4_word_X4_cellAt
theorem dX4_word_0 : decode cX4_word 0 = .ok (.iload_n 1, 1) := by decide +kernel
theorem dX4_word_1 : decode cX4_word 1 = .ok (.sipush 1023, 3) := by decide +kernel
theorem dX4_word_4 : decode cX4_word 4 = .ok (.invokestatic 46, 3) := by decide +kernel
theorem dX4_word_7 : decode cX4_word 7 = .ok (.ifCond .eq 11, 3) := by decide +kernel
theorem dX4_word_10 : decode cX4_word 10 = .ok (.aload_n 0, 1) := by decide +kernel
theorem dX4_word_11 : decode cX4_word 11 = .ok (.iload_n 1, 1) := by decide +kernel
theorem dX4_word_12 : decode cX4_word 12 = .ok (.invokevirtual 51, 3) := by decide +kernel
theorem dX4_word_15 : decode cX4_word 15 = .ok (.goto 4, 3) := by decide +kernel
theorem dX4_word_18 : decode cX4_word 18 = .ok (.iconst (-1), 1) := by decide +kernel
theorem dX4_word_19 : decode cX4_word 19 = .ok (.ireturn, 1) := by decide +kernel
set_option maxRecDepth 20000 in
theorem ggX4_put_X4_within : GoodIn wsX4_put wsX4_within := goodIn_r _ [5] (by decide +kernel) (by decide +kernel)
set_option maxRecDepth 20000 in
theorem gX4_put_X4_within : GoodIn wsX4_put (va_wsS RX4 46 yX4_within wsX4_within) := goodIn_app (goodIn_of _ (by decide +kernel)) ggX4_put_X4_within
set_option maxRecDepth 20000 in
theorem ggX4_put_X0_get : GoodIn wsX4_put wsX0_get := goodIn_r _ [10, 11, 24] (by decide +kernel) (by decide +kernel)
set_option maxRecDepth 20000 in
theorem gX4_put_X0_get : GoodIn wsX4_put (wsV RX4 55 RX0 yX0_get wsX0_get) := goodIn_app (goodIn_of _ (by decide +kernel)) ggX4_put_X0_get
set_option maxRecDepth 20000 in
theorem ggX4_put_X0_set : GoodIn wsX4_put wsX0_set := goodIn_r _ [15, 11, 24] (by decide +kernel) (by decide +kernel)
set_option maxRecDepth 20000 in
theorem gX4_put_X0_set : GoodIn wsX4_put (wsV RX4 58 RX0 yX0_set wsX0_set) := goodIn_app (goodIn_of _ (by decide +kernel)) ggX4_put_X0_set
theorem dX4_put_0 : decode cX4_put 0 = .ok (.iload_n 1, 1) := by decide +kernel
theorem dX4_put_1 : decode cX4_put 1 = .ok (.sipush 1023, 3) := by decide +kernel
theorem dX4_put_4 : decode cX4_put 4 = .ok (.invokestatic 46, 3) := by decide +kernel
theorem dX4_put_7 : decode cX4_put 7 = .ok (.ifCond .eq 13, 3) := by decide +kernel
theorem dX4_put_10 : decode cX4_put 10 = .ok (.iload_n 2, 1) := by decide +kernel
theorem dX4_put_11 : decode cX4_put 11 = .ok (.sipush 255, 3) := by decide +kernel
theorem dX4_put_14 : decode cX4_put 14 = .ok (.invokestatic 46, 3) := by decide +kernel
theorem dX4_put_17 : decode cX4_put 17 = .ok (.ifCond .ne 5, 3) := by decide +kernel
theorem dX4_put_20 : decode cX4_put 20 = .ok (.iconst (-1), 1) := by decide +kernel
theorem dX4_put_21 : decode cX4_put 21 = .ok (.ireturn, 1) := by decide +kernel
theorem dX4_put_22 : decode cX4_put 22 = .ok (.aload_n 0, 1) := by decide +kernel
theorem dX4_put_23 : decode cX4_put 23 = .ok (.getfield 16, 3) := by decide +kernel
theorem dX4_put_26 : decode cX4_put 26 = .ok (.iload_n 1, 1) := by decide +kernel
theorem dX4_put_27 : decode cX4_put 27 = .ok (.invokevirtual 55, 3) := by decide +kernel
theorem dX4_put_30 : decode cX4_put 30 = .ok (.istore_n 3, 1) := by decide +kernel
theorem dX4_put_31 : decode cX4_put 31 = .ok (.aload_n 0, 1) := by decide +kernel
theorem dX4_put_32 : decode cX4_put 32 = .ok (.getfield 16, 3) := by decide +kernel
theorem dX4_put_35 : decode cX4_put 35 = .ok (.iload_n 1, 1) := by decide +kernel
theorem dX4_put_36 : decode cX4_put 36 = .ok (.iload_n 2, 1) := by decide +kernel
theorem dX4_put_37 : decode cX4_put 37 = .ok (.invokevirtual 58, 3) := by decide +kernel
theorem dX4_put_40 : decode cX4_put 40 = .ok (.iload_n 3, 1) := by decide +kernel
theorem dX4_put_41 : decode cX4_put 41 = .ok (.ireturn, 1) := by decide +kernel
set_option maxRecDepth 20000 in
theorem ggX4_data_X4_within : GoodIn wsX4_data wsX4_within := goodIn_r _ [5] (by decide +kernel) (by decide +kernel)
set_option maxRecDepth 20000 in
theorem gX4_data_X4_within : GoodIn wsX4_data (va_wsS RX4 46 yX4_within wsX4_within) := goodIn_app (goodIn_of _ (by decide +kernel)) ggX4_data_X4_within
set_option maxRecDepth 20000 in
theorem ggX4_data_X0_get : GoodIn wsX4_data wsX0_get := goodIn_r _ [10, 11, 20] (by decide +kernel) (by decide +kernel)
set_option maxRecDepth 20000 in
theorem gX4_data_X0_get : GoodIn wsX4_data (wsV RX4 55 RX0 yX0_get wsX0_get) := goodIn_app (goodIn_of _ (by decide +kernel)) ggX4_data_X0_get
theorem dX4_data_0 : decode cX4_data 0 = .ok (.iload_n 1, 1) := by decide +kernel
theorem dX4_data_1 : decode cX4_data 1 = .ok (.sipush 1023, 3) := by decide +kernel
theorem dX4_data_4 : decode cX4_data 4 = .ok (.invokestatic 46, 3) := by decide +kernel
theorem dX4_data_7 : decode cX4_data 7 = .ok (.ifCond .eq 14, 3) := by decide +kernel
theorem dX4_data_10 : decode cX4_data 10 = .ok (.aload_n 0, 1) := by decide +kernel
theorem dX4_data_11 : decode cX4_data 11 = .ok (.getfield 16, 3) := by decide +kernel
theorem dX4_data_14 : decode cX4_data 14 = .ok (.iload_n 1, 1) := by decide +kernel
theorem dX4_data_15 : decode cX4_data 15 = .ok (.invokevirtual 55, 3) := by decide +kernel
theorem dX4_data_18 : decode cX4_data 18 = .ok (.goto 4, 3) := by decide +kernel
theorem dX4_data_21 : decode cX4_data 21 = .ok (.iconst (-1), 1) := by decide +kernel
theorem dX4_data_22 : decode cX4_data 22 = .ok (.ireturn, 1) := by decide +kernel
set_option maxRecDepth 20000 in
theorem ggX4_told_X0_pair : GoodIn wsX4_told wsX0_pair := goodIn_r _ [9, 10, 23] (by decide +kernel) (by decide +kernel)
set_option maxRecDepth 20000 in
theorem gX4_told_X0_pair : GoodIn wsX4_told (wsV RX4 62 RX0 yX0_pair wsX0_pair) := goodIn_app (goodIn_of _ (by decide +kernel)) ggX4_told_X0_pair
set_option maxRecDepth 20000 in
theorem ggX4_told_X0_get : GoodIn wsX4_told wsX0_get := goodIn_r _ [14, 10, 23] (by decide +kernel) (by decide +kernel)
set_option maxRecDepth 20000 in
theorem gX4_told_X0_get : GoodIn wsX4_told (wsV RX4 55 RX0 yX0_get wsX0_get) := goodIn_app (goodIn_of _ (by decide +kernel)) ggX4_told_X0_get
theorem dX4_told_0 : decode cX4_told 0 = .ok (.iload_n 1, 1) := by decide +kernel
theorem dX4_told_1 : decode cX4_told 1 = .ok (.tableswitch 120 0 7 #[47, 52, 62, 72, 82, 92, 102, 115], 47) := by decide +kernel
theorem dX4_told_48 : decode cX4_told 48 = .ok (.aload_n 0, 1) := by decide +kernel
theorem dX4_told_49 : decode cX4_told 49 = .ok (.getfield 32, 3) := by decide +kernel
theorem dX4_told_52 : decode cX4_told 52 = .ok (.ireturn, 1) := by decide +kernel
theorem dX4_told_53 : decode cX4_told 53 = .ok (.aload_n 0, 1) := by decide +kernel
theorem dX4_told_54 : decode cX4_told 54 = .ok (.getfield 16, 3) := by decide +kernel
theorem dX4_told_57 : decode cX4_told 57 = .ok (.bipush 93, 2) := by decide +kernel
theorem dX4_told_59 : decode cX4_told 59 = .ok (.invokevirtual 62, 3) := by decide +kernel
theorem dX4_told_62 : decode cX4_told 62 = .ok (.ireturn, 1) := by decide +kernel
theorem dX4_told_63 : decode cX4_told 63 = .ok (.aload_n 0, 1) := by decide +kernel
theorem dX4_told_64 : decode cX4_told 64 = .ok (.getfield 16, 3) := by decide +kernel
theorem dX4_told_67 : decode cX4_told 67 = .ok (.bipush 95, 2) := by decide +kernel
theorem dX4_told_69 : decode cX4_told 69 = .ok (.invokevirtual 55, 3) := by decide +kernel
theorem dX4_told_72 : decode cX4_told 72 = .ok (.ireturn, 1) := by decide +kernel
theorem dX4_told_73 : decode cX4_told 73 = .ok (.aload_n 0, 1) := by decide +kernel
theorem dX4_told_74 : decode cX4_told 74 = .ok (.getfield 16, 3) := by decide +kernel
theorem dX4_told_77 : decode cX4_told 77 = .ok (.bipush 26, 2) := by decide +kernel
theorem dX4_told_79 : decode cX4_told 79 = .ok (.invokevirtual 62, 3) := by decide +kernel
theorem dX4_told_82 : decode cX4_told 82 = .ok (.ireturn, 1) := by decide +kernel
theorem dX4_told_83 : decode cX4_told 83 = .ok (.aload_n 0, 1) := by decide +kernel
theorem dX4_told_84 : decode cX4_told 84 = .ok (.getfield 16, 3) := by decide +kernel
theorem dX4_told_87 : decode cX4_told 87 = .ok (.bipush 28, 2) := by decide +kernel
theorem dX4_told_89 : decode cX4_told 89 = .ok (.invokevirtual 62, 3) := by decide +kernel
theorem dX4_told_92 : decode cX4_told 92 = .ok (.ireturn, 1) := by decide +kernel
theorem dX4_told_93 : decode cX4_told 93 = .ok (.aload_n 0, 1) := by decide +kernel
theorem dX4_told_94 : decode cX4_told 94 = .ok (.getfield 16, 3) := by decide +kernel
theorem dX4_told_97 : decode cX4_told 97 = .ok (.bipush 30, 2) := by decide +kernel
theorem dX4_told_99 : decode cX4_told 99 = .ok (.invokevirtual 62, 3) := by decide +kernel
theorem dX4_told_102 : decode cX4_told 102 = .ok (.ireturn, 1) := by decide +kernel
theorem dX4_told_103 : decode cX4_told 103 = .ok (.aload_n 0, 1) := by decide +kernel
theorem dX4_told_104 : decode cX4_told 104 = .ok (.getfield 42, 3) := by decide +kernel
theorem dX4_told_107 : decode cX4_told 107 = .ok (.ifCond .eq 7, 3) := by decide +kernel
theorem dX4_told_110 : decode cX4_told 110 = .ok (.iconst 1, 1) := by decide +kernel
theorem dX4_told_111 : decode cX4_told 111 = .ok (.goto 4, 3) := by decide +kernel
theorem dX4_told_114 : decode cX4_told 114 = .ok (.iconst 0, 1) := by decide +kernel
theorem dX4_told_115 : decode cX4_told 115 = .ok (.ireturn, 1) := by decide +kernel
theorem dX4_told_116 : decode cX4_told 116 = .ok (.aload_n 0, 1) := by decide +kernel
theorem dX4_told_117 : decode cX4_told 117 = .ok (.getfield 36, 3) := by decide +kernel
theorem dX4_told_120 : decode cX4_told 120 = .ok (.ireturn, 1) := by decide +kernel
theorem dX4_told_121 : decode cX4_told 121 = .ok (.iconst (-1), 1) := by decide +kernel
theorem dX4_told_122 : decode cX4_told 122 = .ok (.ireturn, 1) := by decide +kernel
set_option maxRecDepth 20000 in
theorem ggX4_go_X4_within : GoodIn wsX4_go wsX4_within := goodIn_r _ [5] (by decide +kernel) (by decide +kernel)
set_option maxRecDepth 20000 in
theorem gX4_go_X4_within : GoodIn wsX4_go (va_wsS RX4 46 yX4_within wsX4_within) := goodIn_app (goodIn_of _ (by decide +kernel)) ggX4_go_X4_within
theorem dX4_go_0 : decode cX4_go 0 = .ok (.iload_n 1, 1) := by decide +kernel
theorem dX4_go_1 : decode cX4_go 1 = .ok (.sipush 1023, 3) := by decide +kernel
theorem dX4_go_4 : decode cX4_go 4 = .ok (.invokestatic 46, 3) := by decide +kernel
theorem dX4_go_7 : decode cX4_go 7 = .ok (.ifCond .ne 5, 3) := by decide +kernel
theorem dX4_go_10 : decode cX4_go 10 = .ok (.iconst (-1), 1) := by decide +kernel
theorem dX4_go_11 : decode cX4_go 11 = .ok (.ireturn, 1) := by decide +kernel
theorem dX4_go_12 : decode cX4_go 12 = .ok (.aload_n 0, 1) := by decide +kernel
theorem dX4_go_13 : decode cX4_go 13 = .ok (.getfield 32, 3) := by decide +kernel
theorem dX4_go_16 : decode cX4_go 16 = .ok (.istore_n 2, 1) := by decide +kernel
theorem dX4_go_17 : decode cX4_go 17 = .ok (.aload_n 0, 1) := by decide +kernel
theorem dX4_go_18 : decode cX4_go 18 = .ok (.iload_n 1, 1) := by decide +kernel
theorem dX4_go_19 : decode cX4_go 19 = .ok (.putfield 32, 3) := by decide +kernel
theorem dX4_go_22 : decode cX4_go 22 = .ok (.iload_n 2, 1) := by decide +kernel
theorem dX4_go_23 : decode cX4_go 23 = .ok (.ireturn, 1) := by decide +kernel
theorem dX4_ask_0 : decode cX4_ask 0 = .ok (.iload_n 1, 1) := by decide +kernel
theorem dX4_ask_1 : decode cX4_ask 1 = .ok (.iconst 1, 1) := by decide +kernel
theorem dX4_ask_2 : decode cX4_ask 2 = .ok (.if_icmp .lt 9, 3) := by decide +kernel
theorem dX4_ask_5 : decode cX4_ask 5 = .ok (.iload_n 1, 1) := by decide +kernel
theorem dX4_ask_6 : decode cX4_ask 6 = .ok (.bipush 25, 2) := by decide +kernel
theorem dX4_ask_8 : decode cX4_ask 8 = .ok (.if_icmp .le 5, 3) := by decide +kernel
theorem dX4_ask_11 : decode cX4_ask 11 = .ok (.iconst (-1), 1) := by decide +kernel
theorem dX4_ask_12 : decode cX4_ask 12 = .ok (.ireturn, 1) := by decide +kernel
theorem dX4_ask_13 : decode cX4_ask 13 = .ok (.iconst 1, 1) := by decide +kernel
theorem dX4_ask_14 : decode cX4_ask 14 = .ok (.iload_n 1, 1) := by decide +kernel
theorem dX4_ask_15 : decode cX4_ask 15 = .ok (.ishl, 1) := by decide +kernel
theorem dX4_ask_16 : decode cX4_ask 16 = .ok (.istore_n 2, 1) := by decide +kernel
theorem dX4_ask_17 : decode cX4_ask 17 = .ok (.aload_n 0, 1) := by decide +kernel
theorem dX4_ask_18 : decode cX4_ask 18 = .ok (.getfield 36, 3) := by decide +kernel
theorem dX4_ask_21 : decode cX4_ask 21 = .ok (.iload_n 2, 1) := by decide +kernel
theorem dX4_ask_22 : decode cX4_ask 22 = .ok (.iand, 1) := by decide +kernel
theorem dX4_ask_23 : decode cX4_ask 23 = .ok (.ifCond .eq 5, 3) := by decide +kernel
theorem dX4_ask_26 : decode cX4_ask 26 = .ok (.iconst 0, 1) := by decide +kernel
theorem dX4_ask_27 : decode cX4_ask 27 = .ok (.ireturn, 1) := by decide +kernel
theorem dX4_ask_28 : decode cX4_ask 28 = .ok (.aload_n 0, 1) := by decide +kernel
theorem dX4_ask_29 : decode cX4_ask 29 = .ok (.dup, 1) := by decide +kernel
theorem dX4_ask_30 : decode cX4_ask 30 = .ok (.getfield 36, 3) := by decide +kernel
theorem dX4_ask_33 : decode cX4_ask 33 = .ok (.iload_n 2, 1) := by decide +kernel
theorem dX4_ask_34 : decode cX4_ask 34 = .ok (.ior, 1) := by decide +kernel
theorem dX4_ask_35 : decode cX4_ask 35 = .ok (.putfield 36, 3) := by decide +kernel
theorem dX4_ask_38 : decode cX4_ask 38 = .ok (.iconst 1, 1) := by decide +kernel
theorem dX4_ask_39 : decode cX4_ask 39 = .ok (.ireturn, 1) := by decide +kernel
set_option maxRecDepth 20000 in
theorem ggX4_step_X4_advance : GoodIn wsX4_step wsX4_advance := goodIn_r _ [5, 6, 7, 8, 9, 10, 11, 12, 13, 14, 15, 16, 17, 18, 19, 20, 21, 22, 4, 23, 24, 25, 26, 27, 28, 29, 30, 31, 32, 33, 34, 35, 36, 37, 38, 39, 40, 41, 42, 43, 44, 45, 46, 47, 48, 49, 50, 51, 52, 53, 54, 55, 56, 57, 58, 59, 60, 61, 62, 63, 64, 65, 66, 67, 68, 69, 70, 71, 72, 73, 74, 75, 76, 77, 78, 79, 80, 81, 82, 83, 84, 85, 86, 87, 88, 89, 90, 91, 92, 93, 94, 95, 96, 97, 98, 99, 100, 101, 102, 103, 104, 105, 106, 107, 108, 109, 110, 111, 112, 113, 114, 115, 116, 117, 118, 119, 120, 121, 122, 123, 124, 125, 126, 127, 128, 129, 130, 131, 132, 133, 134, 135, 136, 137, 138, 139, 140, 141, 142, 143, 144, 145, 146, 147, 148, 149, 150, 151, 152, 153, 154, 155, 156, 157, 158, 159, 160, 161, 162, 163, 164, 165, 166, 167, 168, 169, 170, 171, 172, 173, 174, 175, 176, 177, 178, 179, 180, 181, 182, 183, 184, 185, 186, 187, 188, 189, 190, 191, 192, 193, 194, 195, 196, 197, 198, 199, 200, 201, 202, 203, 204, 205, 206, 207, 208, 209, 210, 211, 212, 213, 214, 215, 216, 217, 218, 219, 220, 221, 222, 223, 224, 225, 226, 227, 228, 229, 230, 231, 232, 233, 234, 235, 236, 237, 238, 239, 240, 241, 242, 243, 244, 245, 246, 247, 248, 249, 250, 251, 252, 253, 254, 255, 256, 257, 258, 259, 260, 261, 262, 263, 264, 265, 266, 267, 268, 269, 270, 271, 272, 273, 274, 275, 276, 277, 278, 279, 280, 281, 282, 283, 284, 285, 286, 287, 288, 289, 290, 291, 292, 293, 294, 295, 296, 297, 298, 299, 300, 301, 302, 303, 304, 305, 306, 307, 308, 309, 310, 311, 312, 313, 314, 315, 316, 317, 318, 319, 320, 321, 322, 323, 324, 325, 326, 327] (by decide +kernel) (by decide +kernel)
set_option maxRecDepth 20000 in
theorem gX4_step_X4_advance : GoodIn wsX4_step (wsV RX4 65 RX4 yX4_advance wsX4_advance) := goodIn_app (goodIn_of _ (by decide +kernel)) ggX4_step_X4_advance
theorem dX4_step_0 : decode cX4_step 0 = .ok (.aload_n 0, 1) := by decide +kernel
theorem dX4_step_1 : decode cX4_step 1 = .ok (.invokevirtual 65, 3) := by decide +kernel
theorem dX4_step_4 : decode cX4_step 4 = .ok (.ireturn, 1) := by decide +kernel
set_option maxRecDepth 20000 in
theorem ggX4_run_X4_advance : GoodIn wsX4_run wsX4_advance := goodIn_r _ [5, 6, 7, 8, 9, 10, 11, 12, 13, 14, 15, 16, 17, 18, 19, 20, 21, 22, 4, 23, 24, 25, 26, 27, 28, 29, 30, 31, 32, 33, 34, 35, 36, 37, 38, 39, 40, 41, 42, 43, 44, 45, 46, 47, 48, 49, 50, 51, 52, 53, 54, 55, 56, 57, 58, 59, 60, 61, 62, 63, 64, 65, 66, 67, 68, 69, 70, 71, 72, 73, 74, 75, 76, 77, 78, 79, 80, 81, 82, 83, 84, 85, 86, 87, 88, 89, 90, 91, 92, 93, 94, 95, 96, 97, 98, 99, 100, 101, 102, 103, 104, 105, 106, 107, 108, 109, 110, 111, 112, 113, 114, 115, 116, 117, 118, 119, 120, 121, 122, 123, 124, 125, 126, 127, 128, 129, 130, 131, 132, 133, 134, 135, 136, 137, 138, 139, 140, 141, 142, 143, 144, 145, 146, 147, 148, 149, 150, 151, 152, 153, 154, 155, 156, 157, 158, 159, 160, 161, 162, 163, 164, 165, 166, 167, 168, 169, 170, 171, 172, 173, 174, 175, 176, 177, 178, 179, 180, 181, 182, 183, 184, 185, 186, 187, 188, 189, 190, 191, 192, 193, 194, 195, 196, 197, 198, 199, 200, 201, 202, 203, 204, 205, 206, 207, 208, 209, 210, 211, 212, 213, 214, 215, 216, 217, 218, 219, 220, 221, 222, 223, 224, 225, 226, 227, 228, 229, 230, 231, 232, 233, 234, 235, 236, 237, 238, 239, 240, 241, 242, 243, 244, 245, 246, 247, 248, 249, 250, 251, 252, 253, 254, 255, 256, 257, 258, 259, 260, 261, 262, 263, 264, 265, 266, 267, 268, 269, 270, 271, 272, 273, 274, 275, 276, 277, 278, 279, 280, 281, 282, 283, 284, 285, 286, 287, 288, 289, 290, 291, 292, 293, 294, 295, 296, 297, 298, 299, 300, 301, 302, 303, 304, 305, 306, 307, 308, 309, 310, 311, 312, 313, 314, 315, 316, 317, 318, 319, 320, 321, 322, 323, 324, 325, 326, 327] (by decide +kernel) (by decide +kernel)
set_option maxRecDepth 20000 in
theorem gX4_run_X4_advance : GoodIn wsX4_run (wsV RX4 65 RX4 yX4_advance wsX4_advance) := goodIn_app (goodIn_of _ (by decide +kernel)) ggX4_run_X4_advance
theorem dX4_run_0 : decode cX4_run 0 = .ok (.iload_n 1, 1) := by decide +kernel
theorem dX4_run_1 : decode cX4_run 1 = .ok (.iconst 1, 1) := by decide +kernel
theorem dX4_run_2 : decode cX4_run 2 = .ok (.if_icmp .lt 10, 3) := by decide +kernel
theorem dX4_run_5 : decode cX4_run 5 = .ok (.iload_n 1, 1) := by decide +kernel
theorem dX4_run_6 : decode cX4_run 6 = .ok (.sipush 3000, 3) := by decide +kernel
theorem dX4_run_9 : decode cX4_run 9 = .ok (.if_icmp .le 5, 3) := by decide +kernel
theorem dX4_run_12 : decode cX4_run 12 = .ok (.iconst (-1), 1) := by decide +kernel
theorem dX4_run_13 : decode cX4_run 13 = .ok (.ireturn, 1) := by decide +kernel
theorem dX4_run_14 : decode cX4_run 14 = .ok (.iconst 0, 1) := by decide +kernel
theorem dX4_run_15 : decode cX4_run 15 = .ok (.istore_n 2, 1) := by decide +kernel
theorem dX4_run_16 : decode cX4_run 16 = .ok (.iload_n 2, 1) := by decide +kernel
theorem dX4_run_17 : decode cX4_run 17 = .ok (.iload_n 1, 1) := by decide +kernel
theorem dX4_run_18 : decode cX4_run 18 = .ok (.if_icmp .ge 25, 3) := by decide +kernel
theorem dX4_run_21 : decode cX4_run 21 = .ok (.aload_n 0, 1) := by decide +kernel
theorem dX4_run_22 : decode cX4_run 22 = .ok (.invokevirtual 65, 3) := by decide +kernel
theorem dX4_run_25 : decode cX4_run 25 = .ok (.istore_n 3, 1) := by decide +kernel
theorem dX4_run_26 : decode cX4_run 26 = .ok (.iload_n 3, 1) := by decide +kernel
theorem dX4_run_27 : decode cX4_run 27 = .ok (.ifCond .eq 10, 3) := by decide +kernel
theorem dX4_run_30 : decode cX4_run 30 = .ok (.iload_n 3, 1) := by decide +kernel
theorem dX4_run_31 : decode cX4_run 31 = .ok (.iconst 1, 1) := by decide +kernel
theorem dX4_run_32 : decode cX4_run 32 = .ok (.if_icmp .eq 5, 3) := by decide +kernel
theorem dX4_run_35 : decode cX4_run 35 = .ok (.iload_n 2, 1) := by decide +kernel
theorem dX4_run_36 : decode cX4_run 36 = .ok (.ireturn, 1) := by decide +kernel
theorem dX4_run_37 : decode cX4_run 37 = .ok (.iinc 2 1, 3) := by decide +kernel
theorem dX4_run_40 : decode cX4_run 40 = .ok (.goto (-24), 3) := by decide +kernel
theorem dX4_run_43 : decode cX4_run 43 = .ok (.iload_n 1, 1) := by decide +kernel
theorem dX4_run_44 : decode cX4_run 44 = .ok (.ireturn, 1) := by decide +kernel
theorem dX4_ended_0 : decode cX4_ended 0 = .ok (.aload_n 0, 1) := by decide +kernel
theorem dX4_ended_1 : decode cX4_ended 1 = .ok (.getfield 39, 3) := by decide +kernel
theorem dX4_ended_4 : decode cX4_ended 4 = .ok (.ireturn, 1) := by decide +kernel
set_option maxRecDepth 20000 in
theorem ggX4_reads_X4_within : GoodIn wsX4_reads wsX4_within := goodIn_r _ [5] (by decide +kernel) (by decide +kernel)
set_option maxRecDepth 20000 in
theorem gX4_reads_X4_within : GoodIn wsX4_reads (va_wsS RX4 46 yX4_within wsX4_within) := goodIn_app (goodIn_of _ (by decide +kernel)) ggX4_reads_X4_within
set_option maxRecDepth 20000 in
theorem ggX4_reads_X3_groupOf : GoodIn wsX4_reads wsX3_groupOf := goodIn_r _ [9, 10, 11, 8, 12, 13, 14, 15, 16, 17, 18, 19, 20, 21, 22, 23, 24, 25, 26, 27, 28, 29, 30, 31, 32, 33, 34, 35, 36] (by decide +kernel) (by decide +kernel)
set_option maxRecDepth 20000 in
theorem gX4_reads_X3_groupOf : GoodIn wsX4_reads (va_wsS RX4 69 yX3_groupOf wsX3_groupOf) := goodIn_app (goodIn_of _ (by decide +kernel)) ggX4_reads_X3_groupOf
set_option maxRecDepth 20000 in
theorem ggX4_reads_X3_hasNext : GoodIn wsX4_reads wsX3_hasNext := goodIn_r _ [39, 40, 41, 42, 43] (by decide +kernel) (by decide +kernel)
set_option maxRecDepth 20000 in
theorem gX4_reads_X3_hasNext : GoodIn wsX4_reads (va_wsS RX4 74 yX3_hasNext wsX3_hasNext) := goodIn_app (goodIn_of _ (by decide +kernel)) ggX4_reads_X3_hasNext
theorem dX4_reads_0 : decode cX4_reads 0 = .ok (.iload_n 1, 1) := by decide +kernel
theorem dX4_reads_1 : decode cX4_reads 1 = .ok (.ldc 50, 2) := by decide +kernel
theorem dX4_reads_3 : decode cX4_reads 3 = .ok (.invokestatic 46, 3) := by decide +kernel
theorem dX4_reads_6 : decode cX4_reads 6 = .ok (.ifCond .ne 5, 3) := by decide +kernel
theorem dX4_reads_9 : decode cX4_reads 9 = .ok (.iconst (-1), 1) := by decide +kernel
theorem dX4_reads_10 : decode cX4_reads 10 = .ok (.ireturn, 1) := by decide +kernel
theorem dX4_reads_11 : decode cX4_reads 11 = .ok (.iload_n 2, 1) := by decide +kernel
theorem dX4_reads_12 : decode cX4_reads 12 = .ok (.lookupswitch 54 #[(0, 28), (1, 41)], 28) := by decide +kernel
theorem dX4_reads_40 : decode cX4_reads 40 = .ok (.iload_n 1, 1) := by decide +kernel
theorem dX4_reads_41 : decode cX4_reads 41 = .ok (.invokestatic 69, 3) := by decide +kernel
theorem dX4_reads_44 : decode cX4_reads 44 = .ok (.ifCond .ne 7, 3) := by decide +kernel
theorem dX4_reads_47 : decode cX4_reads 47 = .ok (.iconst 1, 1) := by decide +kernel
theorem dX4_reads_48 : decode cX4_reads 48 = .ok (.goto 4, 3) := by decide +kernel
theorem dX4_reads_51 : decode cX4_reads 51 = .ok (.iconst 0, 1) := by decide +kernel
theorem dX4_reads_52 : decode cX4_reads 52 = .ok (.ireturn, 1) := by decide +kernel
theorem dX4_reads_53 : decode cX4_reads 53 = .ok (.iload_n 1, 1) := by decide +kernel
theorem dX4_reads_54 : decode cX4_reads 54 = .ok (.invokestatic 74, 3) := by decide +kernel
theorem dX4_reads_57 : decode cX4_reads 57 = .ok (.ifCond .eq 7, 3) := by decide +kernel
theorem dX4_reads_60 : decode cX4_reads 60 = .ok (.iconst 1, 1) := by decide +kernel
theorem dX4_reads_61 : decode cX4_reads 61 = .ok (.goto 4, 3) := by decide +kernel
theorem dX4_reads_64 : decode cX4_reads 64 = .ok (.iconst 0, 1) := by decide +kernel
theorem dX4_reads_65 : decode cX4_reads 65 = .ok (.ireturn, 1) := by decide +kernel
theorem dX4_reads_66 : decode cX4_reads 66 = .ok (.iconst (-1), 1) := by decide +kernel
theorem dX4_reads_67 : decode cX4_reads 67 = .ok (.ireturn, 1) := by decide +kernel
set_option maxRecDepth 20000 in
theorem ggX4_digest_X0_get : GoodIn wsX4_digest wsX0_get := goodIn_r _ [7, 8, 17] (by decide +kernel) (by decide +kernel)
set_option maxRecDepth 20000 in
theorem gX4_digest_X0_get : GoodIn wsX4_digest (wsV RX4 55 RX0 yX0_get wsX0_get) := goodIn_app (goodIn_of _ (by decide +kernel)) ggX4_digest_X0_get
theorem dX4_digest_0 : decode cX4_digest 0 = .ok (.bipush 7, 2) := by decide +kernel
theorem dX4_digest_2 : decode cX4_digest 2 = .ok (.istore_n 1, 1) := by decide +kernel
theorem dX4_digest_3 : decode cX4_digest 3 = .ok (.iconst 0, 1) := by decide +kernel
theorem dX4_digest_4 : decode cX4_digest 4 = .ok (.istore_n 2, 1) := by decide +kernel
theorem dX4_digest_5 : decode cX4_digest 5 = .ok (.iload_n 2, 1) := by decide +kernel
theorem dX4_digest_6 : decode cX4_digest 6 = .ok (.sipush 1023, 3) := by decide +kernel
theorem dX4_digest_9 : decode cX4_digest 9 = .ok (.if_icmp .gt 23, 3) := by decide +kernel
theorem dX4_digest_12 : decode cX4_digest 12 = .ok (.bipush 31, 2) := by decide +kernel
theorem dX4_digest_14 : decode cX4_digest 14 = .ok (.iload_n 1, 1) := by decide +kernel
theorem dX4_digest_15 : decode cX4_digest 15 = .ok (.imul, 1) := by decide +kernel
theorem dX4_digest_16 : decode cX4_digest 16 = .ok (.aload_n 0, 1) := by decide +kernel
theorem dX4_digest_17 : decode cX4_digest 17 = .ok (.getfield 16, 3) := by decide +kernel
theorem dX4_digest_20 : decode cX4_digest 20 = .ok (.iload_n 2, 1) := by decide +kernel
theorem dX4_digest_21 : decode cX4_digest 21 = .ok (.invokevirtual 55, 3) := by decide +kernel
theorem dX4_digest_24 : decode cX4_digest 24 = .ok (.iadd, 1) := by decide +kernel
theorem dX4_digest_25 : decode cX4_digest 25 = .ok (.istore_n 1, 1) := by decide +kernel
theorem dX4_digest_26 : decode cX4_digest 26 = .ok (.iinc 2 1, 3) := by decide +kernel
theorem dX4_digest_29 : decode cX4_digest 29 = .ok (.goto (-24), 3) := by decide +kernel
theorem dX4_digest_32 : decode cX4_digest 32 = .ok (.bipush 31, 2) := by decide +kernel
theorem dX4_digest_34 : decode cX4_digest 34 = .ok (.iload_n 1, 1) := by decide +kernel
theorem dX4_digest_35 : decode cX4_digest 35 = .ok (.imul, 1) := by decide +kernel
theorem dX4_digest_36 : decode cX4_digest 36 = .ok (.aload_n 0, 1) := by decide +kernel
theorem dX4_digest_37 : decode cX4_digest 37 = .ok (.getfield 32, 3) := by decide +kernel
theorem dX4_digest_40 : decode cX4_digest 40 = .ok (.iadd, 1) := by decide +kernel
theorem dX4_digest_41 : decode cX4_digest 41 = .ok (.ireturn, 1) := by decide +kernel
theorem dX4_count_0 : decode cX4_count 0 = .ok (.iload_n 1, 1) := by decide +kernel
theorem dX4_count_1 : decode cX4_count 1 = .ok (.ifCond .lt 18, 3) := by decide +kernel
theorem dX4_count_4 : decode cX4_count 4 = .ok (.iload_n 1, 1) := by decide +kernel
theorem dX4_count_5 : decode cX4_count 5 = .ok (.bipush 7, 2) := by decide +kernel
theorem dX4_count_7 : decode cX4_count 7 = .ok (.if_icmp .ge 12, 3) := by decide +kernel
theorem dX4_count_10 : decode cX4_count 10 = .ok (.aload_n 0, 1) := by decide +kernel
theorem dX4_count_11 : decode cX4_count 11 = .ok (.getfield 29, 3) := by decide +kernel
theorem dX4_count_14 : decode cX4_count 14 = .ok (.iload_n 1, 1) := by decide +kernel
theorem dX4_count_15 : decode cX4_count 15 = .ok (.iaload, 1) := by decide +kernel
theorem dX4_count_16 : decode cX4_count 16 = .ok (.goto 4, 3) := by decide +kernel
theorem dX4_count_19 : decode cX4_count 19 = .ok (.iconst (-1), 1) := by decide +kernel
theorem dX4_count_20 : decode cX4_count 20 = .ok (.ireturn, 1) := by decide +kernel
theorem dX4_within_0 : decode cX4_within 0 = .ok (.iload_n 0, 1) := by decide +kernel
theorem dX4_within_1 : decode cX4_within 1 = .ok (.ifCond .lt 12, 3) := by decide +kernel
theorem dX4_within_4 : decode cX4_within 4 = .ok (.iload_n 0, 1) := by decide +kernel
theorem dX4_within_5 : decode cX4_within 5 = .ok (.iload_n 1, 1) := by decide +kernel
theorem dX4_within_6 : decode cX4_within 6 = .ok (.if_icmp .gt 7, 3) := by decide +kernel
theorem dX4_within_9 : decode cX4_within 9 = .ok (.iconst 1, 1) := by decide +kernel
theorem dX4_within_10 : decode cX4_within 10 = .ok (.goto 4, 3) := by decide +kernel
theorem dX4_within_13 : decode cX4_within 13 = .ok (.iconst 0, 1) := by decide +kernel
theorem dX4_within_14 : decode cX4_within 14 = .ok (.ireturn, 1) := by decide +kernel
theorem dX4_cellAt_0 : decode cX4_cellAt 0 = .ok (.aload_n 0, 1) := by decide +kernel
theorem dX4_cellAt_1 : decode cX4_cellAt 1 = .ok (.getfield 9, 3) := by decide +kernel
theorem dX4_cellAt_4 : decode cX4_cellAt 4 = .ok (.iload_n 1, 1) := by decide +kernel
theorem dX4_cellAt_5 : decode cX4_cellAt 5 = .ok (.sipush 1023, 3) := by decide +kernel
theorem dX4_cellAt_8 : decode cX4_cellAt 8 = .ok (.iand, 1) := by decide +kernel
theorem dX4_cellAt_9 : decode cX4_cellAt 9 = .ok (.iaload, 1) := by decide +kernel
theorem dX4_cellAt_10 : decode cX4_cellAt 10 = .ok (.ireturn, 1) := by decide +kernel
set_option maxRecDepth 20000 in
theorem ggX4_advance_X0_flag : GoodIn wsX4_advance wsX0_flag := goodIn_r _ [13, 14, 322] (by decide +kernel) (by decide +kernel)
set_option maxRecDepth 20000 in
theorem gX4_advance_X0_flag : GoodIn wsX4_advance (wsV RX4 80 RX0 yX0_flag wsX0_flag) := goodIn_app (goodIn_of _ (by decide +kernel)) ggX4_advance_X0_flag
set_option maxRecDepth 20000 in
theorem ggX4_advance_X4_enterLeast : GoodIn wsX4_advance wsX4_enterLeast := goodIn_r _ [19, 3, 5, 1, 20, 21, 22, 12, 23, 24, 25, 26, 27, 14, 28, 29, 30, 31, 32, 33, 34, 35, 36, 37, 38, 39, 40, 41, 42, 43, 44, 45, 46, 47, 48, 49, 50, 51, 52, 314, 315, 316, 317, 318, 319, 320, 321, 322] (by decide +kernel) (by decide +kernel)
set_option maxRecDepth 20000 in
theorem gX4_advance_X4_enterLeast : GoodIn wsX4_advance (wsV RX4 83 RX4 yX4_enterLeast wsX4_enterLeast) := goodIn_app (goodIn_of _ (by decide +kernel)) ggX4_advance_X4_enterLeast
set_option maxRecDepth 20000 in
theorem ggX4_advance_X4_cellAt : GoodIn wsX4_advance wsX4_cellAt := goodIn_r _ [56, 57, 314, 315, 316, 317, 318, 319, 320, 321] (by decide +kernel) (by decide +kernel)
set_option maxRecDepth 20000 in
theorem gX4_advance_X4_cellAt : GoodIn wsX4_advance (wsV RX4 51 RX4 yX4_cellAt wsX4_cellAt) := goodIn_app (goodIn_of _ (by decide +kernel)) ggX4_advance_X4_cellAt
set_option maxRecDepth 20000 in
theorem ggX4_advance_X4_perform : GoodIn wsX4_advance wsX4_perform := goodIn_r _ [61, 62, 63, 64, 65, 66, 67, 68, 69, 70, 71, 72, 73, 74, 75, 76, 77, 78, 79, 80, 81, 82, 83, 84, 85, 86, 87, 88, 89, 90, 91, 92, 93, 94, 95, 18, 96, 5, 97, 98, 99, 100, 3, 101, 25, 26, 12, 27, 14, 102, 33, 34, 35, 103, 104, 105, 106, 107, 108, 109, 50, 51, 52, 110, 111, 112, 113, 114, 115, 116, 117, 118, 119, 120, 121, 122, 123, 124, 125, 126, 127, 128, 129, 130, 131, 132, 133, 134, 135, 136, 137, 138, 139, 140, 141, 142, 143, 144, 145, 9, 10, 11, 13, 146, 147, 148, 149, 150, 151, 152, 153, 154, 155, 156, 157, 158, 29, 30, 31, 159, 160, 161, 162, 163, 164, 165, 166, 8, 53, 54, 55, 56, 57, 167, 168, 169, 170, 171, 172, 173, 174, 175, 176, 177, 178, 179, 180, 181, 182, 183, 184, 185, 186, 187, 188, 189, 190, 191, 192, 193, 194, 195, 196, 197, 198, 199, 200, 201, 202, 203, 204, 205, 206, 207, 208, 209, 41, 42, 43, 44, 45, 46, 47, 48, 49, 28, 210, 211, 212, 213, 214, 215, 216, 217, 218, 219, 220, 221, 222, 223, 224, 225, 226, 227, 228, 229, 230, 231, 232, 233, 234, 235, 236, 237, 238, 239, 240, 241, 242, 243, 244, 245, 246, 247, 24, 32, 248, 249, 250, 251, 252, 253, 254, 255, 256, 257, 258, 259, 260, 261, 262, 263, 264, 265, 266, 267, 268, 269, 270, 271, 272, 273, 274, 275, 276, 277, 278, 279, 280, 281, 282, 283, 284, 285, 286, 287, 288, 289, 290, 291, 292, 293, 294, 295, 296, 297, 20, 21, 22, 23, 298, 299, 300, 301, 302, 303, 304, 305, 306, 307, 308, 309, 310, 311, 312, 313, 7, 314, 315, 316, 317, 318, 319, 320, 321, 322, 323] (by decide +kernel) (by decide +kernel)
set_option maxRecDepth 20000 in
theorem gX4_advance_X4_perform : GoodIn wsX4_advance (wsV RX4 86 RX4 yX4_perform wsX4_perform) := goodIn_app (goodIn_of _ (by decide +kernel)) ggX4_advance_X4_perform
theorem dX4_advance_0 : decode cX4_advance 0 = .ok (.aload_n 0, 1) := by decide +kernel
theorem dX4_advance_1 : decode cX4_advance 1 = .ok (.getfield 36, 3) := by decide +kernel
theorem dX4_advance_4 : decode cX4_advance 4 = .ok (.ifCond .eq 34, 3) := by decide +kernel
theorem dX4_advance_7 : decode cX4_advance 7 = .ok (.aload_n 0, 1) := by decide +kernel
theorem dX4_advance_8 : decode cX4_advance 8 = .ok (.getfield 42, 3) := by decide +kernel
theorem dX4_advance_11 : decode cX4_advance 11 = .ok (.ifCond .ne 27, 3) := by decide +kernel
theorem dX4_advance_14 : decode cX4_advance 14 = .ok (.aload_n 0, 1) := by decide +kernel
theorem dX4_advance_15 : decode cX4_advance 15 = .ok (.getfield 16, 3) := by decide +kernel
theorem dX4_advance_18 : decode cX4_advance 18 = .ok (.bipush 7, 2) := by decide +kernel
theorem dX4_advance_20 : decode cX4_advance 20 = .ok (.invokevirtual 80, 3) := by decide +kernel
theorem dX4_advance_23 : decode cX4_advance 23 = .ok (.iconst 1, 1) := by decide +kernel
theorem dX4_advance_24 : decode cX4_advance 24 = .ok (.if_icmp .ne 14, 3) := by decide +kernel
theorem dX4_advance_27 : decode cX4_advance 27 = .ok (.aload_n 0, 1) := by decide +kernel
theorem dX4_advance_28 : decode cX4_advance 28 = .ok (.aload_n 0, 1) := by decide +kernel
theorem dX4_advance_29 : decode cX4_advance 29 = .ok (.invokevirtual 83, 3) := by decide +kernel
theorem dX4_advance_32 : decode cX4_advance 32 = .ok (.putfield 39, 3) := by decide +kernel
theorem dX4_advance_35 : decode cX4_advance 35 = .ok (.goto 49, 3) := by decide +kernel
theorem dX4_advance_38 : decode cX4_advance 38 = .ok (.aload_n 0, 1) := by decide +kernel
theorem dX4_advance_39 : decode cX4_advance 39 = .ok (.aload_n 0, 1) := by decide +kernel
theorem dX4_advance_40 : decode cX4_advance 40 = .ok (.getfield 32, 3) := by decide +kernel
theorem dX4_advance_43 : decode cX4_advance 43 = .ok (.invokevirtual 51, 3) := by decide +kernel
theorem dX4_advance_46 : decode cX4_advance 46 = .ok (.istore_n 1, 1) := by decide +kernel
theorem dX4_advance_47 : decode cX4_advance 47 = .ok (.aload_n 0, 1) := by decide +kernel
theorem dX4_advance_48 : decode cX4_advance 48 = .ok (.aload_n 0, 1) := by decide +kernel
theorem dX4_advance_49 : decode cX4_advance 49 = .ok (.iload_n 1, 1) := by decide +kernel
theorem dX4_advance_50 : decode cX4_advance 50 = .ok (.invokevirtual 86, 3) := by decide +kernel
theorem dX4_advance_53 : decode cX4_advance 53 = .ok (.putfield 39, 3) := by decide +kernel
theorem dX4_advance_56 : decode cX4_advance 56 = .ok (.aload_n 0, 1) := by decide +kernel
theorem dX4_advance_57 : decode cX4_advance 57 = .ok (.getfield 39, 3) := by decide +kernel
theorem dX4_advance_60 : decode cX4_advance 60 = .ok (.ifCond .ne 24, 3) := by decide +kernel
theorem dX4_advance_63 : decode cX4_advance 63 = .ok (.aload_n 0, 1) := by decide +kernel
theorem dX4_advance_64 : decode cX4_advance 64 = .ok (.iload_n 1, 1) := by decide +kernel
theorem dX4_advance_65 : decode cX4_advance 65 = .ok (.ldc 89, 2) := by decide +kernel
theorem dX4_advance_67 : decode cX4_advance 67 = .ok (.if_icmp .eq 9, 3) := by decide +kernel
theorem dX4_advance_70 : decode cX4_advance 70 = .ok (.iload_n 1, 1) := by decide +kernel
theorem dX4_advance_71 : decode cX4_advance 71 = .ok (.ldc 90, 2) := by decide +kernel
theorem dX4_advance_73 : decode cX4_advance 73 = .ok (.if_icmp .ne 7, 3) := by decide +kernel
theorem dX4_advance_76 : decode cX4_advance 76 = .ok (.iconst 1, 1) := by decide +kernel
theorem dX4_advance_77 : decode cX4_advance 77 = .ok (.goto 4, 3) := by decide +kernel
theorem dX4_advance_80 : decode cX4_advance 80 = .ok (.iconst 0, 1) := by decide +kernel
theorem dX4_advance_81 : decode cX4_advance 81 = .ok (.putfield 42, 3) := by decide +kernel
theorem dX4_advance_84 : decode cX4_advance 84 = .ok (.aload_n 0, 1) := by decide +kernel
theorem dX4_advance_85 : decode cX4_advance 85 = .ok (.getfield 29, 3) := by decide +kernel
theorem dX4_advance_88 : decode cX4_advance 88 = .ok (.aload_n 0, 1) := by decide +kernel
theorem dX4_advance_89 : decode cX4_advance 89 = .ok (.getfield 39, 3) := by decide +kernel
theorem dX4_advance_92 : decode cX4_advance 92 = .ok (.iconst 3, 1) := by decide +kernel
theorem dX4_advance_93 : decode cX4_advance 93 = .ok (.iand, 1) := by decide +kernel
theorem dX4_advance_94 : decode cX4_advance 94 = .ok (.dup2, 1) := by decide +kernel
theorem dX4_advance_95 : decode cX4_advance 95 = .ok (.iaload, 1) := by decide +kernel
theorem dX4_advance_96 : decode cX4_advance 96 = .ok (.iconst 1, 1) := by decide +kernel
theorem dX4_advance_97 : decode cX4_advance 97 = .ok (.iadd, 1) := by decide +kernel
theorem dX4_advance_98 : decode cX4_advance 98 = .ok (.iastore, 1) := by decide +kernel
theorem dX4_advance_99 : decode cX4_advance 99 = .ok (.aload_n 0, 1) := by decide +kernel
theorem dX4_advance_100 : decode cX4_advance 100 = .ok (.getfield 39, 3) := by decide +kernel
theorem dX4_advance_103 : decode cX4_advance 103 = .ok (.ireturn, 1) := by decide +kernel
set_option maxRecDepth 20000 in
theorem ggX4_enterLeast_X0_stacks : GoodIn wsX4_enterLeast wsX0_stacks := goodIn_r _ [8, 9, 10, 11, 7, 12, 13, 14, 15, 16, 17, 18, 19, 20, 21, 47] (by decide +kernel) (by decide +kernel)
set_option maxRecDepth 20000 in
theorem gX4_enterLeast_X0_stacks : GoodIn wsX4_enterLeast (wsV RX4 91 RX0 yX0_stacks wsX0_stacks) := goodIn_app (goodIn_of _ (by decide +kernel)) ggX4_enterLeast_X0_stacks
set_option maxRecDepth 20000 in
theorem ggX4_enterLeast_J6_numberOfTrailingZeros_0f7a4 : GoodIn wsX4_enterLeast wsJ6_numberOfTrailingZeros_0f7a4 := goodIn_r _ [25, 26] (by decide +kernel) (by decide +kernel)
set_option maxRecDepth 20000 in
theorem gX4_enterLeast_J6_numberOfTrailingZeros_0f7a4 : GoodIn wsX4_enterLeast (va_wsS RX4 94 yJ6_numberOfTrailingZeros_0f7a4 wsJ6_numberOfTrailingZeros_0f7a4) := goodIn_app (goodIn_of _ (by decide +kernel)) ggX4_enterLeast_J6_numberOfTrailingZeros_0f7a4
set_option maxRecDepth 20000 in
theorem ggX4_enterLeast_X0_setFlag : GoodIn wsX4_enterLeast wsX0_setFlag := goodIn_r _ [30, 31, 32, 33, 7, 34, 35, 36, 37, 38, 13, 14, 15, 16, 17, 47] (by decide +kernel) (by decide +kernel)
set_option maxRecDepth 20000 in
theorem gX4_enterLeast_X0_setFlag : GoodIn wsX4_enterLeast (wsV RX4 99 RX0 yX0_setFlag wsX0_setFlag) := goodIn_app (goodIn_of _ (by decide +kernel)) ggX4_enterLeast_X0_setFlag
theorem dX4_enterLeast_0 : decode cX4_enterLeast 0 = .ok (.aload_n 0, 1) := by decide +kernel
theorem dX4_enterLeast_1 : decode cX4_enterLeast 1 = .ok (.getfield 16, 3) := by decide +kernel
theorem dX4_enterLeast_4 : decode cX4_enterLeast 4 = .ok (.aload_n 0, 1) := by decide +kernel
theorem dX4_enterLeast_5 : decode cX4_enterLeast 5 = .ok (.getfield 32, 3) := by decide +kernel
theorem dX4_enterLeast_8 : decode cX4_enterLeast 8 = .ok (.invokevirtual 91, 3) := by decide +kernel
theorem dX4_enterLeast_11 : decode cX4_enterLeast 11 = .ok (.ifCond .ne 5, 3) := by decide +kernel
theorem dX4_enterLeast_14 : decode cX4_enterLeast 14 = .ok (.iconst 3, 1) := by decide +kernel
theorem dX4_enterLeast_15 : decode cX4_enterLeast 15 = .ok (.ireturn, 1) := by decide +kernel
theorem dX4_enterLeast_16 : decode cX4_enterLeast 16 = .ok (.aload_n 0, 1) := by decide +kernel
theorem dX4_enterLeast_17 : decode cX4_enterLeast 17 = .ok (.iconst 2, 1) := by decide +kernel
theorem dX4_enterLeast_18 : decode cX4_enterLeast 18 = .ok (.aload_n 0, 1) := by decide +kernel
theorem dX4_enterLeast_19 : decode cX4_enterLeast 19 = .ok (.getfield 36, 3) := by decide +kernel
theorem dX4_enterLeast_22 : decode cX4_enterLeast 22 = .ok (.invokestatic 94, 3) := by decide +kernel
theorem dX4_enterLeast_25 : decode cX4_enterLeast 25 = .ok (.imul, 1) := by decide +kernel
theorem dX4_enterLeast_26 : decode cX4_enterLeast 26 = .ok (.sipush 1023, 3) := by decide +kernel
theorem dX4_enterLeast_29 : decode cX4_enterLeast 29 = .ok (.iand, 1) := by decide +kernel
theorem dX4_enterLeast_30 : decode cX4_enterLeast 30 = .ok (.putfield 32, 3) := by decide +kernel
theorem dX4_enterLeast_33 : decode cX4_enterLeast 33 = .ok (.aload_n 0, 1) := by decide +kernel
theorem dX4_enterLeast_34 : decode cX4_enterLeast 34 = .ok (.dup, 1) := by decide +kernel
theorem dX4_enterLeast_35 : decode cX4_enterLeast 35 = .ok (.getfield 36, 3) := by decide +kernel
theorem dX4_enterLeast_38 : decode cX4_enterLeast 38 = .ok (.aload_n 0, 1) := by decide +kernel
theorem dX4_enterLeast_39 : decode cX4_enterLeast 39 = .ok (.getfield 36, 3) := by decide +kernel
theorem dX4_enterLeast_42 : decode cX4_enterLeast 42 = .ok (.iconst 1, 1) := by decide +kernel
theorem dX4_enterLeast_43 : decode cX4_enterLeast 43 = .ok (.isub, 1) := by decide +kernel
theorem dX4_enterLeast_44 : decode cX4_enterLeast 44 = .ok (.iand, 1) := by decide +kernel
theorem dX4_enterLeast_45 : decode cX4_enterLeast 45 = .ok (.putfield 36, 3) := by decide +kernel
theorem dX4_enterLeast_48 : decode cX4_enterLeast 48 = .ok (.aload_n 0, 1) := by decide +kernel
theorem dX4_enterLeast_49 : decode cX4_enterLeast 49 = .ok (.getfield 16, 3) := by decide +kernel
theorem dX4_enterLeast_52 : decode cX4_enterLeast 52 = .ok (.bipush 7, 2) := by decide +kernel
theorem dX4_enterLeast_54 : decode cX4_enterLeast 54 = .ok (.iconst 0, 1) := by decide +kernel
theorem dX4_enterLeast_55 : decode cX4_enterLeast 55 = .ok (.invokevirtual 99, 3) := by decide +kernel
theorem dX4_enterLeast_58 : decode cX4_enterLeast 58 = .ok (.iconst 1, 1) := by decide +kernel
theorem dX4_enterLeast_59 : decode cX4_enterLeast 59 = .ok (.ireturn, 1) := by decide +kernel
set_option maxRecDepth 20000 in
theorem ggX4_perform_X3_groupOf : GoodIn wsX4_perform wsX3_groupOf := goodIn_r _ [4, 5, 6, 3, 7, 8, 9, 10, 11, 12, 13, 14, 15, 16, 17, 18, 19, 20, 21, 22, 23, 24, 25, 26, 27, 28, 29, 30, 31] (by decide +kernel) (by decide +kernel)
set_option maxRecDepth 20000 in
theorem gX4_perform_X3_groupOf : GoodIn wsX4_perform (va_wsS RX4 69 yX3_groupOf wsX3_groupOf) := goodIn_app (goodIn_of _ (by decide +kernel)) ggX4_perform_X3_groupOf
set_option maxRecDepth 20000 in
theorem ggX4_perform_X4_onward : GoodIn wsX4_perform wsX4_onward := goodIn_r _ [36, 37, 297, 298, 299, 300, 301, 302, 303, 304] (by decide +kernel) (by decide +kernel)
set_option maxRecDepth 20000 in
theorem gX4_perform_X4_onward : GoodIn wsX4_perform (wsV RX4 102 RX4 yX4_onward wsX4_onward) := goodIn_app (goodIn_of _ (by decide +kernel)) ggX4_perform_X4_onward
set_option maxRecDepth 20000 in
theorem ggX4_perform_X4_movePair : GoodIn wsX4_perform wsX4_movePair := goodIn_r _ [41, 42, 43, 44, 45, 46, 47, 48, 49, 50, 51, 52, 32, 33, 34, 35, 36, 37, 297, 298, 299, 300, 301, 302, 303, 304, 305] (by decide +kernel) (by decide +kernel)
set_option maxRecDepth 20000 in
theorem gX4_perform_X4_movePair : GoodIn wsX4_perform (wsV RX4 105 RX4 yX4_movePair wsX4_movePair) := goodIn_app (goodIn_of _ (by decide +kernel)) ggX4_perform_X4_movePair
set_option maxRecDepth 20000 in
theorem ggX4_perform_X4_multiply : GoodIn wsX4_perform wsX4_multiply := goodIn_r _ [56, 57, 42, 58, 15, 3, 16, 59, 60, 61, 46, 62, 48, 63, 64, 65, 66, 67, 68, 69, 70, 71, 72, 73, 74, 75, 76, 77, 78, 50, 51, 52, 79, 80, 81, 82, 83, 84, 85, 86, 87, 88, 89, 35, 90, 91, 92, 93, 94, 32, 33, 34, 36, 37, 297, 298, 299, 300, 301, 302, 303, 304, 305, 306] (by decide +kernel) (by decide +kernel)
set_option maxRecDepth 20000 in
theorem gX4_perform_X4_multiply : GoodIn wsX4_perform (wsV RX4 108 RX4 yX4_multiply wsX4_multiply) := goodIn_app (goodIn_of _ (by decide +kernel)) ggX4_perform_X4_multiply
set_option maxRecDepth 20000 in
theorem ggX4_perform_X4_combine : GoodIn wsX4_perform wsX4_combine := goodIn_r _ [98, 42, 57, 58, 15, 3, 16, 59, 60, 61, 46, 62, 48, 63, 64, 65, 99, 100, 101, 102, 103, 104, 105, 69, 106, 75, 107, 108, 109, 110, 111, 112, 113, 114, 79, 80, 81, 82, 115, 116, 117, 118, 119, 120, 121, 122, 123, 124, 125, 35, 126, 37, 127, 32, 33, 34, 36, 128, 129, 130, 131, 132, 133, 134, 135, 136, 137, 138, 139, 140, 141, 142, 143, 144, 145, 146, 147, 297, 298, 299, 300, 301, 302, 303, 304, 305, 306] (by decide +kernel) (by decide +kernel)
set_option maxRecDepth 20000 in
theorem gX4_perform_X4_combine : GoodIn wsX4_perform (wsV RX4 111 RX4 yX4_combine wsX4_combine) := goodIn_app (goodIn_of _ (by decide +kernel)) ggX4_perform_X4_combine
set_option maxRecDepth 20000 in
theorem ggX4_perform_X4_combineWithNumber : GoodIn wsX4_perform wsX4_combineWithNumber := goodIn_r _ [151, 42, 57, 59, 60, 61, 46, 62, 48, 140, 141, 142, 69, 143, 108, 109, 110, 111, 75, 112, 113, 114, 79, 80, 81, 82, 99, 100, 101, 102, 103, 104, 105, 106, 107, 115, 116, 117, 118, 144, 145, 146, 147, 32, 33, 34, 35, 36, 37, 297, 298, 299, 300, 301, 302, 303, 304, 305, 306] (by decide +kernel) (by decide +kernel)
set_option maxRecDepth 20000 in
theorem gX4_perform_X4_combineWithNumber : GoodIn wsX4_perform (wsV RX4 114 RX4 yX4_combineWithNumber wsX4_combineWithNumber) := goodIn_app (goodIn_of _ (by decide +kernel)) ggX4_perform_X4_combineWithNumber
set_option maxRecDepth 20000 in
theorem ggX4_perform_X4_change : GoodIn wsX4_perform wsX4_change := goodIn_r _ [155, 42, 57, 58, 15, 3, 16, 59, 60, 61, 46, 62, 48, 156, 157, 158, 69, 159, 75, 112, 113, 114, 79, 80, 81, 82, 115, 116, 117, 118, 140, 141, 142, 143, 108, 109, 110, 111, 160, 161, 162, 163, 164, 165, 166, 167, 99, 100, 101, 102, 168, 169, 170, 171, 32, 33, 34, 35, 36, 37, 297, 298, 299, 300, 301, 302, 303, 304, 305, 306] (by decide +kernel) (by decide +kernel)
set_option maxRecDepth 20000 in
theorem gX4_perform_X4_change : GoodIn wsX4_perform (wsV RX4 117 RX4 yX4_change wsX4_change) := goodIn_app (goodIn_of _ (by decide +kernel)) ggX4_perform_X4_change
set_option maxRecDepth 20000 in
theorem ggX4_perform_X4_setFlag : GoodIn wsX4_perform wsX4_setFlag := goodIn_r _ [175, 42, 176, 177, 178, 46, 179, 180, 181, 182, 183, 184, 60, 61, 62, 48, 185, 116, 117, 118, 32, 33, 34, 35, 36, 37, 297, 298, 299, 300, 301, 302, 303, 304, 305] (by decide +kernel) (by decide +kernel)
set_option maxRecDepth 20000 in
theorem gX4_perform_X4_setFlag : GoodIn wsX4_perform (wsV RX4 120 RX4 yX4_setFlag wsX4_setFlag) := goodIn_app (goodIn_of _ (by decide +kernel)) ggX4_perform_X4_setFlag
set_option maxRecDepth 20000 in
theorem ggX4_perform_X4_changePair : GoodIn wsX4_perform wsX4_changePair := goodIn_r _ [189, 42, 57, 43, 44, 45, 46, 47, 48, 190, 191, 192, 69, 193, 77, 194, 195, 196, 197, 76, 75, 112, 113, 114, 79, 80, 81, 82, 198, 199, 200, 201, 49, 50, 51, 52, 32, 33, 34, 35, 36, 37, 297, 298, 299, 300, 301, 302, 303, 304, 305, 306] (by decide +kernel) (by decide +kernel)
set_option maxRecDepth 20000 in
theorem gX4_perform_X4_changePair : GoodIn wsX4_perform (wsV RX4 122 RX4 yX4_changePair wsX4_changePair) := goodIn_app (goodIn_of _ (by decide +kernel)) ggX4_perform_X4_changePair
set_option maxRecDepth 20000 in
theorem ggX4_perform_X4_moveAtNext : GoodIn wsX4_perform wsX4_moveAtNext := goodIn_r _ [205, 37, 128, 129, 130, 35, 131, 132, 206, 207, 208, 209, 42, 58, 15, 3, 16, 59, 60, 61, 46, 62, 48, 115, 116, 117, 118, 32, 33, 34, 36, 297, 298, 299, 300, 301, 302, 303, 304, 305] (by decide +kernel) (by decide +kernel)
set_option maxRecDepth 20000 in
theorem gX4_perform_X4_moveAtNext : GoodIn wsX4_perform (wsV RX4 125 RX4 yX4_moveAtNext wsX4_moveAtNext) := goodIn_app (goodIn_of _ (by decide +kernel)) ggX4_perform_X4_moveAtNext
set_option maxRecDepth 20000 in
theorem ggX4_perform_X4_movePointed : GoodIn wsX4_perform wsX4_movePointed := goodIn_r _ [213, 42, 214, 215, 18, 3, 19, 43, 44, 45, 46, 47, 48, 49, 50, 51, 52, 206, 207, 208, 35, 209, 58, 15, 16, 59, 60, 61, 62, 115, 116, 117, 118, 32, 33, 34, 36, 37, 297, 298, 299, 300, 301, 302, 303, 304, 305] (by decide +kernel) (by decide +kernel)
set_option maxRecDepth 20000 in
theorem gX4_perform_X4_movePointed : GoodIn wsX4_perform (wsV RX4 128 RX4 yX4_movePointed wsX4_movePointed) := goodIn_app (goodIn_of _ (by decide +kernel)) ggX4_perform_X4_movePointed
set_option maxRecDepth 20000 in
theorem ggX4_perform_X4_moveStacked : GoodIn wsX4_perform wsX4_moveStacked := goodIn_r _ [219, 42, 214, 43, 44, 45, 46, 47, 48, 58, 15, 3, 16, 220, 221, 222, 223, 224, 225, 50, 51, 52, 184, 60, 61, 62, 115, 116, 117, 118, 59, 226, 227, 228, 229, 185, 32, 33, 34, 35, 36, 37, 297, 298, 299, 300, 301, 302, 303, 304, 305] (by decide +kernel) (by decide +kernel)
set_option maxRecDepth 20000 in
theorem gX4_perform_X4_moveStacked : GoodIn wsX4_perform (wsV RX4 131 RX4 yX4_moveStacked wsX4_moveStacked) := goodIn_app (goodIn_of _ (by decide +kernel)) ggX4_perform_X4_moveStacked
set_option maxRecDepth 20000 in
theorem ggX4_perform_X4_moveBeside : GoodIn wsX4_perform wsX4_moveBeside := goodIn_r _ [233, 42, 214, 43, 44, 45, 46, 47, 48, 206, 207, 208, 35, 209, 58, 15, 3, 16, 59, 60, 61, 62, 115, 116, 117, 118, 32, 33, 34, 36, 37, 297, 298, 299, 300, 301, 302, 303, 304, 305] (by decide +kernel) (by decide +kernel)
set_option maxRecDepth 20000 in
theorem gX4_perform_X4_moveBeside : GoodIn wsX4_perform (wsV RX4 134 RX4 yX4_moveBeside wsX4_moveBeside) := goodIn_app (goodIn_of _ (by decide +kernel)) ggX4_perform_X4_moveBeside
set_option maxRecDepth 20000 in
theorem ggX4_perform_X4_moveFromCode : GoodIn wsX4_perform wsX4_moveFromCode := goodIn_r _ [237, 42, 238, 43, 44, 45, 46, 47, 48, 128, 129, 130, 35, 131, 132, 58, 15, 3, 16, 115, 116, 117, 118, 49, 50, 51, 52, 32, 33, 34, 36, 37, 297, 298, 299, 300, 301, 302, 303, 304, 305] (by decide +kernel) (by decide +kernel)
set_option maxRecDepth 20000 in
theorem gX4_perform_X4_moveFromCode : GoodIn wsX4_perform (wsV RX4 137 RX4 yX4_moveFromCode wsX4_moveFromCode) := goodIn_app (goodIn_of _ (by decide +kernel)) ggX4_perform_X4_moveFromCode
set_option maxRecDepth 20000 in
theorem ggX4_perform_X4_movePort : GoodIn wsX4_perform wsX4_movePort := goodIn_r _ [242, 42, 58, 15, 3, 16, 59, 60, 61, 46, 62, 48, 115, 116, 117, 118, 32, 33, 34, 35, 36, 37, 297, 298, 299, 300, 301, 302, 303, 304, 305] (by decide +kernel) (by decide +kernel)
set_option maxRecDepth 20000 in
theorem gX4_perform_X4_movePort : GoodIn wsX4_perform (wsV RX4 140 RX4 yX4_movePort wsX4_movePort) := goodIn_app (goodIn_of _ (by decide +kernel)) ggX4_perform_X4_movePort
set_option maxRecDepth 20000 in
theorem ggX4_perform_X4_setPortBit : GoodIn wsX4_perform wsX4_setPortBit := goodIn_r _ [246, 42, 247, 181, 182, 46, 183, 184, 60, 61, 62, 48, 185, 116, 117, 118, 32, 33, 34, 35, 36, 37, 297, 298, 299, 300, 301, 302, 303, 304, 305] (by decide +kernel) (by decide +kernel)
set_option maxRecDepth 20000 in
theorem gX4_perform_X4_setPortBit : GoodIn wsX4_perform (wsV RX4 143 RX4 yX4_setPortBit wsX4_setPortBit) := goodIn_app (goodIn_of _ (by decide +kernel)) ggX4_perform_X4_setPortBit
set_option maxRecDepth 20000 in
theorem ggX4_perform_X4_skipByPort : GoodIn wsX4_perform wsX4_skipByPort := goodIn_r _ [251, 42, 252, 253, 254, 46, 255, 48, 123, 124, 125, 35, 126, 37, 127, 32, 33, 34, 36, 128, 129, 130, 131, 132, 133, 134, 3, 135, 136, 137, 138, 139, 297, 298, 299, 300, 301, 302, 303, 304, 305] (by decide +kernel) (by decide +kernel)
set_option maxRecDepth 20000 in
theorem gX4_perform_X4_skipByPort : GoodIn wsX4_perform (wsV RX4 146 RX4 yX4_skipByPort wsX4_skipByPort) := goodIn_app (goodIn_of _ (by decide +kernel)) ggX4_perform_X4_skipByPort
set_option maxRecDepth 20000 in
theorem ggX4_perform_X4_skipByBit : GoodIn wsX4_perform wsX4_skipByBit := goodIn_r _ [259, 42, 58, 15, 3, 16, 252, 253, 254, 46, 255, 48, 123, 124, 125, 35, 126, 37, 127, 32, 33, 34, 36, 128, 129, 130, 131, 132, 133, 134, 135, 136, 137, 138, 139, 297, 298, 299, 300, 301, 302, 303, 304, 305] (by decide +kernel) (by decide +kernel)
set_option maxRecDepth 20000 in
theorem gX4_perform_X4_skipByBit : GoodIn wsX4_perform (wsV RX4 149 RX4 yX4_skipByBit wsX4_skipByBit) := goodIn_app (goodIn_of _ (by decide +kernel)) ggX4_perform_X4_skipByBit
set_option maxRecDepth 20000 in
theorem ggX4_perform_X4_moveBit : GoodIn wsX4_perform wsX4_moveBit := goodIn_r _ [263, 42, 58, 15, 3, 16, 99, 100, 101, 46, 102, 48, 247, 181, 182, 183, 184, 60, 61, 62, 185, 116, 117, 118, 252, 253, 254, 255, 176, 177, 178, 179, 180, 32, 33, 34, 35, 36, 37, 297, 298, 299, 300, 301, 302, 303, 304, 305] (by decide +kernel) (by decide +kernel)
set_option maxRecDepth 20000 in
theorem gX4_perform_X4_moveBit : GoodIn wsX4_perform (wsV RX4 152 RX4 yX4_moveBit wsX4_moveBit) := goodIn_app (goodIn_of _ (by decide +kernel)) ggX4_perform_X4_moveBit
set_option maxRecDepth 20000 in
theorem ggX4_perform_X4_jumpNear : GoodIn wsX4_perform wsX4_jumpNear := goodIn_r _ [267, 37, 268, 269, 270, 35, 271, 272, 273, 274, 275, 42, 127, 276, 277, 278, 46, 279, 224, 44, 45, 47, 48, 185, 116, 117, 118, 225, 50, 51, 52, 297, 298, 299, 300, 301, 302, 303, 304, 305] (by decide +kernel) (by decide +kernel)
set_option maxRecDepth 20000 in
theorem gX4_perform_X4_jumpNear : GoodIn wsX4_perform (wsV RX4 155 RX4 yX4_jumpNear wsX4_jumpNear) := goodIn_app (goodIn_of _ (by decide +kernel)) ggX4_perform_X4_jumpNear
set_option maxRecDepth 20000 in
theorem ggX4_perform_X4_branch : GoodIn wsX4_perform wsX4_branch := goodIn_r _ [283, 42, 99, 100, 101, 46, 102, 48, 32, 33, 34, 35, 36, 37, 297, 298, 299, 300, 301, 302, 303, 304, 305] (by decide +kernel) (by decide +kernel)
set_option maxRecDepth 20000 in
theorem gX4_perform_X4_branch : GoodIn wsX4_perform (wsV RX4 158 RX4 yX4_branch wsX4_branch) := goodIn_app (goodIn_of _ (by decide +kernel)) ggX4_perform_X4_branch
set_option maxRecDepth 20000 in
theorem ggX4_perform_X4_jumpFar : GoodIn wsX4_perform wsX4_jumpFar := goodIn_r _ [287, 37, 128, 129, 130, 35, 131, 132, 268, 269, 270, 271, 272, 273, 274, 275, 42, 127, 276, 277, 278, 46, 279, 224, 44, 45, 47, 48, 185, 116, 117, 118, 225, 50, 51, 52, 297, 298, 299, 300, 301, 302, 303, 304, 305] (by decide +kernel) (by decide +kernel)
set_option maxRecDepth 20000 in
theorem gX4_perform_X4_jumpFar : GoodIn wsX4_perform (wsV RX4 161 RX4 yX4_jumpFar wsX4_jumpFar) := goodIn_app (goodIn_of _ (by decide +kernel)) ggX4_perform_X4_jumpFar
set_option maxRecDepth 20000 in
theorem ggX4_perform_X4_jumpToZ : GoodIn wsX4_perform wsX4_jumpToZ := goodIn_r _ [291, 42, 37, 43, 44, 45, 46, 47, 48, 268, 269, 270, 35, 271, 272, 273, 274, 275, 127, 276, 277, 278, 279, 224, 185, 116, 117, 118, 225, 50, 51, 52, 297, 298, 299, 300, 301, 302, 303, 304, 305] (by decide +kernel) (by decide +kernel)
set_option maxRecDepth 20000 in
theorem gX4_perform_X4_jumpToZ : GoodIn wsX4_perform (wsV RX4 164 RX4 yX4_jumpToZ wsX4_jumpToZ) := goodIn_app (goodIn_of _ (by decide +kernel)) ggX4_perform_X4_jumpToZ
set_option maxRecDepth 20000 in
theorem ggX4_perform_X4_comeBack : GoodIn wsX4_perform wsX4_comeBack := goodIn_r _ [295, 42, 214, 296, 43, 44, 45, 46, 47, 48, 220, 221, 222, 223, 224, 225, 50, 51, 52, 184, 60, 61, 62, 176, 177, 178, 179, 180, 181, 182, 183, 185, 116, 117, 118, 268, 269, 270, 35, 271, 37, 297, 298, 299, 300, 301, 302, 303, 304, 305] (by decide +kernel) (by decide +kernel)
set_option maxRecDepth 20000 in
theorem gX4_perform_X4_comeBack : GoodIn wsX4_perform (wsV RX4 167 RX4 yX4_comeBack wsX4_comeBack) := goodIn_app (goodIn_of _ (by decide +kernel)) ggX4_perform_X4_comeBack
theorem dX4_perform_0 : decode cX4_perform 0 = .ok (.iload_n 1, 1) := by decide +kernel
theorem dX4_perform_1 : decode cX4_perform 1 = .ok (.invokestatic 69, 3) := by decide +kernel
theorem dX4_perform_4 : decode cX4_perform 4 = .ok (.tableswitch 246 1 23 #[108, 114, 120, 126, 132, 138, 144, 150, 156, 162, 168, 174, 180, 186, 192, 198, 204, 210, 216, 222, 228, 234, 240], 108) := by decide +kernel
theorem dX4_perform_112 : decode cX4_perform 112 = .ok (.aload_n 0, 1) := by decide +kernel
theorem dX4_perform_113 : decode cX4_perform 113 = .ok (.iconst 1, 1) := by decide +kernel
theorem dX4_perform_114 : decode cX4_perform 114 = .ok (.invokevirtual 102, 3) := by decide +kernel
theorem dX4_perform_117 : decode cX4_perform 117 = .ok (.ireturn, 1) := by decide +kernel
theorem dX4_perform_118 : decode cX4_perform 118 = .ok (.aload_n 0, 1) := by decide +kernel
theorem dX4_perform_119 : decode cX4_perform 119 = .ok (.iload_n 1, 1) := by decide +kernel
theorem dX4_perform_120 : decode cX4_perform 120 = .ok (.invokevirtual 105, 3) := by decide +kernel
theorem dX4_perform_123 : decode cX4_perform 123 = .ok (.ireturn, 1) := by decide +kernel
theorem dX4_perform_124 : decode cX4_perform 124 = .ok (.aload_n 0, 1) := by decide +kernel
theorem dX4_perform_125 : decode cX4_perform 125 = .ok (.iload_n 1, 1) := by decide +kernel
theorem dX4_perform_126 : decode cX4_perform 126 = .ok (.invokevirtual 108, 3) := by decide +kernel
theorem dX4_perform_129 : decode cX4_perform 129 = .ok (.ireturn, 1) := by decide +kernel
theorem dX4_perform_130 : decode cX4_perform 130 = .ok (.aload_n 0, 1) := by decide +kernel
theorem dX4_perform_131 : decode cX4_perform 131 = .ok (.iload_n 1, 1) := by decide +kernel
theorem dX4_perform_132 : decode cX4_perform 132 = .ok (.invokevirtual 111, 3) := by decide +kernel
theorem dX4_perform_135 : decode cX4_perform 135 = .ok (.ireturn, 1) := by decide +kernel
theorem dX4_perform_136 : decode cX4_perform 136 = .ok (.aload_n 0, 1) := by decide +kernel
theorem dX4_perform_137 : decode cX4_perform 137 = .ok (.iload_n 1, 1) := by decide +kernel
theorem dX4_perform_138 : decode cX4_perform 138 = .ok (.invokevirtual 114, 3) := by decide +kernel
theorem dX4_perform_141 : decode cX4_perform 141 = .ok (.ireturn, 1) := by decide +kernel
theorem dX4_perform_142 : decode cX4_perform 142 = .ok (.aload_n 0, 1) := by decide +kernel
theorem dX4_perform_143 : decode cX4_perform 143 = .ok (.iload_n 1, 1) := by decide +kernel
theorem dX4_perform_144 : decode cX4_perform 144 = .ok (.invokevirtual 117, 3) := by decide +kernel
theorem dX4_perform_147 : decode cX4_perform 147 = .ok (.ireturn, 1) := by decide +kernel
theorem dX4_perform_148 : decode cX4_perform 148 = .ok (.aload_n 0, 1) := by decide +kernel
theorem dX4_perform_149 : decode cX4_perform 149 = .ok (.iload_n 1, 1) := by decide +kernel
theorem dX4_perform_150 : decode cX4_perform 150 = .ok (.invokevirtual 120, 3) := by decide +kernel
theorem dX4_perform_153 : decode cX4_perform 153 = .ok (.ireturn, 1) := by decide +kernel
theorem dX4_perform_154 : decode cX4_perform 154 = .ok (.aload_n 0, 1) := by decide +kernel
theorem dX4_perform_155 : decode cX4_perform 155 = .ok (.iload_n 1, 1) := by decide +kernel
theorem dX4_perform_156 : decode cX4_perform 156 = .ok (.invokevirtual 122, 3) := by decide +kernel
theorem dX4_perform_159 : decode cX4_perform 159 = .ok (.ireturn, 1) := by decide +kernel
theorem dX4_perform_160 : decode cX4_perform 160 = .ok (.aload_n 0, 1) := by decide +kernel
theorem dX4_perform_161 : decode cX4_perform 161 = .ok (.iload_n 1, 1) := by decide +kernel
theorem dX4_perform_162 : decode cX4_perform 162 = .ok (.invokevirtual 125, 3) := by decide +kernel
theorem dX4_perform_165 : decode cX4_perform 165 = .ok (.ireturn, 1) := by decide +kernel
theorem dX4_perform_166 : decode cX4_perform 166 = .ok (.aload_n 0, 1) := by decide +kernel
theorem dX4_perform_167 : decode cX4_perform 167 = .ok (.iload_n 1, 1) := by decide +kernel
theorem dX4_perform_168 : decode cX4_perform 168 = .ok (.invokevirtual 128, 3) := by decide +kernel
theorem dX4_perform_171 : decode cX4_perform 171 = .ok (.ireturn, 1) := by decide +kernel
theorem dX4_perform_172 : decode cX4_perform 172 = .ok (.aload_n 0, 1) := by decide +kernel
theorem dX4_perform_173 : decode cX4_perform 173 = .ok (.iload_n 1, 1) := by decide +kernel
theorem dX4_perform_174 : decode cX4_perform 174 = .ok (.invokevirtual 131, 3) := by decide +kernel
theorem dX4_perform_177 : decode cX4_perform 177 = .ok (.ireturn, 1) := by decide +kernel
theorem dX4_perform_178 : decode cX4_perform 178 = .ok (.aload_n 0, 1) := by decide +kernel
theorem dX4_perform_179 : decode cX4_perform 179 = .ok (.iload_n 1, 1) := by decide +kernel
theorem dX4_perform_180 : decode cX4_perform 180 = .ok (.invokevirtual 134, 3) := by decide +kernel
theorem dX4_perform_183 : decode cX4_perform 183 = .ok (.ireturn, 1) := by decide +kernel
theorem dX4_perform_184 : decode cX4_perform 184 = .ok (.aload_n 0, 1) := by decide +kernel
theorem dX4_perform_185 : decode cX4_perform 185 = .ok (.iload_n 1, 1) := by decide +kernel
theorem dX4_perform_186 : decode cX4_perform 186 = .ok (.invokevirtual 137, 3) := by decide +kernel
theorem dX4_perform_189 : decode cX4_perform 189 = .ok (.ireturn, 1) := by decide +kernel
theorem dX4_perform_190 : decode cX4_perform 190 = .ok (.aload_n 0, 1) := by decide +kernel
theorem dX4_perform_191 : decode cX4_perform 191 = .ok (.iload_n 1, 1) := by decide +kernel
theorem dX4_perform_192 : decode cX4_perform 192 = .ok (.invokevirtual 140, 3) := by decide +kernel
theorem dX4_perform_195 : decode cX4_perform 195 = .ok (.ireturn, 1) := by decide +kernel
theorem dX4_perform_196 : decode cX4_perform 196 = .ok (.aload_n 0, 1) := by decide +kernel
theorem dX4_perform_197 : decode cX4_perform 197 = .ok (.iload_n 1, 1) := by decide +kernel
theorem dX4_perform_198 : decode cX4_perform 198 = .ok (.invokevirtual 143, 3) := by decide +kernel
theorem dX4_perform_201 : decode cX4_perform 201 = .ok (.ireturn, 1) := by decide +kernel
theorem dX4_perform_202 : decode cX4_perform 202 = .ok (.aload_n 0, 1) := by decide +kernel
theorem dX4_perform_203 : decode cX4_perform 203 = .ok (.iload_n 1, 1) := by decide +kernel
theorem dX4_perform_204 : decode cX4_perform 204 = .ok (.invokevirtual 146, 3) := by decide +kernel
theorem dX4_perform_207 : decode cX4_perform 207 = .ok (.ireturn, 1) := by decide +kernel
theorem dX4_perform_208 : decode cX4_perform 208 = .ok (.aload_n 0, 1) := by decide +kernel
theorem dX4_perform_209 : decode cX4_perform 209 = .ok (.iload_n 1, 1) := by decide +kernel
theorem dX4_perform_210 : decode cX4_perform 210 = .ok (.invokevirtual 149, 3) := by decide +kernel
theorem dX4_perform_213 : decode cX4_perform 213 = .ok (.ireturn, 1) := by decide +kernel
theorem dX4_perform_214 : decode cX4_perform 214 = .ok (.aload_n 0, 1) := by decide +kernel
theorem dX4_perform_215 : decode cX4_perform 215 = .ok (.iload_n 1, 1) := by decide +kernel
theorem dX4_perform_216 : decode cX4_perform 216 = .ok (.invokevirtual 152, 3) := by decide +kernel
theorem dX4_perform_219 : decode cX4_perform 219 = .ok (.ireturn, 1) := by decide +kernel
theorem dX4_perform_220 : decode cX4_perform 220 = .ok (.aload_n 0, 1) := by decide +kernel
theorem dX4_perform_221 : decode cX4_perform 221 = .ok (.iload_n 1, 1) := by decide +kernel
theorem dX4_perform_222 : decode cX4_perform 222 = .ok (.invokevirtual 155, 3) := by decide +kernel
theorem dX4_perform_225 : decode cX4_perform 225 = .ok (.ireturn, 1) := by decide +kernel
theorem dX4_perform_226 : decode cX4_perform 226 = .ok (.aload_n 0, 1) := by decide +kernel
theorem dX4_perform_227 : decode cX4_perform 227 = .ok (.iload_n 1, 1) := by decide +kernel
theorem dX4_perform_228 : decode cX4_perform 228 = .ok (.invokevirtual 158, 3) := by decide +kernel
theorem dX4_perform_231 : decode cX4_perform 231 = .ok (.ireturn, 1) := by decide +kernel
theorem dX4_perform_232 : decode cX4_perform 232 = .ok (.aload_n 0, 1) := by decide +kernel
theorem dX4_perform_233 : decode cX4_perform 233 = .ok (.iload_n 1, 1) := by decide +kernel
theorem dX4_perform_234 : decode cX4_perform 234 = .ok (.invokevirtual 161, 3) := by decide +kernel
theorem dX4_perform_237 : decode cX4_perform 237 = .ok (.ireturn, 1) := by decide +kernel
theorem dX4_perform_238 : decode cX4_perform 238 = .ok (.aload_n 0, 1) := by decide +kernel
theorem dX4_perform_239 : decode cX4_perform 239 = .ok (.iload_n 1, 1) := by decide +kernel
theorem dX4_perform_240 : decode cX4_perform 240 = .ok (.invokevirtual 164, 3) := by decide +kernel
theorem dX4_perform_243 : decode cX4_perform 243 = .ok (.ireturn, 1) := by decide +kernel
theorem dX4_perform_244 : decode cX4_perform 244 = .ok (.aload_n 0, 1) := by decide +kernel
theorem dX4_perform_245 : decode cX4_perform 245 = .ok (.iload_n 1, 1) := by decide +kernel
theorem dX4_perform_246 : decode cX4_perform 246 = .ok (.invokevirtual 167, 3) := by decide +kernel
theorem dX4_perform_249 : decode cX4_perform 249 = .ok (.ireturn, 1) := by decide +kernel
theorem dX4_perform_250 : decode cX4_perform 250 = .ok (.iconst 2, 1) := by decide +kernel
theorem dX4_perform_251 : decode cX4_perform 251 = .ok (.ireturn, 1) := by decide +kernel
theorem dX4_onward_0 : decode cX4_onward 0 = .ok (.aload_n 0, 1) := by decide +kernel
theorem dX4_onward_1 : decode cX4_onward 1 = .ok (.aload_n 0, 1) := by decide +kernel
theorem dX4_onward_2 : decode cX4_onward 2 = .ok (.getfield 32, 3) := by decide +kernel
theorem dX4_onward_5 : decode cX4_onward 5 = .ok (.iload_n 1, 1) := by decide +kernel
end
section
theorem dX4_onward_6 : decode cX4_onward 6 = .ok (.iadd, 1) := by decide +kernel
theorem dX4_onward_7 : decode cX4_onward 7 = .ok (.sipush 1023, 3) := by decide +kernel
theorem dX4_onward_10 : decode cX4_onward 10 = .ok (.iand, 1) := by decide +kernel
theorem dX4_onward_11 : decode cX4_onward 11 = .ok (.putfield 32, 3) := by decide +kernel
theorem dX4_onward_14 : decode cX4_onward 14 = .ok (.iconst 0, 1) := by decide +kernel
theorem dX4_onward_15 : decode cX4_onward 15 = .ok (.ireturn, 1) := by decide +kernel
theorem dX4_jumpTo_0 : decode cX4_jumpTo 0 = .ok (.aload_n 0, 1) := by decide +kernel
theorem dX4_jumpTo_1 : decode cX4_jumpTo 1 = .ok (.iload_n 1, 1) := by decide +kernel
theorem dX4_jumpTo_2 : decode cX4_jumpTo 2 = .ok (.sipush 1023, 3) := by decide +kernel
theorem dX4_jumpTo_5 : decode cX4_jumpTo 5 = .ok (.iand, 1) := by decide +kernel
theorem dX4_jumpTo_6 : decode cX4_jumpTo 6 = .ok (.putfield 32, 3) := by decide +kernel
theorem dX4_jumpTo_9 : decode cX4_jumpTo 9 = .ok (.iconst 0, 1) := by decide +kernel
theorem dX4_jumpTo_10 : decode cX4_jumpTo 10 = .ok (.ireturn, 1) := by decide +kernel
set_option maxRecDepth 20000 in
theorem ggX4_callTo_X0_stacks : GoodIn wsX4_callTo wsX0_stacks := goodIn_r _ [8, 9, 10, 11, 7, 12, 13, 14, 15, 16, 17, 18, 19, 20, 21, 30] (by decide +kernel) (by decide +kernel)
set_option maxRecDepth 20000 in
theorem gX4_callTo_X0_stacks : GoodIn wsX4_callTo (wsV RX4 91 RX0 yX0_stacks wsX0_stacks) := goodIn_app (goodIn_of _ (by decide +kernel)) ggX4_callTo_X0_stacks
theorem dX4_callTo_0 : decode cX4_callTo 0 = .ok (.aload_n 0, 1) := by decide +kernel
theorem dX4_callTo_1 : decode cX4_callTo 1 = .ok (.getfield 16, 3) := by decide +kernel
theorem dX4_callTo_4 : decode cX4_callTo 4 = .ok (.iload_n 2, 1) := by decide +kernel
theorem dX4_callTo_5 : decode cX4_callTo 5 = .ok (.sipush 1023, 3) := by decide +kernel
theorem dX4_callTo_8 : decode cX4_callTo 8 = .ok (.iand, 1) := by decide +kernel
theorem dX4_callTo_9 : decode cX4_callTo 9 = .ok (.invokevirtual 91, 3) := by decide +kernel
theorem dX4_callTo_12 : decode cX4_callTo 12 = .ok (.ifCond .ne 5, 3) := by decide +kernel
theorem dX4_callTo_15 : decode cX4_callTo 15 = .ok (.iconst 3, 1) := by decide +kernel
theorem dX4_callTo_16 : decode cX4_callTo 16 = .ok (.ireturn, 1) := by decide +kernel
theorem dX4_callTo_17 : decode cX4_callTo 17 = .ok (.aload_n 0, 1) := by decide +kernel
theorem dX4_callTo_18 : decode cX4_callTo 18 = .ok (.getfield 29, 3) := by decide +kernel
theorem dX4_callTo_21 : decode cX4_callTo 21 = .ok (.bipush 6, 2) := by decide +kernel
theorem dX4_callTo_23 : decode cX4_callTo 23 = .ok (.dup2, 1) := by decide +kernel
theorem dX4_callTo_24 : decode cX4_callTo 24 = .ok (.iaload, 1) := by decide +kernel
theorem dX4_callTo_25 : decode cX4_callTo 25 = .ok (.iconst 1, 1) := by decide +kernel
theorem dX4_callTo_26 : decode cX4_callTo 26 = .ok (.iadd, 1) := by decide +kernel
theorem dX4_callTo_27 : decode cX4_callTo 27 = .ok (.iastore, 1) := by decide +kernel
theorem dX4_callTo_28 : decode cX4_callTo 28 = .ok (.aload_n 0, 1) := by decide +kernel
theorem dX4_callTo_29 : decode cX4_callTo 29 = .ok (.iload_n 1, 1) := by decide +kernel
theorem dX4_callTo_30 : decode cX4_callTo 30 = .ok (.sipush 1023, 3) := by decide +kernel
theorem dX4_callTo_33 : decode cX4_callTo 33 = .ok (.iand, 1) := by decide +kernel
theorem dX4_callTo_34 : decode cX4_callTo 34 = .ok (.putfield 32, 3) := by decide +kernel
theorem dX4_callTo_37 : decode cX4_callTo 37 = .ok (.iconst 0, 1) := by decide +kernel
theorem dX4_callTo_38 : decode cX4_callTo 38 = .ok (.ireturn, 1) := by decide +kernel
set_option maxRecDepth 20000 in
theorem ggX4_skip_X4_onward : GoodIn wsX4_skip wsX4_onward := goodIn_r _ [7, 1, 21, 22, 23, 24, 25, 26, 27, 28] (by decide +kernel) (by decide +kernel)
set_option maxRecDepth 20000 in
theorem gX4_skip_X4_onward : GoodIn wsX4_skip (wsV RX4 102 RX4 yX4_onward wsX4_onward) := goodIn_app (goodIn_of _ (by decide +kernel)) ggX4_skip_X4_onward
set_option maxRecDepth 20000 in
theorem ggX4_skip_X4_cellAt : GoodIn wsX4_skip wsX4_cellAt := goodIn_r _ [11, 12, 21, 22, 23, 24, 25, 26, 27, 28] (by decide +kernel) (by decide +kernel)
set_option maxRecDepth 20000 in
theorem gX4_skip_X4_cellAt : GoodIn wsX4_skip (wsV RX4 51 RX4 yX4_cellAt wsX4_cellAt) := goodIn_app (goodIn_of _ (by decide +kernel)) ggX4_skip_X4_cellAt
set_option maxRecDepth 20000 in
theorem ggX4_skip_X3_hasNext : GoodIn wsX4_skip wsX3_hasNext := goodIn_r _ [16, 17, 18, 19, 20] (by decide +kernel) (by decide +kernel)
set_option maxRecDepth 20000 in
theorem gX4_skip_X3_hasNext : GoodIn wsX4_skip (va_wsS RX4 74 yX3_hasNext wsX3_hasNext) := goodIn_app (goodIn_of _ (by decide +kernel)) ggX4_skip_X3_hasNext
theorem dX4_skip_0 : decode cX4_skip 0 = .ok (.iload_n 1, 1) := by decide +kernel
theorem dX4_skip_1 : decode cX4_skip 1 = .ok (.ifCond .ne 9, 3) := by decide +kernel
theorem dX4_skip_4 : decode cX4_skip 4 = .ok (.aload_n 0, 1) := by decide +kernel
theorem dX4_skip_5 : decode cX4_skip 5 = .ok (.iconst 1, 1) := by decide +kernel
theorem dX4_skip_6 : decode cX4_skip 6 = .ok (.invokevirtual 102, 3) := by decide +kernel
theorem dX4_skip_9 : decode cX4_skip 9 = .ok (.ireturn, 1) := by decide +kernel
theorem dX4_skip_10 : decode cX4_skip 10 = .ok (.aload_n 0, 1) := by decide +kernel
theorem dX4_skip_11 : decode cX4_skip 11 = .ok (.aload_n 0, 1) := by decide +kernel
theorem dX4_skip_12 : decode cX4_skip 12 = .ok (.getfield 32, 3) := by decide +kernel
theorem dX4_skip_15 : decode cX4_skip 15 = .ok (.iconst 1, 1) := by decide +kernel
theorem dX4_skip_16 : decode cX4_skip 16 = .ok (.iadd, 1) := by decide +kernel
theorem dX4_skip_17 : decode cX4_skip 17 = .ok (.invokevirtual 51, 3) := by decide +kernel
theorem dX4_skip_20 : decode cX4_skip 20 = .ok (.invokestatic 74, 3) := by decide +kernel
theorem dX4_skip_23 : decode cX4_skip 23 = .ok (.ifCond .eq 19, 3) := by decide +kernel
theorem dX4_skip_26 : decode cX4_skip 26 = .ok (.aload_n 0, 1) := by decide +kernel
theorem dX4_skip_27 : decode cX4_skip 27 = .ok (.getfield 29, 3) := by decide +kernel
theorem dX4_skip_30 : decode cX4_skip 30 = .ok (.iconst 5, 1) := by decide +kernel
theorem dX4_skip_31 : decode cX4_skip 31 = .ok (.dup2, 1) := by decide +kernel
theorem dX4_skip_32 : decode cX4_skip 32 = .ok (.iaload, 1) := by decide +kernel
theorem dX4_skip_33 : decode cX4_skip 33 = .ok (.iconst 1, 1) := by decide +kernel
theorem dX4_skip_34 : decode cX4_skip 34 = .ok (.iadd, 1) := by decide +kernel
theorem dX4_skip_35 : decode cX4_skip 35 = .ok (.iastore, 1) := by decide +kernel
theorem dX4_skip_36 : decode cX4_skip 36 = .ok (.aload_n 0, 1) := by decide +kernel
theorem dX4_skip_37 : decode cX4_skip 37 = .ok (.iconst 3, 1) := by decide +kernel
theorem dX4_skip_38 : decode cX4_skip 38 = .ok (.invokevirtual 102, 3) := by decide +kernel
theorem dX4_skip_41 : decode cX4_skip 41 = .ok (.ireturn, 1) := by decide +kernel
theorem dX4_skip_42 : decode cX4_skip 42 = .ok (.aload_n 0, 1) := by decide +kernel
theorem dX4_skip_43 : decode cX4_skip 43 = .ok (.getfield 29, 3) := by decide +kernel
theorem dX4_skip_46 : decode cX4_skip 46 = .ok (.iconst 4, 1) := by decide +kernel
theorem dX4_skip_47 : decode cX4_skip 47 = .ok (.dup2, 1) := by decide +kernel
theorem dX4_skip_48 : decode cX4_skip 48 = .ok (.iaload, 1) := by decide +kernel
theorem dX4_skip_49 : decode cX4_skip 49 = .ok (.iconst 1, 1) := by decide +kernel
theorem dX4_skip_50 : decode cX4_skip 50 = .ok (.iadd, 1) := by decide +kernel
theorem dX4_skip_51 : decode cX4_skip 51 = .ok (.iastore, 1) := by decide +kernel
theorem dX4_skip_52 : decode cX4_skip 52 = .ok (.aload_n 0, 1) := by decide +kernel
theorem dX4_skip_53 : decode cX4_skip 53 = .ok (.iconst 2, 1) := by decide +kernel
theorem dX4_skip_54 : decode cX4_skip 54 = .ok (.invokevirtual 102, 3) := by decide +kernel
theorem dX4_skip_57 : decode cX4_skip 57 = .ok (.ireturn, 1) := by decide +kernel
set_option maxRecDepth 20000 in
theorem ggX4_movePair_X0_pair : GoodIn wsX4_movePair wsX0_pair := goodIn_r _ [6, 7, 26] (by decide +kernel) (by decide +kernel)
set_option maxRecDepth 20000 in
theorem gX4_movePair_X0_pair : GoodIn wsX4_movePair (wsV RX4 62 RX0 yX0_pair wsX0_pair) := goodIn_app (goodIn_of _ (by decide +kernel)) ggX4_movePair_X0_pair
set_option maxRecDepth 20000 in
theorem ggX4_movePair_X0_setPair : GoodIn wsX4_movePair wsX0_setPair := goodIn_r _ [11, 7, 26] (by decide +kernel) (by decide +kernel)
set_option maxRecDepth 20000 in
theorem gX4_movePair_X0_setPair : GoodIn wsX4_movePair (wsV RX4 170 RX0 yX0_setPair wsX0_setPair) := goodIn_app (goodIn_of _ (by decide +kernel)) ggX4_movePair_X0_setPair
set_option maxRecDepth 20000 in
theorem ggX4_movePair_X4_onward : GoodIn wsX4_movePair wsX4_onward := goodIn_r _ [16, 17, 18, 19, 20, 21, 22, 23, 24, 25] (by decide +kernel) (by decide +kernel)
set_option maxRecDepth 20000 in
theorem gX4_movePair_X4_onward : GoodIn wsX4_movePair (wsV RX4 102 RX4 yX4_onward wsX4_onward) := goodIn_app (goodIn_of _ (by decide +kernel)) ggX4_movePair_X4_onward
theorem dX4_movePair_0 : decode cX4_movePair 0 = .ok (.aload_n 0, 1) := by decide +kernel
theorem dX4_movePair_1 : decode cX4_movePair 1 = .ok (.getfield 16, 3) := by decide +kernel
theorem dX4_movePair_4 : decode cX4_movePair 4 = .ok (.iconst 2, 1) := by decide +kernel
theorem dX4_movePair_5 : decode cX4_movePair 5 = .ok (.iload_n 1, 1) := by decide +kernel
theorem dX4_movePair_6 : decode cX4_movePair 6 = .ok (.iconst 4, 1) := by decide +kernel
theorem dX4_movePair_7 : decode cX4_movePair 7 = .ok (.ishr, 1) := by decide +kernel
theorem dX4_movePair_8 : decode cX4_movePair 8 = .ok (.bipush 15, 2) := by decide +kernel
theorem dX4_movePair_10 : decode cX4_movePair 10 = .ok (.iand, 1) := by decide +kernel
theorem dX4_movePair_11 : decode cX4_movePair 11 = .ok (.imul, 1) := by decide +kernel
theorem dX4_movePair_12 : decode cX4_movePair 12 = .ok (.aload_n 0, 1) := by decide +kernel
theorem dX4_movePair_13 : decode cX4_movePair 13 = .ok (.getfield 16, 3) := by decide +kernel
theorem dX4_movePair_16 : decode cX4_movePair 16 = .ok (.iconst 2, 1) := by decide +kernel
theorem dX4_movePair_17 : decode cX4_movePair 17 = .ok (.iload_n 1, 1) := by decide +kernel
theorem dX4_movePair_18 : decode cX4_movePair 18 = .ok (.bipush 15, 2) := by decide +kernel
theorem dX4_movePair_20 : decode cX4_movePair 20 = .ok (.iand, 1) := by decide +kernel
theorem dX4_movePair_21 : decode cX4_movePair 21 = .ok (.imul, 1) := by decide +kernel
theorem dX4_movePair_22 : decode cX4_movePair 22 = .ok (.invokevirtual 62, 3) := by decide +kernel
theorem dX4_movePair_25 : decode cX4_movePair 25 = .ok (.invokevirtual 170, 3) := by decide +kernel
theorem dX4_movePair_28 : decode cX4_movePair 28 = .ok (.aload_n 0, 1) := by decide +kernel
theorem dX4_movePair_29 : decode cX4_movePair 29 = .ok (.iconst 1, 1) := by decide +kernel
theorem dX4_movePair_30 : decode cX4_movePair 30 = .ok (.invokevirtual 102, 3) := by decide +kernel
theorem dX4_movePair_33 : decode cX4_movePair 33 = .ok (.ireturn, 1) := by decide +kernel
set_option maxRecDepth 20000 in
theorem ggX4_multiply_X3_d : GoodIn wsX4_multiply wsX3_d := goodIn_r _ [6] (by decide +kernel) (by decide +kernel)
set_option maxRecDepth 20000 in
theorem gX4_multiply_X3_d : GoodIn wsX4_multiply (va_wsS RX4 173 yX3_d wsX3_d) := goodIn_app (goodIn_of _ (by decide +kernel)) ggX4_multiply_X3_d
set_option maxRecDepth 20000 in
theorem ggX4_multiply_X0_get : GoodIn wsX4_multiply wsX0_get := goodIn_r _ [11, 12, 62] (by decide +kernel) (by decide +kernel)
set_option maxRecDepth 20000 in
theorem gX4_multiply_X0_get : GoodIn wsX4_multiply (wsV RX4 55 RX0 yX0_get wsX0_get) := goodIn_app (goodIn_of _ (by decide +kernel)) ggX4_multiply_X0_get
set_option maxRecDepth 20000 in
theorem ggX4_multiply_X3_r : GoodIn wsX4_multiply wsX3_r := goodIn_r _ [15] (by decide +kernel) (by decide +kernel)
set_option maxRecDepth 20000 in
theorem gX4_multiply_X3_r : GoodIn wsX4_multiply (va_wsS RX4 176 yX3_r wsX3_r) := goodIn_app (goodIn_of _ (by decide +kernel)) ggX4_multiply_X3_r
set_option maxRecDepth 20000 in
theorem ggX4_multiply_X2_product : GoodIn wsX4_multiply wsX2_product := goodIn_r _ [20, 21, 22, 23, 19, 24, 25, 26, 27, 28, 29, 30, 10, 31, 12, 32, 33, 34, 35, 63, 62] (by decide +kernel) (by decide +kernel)
set_option maxRecDepth 20000 in
theorem gX4_multiply_X2_product : GoodIn wsX4_multiply (wsV RX4 179 RX2 yX2_product wsX2_product) := goodIn_app (goodIn_of _ (by decide +kernel)) ggX4_multiply_X2_product
set_option maxRecDepth 20000 in
theorem ggX4_multiply_X0_signed : GoodIn wsX4_multiply wsX0_signed := goodIn_r _ [39, 12, 62] (by decide +kernel) (by decide +kernel)
set_option maxRecDepth 20000 in
theorem gX4_multiply_X0_signed : GoodIn wsX4_multiply (wsV RX4 183 RX0 yX0_signed wsX0_signed) := goodIn_app (goodIn_of _ (by decide +kernel)) ggX4_multiply_X0_signed
set_option maxRecDepth 20000 in
theorem ggX4_multiply_X4_multiplyFew : GoodIn wsX4_multiply wsX4_multiplyFew := goodIn_r _ [44, 1, 2, 36, 37, 38, 10, 39, 12, 7, 8, 9, 11, 16, 17, 18, 19, 20, 21, 22, 23, 24, 25, 26, 27, 28, 29, 30, 31, 32, 33, 34, 35, 45, 46, 47, 48, 54, 55, 56, 57, 58, 59, 60, 61, 62, 63] (by decide +kernel) (by decide +kernel)
set_option maxRecDepth 20000 in
theorem gX4_multiply_X4_multiplyFew : GoodIn wsX4_multiply (wsV RX4 186 RX4 yX4_multiplyFew wsX4_multiplyFew) := goodIn_app (goodIn_of _ (by decide +kernel)) ggX4_multiply_X4_multiplyFew
set_option maxRecDepth 20000 in
theorem ggX4_multiply_X4_onward : GoodIn wsX4_multiply wsX4_onward := goodIn_r _ [52, 53, 54, 55, 56, 57, 58, 59, 60, 61] (by decide +kernel) (by decide +kernel)
set_option maxRecDepth 20000 in
theorem gX4_multiply_X4_onward : GoodIn wsX4_multiply (wsV RX4 102 RX4 yX4_onward wsX4_onward) := goodIn_app (goodIn_of _ (by decide +kernel)) ggX4_multiply_X4_onward
theorem dX4_multiply_0 : decode cX4_multiply 0 = .ok (.iload_n 1, 1) := by decide +kernel
theorem dX4_multiply_1 : decode cX4_multiply 1 = .ok (.bipush 12, 2) := by decide +kernel
theorem dX4_multiply_3 : decode cX4_multiply 3 = .ok (.ishr, 1) := by decide +kernel
theorem dX4_multiply_4 : decode cX4_multiply 4 = .ok (.bipush 9, 2) := by decide +kernel
theorem dX4_multiply_6 : decode cX4_multiply 6 = .ok (.if_icmp .ne 36, 3) := by decide +kernel
theorem dX4_multiply_9 : decode cX4_multiply 9 = .ok (.aload_n 0, 1) := by decide +kernel
theorem dX4_multiply_10 : decode cX4_multiply 10 = .ok (.getfield 25, 3) := by decide +kernel
theorem dX4_multiply_13 : decode cX4_multiply 13 = .ok (.aload_n 0, 1) := by decide +kernel
theorem dX4_multiply_14 : decode cX4_multiply 14 = .ok (.getfield 16, 3) := by decide +kernel
theorem dX4_multiply_17 : decode cX4_multiply 17 = .ok (.iload_n 1, 1) := by decide +kernel
theorem dX4_multiply_18 : decode cX4_multiply 18 = .ok (.invokestatic 173, 3) := by decide +kernel
theorem dX4_multiply_21 : decode cX4_multiply 21 = .ok (.invokevirtual 55, 3) := by decide +kernel
theorem dX4_multiply_24 : decode cX4_multiply 24 = .ok (.aload_n 0, 1) := by decide +kernel
theorem dX4_multiply_25 : decode cX4_multiply 25 = .ok (.getfield 16, 3) := by decide +kernel
theorem dX4_multiply_28 : decode cX4_multiply 28 = .ok (.iload_n 1, 1) := by decide +kernel
theorem dX4_multiply_29 : decode cX4_multiply 29 = .ok (.invokestatic 176, 3) := by decide +kernel
theorem dX4_multiply_32 : decode cX4_multiply 32 = .ok (.invokevirtual 55, 3) := by decide +kernel
theorem dX4_multiply_35 : decode cX4_multiply 35 = .ok (.imul, 1) := by decide +kernel
theorem dX4_multiply_36 : decode cX4_multiply 36 = .ok (.invokevirtual 179, 3) := by decide +kernel
theorem dX4_multiply_39 : decode cX4_multiply 39 = .ok (.goto 73, 3) := by decide +kernel
theorem dX4_multiply_42 : decode cX4_multiply 42 = .ok (.iload_n 1, 1) := by decide +kernel
theorem dX4_multiply_43 : decode cX4_multiply 43 = .ok (.bipush 8, 2) := by decide +kernel
theorem dX4_multiply_45 : decode cX4_multiply 45 = .ok (.ishr, 1) := by decide +kernel
theorem dX4_multiply_46 : decode cX4_multiply 46 = .ok (.iconst 2, 1) := by decide +kernel
theorem dX4_multiply_47 : decode cX4_multiply 47 = .ok (.if_icmp .ne 44, 3) := by decide +kernel
theorem dX4_multiply_50 : decode cX4_multiply 50 = .ok (.aload_n 0, 1) := by decide +kernel
theorem dX4_multiply_51 : decode cX4_multiply 51 = .ok (.getfield 25, 3) := by decide +kernel
theorem dX4_multiply_54 : decode cX4_multiply 54 = .ok (.aload_n 0, 1) := by decide +kernel
theorem dX4_multiply_55 : decode cX4_multiply 55 = .ok (.getfield 16, 3) := by decide +kernel
theorem dX4_multiply_58 : decode cX4_multiply 58 = .ok (.bipush 16, 2) := by decide +kernel
theorem dX4_multiply_60 : decode cX4_multiply 60 = .ok (.iload_n 1, 1) := by decide +kernel
theorem dX4_multiply_61 : decode cX4_multiply 61 = .ok (.iconst 4, 1) := by decide +kernel
theorem dX4_multiply_62 : decode cX4_multiply 62 = .ok (.ishr, 1) := by decide +kernel
theorem dX4_multiply_63 : decode cX4_multiply 63 = .ok (.bipush 15, 2) := by decide +kernel
theorem dX4_multiply_65 : decode cX4_multiply 65 = .ok (.iand, 1) := by decide +kernel
theorem dX4_multiply_66 : decode cX4_multiply 66 = .ok (.iadd, 1) := by decide +kernel
theorem dX4_multiply_67 : decode cX4_multiply 67 = .ok (.invokevirtual 183, 3) := by decide +kernel
theorem dX4_multiply_70 : decode cX4_multiply 70 = .ok (.aload_n 0, 1) := by decide +kernel
theorem dX4_multiply_71 : decode cX4_multiply 71 = .ok (.getfield 16, 3) := by decide +kernel
theorem dX4_multiply_74 : decode cX4_multiply 74 = .ok (.bipush 16, 2) := by decide +kernel
theorem dX4_multiply_76 : decode cX4_multiply 76 = .ok (.iload_n 1, 1) := by decide +kernel
theorem dX4_multiply_77 : decode cX4_multiply 77 = .ok (.bipush 15, 2) := by decide +kernel
theorem dX4_multiply_79 : decode cX4_multiply 79 = .ok (.iand, 1) := by decide +kernel
theorem dX4_multiply_80 : decode cX4_multiply 80 = .ok (.iadd, 1) := by decide +kernel
theorem dX4_multiply_81 : decode cX4_multiply 81 = .ok (.invokevirtual 183, 3) := by decide +kernel
theorem dX4_multiply_84 : decode cX4_multiply 84 = .ok (.imul, 1) := by decide +kernel
theorem dX4_multiply_85 : decode cX4_multiply 85 = .ok (.invokevirtual 179, 3) := by decide +kernel
theorem dX4_multiply_88 : decode cX4_multiply 88 = .ok (.goto 24, 3) := by decide +kernel
theorem dX4_multiply_91 : decode cX4_multiply 91 = .ok (.aload_n 0, 1) := by decide +kernel
theorem dX4_multiply_92 : decode cX4_multiply 92 = .ok (.iload_n 1, 1) := by decide +kernel
theorem dX4_multiply_93 : decode cX4_multiply 93 = .ok (.bipush 16, 2) := by decide +kernel
theorem dX4_multiply_95 : decode cX4_multiply 95 = .ok (.iload_n 1, 1) := by decide +kernel
theorem dX4_multiply_96 : decode cX4_multiply 96 = .ok (.iconst 4, 1) := by decide +kernel
theorem dX4_multiply_97 : decode cX4_multiply 97 = .ok (.ishr, 1) := by decide +kernel
theorem dX4_multiply_98 : decode cX4_multiply 98 = .ok (.bipush 7, 2) := by decide +kernel
theorem dX4_multiply_100 : decode cX4_multiply 100 = .ok (.iand, 1) := by decide +kernel
theorem dX4_multiply_101 : decode cX4_multiply 101 = .ok (.iadd, 1) := by decide +kernel
theorem dX4_multiply_102 : decode cX4_multiply 102 = .ok (.bipush 16, 2) := by decide +kernel
theorem dX4_multiply_104 : decode cX4_multiply 104 = .ok (.iload_n 1, 1) := by decide +kernel
theorem dX4_multiply_105 : decode cX4_multiply 105 = .ok (.bipush 7, 2) := by decide +kernel
theorem dX4_multiply_107 : decode cX4_multiply 107 = .ok (.iand, 1) := by decide +kernel
theorem dX4_multiply_108 : decode cX4_multiply 108 = .ok (.iadd, 1) := by decide +kernel
theorem dX4_multiply_109 : decode cX4_multiply 109 = .ok (.invokevirtual 186, 3) := by decide +kernel
theorem dX4_multiply_112 : decode cX4_multiply 112 = .ok (.aload_n 0, 1) := by decide +kernel
theorem dX4_multiply_113 : decode cX4_multiply 113 = .ok (.iconst 1, 1) := by decide +kernel
theorem dX4_multiply_114 : decode cX4_multiply 114 = .ok (.invokevirtual 102, 3) := by decide +kernel
theorem dX4_multiply_117 : decode cX4_multiply 117 = .ok (.ireturn, 1) := by decide +kernel
set_option maxRecDepth 20000 in
theorem ggX4_multiplyFew_X0_signed : GoodIn wsX4_multiplyFew wsX0_signed := goodIn_r _ [7, 8, 45] (by decide +kernel) (by decide +kernel)
set_option maxRecDepth 20000 in
theorem gX4_multiplyFew_X0_signed : GoodIn wsX4_multiplyFew (wsV RX4 183 RX0 yX0_signed wsX0_signed) := goodIn_app (goodIn_of _ (by decide +kernel)) ggX4_multiplyFew_X0_signed
set_option maxRecDepth 20000 in
theorem ggX4_multiplyFew_X0_get : GoodIn wsX4_multiplyFew wsX0_get := goodIn_r _ [12, 8, 45] (by decide +kernel) (by decide +kernel)
set_option maxRecDepth 20000 in
theorem gX4_multiplyFew_X0_get : GoodIn wsX4_multiplyFew (wsV RX4 55 RX0 yX0_get wsX0_get) := goodIn_app (goodIn_of _ (by decide +kernel)) ggX4_multiplyFew_X0_get
set_option maxRecDepth 20000 in
theorem ggX4_multiplyFew_X2_product : GoodIn wsX4_multiplyFew wsX2_product := goodIn_r _ [17, 18, 19, 20, 16, 21, 22, 23, 24, 25, 26, 27, 6, 28, 8, 29, 30, 31, 32, 46, 45] (by decide +kernel) (by decide +kernel)
set_option maxRecDepth 20000 in
theorem gX4_multiplyFew_X2_product : GoodIn wsX4_multiplyFew (wsV RX4 179 RX2 yX2_product wsX2_product) := goodIn_app (goodIn_of _ (by decide +kernel)) ggX4_multiplyFew_X2_product
set_option maxRecDepth 20000 in
theorem ggX4_multiplyFew_X2_fraction : GoodIn wsX4_multiplyFew wsX2_fraction := goodIn_r _ [36, 18, 19, 20, 16, 21, 22, 23, 24, 25, 26, 27, 6, 28, 8, 29, 30, 31, 32, 46, 45] (by decide +kernel) (by decide +kernel)
set_option maxRecDepth 20000 in
theorem gX4_multiplyFew_X2_fraction : GoodIn wsX4_multiplyFew (wsV RX4 190 RX2 yX2_fraction wsX2_fraction) := goodIn_app (goodIn_of _ (by decide +kernel)) ggX4_multiplyFew_X2_fraction
theorem dX4_multiplyFew_0 : decode cX4_multiplyFew 0 = .ok (.iload_n 1, 1) := by decide +kernel
theorem dX4_multiplyFew_1 : decode cX4_multiplyFew 1 = .ok (.sipush 136, 3) := by decide +kernel
theorem dX4_multiplyFew_4 : decode cX4_multiplyFew 4 = .ok (.iand, 1) := by decide +kernel
theorem dX4_multiplyFew_5 : decode cX4_multiplyFew 5 = .ok (.lookupswitch 116 #[(0, 35), (8, 62), (128, 89)], 35) := by decide +kernel
theorem dX4_multiplyFew_40 : decode cX4_multiplyFew 40 = .ok (.aload_n 0, 1) := by decide +kernel
theorem dX4_multiplyFew_41 : decode cX4_multiplyFew 41 = .ok (.getfield 25, 3) := by decide +kernel
theorem dX4_multiplyFew_44 : decode cX4_multiplyFew 44 = .ok (.aload_n 0, 1) := by decide +kernel
theorem dX4_multiplyFew_45 : decode cX4_multiplyFew 45 = .ok (.getfield 16, 3) := by decide +kernel
theorem dX4_multiplyFew_48 : decode cX4_multiplyFew 48 = .ok (.iload_n 2, 1) := by decide +kernel
theorem dX4_multiplyFew_49 : decode cX4_multiplyFew 49 = .ok (.invokevirtual 183, 3) := by decide +kernel
theorem dX4_multiplyFew_52 : decode cX4_multiplyFew 52 = .ok (.aload_n 0, 1) := by decide +kernel
theorem dX4_multiplyFew_53 : decode cX4_multiplyFew 53 = .ok (.getfield 16, 3) := by decide +kernel
theorem dX4_multiplyFew_56 : decode cX4_multiplyFew 56 = .ok (.iload_n 3, 1) := by decide +kernel
theorem dX4_multiplyFew_57 : decode cX4_multiplyFew 57 = .ok (.invokevirtual 55, 3) := by decide +kernel
theorem dX4_multiplyFew_60 : decode cX4_multiplyFew 60 = .ok (.imul, 1) := by decide +kernel
theorem dX4_multiplyFew_61 : decode cX4_multiplyFew 61 = .ok (.invokevirtual 179, 3) := by decide +kernel
theorem dX4_multiplyFew_64 : decode cX4_multiplyFew 64 = .ok (.goto 81, 3) := by decide +kernel
theorem dX4_multiplyFew_67 : decode cX4_multiplyFew 67 = .ok (.aload_n 0, 1) := by decide +kernel
theorem dX4_multiplyFew_68 : decode cX4_multiplyFew 68 = .ok (.getfield 25, 3) := by decide +kernel
theorem dX4_multiplyFew_71 : decode cX4_multiplyFew 71 = .ok (.aload_n 0, 1) := by decide +kernel
theorem dX4_multiplyFew_72 : decode cX4_multiplyFew 72 = .ok (.getfield 16, 3) := by decide +kernel
theorem dX4_multiplyFew_75 : decode cX4_multiplyFew 75 = .ok (.iload_n 2, 1) := by decide +kernel
theorem dX4_multiplyFew_76 : decode cX4_multiplyFew 76 = .ok (.invokevirtual 55, 3) := by decide +kernel
theorem dX4_multiplyFew_79 : decode cX4_multiplyFew 79 = .ok (.aload_n 0, 1) := by decide +kernel
theorem dX4_multiplyFew_80 : decode cX4_multiplyFew 80 = .ok (.getfield 16, 3) := by decide +kernel
theorem dX4_multiplyFew_83 : decode cX4_multiplyFew 83 = .ok (.iload_n 3, 1) := by decide +kernel
theorem dX4_multiplyFew_84 : decode cX4_multiplyFew 84 = .ok (.invokevirtual 55, 3) := by decide +kernel
theorem dX4_multiplyFew_87 : decode cX4_multiplyFew 87 = .ok (.imul, 1) := by decide +kernel
theorem dX4_multiplyFew_88 : decode cX4_multiplyFew 88 = .ok (.invokevirtual 190, 3) := by decide +kernel
theorem dX4_multiplyFew_91 : decode cX4_multiplyFew 91 = .ok (.goto 54, 3) := by decide +kernel
theorem dX4_multiplyFew_94 : decode cX4_multiplyFew 94 = .ok (.aload_n 0, 1) := by decide +kernel
theorem dX4_multiplyFew_95 : decode cX4_multiplyFew 95 = .ok (.getfield 25, 3) := by decide +kernel
theorem dX4_multiplyFew_98 : decode cX4_multiplyFew 98 = .ok (.aload_n 0, 1) := by decide +kernel
theorem dX4_multiplyFew_99 : decode cX4_multiplyFew 99 = .ok (.getfield 16, 3) := by decide +kernel
theorem dX4_multiplyFew_102 : decode cX4_multiplyFew 102 = .ok (.iload_n 2, 1) := by decide +kernel
theorem dX4_multiplyFew_103 : decode cX4_multiplyFew 103 = .ok (.invokevirtual 183, 3) := by decide +kernel
theorem dX4_multiplyFew_106 : decode cX4_multiplyFew 106 = .ok (.aload_n 0, 1) := by decide +kernel
theorem dX4_multiplyFew_107 : decode cX4_multiplyFew 107 = .ok (.getfield 16, 3) := by decide +kernel
theorem dX4_multiplyFew_110 : decode cX4_multiplyFew 110 = .ok (.iload_n 3, 1) := by decide +kernel
theorem dX4_multiplyFew_111 : decode cX4_multiplyFew 111 = .ok (.invokevirtual 183, 3) := by decide +kernel
theorem dX4_multiplyFew_114 : decode cX4_multiplyFew 114 = .ok (.imul, 1) := by decide +kernel
theorem dX4_multiplyFew_115 : decode cX4_multiplyFew 115 = .ok (.invokevirtual 190, 3) := by decide +kernel
theorem dX4_multiplyFew_118 : decode cX4_multiplyFew 118 = .ok (.goto 27, 3) := by decide +kernel
theorem dX4_multiplyFew_121 : decode cX4_multiplyFew 121 = .ok (.aload_n 0, 1) := by decide +kernel
theorem dX4_multiplyFew_122 : decode cX4_multiplyFew 122 = .ok (.getfield 25, 3) := by decide +kernel
theorem dX4_multiplyFew_125 : decode cX4_multiplyFew 125 = .ok (.aload_n 0, 1) := by decide +kernel
theorem dX4_multiplyFew_126 : decode cX4_multiplyFew 126 = .ok (.getfield 16, 3) := by decide +kernel
theorem dX4_multiplyFew_129 : decode cX4_multiplyFew 129 = .ok (.iload_n 2, 1) := by decide +kernel
theorem dX4_multiplyFew_130 : decode cX4_multiplyFew 130 = .ok (.invokevirtual 183, 3) := by decide +kernel
theorem dX4_multiplyFew_133 : decode cX4_multiplyFew 133 = .ok (.aload_n 0, 1) := by decide +kernel
theorem dX4_multiplyFew_134 : decode cX4_multiplyFew 134 = .ok (.getfield 16, 3) := by decide +kernel
theorem dX4_multiplyFew_137 : decode cX4_multiplyFew 137 = .ok (.iload_n 3, 1) := by decide +kernel
theorem dX4_multiplyFew_138 : decode cX4_multiplyFew 138 = .ok (.invokevirtual 55, 3) := by decide +kernel
theorem dX4_multiplyFew_141 : decode cX4_multiplyFew 141 = .ok (.imul, 1) := by decide +kernel
theorem dX4_multiplyFew_142 : decode cX4_multiplyFew 142 = .ok (.invokevirtual 190, 3) := by decide +kernel
theorem dX4_multiplyFew_145 : decode cX4_multiplyFew 145 = .ok (.return_, 1) := by decide +kernel
set_option maxRecDepth 20000 in
theorem ggX4_combine_X3_d : GoodIn wsX4_combine wsX3_d := goodIn_r _ [6] (by decide +kernel) (by decide +kernel)
set_option maxRecDepth 20000 in
theorem gX4_combine_X3_d : GoodIn wsX4_combine (va_wsS RX4 173 yX3_d wsX3_d) := goodIn_app (goodIn_of _ (by decide +kernel)) ggX4_combine_X3_d
set_option maxRecDepth 20000 in
theorem ggX4_combine_X0_get : GoodIn wsX4_combine wsX0_get := goodIn_r _ [11, 12, 85] (by decide +kernel) (by decide +kernel)
set_option maxRecDepth 20000 in
theorem gX4_combine_X0_get : GoodIn wsX4_combine (wsV RX4 55 RX0 yX0_get wsX0_get) := goodIn_app (goodIn_of _ (by decide +kernel)) ggX4_combine_X0_get
set_option maxRecDepth 20000 in
theorem ggX4_combine_X3_r : GoodIn wsX4_combine wsX3_r := goodIn_r _ [15] (by decide +kernel) (by decide +kernel)
set_option maxRecDepth 20000 in
theorem gX4_combine_X3_r : GoodIn wsX4_combine (va_wsS RX4 176 yX3_r wsX3_r) := goodIn_app (goodIn_of _ (by decide +kernel)) ggX4_combine_X3_r
set_option maxRecDepth 20000 in
theorem ggX4_combine_X0_flag : GoodIn wsX4_combine wsX0_flag := goodIn_r _ [19, 12, 85] (by decide +kernel) (by decide +kernel)
set_option maxRecDepth 20000 in
theorem gX4_combine_X0_flag : GoodIn wsX4_combine (wsV RX4 80 RX0 yX0_flag wsX0_flag) := goodIn_app (goodIn_of _ (by decide +kernel)) ggX4_combine_X0_flag
set_option maxRecDepth 20000 in
theorem ggX4_combine_X2_differenceOn : GoodIn wsX4_combine wsX2_differenceOn := goodIn_r _ [24, 25, 26, 17, 18, 10, 19, 12, 27, 28, 29, 23, 30, 31, 32, 33, 34, 35, 36, 37, 86, 85] (by decide +kernel) (by decide +kernel)
set_option maxRecDepth 20000 in
theorem gX4_combine_X2_differenceOn : GoodIn wsX4_combine (wsV RX4 193 RX2 yX2_differenceOn wsX2_differenceOn) := goodIn_app (goodIn_of _ (by decide +kernel)) ggX4_combine_X2_differenceOn
set_option maxRecDepth 20000 in
theorem ggX4_combine_X0_set : GoodIn wsX4_combine wsX0_set := goodIn_r _ [41, 12, 85] (by decide +kernel) (by decide +kernel)
set_option maxRecDepth 20000 in
theorem gX4_combine_X0_set : GoodIn wsX4_combine (wsV RX4 58 RX0 yX0_set wsX0_set) := goodIn_app (goodIn_of _ (by decide +kernel)) ggX4_combine_X0_set
set_option maxRecDepth 20000 in
theorem ggX4_combine_X2_sum : GoodIn wsX4_combine wsX2_sum := goodIn_r _ [45, 25, 31, 32, 23, 33, 34, 35, 36, 10, 37, 12, 86, 85] (by decide +kernel) (by decide +kernel)
set_option maxRecDepth 20000 in
theorem gX4_combine_X2_sum : GoodIn wsX4_combine (wsV RX4 197 RX2 yX2_sum wsX2_sum) := goodIn_app (goodIn_of _ (by decide +kernel)) ggX4_combine_X2_sum
set_option maxRecDepth 20000 in
theorem ggX4_combine_X4_skip : GoodIn wsX4_combine wsX4_skip := goodIn_r _ [50, 51, 52, 53, 54, 55, 49, 56, 57, 58, 59, 60, 61, 62, 63, 5, 64, 65, 66, 67, 68, 77, 78, 79, 80, 81, 82, 83, 84] (by decide +kernel) (by decide +kernel)
set_option maxRecDepth 20000 in
theorem gX4_combine_X4_skip : GoodIn wsX4_combine (wsV RX4 200 RX4 yX4_skip wsX4_skip) := goodIn_app (goodIn_of _ (by decide +kernel)) ggX4_combine_X4_skip
set_option maxRecDepth 20000 in
theorem ggX4_combine_X2_difference : GoodIn wsX4_combine wsX2_difference := goodIn_r _ [72, 27, 28, 29, 23, 30, 25, 31, 32, 33, 34, 35, 36, 10, 37, 12, 86, 85] (by decide +kernel) (by decide +kernel)
set_option maxRecDepth 20000 in
theorem gX4_combine_X2_difference : GoodIn wsX4_combine (wsV RX4 204 RX2 yX2_difference wsX2_difference) := goodIn_app (goodIn_of _ (by decide +kernel)) ggX4_combine_X2_difference
set_option maxRecDepth 20000 in
theorem ggX4_combine_X2_logic : GoodIn wsX4_combine wsX2_logic := goodIn_r _ [76, 25, 31, 32, 23, 33, 34, 35, 36, 10, 37, 12, 86, 85] (by decide +kernel) (by decide +kernel)
set_option maxRecDepth 20000 in
theorem gX4_combine_X2_logic : GoodIn wsX4_combine (wsV RX4 208 RX2 yX2_logic wsX2_logic) := goodIn_app (goodIn_of _ (by decide +kernel)) ggX4_combine_X2_logic
set_option maxRecDepth 20000 in
theorem ggX4_combine_X4_onward : GoodIn wsX4_combine wsX4_onward := goodIn_r _ [56, 51, 77, 78, 79, 80, 81, 82, 83, 84] (by decide +kernel) (by decide +kernel)
set_option maxRecDepth 20000 in
theorem gX4_combine_X4_onward : GoodIn wsX4_combine (wsV RX4 102 RX4 yX4_onward wsX4_onward) := goodIn_app (goodIn_of _ (by decide +kernel)) ggX4_combine_X4_onward
theorem dX4_combine_0 : decode cX4_combine 0 = .ok (.iload_n 1, 1) := by decide +kernel
theorem dX4_combine_1 : decode cX4_combine 1 = .ok (.invokestatic 173, 3) := by decide +kernel
theorem dX4_combine_4 : decode cX4_combine 4 = .ok (.istore_n 2, 1) := by decide +kernel
theorem dX4_combine_5 : decode cX4_combine 5 = .ok (.aload_n 0, 1) := by decide +kernel
theorem dX4_combine_6 : decode cX4_combine 6 = .ok (.getfield 16, 3) := by decide +kernel
theorem dX4_combine_9 : decode cX4_combine 9 = .ok (.iload_n 2, 1) := by decide +kernel
theorem dX4_combine_10 : decode cX4_combine 10 = .ok (.invokevirtual 55, 3) := by decide +kernel
theorem dX4_combine_13 : decode cX4_combine 13 = .ok (.istore_n 3, 1) := by decide +kernel
theorem dX4_combine_14 : decode cX4_combine 14 = .ok (.aload_n 0, 1) := by decide +kernel
theorem dX4_combine_15 : decode cX4_combine 15 = .ok (.getfield 16, 3) := by decide +kernel
theorem dX4_combine_18 : decode cX4_combine 18 = .ok (.iload_n 1, 1) := by decide +kernel
theorem dX4_combine_19 : decode cX4_combine 19 = .ok (.invokestatic 176, 3) := by decide +kernel
theorem dX4_combine_22 : decode cX4_combine 22 = .ok (.invokevirtual 55, 3) := by decide +kernel
theorem dX4_combine_25 : decode cX4_combine 25 = .ok (.istore 4, 2) := by decide +kernel
theorem dX4_combine_27 : decode cX4_combine 27 = .ok (.aload_n 0, 1) := by decide +kernel
theorem dX4_combine_28 : decode cX4_combine 28 = .ok (.getfield 16, 3) := by decide +kernel
theorem dX4_combine_31 : decode cX4_combine 31 = .ok (.iconst 0, 1) := by decide +kernel
theorem dX4_combine_32 : decode cX4_combine 32 = .ok (.invokevirtual 80, 3) := by decide +kernel
theorem dX4_combine_35 : decode cX4_combine 35 = .ok (.istore 5, 2) := by decide +kernel
theorem dX4_combine_37 : decode cX4_combine 37 = .ok (.iload_n 1, 1) := by decide +kernel
theorem dX4_combine_38 : decode cX4_combine 38 = .ok (.bipush 10, 2) := by decide +kernel
theorem dX4_combine_40 : decode cX4_combine 40 = .ok (.ishr, 1) := by decide +kernel
theorem dX4_combine_41 : decode cX4_combine 41 = .ok (.tableswitch 256 1 10 #[55, 71, 94, 116, 132, 146, 167, 190, 212, 234], 55) := by decide +kernel
theorem dX4_combine_96 : decode cX4_combine 96 = .ok (.aload_n 0, 1) := by decide +kernel
theorem dX4_combine_97 : decode cX4_combine 97 = .ok (.getfield 25, 3) := by decide +kernel
theorem dX4_combine_100 : decode cX4_combine 100 = .ok (.iload_n 3, 1) := by decide +kernel
theorem dX4_combine_101 : decode cX4_combine 101 = .ok (.iload 4, 2) := by decide +kernel
theorem dX4_combine_103 : decode cX4_combine 103 = .ok (.iload 5, 2) := by decide +kernel
theorem dX4_combine_105 : decode cX4_combine 105 = .ok (.invokevirtual 193, 3) := by decide +kernel
theorem dX4_combine_108 : decode cX4_combine 108 = .ok (.pop, 1) := by decide +kernel
theorem dX4_combine_109 : decode cX4_combine 109 = .ok (.goto 198, 3) := by decide +kernel
theorem dX4_combine_112 : decode cX4_combine 112 = .ok (.aload_n 0, 1) := by decide +kernel
theorem dX4_combine_113 : decode cX4_combine 113 = .ok (.getfield 16, 3) := by decide +kernel
theorem dX4_combine_116 : decode cX4_combine 116 = .ok (.iload_n 2, 1) := by decide +kernel
theorem dX4_combine_117 : decode cX4_combine 117 = .ok (.aload_n 0, 1) := by decide +kernel
theorem dX4_combine_118 : decode cX4_combine 118 = .ok (.getfield 25, 3) := by decide +kernel
theorem dX4_combine_121 : decode cX4_combine 121 = .ok (.iload_n 3, 1) := by decide +kernel
theorem dX4_combine_122 : decode cX4_combine 122 = .ok (.iload 4, 2) := by decide +kernel
theorem dX4_combine_124 : decode cX4_combine 124 = .ok (.iload 5, 2) := by decide +kernel
theorem dX4_combine_126 : decode cX4_combine 126 = .ok (.invokevirtual 193, 3) := by decide +kernel
theorem dX4_combine_129 : decode cX4_combine 129 = .ok (.invokevirtual 58, 3) := by decide +kernel
theorem dX4_combine_132 : decode cX4_combine 132 = .ok (.goto 175, 3) := by decide +kernel
theorem dX4_combine_135 : decode cX4_combine 135 = .ok (.aload_n 0, 1) := by decide +kernel
theorem dX4_combine_136 : decode cX4_combine 136 = .ok (.getfield 16, 3) := by decide +kernel
theorem dX4_combine_139 : decode cX4_combine 139 = .ok (.iload_n 2, 1) := by decide +kernel
theorem dX4_combine_140 : decode cX4_combine 140 = .ok (.aload_n 0, 1) := by decide +kernel
theorem dX4_combine_141 : decode cX4_combine 141 = .ok (.getfield 25, 3) := by decide +kernel
theorem dX4_combine_144 : decode cX4_combine 144 = .ok (.iload_n 3, 1) := by decide +kernel
theorem dX4_combine_145 : decode cX4_combine 145 = .ok (.iload 4, 2) := by decide +kernel
theorem dX4_combine_147 : decode cX4_combine 147 = .ok (.iconst 0, 1) := by decide +kernel
theorem dX4_combine_148 : decode cX4_combine 148 = .ok (.invokevirtual 197, 3) := by decide +kernel
theorem dX4_combine_151 : decode cX4_combine 151 = .ok (.invokevirtual 58, 3) := by decide +kernel
theorem dX4_combine_154 : decode cX4_combine 154 = .ok (.goto 153, 3) := by decide +kernel
theorem dX4_combine_157 : decode cX4_combine 157 = .ok (.aload_n 0, 1) := by decide +kernel
theorem dX4_combine_158 : decode cX4_combine 158 = .ok (.iload_n 3, 1) := by decide +kernel
theorem dX4_combine_159 : decode cX4_combine 159 = .ok (.iload 4, 2) := by decide +kernel
theorem dX4_combine_161 : decode cX4_combine 161 = .ok (.if_icmp .ne 7, 3) := by decide +kernel
theorem dX4_combine_164 : decode cX4_combine 164 = .ok (.iconst 1, 1) := by decide +kernel
theorem dX4_combine_165 : decode cX4_combine 165 = .ok (.goto 4, 3) := by decide +kernel
theorem dX4_combine_168 : decode cX4_combine 168 = .ok (.iconst 0, 1) := by decide +kernel
theorem dX4_combine_169 : decode cX4_combine 169 = .ok (.invokevirtual 200, 3) := by decide +kernel
theorem dX4_combine_172 : decode cX4_combine 172 = .ok (.ireturn, 1) := by decide +kernel
theorem dX4_combine_173 : decode cX4_combine 173 = .ok (.aload_n 0, 1) := by decide +kernel
theorem dX4_combine_174 : decode cX4_combine 174 = .ok (.getfield 25, 3) := by decide +kernel
theorem dX4_combine_177 : decode cX4_combine 177 = .ok (.iload_n 3, 1) := by decide +kernel
theorem dX4_combine_178 : decode cX4_combine 178 = .ok (.iload 4, 2) := by decide +kernel
theorem dX4_combine_180 : decode cX4_combine 180 = .ok (.invokevirtual 204, 3) := by decide +kernel
theorem dX4_combine_183 : decode cX4_combine 183 = .ok (.pop, 1) := by decide +kernel
theorem dX4_combine_184 : decode cX4_combine 184 = .ok (.goto 123, 3) := by decide +kernel
theorem dX4_combine_187 : decode cX4_combine 187 = .ok (.aload_n 0, 1) := by decide +kernel
theorem dX4_combine_188 : decode cX4_combine 188 = .ok (.getfield 16, 3) := by decide +kernel
theorem dX4_combine_191 : decode cX4_combine 191 = .ok (.iload_n 2, 1) := by decide +kernel
theorem dX4_combine_192 : decode cX4_combine 192 = .ok (.aload_n 0, 1) := by decide +kernel
theorem dX4_combine_193 : decode cX4_combine 193 = .ok (.getfield 25, 3) := by decide +kernel
theorem dX4_combine_196 : decode cX4_combine 196 = .ok (.iload_n 3, 1) := by decide +kernel
theorem dX4_combine_197 : decode cX4_combine 197 = .ok (.iload 4, 2) := by decide +kernel
theorem dX4_combine_199 : decode cX4_combine 199 = .ok (.invokevirtual 204, 3) := by decide +kernel
theorem dX4_combine_202 : decode cX4_combine 202 = .ok (.invokevirtual 58, 3) := by decide +kernel
theorem dX4_combine_205 : decode cX4_combine 205 = .ok (.goto 102, 3) := by decide +kernel
theorem dX4_combine_208 : decode cX4_combine 208 = .ok (.aload_n 0, 1) := by decide +kernel
theorem dX4_combine_209 : decode cX4_combine 209 = .ok (.getfield 16, 3) := by decide +kernel
theorem dX4_combine_212 : decode cX4_combine 212 = .ok (.iload_n 2, 1) := by decide +kernel
theorem dX4_combine_213 : decode cX4_combine 213 = .ok (.aload_n 0, 1) := by decide +kernel
theorem dX4_combine_214 : decode cX4_combine 214 = .ok (.getfield 25, 3) := by decide +kernel
theorem dX4_combine_217 : decode cX4_combine 217 = .ok (.iload_n 3, 1) := by decide +kernel
theorem dX4_combine_218 : decode cX4_combine 218 = .ok (.iload 4, 2) := by decide +kernel
theorem dX4_combine_220 : decode cX4_combine 220 = .ok (.iload 5, 2) := by decide +kernel
theorem dX4_combine_222 : decode cX4_combine 222 = .ok (.invokevirtual 197, 3) := by decide +kernel
theorem dX4_combine_225 : decode cX4_combine 225 = .ok (.invokevirtual 58, 3) := by decide +kernel
theorem dX4_combine_228 : decode cX4_combine 228 = .ok (.goto 79, 3) := by decide +kernel
theorem dX4_combine_231 : decode cX4_combine 231 = .ok (.aload_n 0, 1) := by decide +kernel
theorem dX4_combine_232 : decode cX4_combine 232 = .ok (.getfield 16, 3) := by decide +kernel
theorem dX4_combine_235 : decode cX4_combine 235 = .ok (.iload_n 2, 1) := by decide +kernel
theorem dX4_combine_236 : decode cX4_combine 236 = .ok (.aload_n 0, 1) := by decide +kernel
theorem dX4_combine_237 : decode cX4_combine 237 = .ok (.getfield 25, 3) := by decide +kernel
theorem dX4_combine_240 : decode cX4_combine 240 = .ok (.iload_n 3, 1) := by decide +kernel
theorem dX4_combine_241 : decode cX4_combine 241 = .ok (.iload 4, 2) := by decide +kernel
theorem dX4_combine_243 : decode cX4_combine 243 = .ok (.iand, 1) := by decide +kernel
theorem dX4_combine_244 : decode cX4_combine 244 = .ok (.invokevirtual 208, 3) := by decide +kernel
theorem dX4_combine_247 : decode cX4_combine 247 = .ok (.invokevirtual 58, 3) := by decide +kernel
theorem dX4_combine_250 : decode cX4_combine 250 = .ok (.goto 57, 3) := by decide +kernel
theorem dX4_combine_253 : decode cX4_combine 253 = .ok (.aload_n 0, 1) := by decide +kernel
theorem dX4_combine_254 : decode cX4_combine 254 = .ok (.getfield 16, 3) := by decide +kernel
theorem dX4_combine_257 : decode cX4_combine 257 = .ok (.iload_n 2, 1) := by decide +kernel
theorem dX4_combine_258 : decode cX4_combine 258 = .ok (.aload_n 0, 1) := by decide +kernel
theorem dX4_combine_259 : decode cX4_combine 259 = .ok (.getfield 25, 3) := by decide +kernel
theorem dX4_combine_262 : decode cX4_combine 262 = .ok (.iload_n 3, 1) := by decide +kernel
theorem dX4_combine_263 : decode cX4_combine 263 = .ok (.iload 4, 2) := by decide +kernel
theorem dX4_combine_265 : decode cX4_combine 265 = .ok (.ixor, 1) := by decide +kernel
theorem dX4_combine_266 : decode cX4_combine 266 = .ok (.invokevirtual 208, 3) := by decide +kernel
theorem dX4_combine_269 : decode cX4_combine 269 = .ok (.invokevirtual 58, 3) := by decide +kernel
theorem dX4_combine_272 : decode cX4_combine 272 = .ok (.goto 35, 3) := by decide +kernel
theorem dX4_combine_275 : decode cX4_combine 275 = .ok (.aload_n 0, 1) := by decide +kernel
theorem dX4_combine_276 : decode cX4_combine 276 = .ok (.getfield 16, 3) := by decide +kernel
theorem dX4_combine_279 : decode cX4_combine 279 = .ok (.iload_n 2, 1) := by decide +kernel
theorem dX4_combine_280 : decode cX4_combine 280 = .ok (.aload_n 0, 1) := by decide +kernel
theorem dX4_combine_281 : decode cX4_combine 281 = .ok (.getfield 25, 3) := by decide +kernel
theorem dX4_combine_284 : decode cX4_combine 284 = .ok (.iload_n 3, 1) := by decide +kernel
theorem dX4_combine_285 : decode cX4_combine 285 = .ok (.iload 4, 2) := by decide +kernel
theorem dX4_combine_287 : decode cX4_combine 287 = .ok (.ior, 1) := by decide +kernel
theorem dX4_combine_288 : decode cX4_combine 288 = .ok (.invokevirtual 208, 3) := by decide +kernel
theorem dX4_combine_291 : decode cX4_combine 291 = .ok (.invokevirtual 58, 3) := by decide +kernel
theorem dX4_combine_294 : decode cX4_combine 294 = .ok (.goto 13, 3) := by decide +kernel
theorem dX4_combine_297 : decode cX4_combine 297 = .ok (.aload_n 0, 1) := by decide +kernel
theorem dX4_combine_298 : decode cX4_combine 298 = .ok (.getfield 16, 3) := by decide +kernel
theorem dX4_combine_301 : decode cX4_combine 301 = .ok (.iload_n 2, 1) := by decide +kernel
theorem dX4_combine_302 : decode cX4_combine 302 = .ok (.iload 4, 2) := by decide +kernel
theorem dX4_combine_304 : decode cX4_combine 304 = .ok (.invokevirtual 58, 3) := by decide +kernel
theorem dX4_combine_307 : decode cX4_combine 307 = .ok (.aload_n 0, 1) := by decide +kernel
theorem dX4_combine_308 : decode cX4_combine 308 = .ok (.iconst 1, 1) := by decide +kernel
theorem dX4_combine_309 : decode cX4_combine 309 = .ok (.invokevirtual 102, 3) := by decide +kernel
theorem dX4_combine_312 : decode cX4_combine 312 = .ok (.ireturn, 1) := by decide +kernel
set_option maxRecDepth 20000 in
theorem ggX4_combineWithNumber_X0_get : GoodIn wsX4_combineWithNumber wsX0_get := goodIn_r _ [7, 8, 57] (by decide +kernel) (by decide +kernel)
set_option maxRecDepth 20000 in
theorem gX4_combineWithNumber_X0_get : GoodIn wsX4_combineWithNumber (wsV RX4 55 RX0 yX0_get wsX0_get) := goodIn_app (goodIn_of _ (by decide +kernel)) ggX4_combineWithNumber_X0_get
set_option maxRecDepth 20000 in
theorem ggX4_combineWithNumber_X2_difference : GoodIn wsX4_combineWithNumber wsX2_difference := goodIn_r _ [13, 14, 15, 16, 12, 17, 18, 19, 20, 21, 22, 23, 24, 6, 25, 8, 58, 57] (by decide +kernel) (by decide +kernel)
set_option maxRecDepth 20000 in
theorem gX4_combineWithNumber_X2_difference : GoodIn wsX4_combineWithNumber (wsV RX4 204 RX2 yX2_difference wsX2_difference) := goodIn_app (goodIn_of _ (by decide +kernel)) ggX4_combineWithNumber_X2_difference
set_option maxRecDepth 20000 in
theorem ggX4_combineWithNumber_X0_flag : GoodIn wsX4_combineWithNumber wsX0_flag := goodIn_r _ [29, 8, 57] (by decide +kernel) (by decide +kernel)
set_option maxRecDepth 20000 in
theorem gX4_combineWithNumber_X0_flag : GoodIn wsX4_combineWithNumber (wsV RX4 80 RX0 yX0_flag wsX0_flag) := goodIn_app (goodIn_of _ (by decide +kernel)) ggX4_combineWithNumber_X0_flag
set_option maxRecDepth 20000 in
theorem ggX4_combineWithNumber_X2_differenceOn : GoodIn wsX4_combineWithNumber wsX2_differenceOn := goodIn_r _ [33, 18, 34, 27, 28, 6, 29, 8, 14, 15, 16, 12, 17, 19, 20, 21, 22, 23, 24, 25, 58, 57] (by decide +kernel) (by decide +kernel)
set_option maxRecDepth 20000 in
theorem gX4_combineWithNumber_X2_differenceOn : GoodIn wsX4_combineWithNumber (wsV RX4 193 RX2 yX2_differenceOn wsX2_differenceOn) := goodIn_app (goodIn_of _ (by decide +kernel)) ggX4_combineWithNumber_X2_differenceOn
set_option maxRecDepth 20000 in
theorem ggX4_combineWithNumber_X0_set : GoodIn wsX4_combineWithNumber wsX0_set := goodIn_r _ [38, 8, 57] (by decide +kernel) (by decide +kernel)
set_option maxRecDepth 20000 in
theorem gX4_combineWithNumber_X0_set : GoodIn wsX4_combineWithNumber (wsV RX4 58 RX0 yX0_set wsX0_set) := goodIn_app (goodIn_of _ (by decide +kernel)) ggX4_combineWithNumber_X0_set
set_option maxRecDepth 20000 in
theorem ggX4_combineWithNumber_X2_logic : GoodIn wsX4_combineWithNumber wsX2_logic := goodIn_r _ [42, 18, 19, 20, 12, 21, 22, 23, 24, 6, 25, 8, 58, 57] (by decide +kernel) (by decide +kernel)
set_option maxRecDepth 20000 in
theorem gX4_combineWithNumber_X2_logic : GoodIn wsX4_combineWithNumber (wsV RX4 208 RX2 yX2_logic wsX2_logic) := goodIn_app (goodIn_of _ (by decide +kernel)) ggX4_combineWithNumber_X2_logic
set_option maxRecDepth 20000 in
theorem ggX4_combineWithNumber_X4_onward : GoodIn wsX4_combineWithNumber wsX4_onward := goodIn_r _ [47, 48, 49, 50, 51, 52, 53, 54, 55, 56] (by decide +kernel) (by decide +kernel)
set_option maxRecDepth 20000 in
theorem gX4_combineWithNumber_X4_onward : GoodIn wsX4_combineWithNumber (wsV RX4 102 RX4 yX4_onward wsX4_onward) := goodIn_app (goodIn_of _ (by decide +kernel)) ggX4_combineWithNumber_X4_onward
theorem dX4_combineWithNumber_0 : decode cX4_combineWithNumber 0 = .ok (.bipush 16, 2) := by decide +kernel
theorem dX4_combineWithNumber_2 : decode cX4_combineWithNumber 2 = .ok (.iload_n 1, 1) := by decide +kernel
theorem dX4_combineWithNumber_3 : decode cX4_combineWithNumber 3 = .ok (.iconst 4, 1) := by decide +kernel
theorem dX4_combineWithNumber_4 : decode cX4_combineWithNumber 4 = .ok (.ishr, 1) := by decide +kernel
theorem dX4_combineWithNumber_5 : decode cX4_combineWithNumber 5 = .ok (.bipush 15, 2) := by decide +kernel
theorem dX4_combineWithNumber_7 : decode cX4_combineWithNumber 7 = .ok (.iand, 1) := by decide +kernel
theorem dX4_combineWithNumber_8 : decode cX4_combineWithNumber 8 = .ok (.iadd, 1) := by decide +kernel
theorem dX4_combineWithNumber_9 : decode cX4_combineWithNumber 9 = .ok (.istore_n 2, 1) := by decide +kernel
theorem dX4_combineWithNumber_10 : decode cX4_combineWithNumber 10 = .ok (.aload_n 0, 1) := by decide +kernel
theorem dX4_combineWithNumber_11 : decode cX4_combineWithNumber 11 = .ok (.getfield 16, 3) := by decide +kernel
theorem dX4_combineWithNumber_14 : decode cX4_combineWithNumber 14 = .ok (.iload_n 2, 1) := by decide +kernel
theorem dX4_combineWithNumber_15 : decode cX4_combineWithNumber 15 = .ok (.invokevirtual 55, 3) := by decide +kernel
theorem dX4_combineWithNumber_18 : decode cX4_combineWithNumber 18 = .ok (.istore_n 3, 1) := by decide +kernel
theorem dX4_combineWithNumber_19 : decode cX4_combineWithNumber 19 = .ok (.iload_n 1, 1) := by decide +kernel
theorem dX4_combineWithNumber_20 : decode cX4_combineWithNumber 20 = .ok (.iconst 4, 1) := by decide +kernel
theorem dX4_combineWithNumber_21 : decode cX4_combineWithNumber 21 = .ok (.ishr, 1) := by decide +kernel
theorem dX4_combineWithNumber_22 : decode cX4_combineWithNumber 22 = .ok (.sipush 240, 3) := by decide +kernel
theorem dX4_combineWithNumber_25 : decode cX4_combineWithNumber 25 = .ok (.iand, 1) := by decide +kernel
theorem dX4_combineWithNumber_26 : decode cX4_combineWithNumber 26 = .ok (.iload_n 1, 1) := by decide +kernel
theorem dX4_combineWithNumber_27 : decode cX4_combineWithNumber 27 = .ok (.bipush 15, 2) := by decide +kernel
theorem dX4_combineWithNumber_29 : decode cX4_combineWithNumber 29 = .ok (.iand, 1) := by decide +kernel
theorem dX4_combineWithNumber_30 : decode cX4_combineWithNumber 30 = .ok (.ior, 1) := by decide +kernel
theorem dX4_combineWithNumber_31 : decode cX4_combineWithNumber 31 = .ok (.istore 4, 2) := by decide +kernel
theorem dX4_combineWithNumber_33 : decode cX4_combineWithNumber 33 = .ok (.iload_n 1, 1) := by decide +kernel
theorem dX4_combineWithNumber_34 : decode cX4_combineWithNumber 34 = .ok (.bipush 12, 2) := by decide +kernel
theorem dX4_combineWithNumber_36 : decode cX4_combineWithNumber 36 = .ok (.ishr, 1) := by decide +kernel
theorem dX4_combineWithNumber_37 : decode cX4_combineWithNumber 37 = .ok (.tableswitch 143 3 7 #[35, 49, 78, 99, 121], 35) := by decide +kernel
theorem dX4_combineWithNumber_72 : decode cX4_combineWithNumber 72 = .ok (.aload_n 0, 1) := by decide +kernel
theorem dX4_combineWithNumber_73 : decode cX4_combineWithNumber 73 = .ok (.getfield 25, 3) := by decide +kernel
theorem dX4_combineWithNumber_76 : decode cX4_combineWithNumber 76 = .ok (.iload_n 3, 1) := by decide +kernel
theorem dX4_combineWithNumber_77 : decode cX4_combineWithNumber 77 = .ok (.iload 4, 2) := by decide +kernel
theorem dX4_combineWithNumber_79 : decode cX4_combineWithNumber 79 = .ok (.invokevirtual 204, 3) := by decide +kernel
theorem dX4_combineWithNumber_82 : decode cX4_combineWithNumber 82 = .ok (.pop, 1) := by decide +kernel
theorem dX4_combineWithNumber_83 : decode cX4_combineWithNumber 83 = .ok (.goto 107, 3) := by decide +kernel
theorem dX4_combineWithNumber_86 : decode cX4_combineWithNumber 86 = .ok (.aload_n 0, 1) := by decide +kernel
theorem dX4_combineWithNumber_87 : decode cX4_combineWithNumber 87 = .ok (.getfield 16, 3) := by decide +kernel
theorem dX4_combineWithNumber_90 : decode cX4_combineWithNumber 90 = .ok (.iload_n 2, 1) := by decide +kernel
theorem dX4_combineWithNumber_91 : decode cX4_combineWithNumber 91 = .ok (.aload_n 0, 1) := by decide +kernel
theorem dX4_combineWithNumber_92 : decode cX4_combineWithNumber 92 = .ok (.getfield 25, 3) := by decide +kernel
theorem dX4_combineWithNumber_95 : decode cX4_combineWithNumber 95 = .ok (.iload_n 3, 1) := by decide +kernel
theorem dX4_combineWithNumber_96 : decode cX4_combineWithNumber 96 = .ok (.iload 4, 2) := by decide +kernel
theorem dX4_combineWithNumber_98 : decode cX4_combineWithNumber 98 = .ok (.aload_n 0, 1) := by decide +kernel
theorem dX4_combineWithNumber_99 : decode cX4_combineWithNumber 99 = .ok (.getfield 16, 3) := by decide +kernel
theorem dX4_combineWithNumber_102 : decode cX4_combineWithNumber 102 = .ok (.iconst 0, 1) := by decide +kernel
theorem dX4_combineWithNumber_103 : decode cX4_combineWithNumber 103 = .ok (.invokevirtual 80, 3) := by decide +kernel
theorem dX4_combineWithNumber_106 : decode cX4_combineWithNumber 106 = .ok (.invokevirtual 193, 3) := by decide +kernel
theorem dX4_combineWithNumber_109 : decode cX4_combineWithNumber 109 = .ok (.invokevirtual 58, 3) := by decide +kernel
theorem dX4_combineWithNumber_112 : decode cX4_combineWithNumber 112 = .ok (.goto 78, 3) := by decide +kernel
theorem dX4_combineWithNumber_115 : decode cX4_combineWithNumber 115 = .ok (.aload_n 0, 1) := by decide +kernel
theorem dX4_combineWithNumber_116 : decode cX4_combineWithNumber 116 = .ok (.getfield 16, 3) := by decide +kernel
theorem dX4_combineWithNumber_119 : decode cX4_combineWithNumber 119 = .ok (.iload_n 2, 1) := by decide +kernel
theorem dX4_combineWithNumber_120 : decode cX4_combineWithNumber 120 = .ok (.aload_n 0, 1) := by decide +kernel
theorem dX4_combineWithNumber_121 : decode cX4_combineWithNumber 121 = .ok (.getfield 25, 3) := by decide +kernel
theorem dX4_combineWithNumber_124 : decode cX4_combineWithNumber 124 = .ok (.iload_n 3, 1) := by decide +kernel
theorem dX4_combineWithNumber_125 : decode cX4_combineWithNumber 125 = .ok (.iload 4, 2) := by decide +kernel
theorem dX4_combineWithNumber_127 : decode cX4_combineWithNumber 127 = .ok (.invokevirtual 204, 3) := by decide +kernel
theorem dX4_combineWithNumber_130 : decode cX4_combineWithNumber 130 = .ok (.invokevirtual 58, 3) := by decide +kernel
theorem dX4_combineWithNumber_133 : decode cX4_combineWithNumber 133 = .ok (.goto 57, 3) := by decide +kernel
theorem dX4_combineWithNumber_136 : decode cX4_combineWithNumber 136 = .ok (.aload_n 0, 1) := by decide +kernel
theorem dX4_combineWithNumber_137 : decode cX4_combineWithNumber 137 = .ok (.getfield 16, 3) := by decide +kernel
theorem dX4_combineWithNumber_140 : decode cX4_combineWithNumber 140 = .ok (.iload_n 2, 1) := by decide +kernel
theorem dX4_combineWithNumber_141 : decode cX4_combineWithNumber 141 = .ok (.aload_n 0, 1) := by decide +kernel
theorem dX4_combineWithNumber_142 : decode cX4_combineWithNumber 142 = .ok (.getfield 25, 3) := by decide +kernel
theorem dX4_combineWithNumber_145 : decode cX4_combineWithNumber 145 = .ok (.iload_n 3, 1) := by decide +kernel
theorem dX4_combineWithNumber_146 : decode cX4_combineWithNumber 146 = .ok (.iload 4, 2) := by decide +kernel
theorem dX4_combineWithNumber_148 : decode cX4_combineWithNumber 148 = .ok (.ior, 1) := by decide +kernel
theorem dX4_combineWithNumber_149 : decode cX4_combineWithNumber 149 = .ok (.invokevirtual 208, 3) := by decide +kernel
theorem dX4_combineWithNumber_152 : decode cX4_combineWithNumber 152 = .ok (.invokevirtual 58, 3) := by decide +kernel
theorem dX4_combineWithNumber_155 : decode cX4_combineWithNumber 155 = .ok (.goto 35, 3) := by decide +kernel
theorem dX4_combineWithNumber_158 : decode cX4_combineWithNumber 158 = .ok (.aload_n 0, 1) := by decide +kernel
theorem dX4_combineWithNumber_159 : decode cX4_combineWithNumber 159 = .ok (.getfield 16, 3) := by decide +kernel
theorem dX4_combineWithNumber_162 : decode cX4_combineWithNumber 162 = .ok (.iload_n 2, 1) := by decide +kernel
theorem dX4_combineWithNumber_163 : decode cX4_combineWithNumber 163 = .ok (.aload_n 0, 1) := by decide +kernel
theorem dX4_combineWithNumber_164 : decode cX4_combineWithNumber 164 = .ok (.getfield 25, 3) := by decide +kernel
theorem dX4_combineWithNumber_167 : decode cX4_combineWithNumber 167 = .ok (.iload_n 3, 1) := by decide +kernel
theorem dX4_combineWithNumber_168 : decode cX4_combineWithNumber 168 = .ok (.iload 4, 2) := by decide +kernel
theorem dX4_combineWithNumber_170 : decode cX4_combineWithNumber 170 = .ok (.iand, 1) := by decide +kernel
theorem dX4_combineWithNumber_171 : decode cX4_combineWithNumber 171 = .ok (.invokevirtual 208, 3) := by decide +kernel
theorem dX4_combineWithNumber_174 : decode cX4_combineWithNumber 174 = .ok (.invokevirtual 58, 3) := by decide +kernel
theorem dX4_combineWithNumber_177 : decode cX4_combineWithNumber 177 = .ok (.goto 13, 3) := by decide +kernel
theorem dX4_combineWithNumber_180 : decode cX4_combineWithNumber 180 = .ok (.aload_n 0, 1) := by decide +kernel
theorem dX4_combineWithNumber_181 : decode cX4_combineWithNumber 181 = .ok (.getfield 16, 3) := by decide +kernel
theorem dX4_combineWithNumber_184 : decode cX4_combineWithNumber 184 = .ok (.iload_n 2, 1) := by decide +kernel
theorem dX4_combineWithNumber_185 : decode cX4_combineWithNumber 185 = .ok (.iload 4, 2) := by decide +kernel
theorem dX4_combineWithNumber_187 : decode cX4_combineWithNumber 187 = .ok (.invokevirtual 58, 3) := by decide +kernel
theorem dX4_combineWithNumber_190 : decode cX4_combineWithNumber 190 = .ok (.aload_n 0, 1) := by decide +kernel
theorem dX4_combineWithNumber_191 : decode cX4_combineWithNumber 191 = .ok (.iconst 1, 1) := by decide +kernel
theorem dX4_combineWithNumber_192 : decode cX4_combineWithNumber 192 = .ok (.invokevirtual 102, 3) := by decide +kernel
theorem dX4_combineWithNumber_195 : decode cX4_combineWithNumber 195 = .ok (.ireturn, 1) := by decide +kernel
set_option maxRecDepth 20000 in
theorem ggX4_change_X3_d : GoodIn wsX4_change wsX3_d := goodIn_r _ [6] (by decide +kernel) (by decide +kernel)
set_option maxRecDepth 20000 in
theorem gX4_change_X3_d : GoodIn wsX4_change (va_wsS RX4 173 yX3_d wsX3_d) := goodIn_app (goodIn_of _ (by decide +kernel)) ggX4_change_X3_d
set_option maxRecDepth 20000 in
theorem ggX4_change_X0_get : GoodIn wsX4_change wsX0_get := goodIn_r _ [11, 12, 68] (by decide +kernel) (by decide +kernel)
set_option maxRecDepth 20000 in
theorem gX4_change_X0_get : GoodIn wsX4_change (wsV RX4 55 RX0 yX0_get wsX0_get) := goodIn_app (goodIn_of _ (by decide +kernel)) ggX4_change_X0_get
set_option maxRecDepth 20000 in
theorem ggX4_change_X2_inverse : GoodIn wsX4_change wsX2_inverse := goodIn_r _ [17, 18, 19, 20, 16, 21, 22, 23, 24, 10, 25, 12, 69, 68] (by decide +kernel) (by decide +kernel)
set_option maxRecDepth 20000 in
theorem gX4_change_X2_inverse : GoodIn wsX4_change (wsV RX4 211 RX2 yX2_inverse wsX2_inverse) := goodIn_app (goodIn_of _ (by decide +kernel)) ggX4_change_X2_inverse
set_option maxRecDepth 20000 in
theorem ggX4_change_X0_set : GoodIn wsX4_change wsX0_set := goodIn_r _ [29, 12, 68] (by decide +kernel) (by decide +kernel)
set_option maxRecDepth 20000 in
theorem gX4_change_X0_set : GoodIn wsX4_change (wsV RX4 58 RX0 yX0_set wsX0_set) := goodIn_app (goodIn_of _ (by decide +kernel)) ggX4_change_X0_set
set_option maxRecDepth 20000 in
theorem ggX4_change_X2_difference : GoodIn wsX4_change wsX2_difference := goodIn_r _ [33, 34, 35, 36, 16, 37, 18, 19, 20, 21, 22, 23, 24, 10, 25, 12, 69, 68] (by decide +kernel) (by decide +kernel)
set_option maxRecDepth 20000 in
theorem gX4_change_X2_difference : GoodIn wsX4_change (wsV RX4 204 RX2 yX2_difference wsX2_difference) := goodIn_app (goodIn_of _ (by decide +kernel)) ggX4_change_X2_difference
set_option maxRecDepth 20000 in
theorem ggX4_change_X2_more : GoodIn wsX4_change wsX2_more := goodIn_r _ [41, 18, 19, 20, 16, 21, 22, 23, 24, 10, 25, 12, 69, 68] (by decide +kernel) (by decide +kernel)
set_option maxRecDepth 20000 in
theorem gX4_change_X2_more : GoodIn wsX4_change (wsV RX4 214 RX2 yX2_more wsX2_more) := goodIn_app (goodIn_of _ (by decide +kernel)) ggX4_change_X2_more
set_option maxRecDepth 20000 in
theorem ggX4_change_X2_right : GoodIn wsX4_change wsX2_right := goodIn_r _ [45, 18, 19, 20, 16, 21, 22, 23, 24, 10, 25, 12, 69, 68] (by decide +kernel) (by decide +kernel)
set_option maxRecDepth 20000 in
theorem gX4_change_X2_right : GoodIn wsX4_change (wsV RX4 217 RX2 yX2_right wsX2_right) := goodIn_app (goodIn_of _ (by decide +kernel)) ggX4_change_X2_right
set_option maxRecDepth 20000 in
theorem ggX4_change_X0_flag : GoodIn wsX4_change wsX0_flag := goodIn_r _ [49, 12, 68] (by decide +kernel) (by decide +kernel)
set_option maxRecDepth 20000 in
theorem gX4_change_X0_flag : GoodIn wsX4_change (wsV RX4 80 RX0 yX0_flag wsX0_flag) := goodIn_app (goodIn_of _ (by decide +kernel)) ggX4_change_X0_flag
set_option maxRecDepth 20000 in
theorem ggX4_change_X2_less : GoodIn wsX4_change wsX2_less := goodIn_r _ [53, 18, 19, 20, 16, 21, 22, 23, 24, 10, 25, 12, 69, 68] (by decide +kernel) (by decide +kernel)
set_option maxRecDepth 20000 in
theorem gX4_change_X2_less : GoodIn wsX4_change (wsV RX4 220 RX2 yX2_less wsX2_less) := goodIn_app (goodIn_of _ (by decide +kernel)) ggX4_change_X2_less
set_option maxRecDepth 20000 in
theorem ggX4_change_X4_onward : GoodIn wsX4_change wsX4_onward := goodIn_r _ [58, 59, 60, 61, 62, 63, 64, 65, 66, 67] (by decide +kernel) (by decide +kernel)
set_option maxRecDepth 20000 in
theorem gX4_change_X4_onward : GoodIn wsX4_change (wsV RX4 102 RX4 yX4_onward wsX4_onward) := goodIn_app (goodIn_of _ (by decide +kernel)) ggX4_change_X4_onward
theorem dX4_change_0 : decode cX4_change 0 = .ok (.iload_n 1, 1) := by decide +kernel
theorem dX4_change_1 : decode cX4_change 1 = .ok (.invokestatic 173, 3) := by decide +kernel
theorem dX4_change_4 : decode cX4_change 4 = .ok (.istore_n 2, 1) := by decide +kernel
theorem dX4_change_5 : decode cX4_change 5 = .ok (.aload_n 0, 1) := by decide +kernel
theorem dX4_change_6 : decode cX4_change 6 = .ok (.getfield 16, 3) := by decide +kernel
theorem dX4_change_9 : decode cX4_change 9 = .ok (.iload_n 2, 1) := by decide +kernel
theorem dX4_change_10 : decode cX4_change 10 = .ok (.invokevirtual 55, 3) := by decide +kernel
theorem dX4_change_13 : decode cX4_change 13 = .ok (.istore_n 3, 1) := by decide +kernel
theorem dX4_change_14 : decode cX4_change 14 = .ok (.iload_n 1, 1) := by decide +kernel
theorem dX4_change_15 : decode cX4_change 15 = .ok (.bipush 15, 2) := by decide +kernel
theorem dX4_change_17 : decode cX4_change 17 = .ok (.iand, 1) := by decide +kernel
theorem dX4_change_18 : decode cX4_change 18 = .ok (.tableswitch 192 0 7 #[46, 65, 85, 103, 192, 122, 145, 165], 46) := by decide +kernel
theorem dX4_change_64 : decode cX4_change 64 = .ok (.aload_n 0, 1) := by decide +kernel
theorem dX4_change_65 : decode cX4_change 65 = .ok (.getfield 16, 3) := by decide +kernel
theorem dX4_change_68 : decode cX4_change 68 = .ok (.iload_n 2, 1) := by decide +kernel
theorem dX4_change_69 : decode cX4_change 69 = .ok (.aload_n 0, 1) := by decide +kernel
theorem dX4_change_70 : decode cX4_change 70 = .ok (.getfield 25, 3) := by decide +kernel
theorem dX4_change_73 : decode cX4_change 73 = .ok (.iload_n 3, 1) := by decide +kernel
theorem dX4_change_74 : decode cX4_change 74 = .ok (.invokevirtual 211, 3) := by decide +kernel
theorem dX4_change_77 : decode cX4_change 77 = .ok (.invokevirtual 58, 3) := by decide +kernel
theorem dX4_change_80 : decode cX4_change 80 = .ok (.goto 146, 3) := by decide +kernel
theorem dX4_change_83 : decode cX4_change 83 = .ok (.aload_n 0, 1) := by decide +kernel
theorem dX4_change_84 : decode cX4_change 84 = .ok (.getfield 16, 3) := by decide +kernel
theorem dX4_change_87 : decode cX4_change 87 = .ok (.iload_n 2, 1) := by decide +kernel
theorem dX4_change_88 : decode cX4_change 88 = .ok (.aload_n 0, 1) := by decide +kernel
theorem dX4_change_89 : decode cX4_change 89 = .ok (.getfield 25, 3) := by decide +kernel
theorem dX4_change_92 : decode cX4_change 92 = .ok (.iconst 0, 1) := by decide +kernel
theorem dX4_change_93 : decode cX4_change 93 = .ok (.iload_n 3, 1) := by decide +kernel
theorem dX4_change_94 : decode cX4_change 94 = .ok (.invokevirtual 204, 3) := by decide +kernel
theorem dX4_change_97 : decode cX4_change 97 = .ok (.invokevirtual 58, 3) := by decide +kernel
theorem dX4_change_100 : decode cX4_change 100 = .ok (.goto 126, 3) := by decide +kernel
theorem dX4_change_103 : decode cX4_change 103 = .ok (.aload_n 0, 1) := by decide +kernel
theorem dX4_change_104 : decode cX4_change 104 = .ok (.getfield 16, 3) := by decide +kernel
theorem dX4_change_107 : decode cX4_change 107 = .ok (.iload_n 2, 1) := by decide +kernel
theorem dX4_change_108 : decode cX4_change 108 = .ok (.iload_n 3, 1) := by decide +kernel
theorem dX4_change_109 : decode cX4_change 109 = .ok (.iconst 4, 1) := by decide +kernel
theorem dX4_change_110 : decode cX4_change 110 = .ok (.ishl, 1) := by decide +kernel
theorem dX4_change_111 : decode cX4_change 111 = .ok (.iload_n 3, 1) := by decide +kernel
theorem dX4_change_112 : decode cX4_change 112 = .ok (.iconst 4, 1) := by decide +kernel
theorem dX4_change_113 : decode cX4_change 113 = .ok (.ishr, 1) := by decide +kernel
theorem dX4_change_114 : decode cX4_change 114 = .ok (.ior, 1) := by decide +kernel
theorem dX4_change_115 : decode cX4_change 115 = .ok (.invokevirtual 58, 3) := by decide +kernel
theorem dX4_change_118 : decode cX4_change 118 = .ok (.goto 108, 3) := by decide +kernel
theorem dX4_change_121 : decode cX4_change 121 = .ok (.aload_n 0, 1) := by decide +kernel
theorem dX4_change_122 : decode cX4_change 122 = .ok (.getfield 16, 3) := by decide +kernel
theorem dX4_change_125 : decode cX4_change 125 = .ok (.iload_n 2, 1) := by decide +kernel
theorem dX4_change_126 : decode cX4_change 126 = .ok (.aload_n 0, 1) := by decide +kernel
theorem dX4_change_127 : decode cX4_change 127 = .ok (.getfield 25, 3) := by decide +kernel
theorem dX4_change_130 : decode cX4_change 130 = .ok (.iload_n 3, 1) := by decide +kernel
theorem dX4_change_131 : decode cX4_change 131 = .ok (.invokevirtual 214, 3) := by decide +kernel
theorem dX4_change_134 : decode cX4_change 134 = .ok (.invokevirtual 58, 3) := by decide +kernel
theorem dX4_change_137 : decode cX4_change 137 = .ok (.goto 89, 3) := by decide +kernel
theorem dX4_change_140 : decode cX4_change 140 = .ok (.aload_n 0, 1) := by decide +kernel
theorem dX4_change_141 : decode cX4_change 141 = .ok (.getfield 16, 3) := by decide +kernel
theorem dX4_change_144 : decode cX4_change 144 = .ok (.iload_n 2, 1) := by decide +kernel
theorem dX4_change_145 : decode cX4_change 145 = .ok (.aload_n 0, 1) := by decide +kernel
theorem dX4_change_146 : decode cX4_change 146 = .ok (.getfield 25, 3) := by decide +kernel
theorem dX4_change_149 : decode cX4_change 149 = .ok (.iload_n 3, 1) := by decide +kernel
theorem dX4_change_150 : decode cX4_change 150 = .ok (.iload_n 3, 1) := by decide +kernel
theorem dX4_change_151 : decode cX4_change 151 = .ok (.bipush 7, 2) := by decide +kernel
theorem dX4_change_153 : decode cX4_change 153 = .ok (.ishr, 1) := by decide +kernel
theorem dX4_change_154 : decode cX4_change 154 = .ok (.invokevirtual 217, 3) := by decide +kernel
theorem dX4_change_157 : decode cX4_change 157 = .ok (.invokevirtual 58, 3) := by decide +kernel
theorem dX4_change_160 : decode cX4_change 160 = .ok (.goto 66, 3) := by decide +kernel
theorem dX4_change_163 : decode cX4_change 163 = .ok (.aload_n 0, 1) := by decide +kernel
theorem dX4_change_164 : decode cX4_change 164 = .ok (.getfield 16, 3) := by decide +kernel
theorem dX4_change_167 : decode cX4_change 167 = .ok (.iload_n 2, 1) := by decide +kernel
theorem dX4_change_168 : decode cX4_change 168 = .ok (.aload_n 0, 1) := by decide +kernel
theorem dX4_change_169 : decode cX4_change 169 = .ok (.getfield 25, 3) := by decide +kernel
theorem dX4_change_172 : decode cX4_change 172 = .ok (.iload_n 3, 1) := by decide +kernel
theorem dX4_change_173 : decode cX4_change 173 = .ok (.iconst 0, 1) := by decide +kernel
theorem dX4_change_174 : decode cX4_change 174 = .ok (.invokevirtual 217, 3) := by decide +kernel
theorem dX4_change_177 : decode cX4_change 177 = .ok (.invokevirtual 58, 3) := by decide +kernel
theorem dX4_change_180 : decode cX4_change 180 = .ok (.goto 46, 3) := by decide +kernel
theorem dX4_change_183 : decode cX4_change 183 = .ok (.aload_n 0, 1) := by decide +kernel
theorem dX4_change_184 : decode cX4_change 184 = .ok (.getfield 16, 3) := by decide +kernel
theorem dX4_change_187 : decode cX4_change 187 = .ok (.iload_n 2, 1) := by decide +kernel
theorem dX4_change_188 : decode cX4_change 188 = .ok (.aload_n 0, 1) := by decide +kernel
theorem dX4_change_189 : decode cX4_change 189 = .ok (.getfield 25, 3) := by decide +kernel
theorem dX4_change_192 : decode cX4_change 192 = .ok (.iload_n 3, 1) := by decide +kernel
theorem dX4_change_193 : decode cX4_change 193 = .ok (.aload_n 0, 1) := by decide +kernel
theorem dX4_change_194 : decode cX4_change 194 = .ok (.getfield 16, 3) := by decide +kernel
theorem dX4_change_197 : decode cX4_change 197 = .ok (.iconst 0, 1) := by decide +kernel
theorem dX4_change_198 : decode cX4_change 198 = .ok (.invokevirtual 80, 3) := by decide +kernel
theorem dX4_change_201 : decode cX4_change 201 = .ok (.invokevirtual 217, 3) := by decide +kernel
theorem dX4_change_204 : decode cX4_change 204 = .ok (.invokevirtual 58, 3) := by decide +kernel
theorem dX4_change_207 : decode cX4_change 207 = .ok (.goto 19, 3) := by decide +kernel
theorem dX4_change_210 : decode cX4_change 210 = .ok (.aload_n 0, 1) := by decide +kernel
theorem dX4_change_211 : decode cX4_change 211 = .ok (.getfield 16, 3) := by decide +kernel
theorem dX4_change_214 : decode cX4_change 214 = .ok (.iload_n 2, 1) := by decide +kernel
theorem dX4_change_215 : decode cX4_change 215 = .ok (.aload_n 0, 1) := by decide +kernel
theorem dX4_change_216 : decode cX4_change 216 = .ok (.getfield 25, 3) := by decide +kernel
theorem dX4_change_219 : decode cX4_change 219 = .ok (.iload_n 3, 1) := by decide +kernel
theorem dX4_change_220 : decode cX4_change 220 = .ok (.invokevirtual 220, 3) := by decide +kernel
theorem dX4_change_223 : decode cX4_change 223 = .ok (.invokevirtual 58, 3) := by decide +kernel
theorem dX4_change_226 : decode cX4_change 226 = .ok (.aload_n 0, 1) := by decide +kernel
theorem dX4_change_227 : decode cX4_change 227 = .ok (.iconst 1, 1) := by decide +kernel
theorem dX4_change_228 : decode cX4_change 228 = .ok (.invokevirtual 102, 3) := by decide +kernel
theorem dX4_change_231 : decode cX4_change 231 = .ok (.ireturn, 1) := by decide +kernel
set_option maxRecDepth 20000 in
theorem ggX4_setFlag_X0_setFlag : GoodIn wsX4_setFlag wsX0_setFlag := goodIn_r _ [6, 7, 8, 9, 5, 10, 11, 12, 13, 14, 15, 16, 17, 18, 19, 34] (by decide +kernel) (by decide +kernel)
set_option maxRecDepth 20000 in
theorem gX4_setFlag_X0_setFlag : GoodIn wsX4_setFlag (wsV RX4 99 RX0 yX0_setFlag wsX0_setFlag) := goodIn_app (goodIn_of _ (by decide +kernel)) ggX4_setFlag_X0_setFlag
set_option maxRecDepth 20000 in
theorem ggX4_setFlag_X4_onward : GoodIn wsX4_setFlag wsX4_onward := goodIn_r _ [24, 25, 26, 27, 28, 29, 30, 31, 32, 33] (by decide +kernel) (by decide +kernel)
set_option maxRecDepth 20000 in
theorem gX4_setFlag_X4_onward : GoodIn wsX4_setFlag (wsV RX4 102 RX4 yX4_onward wsX4_onward) := goodIn_app (goodIn_of _ (by decide +kernel)) ggX4_setFlag_X4_onward
theorem dX4_setFlag_0 : decode cX4_setFlag 0 = .ok (.aload_n 0, 1) := by decide +kernel
theorem dX4_setFlag_1 : decode cX4_setFlag 1 = .ok (.getfield 16, 3) := by decide +kernel
theorem dX4_setFlag_4 : decode cX4_setFlag 4 = .ok (.iload_n 1, 1) := by decide +kernel
theorem dX4_setFlag_5 : decode cX4_setFlag 5 = .ok (.iconst 4, 1) := by decide +kernel
theorem dX4_setFlag_6 : decode cX4_setFlag 6 = .ok (.ishr, 1) := by decide +kernel
theorem dX4_setFlag_7 : decode cX4_setFlag 7 = .ok (.bipush 7, 2) := by decide +kernel
theorem dX4_setFlag_9 : decode cX4_setFlag 9 = .ok (.iand, 1) := by decide +kernel
theorem dX4_setFlag_10 : decode cX4_setFlag 10 = .ok (.iload_n 1, 1) := by decide +kernel
theorem dX4_setFlag_11 : decode cX4_setFlag 11 = .ok (.sipush 128, 3) := by decide +kernel
theorem dX4_setFlag_14 : decode cX4_setFlag 14 = .ok (.iand, 1) := by decide +kernel
theorem dX4_setFlag_15 : decode cX4_setFlag 15 = .ok (.ifCond .ne 7, 3) := by decide +kernel
theorem dX4_setFlag_18 : decode cX4_setFlag 18 = .ok (.iconst 1, 1) := by decide +kernel
theorem dX4_setFlag_19 : decode cX4_setFlag 19 = .ok (.goto 4, 3) := by decide +kernel
theorem dX4_setFlag_22 : decode cX4_setFlag 22 = .ok (.iconst 0, 1) := by decide +kernel
theorem dX4_setFlag_23 : decode cX4_setFlag 23 = .ok (.invokevirtual 99, 3) := by decide +kernel
theorem dX4_setFlag_26 : decode cX4_setFlag 26 = .ok (.aload_n 0, 1) := by decide +kernel
theorem dX4_setFlag_27 : decode cX4_setFlag 27 = .ok (.iconst 1, 1) := by decide +kernel
theorem dX4_setFlag_28 : decode cX4_setFlag 28 = .ok (.invokevirtual 102, 3) := by decide +kernel
theorem dX4_setFlag_31 : decode cX4_setFlag 31 = .ok (.ireturn, 1) := by decide +kernel
set_option maxRecDepth 20000 in
theorem ggX4_changePair_X0_pair : GoodIn wsX4_changePair wsX0_pair := goodIn_r _ [7, 8, 50] (by decide +kernel) (by decide +kernel)
set_option maxRecDepth 20000 in
theorem gX4_changePair_X0_pair : GoodIn wsX4_changePair (wsV RX4 62 RX0 yX0_pair wsX0_pair) := goodIn_app (goodIn_of _ (by decide +kernel)) ggX4_changePair_X0_pair
set_option maxRecDepth 20000 in
theorem ggX4_changePair_X2_pairMore : GoodIn wsX4_changePair wsX2_pairMore := goodIn_r _ [13, 14, 15, 16, 17, 12, 18, 19, 20, 21, 22, 23, 24, 25, 26, 6, 27, 8, 51, 50] (by decide +kernel) (by decide +kernel)
set_option maxRecDepth 20000 in
theorem gX4_changePair_X2_pairMore : GoodIn wsX4_changePair (wsV RX4 223 RX2 yX2_pairMore wsX2_pairMore) := goodIn_app (goodIn_of _ (by decide +kernel)) ggX4_changePair_X2_pairMore
set_option maxRecDepth 20000 in
theorem ggX4_changePair_X2_pairLess : GoodIn wsX4_changePair wsX2_pairLess := goodIn_r _ [31, 14, 15, 16, 17, 12, 18, 19, 20, 21, 22, 23, 24, 25, 26, 6, 27, 8, 51, 50] (by decide +kernel) (by decide +kernel)
set_option maxRecDepth 20000 in
theorem gX4_changePair_X2_pairLess : GoodIn wsX4_changePair (wsV RX4 226 RX2 yX2_pairLess wsX2_pairLess) := goodIn_app (goodIn_of _ (by decide +kernel)) ggX4_changePair_X2_pairLess
set_option maxRecDepth 20000 in
theorem ggX4_changePair_X0_setPair : GoodIn wsX4_changePair wsX0_setPair := goodIn_r _ [35, 8, 50] (by decide +kernel) (by decide +kernel)
set_option maxRecDepth 20000 in
theorem gX4_changePair_X0_setPair : GoodIn wsX4_changePair (wsV RX4 170 RX0 yX0_setPair wsX0_setPair) := goodIn_app (goodIn_of _ (by decide +kernel)) ggX4_changePair_X0_setPair
set_option maxRecDepth 20000 in
theorem ggX4_changePair_X4_onward : GoodIn wsX4_changePair wsX4_onward := goodIn_r _ [40, 41, 42, 43, 44, 45, 46, 47, 48, 49] (by decide +kernel) (by decide +kernel)
set_option maxRecDepth 20000 in
theorem gX4_changePair_X4_onward : GoodIn wsX4_changePair (wsV RX4 102 RX4 yX4_onward wsX4_onward) := goodIn_app (goodIn_of _ (by decide +kernel)) ggX4_changePair_X4_onward
theorem dX4_changePair_0 : decode cX4_changePair 0 = .ok (.bipush 24, 2) := by decide +kernel
theorem dX4_changePair_2 : decode cX4_changePair 2 = .ok (.iload_n 1, 1) := by decide +kernel
theorem dX4_changePair_3 : decode cX4_changePair 3 = .ok (.iconst 3, 1) := by decide +kernel
theorem dX4_changePair_4 : decode cX4_changePair 4 = .ok (.ishr, 1) := by decide +kernel
theorem dX4_changePair_5 : decode cX4_changePair 5 = .ok (.bipush 6, 2) := by decide +kernel
theorem dX4_changePair_7 : decode cX4_changePair 7 = .ok (.iand, 1) := by decide +kernel
theorem dX4_changePair_8 : decode cX4_changePair 8 = .ok (.iadd, 1) := by decide +kernel
theorem dX4_changePair_9 : decode cX4_changePair 9 = .ok (.istore_n 2, 1) := by decide +kernel
theorem dX4_changePair_10 : decode cX4_changePair 10 = .ok (.aload_n 0, 1) := by decide +kernel
theorem dX4_changePair_11 : decode cX4_changePair 11 = .ok (.getfield 16, 3) := by decide +kernel
theorem dX4_changePair_14 : decode cX4_changePair 14 = .ok (.iload_n 2, 1) := by decide +kernel
theorem dX4_changePair_15 : decode cX4_changePair 15 = .ok (.invokevirtual 62, 3) := by decide +kernel
theorem dX4_changePair_18 : decode cX4_changePair 18 = .ok (.istore_n 3, 1) := by decide +kernel
theorem dX4_changePair_19 : decode cX4_changePair 19 = .ok (.iload_n 1, 1) := by decide +kernel
theorem dX4_changePair_20 : decode cX4_changePair 20 = .ok (.iconst 2, 1) := by decide +kernel
theorem dX4_changePair_21 : decode cX4_changePair 21 = .ok (.ishr, 1) := by decide +kernel
theorem dX4_changePair_22 : decode cX4_changePair 22 = .ok (.bipush 48, 2) := by decide +kernel
theorem dX4_changePair_24 : decode cX4_changePair 24 = .ok (.iand, 1) := by decide +kernel
theorem dX4_changePair_25 : decode cX4_changePair 25 = .ok (.iload_n 1, 1) := by decide +kernel
theorem dX4_changePair_26 : decode cX4_changePair 26 = .ok (.bipush 15, 2) := by decide +kernel
theorem dX4_changePair_28 : decode cX4_changePair 28 = .ok (.iand, 1) := by decide +kernel
theorem dX4_changePair_29 : decode cX4_changePair 29 = .ok (.ior, 1) := by decide +kernel
theorem dX4_changePair_30 : decode cX4_changePair 30 = .ok (.istore 4, 2) := by decide +kernel
theorem dX4_changePair_32 : decode cX4_changePair 32 = .ok (.aload_n 0, 1) := by decide +kernel
theorem dX4_changePair_33 : decode cX4_changePair 33 = .ok (.getfield 16, 3) := by decide +kernel
theorem dX4_changePair_36 : decode cX4_changePair 36 = .ok (.iload_n 2, 1) := by decide +kernel
theorem dX4_changePair_37 : decode cX4_changePair 37 = .ok (.iload_n 1, 1) := by decide +kernel
theorem dX4_changePair_38 : decode cX4_changePair 38 = .ok (.sipush 256, 3) := by decide +kernel
theorem dX4_changePair_41 : decode cX4_changePair 41 = .ok (.iand, 1) := by decide +kernel
theorem dX4_changePair_42 : decode cX4_changePair 42 = .ok (.ifCond .ne 16, 3) := by decide +kernel
theorem dX4_changePair_45 : decode cX4_changePair 45 = .ok (.aload_n 0, 1) := by decide +kernel
theorem dX4_changePair_46 : decode cX4_changePair 46 = .ok (.getfield 25, 3) := by decide +kernel
theorem dX4_changePair_49 : decode cX4_changePair 49 = .ok (.iload_n 3, 1) := by decide +kernel
theorem dX4_changePair_50 : decode cX4_changePair 50 = .ok (.iload 4, 2) := by decide +kernel
theorem dX4_changePair_52 : decode cX4_changePair 52 = .ok (.invokevirtual 223, 3) := by decide +kernel
theorem dX4_changePair_55 : decode cX4_changePair 55 = .ok (.goto 13, 3) := by decide +kernel
theorem dX4_changePair_58 : decode cX4_changePair 58 = .ok (.aload_n 0, 1) := by decide +kernel
theorem dX4_changePair_59 : decode cX4_changePair 59 = .ok (.getfield 25, 3) := by decide +kernel
theorem dX4_changePair_62 : decode cX4_changePair 62 = .ok (.iload_n 3, 1) := by decide +kernel
theorem dX4_changePair_63 : decode cX4_changePair 63 = .ok (.iload 4, 2) := by decide +kernel
theorem dX4_changePair_65 : decode cX4_changePair 65 = .ok (.invokevirtual 226, 3) := by decide +kernel
theorem dX4_changePair_68 : decode cX4_changePair 68 = .ok (.invokevirtual 170, 3) := by decide +kernel
theorem dX4_changePair_71 : decode cX4_changePair 71 = .ok (.aload_n 0, 1) := by decide +kernel
theorem dX4_changePair_72 : decode cX4_changePair 72 = .ok (.iconst 1, 1) := by decide +kernel
theorem dX4_changePair_73 : decode cX4_changePair 73 = .ok (.invokevirtual 102, 3) := by decide +kernel
theorem dX4_changePair_76 : decode cX4_changePair 76 = .ok (.ireturn, 1) := by decide +kernel
set_option maxRecDepth 20000 in
theorem ggX4_transfer_X3_d : GoodIn wsX4_transfer wsX3_d := goodIn_r _ [5] (by decide +kernel) (by decide +kernel)
set_option maxRecDepth 20000 in
theorem gX4_transfer_X3_d : GoodIn wsX4_transfer (va_wsS RX4 173 yX3_d wsX3_d) := goodIn_app (goodIn_of _ (by decide +kernel)) ggX4_transfer_X3_d
set_option maxRecDepth 20000 in
theorem ggX4_transfer_X0_get : GoodIn wsX4_transfer wsX0_get := goodIn_r _ [10, 11, 24] (by decide +kernel) (by decide +kernel)
set_option maxRecDepth 20000 in
theorem gX4_transfer_X0_get : GoodIn wsX4_transfer (wsV RX4 55 RX0 yX0_get wsX0_get) := goodIn_app (goodIn_of _ (by decide +kernel)) ggX4_transfer_X0_get
set_option maxRecDepth 20000 in
theorem ggX4_transfer_X0_set : GoodIn wsX4_transfer wsX0_set := goodIn_r _ [15, 11, 24] (by decide +kernel) (by decide +kernel)
set_option maxRecDepth 20000 in
theorem gX4_transfer_X0_set : GoodIn wsX4_transfer (wsV RX4 58 RX0 yX0_set wsX0_set) := goodIn_app (goodIn_of _ (by decide +kernel)) ggX4_transfer_X0_set
theorem dX4_transfer_0 : decode cX4_transfer 0 = .ok (.iload_n 1, 1) := by decide +kernel
theorem dX4_transfer_1 : decode cX4_transfer 1 = .ok (.invokestatic 173, 3) := by decide +kernel
theorem dX4_transfer_4 : decode cX4_transfer 4 = .ok (.istore_n 3, 1) := by decide +kernel
theorem dX4_transfer_5 : decode cX4_transfer 5 = .ok (.iload_n 1, 1) := by decide +kernel
theorem dX4_transfer_6 : decode cX4_transfer 6 = .ok (.sipush 512, 3) := by decide +kernel
theorem dX4_transfer_9 : decode cX4_transfer 9 = .ok (.iand, 1) := by decide +kernel
theorem dX4_transfer_10 : decode cX4_transfer 10 = .ok (.ifCond .ne 22, 3) := by decide +kernel
theorem dX4_transfer_13 : decode cX4_transfer 13 = .ok (.aload_n 0, 1) := by decide +kernel
theorem dX4_transfer_14 : decode cX4_transfer 14 = .ok (.getfield 16, 3) := by decide +kernel
theorem dX4_transfer_17 : decode cX4_transfer 17 = .ok (.iload_n 3, 1) := by decide +kernel
theorem dX4_transfer_18 : decode cX4_transfer 18 = .ok (.aload_n 0, 1) := by decide +kernel
theorem dX4_transfer_19 : decode cX4_transfer 19 = .ok (.getfield 16, 3) := by decide +kernel
theorem dX4_transfer_22 : decode cX4_transfer 22 = .ok (.iload_n 2, 1) := by decide +kernel
theorem dX4_transfer_23 : decode cX4_transfer 23 = .ok (.invokevirtual 55, 3) := by decide +kernel
theorem dX4_transfer_26 : decode cX4_transfer 26 = .ok (.invokevirtual 58, 3) := by decide +kernel
theorem dX4_transfer_29 : decode cX4_transfer 29 = .ok (.goto 19, 3) := by decide +kernel
theorem dX4_transfer_32 : decode cX4_transfer 32 = .ok (.aload_n 0, 1) := by decide +kernel
theorem dX4_transfer_33 : decode cX4_transfer 33 = .ok (.getfield 16, 3) := by decide +kernel
theorem dX4_transfer_36 : decode cX4_transfer 36 = .ok (.iload_n 2, 1) := by decide +kernel
theorem dX4_transfer_37 : decode cX4_transfer 37 = .ok (.aload_n 0, 1) := by decide +kernel
theorem dX4_transfer_38 : decode cX4_transfer 38 = .ok (.getfield 16, 3) := by decide +kernel
theorem dX4_transfer_41 : decode cX4_transfer 41 = .ok (.iload_n 3, 1) := by decide +kernel
theorem dX4_transfer_42 : decode cX4_transfer 42 = .ok (.invokevirtual 55, 3) := by decide +kernel
theorem dX4_transfer_45 : decode cX4_transfer 45 = .ok (.invokevirtual 58, 3) := by decide +kernel
theorem dX4_transfer_48 : decode cX4_transfer 48 = .ok (.return_, 1) := by decide +kernel
set_option maxRecDepth 20000 in
theorem ggX4_moveAtNext_X4_cellAt : GoodIn wsX4_moveAtNext wsX4_cellAt := goodIn_r _ [6, 7, 31, 32, 33, 34, 35, 36, 37, 38] (by decide +kernel) (by decide +kernel)
set_option maxRecDepth 20000 in
theorem gX4_moveAtNext_X4_cellAt : GoodIn wsX4_moveAtNext (wsV RX4 51 RX4 yX4_cellAt wsX4_cellAt) := goodIn_app (goodIn_of _ (by decide +kernel)) ggX4_moveAtNext_X4_cellAt
set_option maxRecDepth 20000 in
theorem ggX4_moveAtNext_X4_transfer : GoodIn wsX4_moveAtNext wsX4_transfer := goodIn_r _ [11, 12, 13, 14, 15, 16, 17, 18, 19, 20, 21, 22, 23, 24, 25, 26, 31, 32, 33, 34, 35, 36, 37, 38, 39] (by decide +kernel) (by decide +kernel)
set_option maxRecDepth 20000 in
theorem gX4_moveAtNext_X4_transfer : GoodIn wsX4_moveAtNext (wsV RX4 229 RX4 yX4_transfer wsX4_transfer) := goodIn_app (goodIn_of _ (by decide +kernel)) ggX4_moveAtNext_X4_transfer
set_option maxRecDepth 20000 in
theorem ggX4_moveAtNext_X4_onward : GoodIn wsX4_moveAtNext wsX4_onward := goodIn_r _ [30, 1, 31, 32, 33, 34, 35, 36, 37, 38] (by decide +kernel) (by decide +kernel)
set_option maxRecDepth 20000 in
theorem gX4_moveAtNext_X4_onward : GoodIn wsX4_moveAtNext (wsV RX4 102 RX4 yX4_onward wsX4_onward) := goodIn_app (goodIn_of _ (by decide +kernel)) ggX4_moveAtNext_X4_onward
theorem dX4_moveAtNext_0 : decode cX4_moveAtNext 0 = .ok (.aload_n 0, 1) := by decide +kernel
theorem dX4_moveAtNext_1 : decode cX4_moveAtNext 1 = .ok (.aload_n 0, 1) := by decide +kernel
theorem dX4_moveAtNext_2 : decode cX4_moveAtNext 2 = .ok (.getfield 32, 3) := by decide +kernel
theorem dX4_moveAtNext_5 : decode cX4_moveAtNext 5 = .ok (.iconst 1, 1) := by decide +kernel
theorem dX4_moveAtNext_6 : decode cX4_moveAtNext 6 = .ok (.iadd, 1) := by decide +kernel
theorem dX4_moveAtNext_7 : decode cX4_moveAtNext 7 = .ok (.invokevirtual 51, 3) := by decide +kernel
theorem dX4_moveAtNext_10 : decode cX4_moveAtNext 10 = .ok (.istore_n 2, 1) := by decide +kernel
theorem dX4_moveAtNext_11 : decode cX4_moveAtNext 11 = .ok (.iload_n 2, 1) := by decide +kernel
theorem dX4_moveAtNext_12 : decode cX4_moveAtNext 12 = .ok (.sipush 1023, 3) := by decide +kernel
theorem dX4_moveAtNext_15 : decode cX4_moveAtNext 15 = .ok (.if_icmp .le 5, 3) := by decide +kernel
theorem dX4_moveAtNext_18 : decode cX4_moveAtNext 18 = .ok (.iconst 3, 1) := by decide +kernel
theorem dX4_moveAtNext_19 : decode cX4_moveAtNext 19 = .ok (.ireturn, 1) := by decide +kernel
theorem dX4_moveAtNext_20 : decode cX4_moveAtNext 20 = .ok (.aload_n 0, 1) := by decide +kernel
theorem dX4_moveAtNext_21 : decode cX4_moveAtNext 21 = .ok (.iload_n 1, 1) := by decide +kernel
theorem dX4_moveAtNext_22 : decode cX4_moveAtNext 22 = .ok (.iload_n 2, 1) := by decide +kernel
theorem dX4_moveAtNext_23 : decode cX4_moveAtNext 23 = .ok (.invokevirtual 229, 3) := by decide +kernel
theorem dX4_moveAtNext_26 : decode cX4_moveAtNext 26 = .ok (.aload_n 0, 1) := by decide +kernel
theorem dX4_moveAtNext_27 : decode cX4_moveAtNext 27 = .ok (.iconst 2, 1) := by decide +kernel
theorem dX4_moveAtNext_28 : decode cX4_moveAtNext 28 = .ok (.invokevirtual 102, 3) := by decide +kernel
theorem dX4_moveAtNext_31 : decode cX4_moveAtNext 31 = .ok (.ireturn, 1) := by decide +kernel
set_option maxRecDepth 20000 in
theorem ggX4_movePointed_X3_pointer : GoodIn wsX4_movePointed wsX3_pointer := goodIn_r _ [6] (by decide +kernel) (by decide +kernel)
set_option maxRecDepth 20000 in
theorem gX4_movePointed_X3_pointer : GoodIn wsX4_movePointed (va_wsS RX4 232 yX3_pointer wsX3_pointer) := goodIn_app (goodIn_of _ (by decide +kernel)) ggX4_movePointed_X3_pointer
set_option maxRecDepth 20000 in
theorem ggX4_movePointed_X0_pair : GoodIn wsX4_movePointed wsX0_pair := goodIn_r _ [11, 12, 46] (by decide +kernel) (by decide +kernel)
set_option maxRecDepth 20000 in
theorem gX4_movePointed_X0_pair : GoodIn wsX4_movePointed (wsV RX4 62 RX0 yX0_pair wsX0_pair) := goodIn_app (goodIn_of _ (by decide +kernel)) ggX4_movePointed_X0_pair
set_option maxRecDepth 20000 in
theorem ggX4_movePointed_X0_setPair : GoodIn wsX4_movePointed wsX0_setPair := goodIn_r _ [16, 12, 46] (by decide +kernel) (by decide +kernel)
set_option maxRecDepth 20000 in
theorem gX4_movePointed_X0_setPair : GoodIn wsX4_movePointed (wsV RX4 170 RX0 yX0_setPair wsX0_setPair) := goodIn_app (goodIn_of _ (by decide +kernel)) ggX4_movePointed_X0_setPair
set_option maxRecDepth 20000 in
theorem ggX4_movePointed_X4_transfer : GoodIn wsX4_movePointed wsX4_transfer := goodIn_r _ [21, 1, 22, 23, 5, 24, 25, 26, 27, 10, 28, 12, 29, 30, 31, 32, 38, 39, 40, 41, 42, 43, 44, 45, 46] (by decide +kernel) (by decide +kernel)
set_option maxRecDepth 20000 in
theorem gX4_movePointed_X4_transfer : GoodIn wsX4_movePointed (wsV RX4 229 RX4 yX4_transfer wsX4_transfer) := goodIn_app (goodIn_of _ (by decide +kernel)) ggX4_movePointed_X4_transfer
set_option maxRecDepth 20000 in
theorem ggX4_movePointed_X4_onward : GoodIn wsX4_movePointed wsX4_onward := goodIn_r _ [36, 37, 38, 39, 40, 41, 42, 43, 44, 45] (by decide +kernel) (by decide +kernel)
set_option maxRecDepth 20000 in
theorem gX4_movePointed_X4_onward : GoodIn wsX4_movePointed (wsV RX4 102 RX4 yX4_onward wsX4_onward) := goodIn_app (goodIn_of _ (by decide +kernel)) ggX4_movePointed_X4_onward
theorem dX4_movePointed_0 : decode cX4_movePointed 0 = .ok (.iload_n 1, 1) := by decide +kernel
theorem dX4_movePointed_1 : decode cX4_movePointed 1 = .ok (.invokestatic 232, 3) := by decide +kernel
theorem dX4_movePointed_4 : decode cX4_movePointed 4 = .ok (.istore_n 2, 1) := by decide +kernel
theorem dX4_movePointed_5 : decode cX4_movePointed 5 = .ok (.aload_n 0, 1) := by decide +kernel
theorem dX4_movePointed_6 : decode cX4_movePointed 6 = .ok (.getfield 16, 3) := by decide +kernel
theorem dX4_movePointed_9 : decode cX4_movePointed 9 = .ok (.iload_n 2, 1) := by decide +kernel
theorem dX4_movePointed_10 : decode cX4_movePointed 10 = .ok (.invokevirtual 62, 3) := by decide +kernel
theorem dX4_movePointed_13 : decode cX4_movePointed 13 = .ok (.istore_n 3, 1) := by decide +kernel
theorem dX4_movePointed_14 : decode cX4_movePointed 14 = .ok (.iload_n 1, 1) := by decide +kernel
theorem dX4_movePointed_15 : decode cX4_movePointed 15 = .ok (.iconst 3, 1) := by decide +kernel
theorem dX4_movePointed_16 : decode cX4_movePointed 16 = .ok (.iand, 1) := by decide +kernel
theorem dX4_movePointed_17 : decode cX4_movePointed 17 = .ok (.iconst 2, 1) := by decide +kernel
theorem dX4_movePointed_18 : decode cX4_movePointed 18 = .ok (.if_icmp .ne 7, 3) := by decide +kernel
theorem dX4_movePointed_21 : decode cX4_movePointed 21 = .ok (.iconst 1, 1) := by decide +kernel
theorem dX4_movePointed_22 : decode cX4_movePointed 22 = .ok (.goto 4, 3) := by decide +kernel
theorem dX4_movePointed_25 : decode cX4_movePointed 25 = .ok (.iconst 0, 1) := by decide +kernel
theorem dX4_movePointed_26 : decode cX4_movePointed 26 = .ok (.istore 4, 2) := by decide +kernel
theorem dX4_movePointed_28 : decode cX4_movePointed 28 = .ok (.iload_n 1, 1) := by decide +kernel
theorem dX4_movePointed_29 : decode cX4_movePointed 29 = .ok (.iconst 3, 1) := by decide +kernel
theorem dX4_movePointed_30 : decode cX4_movePointed 30 = .ok (.iand, 1) := by decide +kernel
theorem dX4_movePointed_31 : decode cX4_movePointed 31 = .ok (.iconst 1, 1) := by decide +kernel
theorem dX4_movePointed_32 : decode cX4_movePointed 32 = .ok (.if_icmp .ne 7, 3) := by decide +kernel
theorem dX4_movePointed_35 : decode cX4_movePointed 35 = .ok (.iconst 1, 1) := by decide +kernel
theorem dX4_movePointed_36 : decode cX4_movePointed 36 = .ok (.goto 4, 3) := by decide +kernel
theorem dX4_movePointed_39 : decode cX4_movePointed 39 = .ok (.iconst 0, 1) := by decide +kernel
theorem dX4_movePointed_40 : decode cX4_movePointed 40 = .ok (.istore 5, 2) := by decide +kernel
theorem dX4_movePointed_42 : decode cX4_movePointed 42 = .ok (.iload 4, 2) := by decide +kernel
theorem dX4_movePointed_44 : decode cX4_movePointed 44 = .ok (.ifCond .eq 12, 3) := by decide +kernel
theorem dX4_movePointed_47 : decode cX4_movePointed 47 = .ok (.iload_n 3, 1) := by decide +kernel
theorem dX4_movePointed_48 : decode cX4_movePointed 48 = .ok (.iconst 1, 1) := by decide +kernel
theorem dX4_movePointed_49 : decode cX4_movePointed 49 = .ok (.isub, 1) := by decide +kernel
theorem dX4_movePointed_50 : decode cX4_movePointed 50 = .ok (.ldc 50, 2) := by decide +kernel
theorem dX4_movePointed_52 : decode cX4_movePointed 52 = .ok (.iand, 1) := by decide +kernel
theorem dX4_movePointed_53 : decode cX4_movePointed 53 = .ok (.goto 4, 3) := by decide +kernel
theorem dX4_movePointed_56 : decode cX4_movePointed 56 = .ok (.iload_n 3, 1) := by decide +kernel
theorem dX4_movePointed_57 : decode cX4_movePointed 57 = .ok (.istore 6, 2) := by decide +kernel
theorem dX4_movePointed_59 : decode cX4_movePointed 59 = .ok (.iload 6, 2) := by decide +kernel
theorem dX4_movePointed_61 : decode cX4_movePointed 61 = .ok (.sipush 1023, 3) := by decide +kernel
theorem dX4_movePointed_64 : decode cX4_movePointed 64 = .ok (.if_icmp .le 5, 3) := by decide +kernel
theorem dX4_movePointed_67 : decode cX4_movePointed 67 = .ok (.iconst 3, 1) := by decide +kernel
theorem dX4_movePointed_68 : decode cX4_movePointed 68 = .ok (.ireturn, 1) := by decide +kernel
theorem dX4_movePointed_69 : decode cX4_movePointed 69 = .ok (.iload 4, 2) := by decide +kernel
theorem dX4_movePointed_71 : decode cX4_movePointed 71 = .ok (.ifCond .eq 13, 3) := by decide +kernel
theorem dX4_movePointed_74 : decode cX4_movePointed 74 = .ok (.aload_n 0, 1) := by decide +kernel
theorem dX4_movePointed_75 : decode cX4_movePointed 75 = .ok (.getfield 16, 3) := by decide +kernel
theorem dX4_movePointed_78 : decode cX4_movePointed 78 = .ok (.iload_n 2, 1) := by decide +kernel
theorem dX4_movePointed_79 : decode cX4_movePointed 79 = .ok (.iload 6, 2) := by decide +kernel
theorem dX4_movePointed_81 : decode cX4_movePointed 81 = .ok (.invokevirtual 170, 3) := by decide +kernel
theorem dX4_movePointed_84 : decode cX4_movePointed 84 = .ok (.aload_n 0, 1) := by decide +kernel
theorem dX4_movePointed_85 : decode cX4_movePointed 85 = .ok (.iload_n 1, 1) := by decide +kernel
theorem dX4_movePointed_86 : decode cX4_movePointed 86 = .ok (.iload 6, 2) := by decide +kernel
theorem dX4_movePointed_88 : decode cX4_movePointed 88 = .ok (.invokevirtual 229, 3) := by decide +kernel
theorem dX4_movePointed_91 : decode cX4_movePointed 91 = .ok (.iload 5, 2) := by decide +kernel
theorem dX4_movePointed_93 : decode cX4_movePointed 93 = .ok (.ifCond .eq 14, 3) := by decide +kernel
theorem dX4_movePointed_96 : decode cX4_movePointed 96 = .ok (.aload_n 0, 1) := by decide +kernel
theorem dX4_movePointed_97 : decode cX4_movePointed 97 = .ok (.getfield 16, 3) := by decide +kernel
theorem dX4_movePointed_100 : decode cX4_movePointed 100 = .ok (.iload_n 2, 1) := by decide +kernel
theorem dX4_movePointed_101 : decode cX4_movePointed 101 = .ok (.iload_n 3, 1) := by decide +kernel
theorem dX4_movePointed_102 : decode cX4_movePointed 102 = .ok (.iconst 1, 1) := by decide +kernel
theorem dX4_movePointed_103 : decode cX4_movePointed 103 = .ok (.iadd, 1) := by decide +kernel
theorem dX4_movePointed_104 : decode cX4_movePointed 104 = .ok (.invokevirtual 170, 3) := by decide +kernel
theorem dX4_movePointed_107 : decode cX4_movePointed 107 = .ok (.aload_n 0, 1) := by decide +kernel
theorem dX4_movePointed_108 : decode cX4_movePointed 108 = .ok (.iconst 1, 1) := by decide +kernel
theorem dX4_movePointed_109 : decode cX4_movePointed 109 = .ok (.invokevirtual 102, 3) := by decide +kernel
theorem dX4_movePointed_112 : decode cX4_movePointed 112 = .ok (.ireturn, 1) := by decide +kernel
set_option maxRecDepth 20000 in
theorem ggX4_moveStacked_X0_pair : GoodIn wsX4_moveStacked wsX0_pair := goodIn_r _ [7, 8, 50] (by decide +kernel) (by decide +kernel)
set_option maxRecDepth 20000 in
theorem gX4_moveStacked_X0_pair : GoodIn wsX4_moveStacked (wsV RX4 62 RX0 yX0_pair wsX0_pair) := goodIn_app (goodIn_of _ (by decide +kernel)) ggX4_moveStacked_X0_pair
set_option maxRecDepth 20000 in
theorem ggX4_moveStacked_X3_d : GoodIn wsX4_moveStacked wsX3_d := goodIn_r _ [12] (by decide +kernel) (by decide +kernel)
set_option maxRecDepth 20000 in
theorem gX4_moveStacked_X3_d : GoodIn wsX4_moveStacked (va_wsS RX4 173 yX3_d wsX3_d) := goodIn_app (goodIn_of _ (by decide +kernel)) ggX4_moveStacked_X3_d
set_option maxRecDepth 20000 in
theorem ggX4_moveStacked_X0_pull : GoodIn wsX4_moveStacked wsX0_pull := goodIn_r _ [16, 17, 4, 5, 6, 7, 8, 18, 19, 20, 21, 22, 23, 24, 25, 50] (by decide +kernel) (by decide +kernel)
set_option maxRecDepth 20000 in
theorem gX4_moveStacked_X0_pull : GoodIn wsX4_moveStacked (wsV RX4 235 RX0 yX0_pull wsX0_pull) := goodIn_app (goodIn_of _ (by decide +kernel)) ggX4_moveStacked_X0_pull
set_option maxRecDepth 20000 in
theorem ggX4_moveStacked_X0_set : GoodIn wsX4_moveStacked wsX0_set := goodIn_r _ [29, 8, 50] (by decide +kernel) (by decide +kernel)
set_option maxRecDepth 20000 in
theorem gX4_moveStacked_X0_set : GoodIn wsX4_moveStacked (wsV RX4 58 RX0 yX0_set wsX0_set) := goodIn_app (goodIn_of _ (by decide +kernel)) ggX4_moveStacked_X0_set
set_option maxRecDepth 20000 in
theorem ggX4_moveStacked_X0_get : GoodIn wsX4_moveStacked wsX0_get := goodIn_r _ [25, 8, 50] (by decide +kernel) (by decide +kernel)
set_option maxRecDepth 20000 in
theorem gX4_moveStacked_X0_get : GoodIn wsX4_moveStacked (wsV RX4 55 RX0 yX0_get wsX0_get) := goodIn_app (goodIn_of _ (by decide +kernel)) ggX4_moveStacked_X0_get
set_option maxRecDepth 20000 in
theorem ggX4_moveStacked_X0_push : GoodIn wsX4_moveStacked wsX0_push := goodIn_r _ [34, 17, 4, 5, 6, 7, 8, 35, 27, 28, 29, 18, 19, 20, 21, 50] (by decide +kernel) (by decide +kernel)
set_option maxRecDepth 20000 in
theorem gX4_moveStacked_X0_push : GoodIn wsX4_moveStacked (wsV RX4 238 RX0 yX0_push wsX0_push) := goodIn_app (goodIn_of _ (by decide +kernel)) ggX4_moveStacked_X0_push
set_option maxRecDepth 20000 in
theorem ggX4_moveStacked_X4_onward : GoodIn wsX4_moveStacked wsX4_onward := goodIn_r _ [40, 41, 42, 43, 44, 45, 46, 47, 48, 49] (by decide +kernel) (by decide +kernel)
set_option maxRecDepth 20000 in
theorem gX4_moveStacked_X4_onward : GoodIn wsX4_moveStacked (wsV RX4 102 RX4 yX4_onward wsX4_onward) := goodIn_app (goodIn_of _ (by decide +kernel)) ggX4_moveStacked_X4_onward
theorem dX4_moveStacked_0 : decode cX4_moveStacked 0 = .ok (.iload_n 1, 1) := by decide +kernel
theorem dX4_moveStacked_1 : decode cX4_moveStacked 1 = .ok (.sipush 512, 3) := by decide +kernel
theorem dX4_moveStacked_4 : decode cX4_moveStacked 4 = .ok (.iand, 1) := by decide +kernel
theorem dX4_moveStacked_5 : decode cX4_moveStacked 5 = .ok (.ifCond .ne 7, 3) := by decide +kernel
theorem dX4_moveStacked_8 : decode cX4_moveStacked 8 = .ok (.iconst 1, 1) := by decide +kernel
theorem dX4_moveStacked_9 : decode cX4_moveStacked 9 = .ok (.goto 4, 3) := by decide +kernel
theorem dX4_moveStacked_12 : decode cX4_moveStacked 12 = .ok (.iconst 0, 1) := by decide +kernel
theorem dX4_moveStacked_13 : decode cX4_moveStacked 13 = .ok (.istore_n 2, 1) := by decide +kernel
theorem dX4_moveStacked_14 : decode cX4_moveStacked 14 = .ok (.aload_n 0, 1) := by decide +kernel
theorem dX4_moveStacked_15 : decode cX4_moveStacked 15 = .ok (.getfield 16, 3) := by decide +kernel
theorem dX4_moveStacked_18 : decode cX4_moveStacked 18 = .ok (.bipush 93, 2) := by decide +kernel
theorem dX4_moveStacked_20 : decode cX4_moveStacked 20 = .ok (.invokevirtual 62, 3) := by decide +kernel
theorem dX4_moveStacked_23 : decode cX4_moveStacked 23 = .ok (.iload_n 2, 1) := by decide +kernel
theorem dX4_moveStacked_24 : decode cX4_moveStacked 24 = .ok (.ifCond .eq 7, 3) := by decide +kernel
theorem dX4_moveStacked_27 : decode cX4_moveStacked 27 = .ok (.iconst 1, 1) := by decide +kernel
theorem dX4_moveStacked_28 : decode cX4_moveStacked 28 = .ok (.goto 4, 3) := by decide +kernel
theorem dX4_moveStacked_31 : decode cX4_moveStacked 31 = .ok (.iconst 0, 1) := by decide +kernel
theorem dX4_moveStacked_32 : decode cX4_moveStacked 32 = .ok (.iadd, 1) := by decide +kernel
theorem dX4_moveStacked_33 : decode cX4_moveStacked 33 = .ok (.ldc 50, 2) := by decide +kernel
theorem dX4_moveStacked_35 : decode cX4_moveStacked 35 = .ok (.iand, 1) := by decide +kernel
theorem dX4_moveStacked_36 : decode cX4_moveStacked 36 = .ok (.istore_n 3, 1) := by decide +kernel
theorem dX4_moveStacked_37 : decode cX4_moveStacked 37 = .ok (.iload_n 3, 1) := by decide +kernel
theorem dX4_moveStacked_38 : decode cX4_moveStacked 38 = .ok (.sipush 1023, 3) := by decide +kernel
theorem dX4_moveStacked_41 : decode cX4_moveStacked 41 = .ok (.if_icmp .le 5, 3) := by decide +kernel
theorem dX4_moveStacked_44 : decode cX4_moveStacked 44 = .ok (.iconst 3, 1) := by decide +kernel
theorem dX4_moveStacked_45 : decode cX4_moveStacked 45 = .ok (.ireturn, 1) := by decide +kernel
theorem dX4_moveStacked_46 : decode cX4_moveStacked 46 = .ok (.iload_n 1, 1) := by decide +kernel
theorem dX4_moveStacked_47 : decode cX4_moveStacked 47 = .ok (.invokestatic 173, 3) := by decide +kernel
theorem dX4_moveStacked_50 : decode cX4_moveStacked 50 = .ok (.istore 4, 2) := by decide +kernel
theorem dX4_moveStacked_52 : decode cX4_moveStacked 52 = .ok (.iload_n 2, 1) := by decide +kernel
theorem dX4_moveStacked_53 : decode cX4_moveStacked 53 = .ok (.ifCond .eq 22, 3) := by decide +kernel
theorem dX4_moveStacked_56 : decode cX4_moveStacked 56 = .ok (.aload_n 0, 1) := by decide +kernel
theorem dX4_moveStacked_57 : decode cX4_moveStacked 57 = .ok (.getfield 16, 3) := by decide +kernel
theorem dX4_moveStacked_60 : decode cX4_moveStacked 60 = .ok (.iload 4, 2) := by decide +kernel
theorem dX4_moveStacked_62 : decode cX4_moveStacked 62 = .ok (.aload_n 0, 1) := by decide +kernel
theorem dX4_moveStacked_63 : decode cX4_moveStacked 63 = .ok (.getfield 16, 3) := by decide +kernel
theorem dX4_moveStacked_66 : decode cX4_moveStacked 66 = .ok (.invokevirtual 235, 3) := by decide +kernel
theorem dX4_moveStacked_69 : decode cX4_moveStacked 69 = .ok (.invokevirtual 58, 3) := by decide +kernel
theorem dX4_moveStacked_72 : decode cX4_moveStacked 72 = .ok (.goto 19, 3) := by decide +kernel
theorem dX4_moveStacked_75 : decode cX4_moveStacked 75 = .ok (.aload_n 0, 1) := by decide +kernel
theorem dX4_moveStacked_76 : decode cX4_moveStacked 76 = .ok (.getfield 16, 3) := by decide +kernel
theorem dX4_moveStacked_79 : decode cX4_moveStacked 79 = .ok (.aload_n 0, 1) := by decide +kernel
theorem dX4_moveStacked_80 : decode cX4_moveStacked 80 = .ok (.getfield 16, 3) := by decide +kernel
theorem dX4_moveStacked_83 : decode cX4_moveStacked 83 = .ok (.iload 4, 2) := by decide +kernel
theorem dX4_moveStacked_85 : decode cX4_moveStacked 85 = .ok (.invokevirtual 55, 3) := by decide +kernel
theorem dX4_moveStacked_88 : decode cX4_moveStacked 88 = .ok (.invokevirtual 238, 3) := by decide +kernel
theorem dX4_moveStacked_91 : decode cX4_moveStacked 91 = .ok (.aload_n 0, 1) := by decide +kernel
theorem dX4_moveStacked_92 : decode cX4_moveStacked 92 = .ok (.iconst 1, 1) := by decide +kernel
theorem dX4_moveStacked_93 : decode cX4_moveStacked 93 = .ok (.invokevirtual 102, 3) := by decide +kernel
theorem dX4_moveStacked_96 : decode cX4_moveStacked 96 = .ok (.ireturn, 1) := by decide +kernel
set_option maxRecDepth 20000 in
theorem ggX4_moveBeside_X0_pair : GoodIn wsX4_moveBeside wsX0_pair := goodIn_r _ [7, 8, 39] (by decide +kernel) (by decide +kernel)
set_option maxRecDepth 20000 in
theorem gX4_moveBeside_X0_pair : GoodIn wsX4_moveBeside (wsV RX4 62 RX0 yX0_pair wsX0_pair) := goodIn_app (goodIn_of _ (by decide +kernel)) ggX4_moveBeside_X0_pair
set_option maxRecDepth 20000 in
theorem ggX4_moveBeside_X4_transfer : GoodIn wsX4_moveBeside wsX4_transfer := goodIn_r _ [13, 1, 14, 15, 16, 17, 18, 19, 20, 6, 21, 8, 22, 23, 24, 25, 31, 32, 33, 34, 35, 36, 37, 38, 39] (by decide +kernel) (by decide +kernel)
set_option maxRecDepth 20000 in
theorem gX4_moveBeside_X4_transfer : GoodIn wsX4_moveBeside (wsV RX4 229 RX4 yX4_transfer wsX4_transfer) := goodIn_app (goodIn_of _ (by decide +kernel)) ggX4_moveBeside_X4_transfer
set_option maxRecDepth 20000 in
theorem ggX4_moveBeside_X4_onward : GoodIn wsX4_moveBeside wsX4_onward := goodIn_r _ [29, 30, 31, 32, 33, 34, 35, 36, 37, 38] (by decide +kernel) (by decide +kernel)
set_option maxRecDepth 20000 in
theorem gX4_moveBeside_X4_onward : GoodIn wsX4_moveBeside (wsV RX4 102 RX4 yX4_onward wsX4_onward) := goodIn_app (goodIn_of _ (by decide +kernel)) ggX4_moveBeside_X4_onward
theorem dX4_moveBeside_0 : decode cX4_moveBeside 0 = .ok (.iload_n 1, 1) := by decide +kernel
theorem dX4_moveBeside_1 : decode cX4_moveBeside 1 = .ok (.bipush 8, 2) := by decide +kernel
theorem dX4_moveBeside_3 : decode cX4_moveBeside 3 = .ok (.iand, 1) := by decide +kernel
theorem dX4_moveBeside_4 : decode cX4_moveBeside 4 = .ok (.ifCond .ne 8, 3) := by decide +kernel
theorem dX4_moveBeside_7 : decode cX4_moveBeside 7 = .ok (.bipush 30, 2) := by decide +kernel
theorem dX4_moveBeside_9 : decode cX4_moveBeside 9 = .ok (.goto 5, 3) := by decide +kernel
theorem dX4_moveBeside_12 : decode cX4_moveBeside 12 = .ok (.bipush 28, 2) := by decide +kernel
theorem dX4_moveBeside_14 : decode cX4_moveBeside 14 = .ok (.istore_n 2, 1) := by decide +kernel
theorem dX4_moveBeside_15 : decode cX4_moveBeside 15 = .ok (.iload_n 1, 1) := by decide +kernel
theorem dX4_moveBeside_16 : decode cX4_moveBeside 16 = .ok (.bipush 8, 2) := by decide +kernel
theorem dX4_moveBeside_18 : decode cX4_moveBeside 18 = .ok (.ishr, 1) := by decide +kernel
theorem dX4_moveBeside_19 : decode cX4_moveBeside 19 = .ok (.bipush 32, 2) := by decide +kernel
theorem dX4_moveBeside_21 : decode cX4_moveBeside 21 = .ok (.iand, 1) := by decide +kernel
theorem dX4_moveBeside_22 : decode cX4_moveBeside 22 = .ok (.iload_n 1, 1) := by decide +kernel
theorem dX4_moveBeside_23 : decode cX4_moveBeside 23 = .ok (.bipush 7, 2) := by decide +kernel
theorem dX4_moveBeside_25 : decode cX4_moveBeside 25 = .ok (.ishr, 1) := by decide +kernel
theorem dX4_moveBeside_26 : decode cX4_moveBeside 26 = .ok (.bipush 24, 2) := by decide +kernel
theorem dX4_moveBeside_28 : decode cX4_moveBeside 28 = .ok (.iand, 1) := by decide +kernel
theorem dX4_moveBeside_29 : decode cX4_moveBeside 29 = .ok (.ior, 1) := by decide +kernel
theorem dX4_moveBeside_30 : decode cX4_moveBeside 30 = .ok (.iload_n 1, 1) := by decide +kernel
theorem dX4_moveBeside_31 : decode cX4_moveBeside 31 = .ok (.bipush 7, 2) := by decide +kernel
theorem dX4_moveBeside_33 : decode cX4_moveBeside 33 = .ok (.iand, 1) := by decide +kernel
theorem dX4_moveBeside_34 : decode cX4_moveBeside 34 = .ok (.ior, 1) := by decide +kernel
theorem dX4_moveBeside_35 : decode cX4_moveBeside 35 = .ok (.istore_n 3, 1) := by decide +kernel
theorem dX4_moveBeside_36 : decode cX4_moveBeside 36 = .ok (.aload_n 0, 1) := by decide +kernel
theorem dX4_moveBeside_37 : decode cX4_moveBeside 37 = .ok (.getfield 16, 3) := by decide +kernel
theorem dX4_moveBeside_40 : decode cX4_moveBeside 40 = .ok (.iload_n 2, 1) := by decide +kernel
theorem dX4_moveBeside_41 : decode cX4_moveBeside 41 = .ok (.invokevirtual 62, 3) := by decide +kernel
theorem dX4_moveBeside_44 : decode cX4_moveBeside 44 = .ok (.iload_n 3, 1) := by decide +kernel
theorem dX4_moveBeside_45 : decode cX4_moveBeside 45 = .ok (.iadd, 1) := by decide +kernel
theorem dX4_moveBeside_46 : decode cX4_moveBeside 46 = .ok (.ldc 50, 2) := by decide +kernel
theorem dX4_moveBeside_48 : decode cX4_moveBeside 48 = .ok (.iand, 1) := by decide +kernel
theorem dX4_moveBeside_49 : decode cX4_moveBeside 49 = .ok (.istore 4, 2) := by decide +kernel
theorem dX4_moveBeside_51 : decode cX4_moveBeside 51 = .ok (.iload 4, 2) := by decide +kernel
theorem dX4_moveBeside_53 : decode cX4_moveBeside 53 = .ok (.sipush 1023, 3) := by decide +kernel
theorem dX4_moveBeside_56 : decode cX4_moveBeside 56 = .ok (.if_icmp .le 5, 3) := by decide +kernel
theorem dX4_moveBeside_59 : decode cX4_moveBeside 59 = .ok (.iconst 3, 1) := by decide +kernel
theorem dX4_moveBeside_60 : decode cX4_moveBeside 60 = .ok (.ireturn, 1) := by decide +kernel
theorem dX4_moveBeside_61 : decode cX4_moveBeside 61 = .ok (.aload_n 0, 1) := by decide +kernel
theorem dX4_moveBeside_62 : decode cX4_moveBeside 62 = .ok (.iload_n 1, 1) := by decide +kernel
theorem dX4_moveBeside_63 : decode cX4_moveBeside 63 = .ok (.iload 4, 2) := by decide +kernel
theorem dX4_moveBeside_65 : decode cX4_moveBeside 65 = .ok (.invokevirtual 229, 3) := by decide +kernel
theorem dX4_moveBeside_68 : decode cX4_moveBeside 68 = .ok (.aload_n 0, 1) := by decide +kernel
theorem dX4_moveBeside_69 : decode cX4_moveBeside 69 = .ok (.iconst 1, 1) := by decide +kernel
theorem dX4_moveBeside_70 : decode cX4_moveBeside 70 = .ok (.invokevirtual 102, 3) := by decide +kernel
theorem dX4_moveBeside_73 : decode cX4_moveBeside 73 = .ok (.ireturn, 1) := by decide +kernel
set_option maxRecDepth 20000 in
theorem ggX4_moveFromCode_X0_pair : GoodIn wsX4_moveFromCode wsX0_pair := goodIn_r _ [7, 8, 40] (by decide +kernel) (by decide +kernel)
set_option maxRecDepth 20000 in
theorem gX4_moveFromCode_X0_pair : GoodIn wsX4_moveFromCode (wsV RX4 62 RX0 yX0_pair wsX0_pair) := goodIn_app (goodIn_of _ (by decide +kernel)) ggX4_moveFromCode_X0_pair
set_option maxRecDepth 20000 in
theorem ggX4_moveFromCode_X4_cellAt : GoodIn wsX4_moveFromCode wsX4_cellAt := goodIn_r _ [13, 14, 32, 33, 34, 35, 36, 37, 38, 39] (by decide +kernel) (by decide +kernel)
set_option maxRecDepth 20000 in
theorem gX4_moveFromCode_X4_cellAt : GoodIn wsX4_moveFromCode (wsV RX4 51 RX4 yX4_cellAt wsX4_cellAt) := goodIn_app (goodIn_of _ (by decide +kernel)) ggX4_moveFromCode_X4_cellAt
set_option maxRecDepth 20000 in
theorem ggX4_moveFromCode_X3_d : GoodIn wsX4_moveFromCode wsX3_d := goodIn_r _ [18] (by decide +kernel) (by decide +kernel)
set_option maxRecDepth 20000 in
theorem gX4_moveFromCode_X3_d : GoodIn wsX4_moveFromCode (va_wsS RX4 173 yX3_d wsX3_d) := goodIn_app (goodIn_of _ (by decide +kernel)) ggX4_moveFromCode_X3_d
set_option maxRecDepth 20000 in
theorem ggX4_moveFromCode_X0_set : GoodIn wsX4_moveFromCode wsX0_set := goodIn_r _ [22, 8, 40] (by decide +kernel) (by decide +kernel)
set_option maxRecDepth 20000 in
theorem gX4_moveFromCode_X0_set : GoodIn wsX4_moveFromCode (wsV RX4 58 RX0 yX0_set wsX0_set) := goodIn_app (goodIn_of _ (by decide +kernel)) ggX4_moveFromCode_X0_set
set_option maxRecDepth 20000 in
theorem ggX4_moveFromCode_X0_setPair : GoodIn wsX4_moveFromCode wsX0_setPair := goodIn_r _ [26, 8, 40] (by decide +kernel) (by decide +kernel)
set_option maxRecDepth 20000 in
theorem gX4_moveFromCode_X0_setPair : GoodIn wsX4_moveFromCode (wsV RX4 170 RX0 yX0_setPair wsX0_setPair) := goodIn_app (goodIn_of _ (by decide +kernel)) ggX4_moveFromCode_X0_setPair
set_option maxRecDepth 20000 in
theorem ggX4_moveFromCode_X4_onward : GoodIn wsX4_moveFromCode wsX4_onward := goodIn_r _ [30, 31, 32, 33, 34, 35, 36, 37, 38, 39] (by decide +kernel) (by decide +kernel)
set_option maxRecDepth 20000 in
theorem gX4_moveFromCode_X4_onward : GoodIn wsX4_moveFromCode (wsV RX4 102 RX4 yX4_onward wsX4_onward) := goodIn_app (goodIn_of _ (by decide +kernel)) ggX4_moveFromCode_X4_onward
theorem dX4_moveFromCode_0 : decode cX4_moveFromCode 0 = .ok (.aload_n 0, 1) := by decide +kernel
theorem dX4_moveFromCode_1 : decode cX4_moveFromCode 1 = .ok (.getfield 16, 3) := by decide +kernel
theorem dX4_moveFromCode_4 : decode cX4_moveFromCode 4 = .ok (.bipush 30, 2) := by decide +kernel
theorem dX4_moveFromCode_6 : decode cX4_moveFromCode 6 = .ok (.invokevirtual 62, 3) := by decide +kernel
theorem dX4_moveFromCode_9 : decode cX4_moveFromCode 9 = .ok (.istore_n 2, 1) := by decide +kernel
theorem dX4_moveFromCode_10 : decode cX4_moveFromCode 10 = .ok (.aload_n 0, 1) := by decide +kernel
theorem dX4_moveFromCode_11 : decode cX4_moveFromCode 11 = .ok (.iload_n 2, 1) := by decide +kernel
theorem dX4_moveFromCode_12 : decode cX4_moveFromCode 12 = .ok (.iconst 1, 1) := by decide +kernel
theorem dX4_moveFromCode_13 : decode cX4_moveFromCode 13 = .ok (.ishr, 1) := by decide +kernel
theorem dX4_moveFromCode_14 : decode cX4_moveFromCode 14 = .ok (.invokevirtual 51, 3) := by decide +kernel
theorem dX4_moveFromCode_17 : decode cX4_moveFromCode 17 = .ok (.istore_n 3, 1) := by decide +kernel
theorem dX4_moveFromCode_18 : decode cX4_moveFromCode 18 = .ok (.aload_n 0, 1) := by decide +kernel
theorem dX4_moveFromCode_19 : decode cX4_moveFromCode 19 = .ok (.getfield 16, 3) := by decide +kernel
theorem dX4_moveFromCode_22 : decode cX4_moveFromCode 22 = .ok (.iload_n 1, 1) := by decide +kernel
theorem dX4_moveFromCode_23 : decode cX4_moveFromCode 23 = .ok (.ldc 241, 2) := by decide +kernel
theorem dX4_moveFromCode_25 : decode cX4_moveFromCode 25 = .ok (.if_icmp .ne 7, 3) := by decide +kernel
theorem dX4_moveFromCode_28 : decode cX4_moveFromCode 28 = .ok (.iconst 0, 1) := by decide +kernel
theorem dX4_moveFromCode_29 : decode cX4_moveFromCode 29 = .ok (.goto 7, 3) := by decide +kernel
theorem dX4_moveFromCode_32 : decode cX4_moveFromCode 32 = .ok (.iload_n 1, 1) := by decide +kernel
theorem dX4_moveFromCode_33 : decode cX4_moveFromCode 33 = .ok (.invokestatic 173, 3) := by decide +kernel
theorem dX4_moveFromCode_36 : decode cX4_moveFromCode 36 = .ok (.iload_n 2, 1) := by decide +kernel
theorem dX4_moveFromCode_37 : decode cX4_moveFromCode 37 = .ok (.iconst 1, 1) := by decide +kernel
theorem dX4_moveFromCode_38 : decode cX4_moveFromCode 38 = .ok (.iand, 1) := by decide +kernel
theorem dX4_moveFromCode_39 : decode cX4_moveFromCode 39 = .ok (.ifCond .ne 7, 3) := by decide +kernel
theorem dX4_moveFromCode_42 : decode cX4_moveFromCode 42 = .ok (.iload_n 3, 1) := by decide +kernel
theorem dX4_moveFromCode_43 : decode cX4_moveFromCode 43 = .ok (.goto 7, 3) := by decide +kernel
theorem dX4_moveFromCode_46 : decode cX4_moveFromCode 46 = .ok (.iload_n 3, 1) := by decide +kernel
theorem dX4_moveFromCode_47 : decode cX4_moveFromCode 47 = .ok (.bipush 8, 2) := by decide +kernel
theorem dX4_moveFromCode_49 : decode cX4_moveFromCode 49 = .ok (.ishr, 1) := by decide +kernel
theorem dX4_moveFromCode_50 : decode cX4_moveFromCode 50 = .ok (.invokevirtual 58, 3) := by decide +kernel
theorem dX4_moveFromCode_53 : decode cX4_moveFromCode 53 = .ok (.iload_n 1, 1) := by decide +kernel
theorem dX4_moveFromCode_54 : decode cX4_moveFromCode 54 = .ok (.iconst 1, 1) := by decide +kernel
theorem dX4_moveFromCode_55 : decode cX4_moveFromCode 55 = .ok (.iand, 1) := by decide +kernel
theorem dX4_moveFromCode_56 : decode cX4_moveFromCode 56 = .ok (.iconst 1, 1) := by decide +kernel
theorem dX4_moveFromCode_57 : decode cX4_moveFromCode 57 = .ok (.if_icmp .ne 15, 3) := by decide +kernel
theorem dX4_moveFromCode_60 : decode cX4_moveFromCode 60 = .ok (.aload_n 0, 1) := by decide +kernel
theorem dX4_moveFromCode_61 : decode cX4_moveFromCode 61 = .ok (.getfield 16, 3) := by decide +kernel
theorem dX4_moveFromCode_64 : decode cX4_moveFromCode 64 = .ok (.bipush 30, 2) := by decide +kernel
theorem dX4_moveFromCode_66 : decode cX4_moveFromCode 66 = .ok (.iload_n 2, 1) := by decide +kernel
theorem dX4_moveFromCode_67 : decode cX4_moveFromCode 67 = .ok (.iconst 1, 1) := by decide +kernel
theorem dX4_moveFromCode_68 : decode cX4_moveFromCode 68 = .ok (.iadd, 1) := by decide +kernel
theorem dX4_moveFromCode_69 : decode cX4_moveFromCode 69 = .ok (.invokevirtual 170, 3) := by decide +kernel
theorem dX4_moveFromCode_72 : decode cX4_moveFromCode 72 = .ok (.aload_n 0, 1) := by decide +kernel
theorem dX4_moveFromCode_73 : decode cX4_moveFromCode 73 = .ok (.iconst 1, 1) := by decide +kernel
theorem dX4_moveFromCode_74 : decode cX4_moveFromCode 74 = .ok (.invokevirtual 102, 3) := by decide +kernel
theorem dX4_moveFromCode_77 : decode cX4_moveFromCode 77 = .ok (.ireturn, 1) := by decide +kernel
set_option maxRecDepth 20000 in
theorem ggX4_movePort_X3_d : GoodIn wsX4_movePort wsX3_d := goodIn_r _ [5] (by decide +kernel) (by decide +kernel)
set_option maxRecDepth 20000 in
theorem gX4_movePort_X3_d : GoodIn wsX4_movePort (va_wsS RX4 173 yX3_d wsX3_d) := goodIn_app (goodIn_of _ (by decide +kernel)) ggX4_movePort_X3_d
set_option maxRecDepth 20000 in
theorem ggX4_movePort_X0_get : GoodIn wsX4_movePort wsX0_get := goodIn_r _ [10, 11, 30] (by decide +kernel) (by decide +kernel)
set_option maxRecDepth 20000 in
theorem gX4_movePort_X0_get : GoodIn wsX4_movePort (wsV RX4 55 RX0 yX0_get wsX0_get) := goodIn_app (goodIn_of _ (by decide +kernel)) ggX4_movePort_X0_get
set_option maxRecDepth 20000 in
theorem ggX4_movePort_X0_set : GoodIn wsX4_movePort wsX0_set := goodIn_r _ [15, 11, 30] (by decide +kernel) (by decide +kernel)
set_option maxRecDepth 20000 in
theorem gX4_movePort_X0_set : GoodIn wsX4_movePort (wsV RX4 58 RX0 yX0_set wsX0_set) := goodIn_app (goodIn_of _ (by decide +kernel)) ggX4_movePort_X0_set
set_option maxRecDepth 20000 in
theorem ggX4_movePort_X4_onward : GoodIn wsX4_movePort wsX4_onward := goodIn_r _ [20, 21, 22, 23, 24, 25, 26, 27, 28, 29] (by decide +kernel) (by decide +kernel)
set_option maxRecDepth 20000 in
theorem gX4_movePort_X4_onward : GoodIn wsX4_movePort (wsV RX4 102 RX4 yX4_onward wsX4_onward) := goodIn_app (goodIn_of _ (by decide +kernel)) ggX4_movePort_X4_onward
theorem dX4_movePort_0 : decode cX4_movePort 0 = .ok (.iload_n 1, 1) := by decide +kernel
theorem dX4_movePort_1 : decode cX4_movePort 1 = .ok (.invokestatic 173, 3) := by decide +kernel
theorem dX4_movePort_4 : decode cX4_movePort 4 = .ok (.istore_n 2, 1) := by decide +kernel
theorem dX4_movePort_5 : decode cX4_movePort 5 = .ok (.bipush 32, 2) := by decide +kernel
theorem dX4_movePort_7 : decode cX4_movePort 7 = .ok (.iload_n 1, 1) := by decide +kernel
theorem dX4_movePort_8 : decode cX4_movePort 8 = .ok (.iconst 5, 1) := by decide +kernel
theorem dX4_movePort_9 : decode cX4_movePort 9 = .ok (.ishr, 1) := by decide +kernel
theorem dX4_movePort_10 : decode cX4_movePort 10 = .ok (.bipush 48, 2) := by decide +kernel
theorem dX4_movePort_12 : decode cX4_movePort 12 = .ok (.iand, 1) := by decide +kernel
theorem dX4_movePort_13 : decode cX4_movePort 13 = .ok (.iload_n 1, 1) := by decide +kernel
theorem dX4_movePort_14 : decode cX4_movePort 14 = .ok (.bipush 15, 2) := by decide +kernel
theorem dX4_movePort_16 : decode cX4_movePort 16 = .ok (.iand, 1) := by decide +kernel
theorem dX4_movePort_17 : decode cX4_movePort 17 = .ok (.ior, 1) := by decide +kernel
theorem dX4_movePort_18 : decode cX4_movePort 18 = .ok (.iadd, 1) := by decide +kernel
theorem dX4_movePort_19 : decode cX4_movePort 19 = .ok (.istore_n 3, 1) := by decide +kernel
theorem dX4_movePort_20 : decode cX4_movePort 20 = .ok (.iload_n 1, 1) := by decide +kernel
theorem dX4_movePort_21 : decode cX4_movePort 21 = .ok (.sipush 2048, 3) := by decide +kernel
theorem dX4_movePort_24 : decode cX4_movePort 24 = .ok (.iand, 1) := by decide +kernel
theorem dX4_movePort_25 : decode cX4_movePort 25 = .ok (.ifCond .ne 22, 3) := by decide +kernel
theorem dX4_movePort_28 : decode cX4_movePort 28 = .ok (.aload_n 0, 1) := by decide +kernel
theorem dX4_movePort_29 : decode cX4_movePort 29 = .ok (.getfield 16, 3) := by decide +kernel
theorem dX4_movePort_32 : decode cX4_movePort 32 = .ok (.iload_n 2, 1) := by decide +kernel
theorem dX4_movePort_33 : decode cX4_movePort 33 = .ok (.aload_n 0, 1) := by decide +kernel
theorem dX4_movePort_34 : decode cX4_movePort 34 = .ok (.getfield 16, 3) := by decide +kernel
theorem dX4_movePort_37 : decode cX4_movePort 37 = .ok (.iload_n 3, 1) := by decide +kernel
theorem dX4_movePort_38 : decode cX4_movePort 38 = .ok (.invokevirtual 55, 3) := by decide +kernel
theorem dX4_movePort_41 : decode cX4_movePort 41 = .ok (.invokevirtual 58, 3) := by decide +kernel
theorem dX4_movePort_44 : decode cX4_movePort 44 = .ok (.goto 19, 3) := by decide +kernel
theorem dX4_movePort_47 : decode cX4_movePort 47 = .ok (.aload_n 0, 1) := by decide +kernel
theorem dX4_movePort_48 : decode cX4_movePort 48 = .ok (.getfield 16, 3) := by decide +kernel
theorem dX4_movePort_51 : decode cX4_movePort 51 = .ok (.iload_n 3, 1) := by decide +kernel
theorem dX4_movePort_52 : decode cX4_movePort 52 = .ok (.aload_n 0, 1) := by decide +kernel
theorem dX4_movePort_53 : decode cX4_movePort 53 = .ok (.getfield 16, 3) := by decide +kernel
theorem dX4_movePort_56 : decode cX4_movePort 56 = .ok (.iload_n 2, 1) := by decide +kernel
theorem dX4_movePort_57 : decode cX4_movePort 57 = .ok (.invokevirtual 55, 3) := by decide +kernel
theorem dX4_movePort_60 : decode cX4_movePort 60 = .ok (.invokevirtual 58, 3) := by decide +kernel
theorem dX4_movePort_63 : decode cX4_movePort 63 = .ok (.aload_n 0, 1) := by decide +kernel
theorem dX4_movePort_64 : decode cX4_movePort 64 = .ok (.iconst 1, 1) := by decide +kernel
theorem dX4_movePort_65 : decode cX4_movePort 65 = .ok (.invokevirtual 102, 3) := by decide +kernel
theorem dX4_movePort_68 : decode cX4_movePort 68 = .ok (.ireturn, 1) := by decide +kernel
set_option maxRecDepth 20000 in
theorem ggX4_setPortBit_X0_setBit : GoodIn wsX4_setPortBit wsX0_setBit := goodIn_r _ [6, 7, 8, 9, 5, 10, 11, 12, 13, 14, 15, 30] (by decide +kernel) (by decide +kernel)
set_option maxRecDepth 20000 in
theorem gX4_setPortBit_X0_setBit : GoodIn wsX4_setPortBit (wsV RX4 242 RX0 yX0_setBit wsX0_setBit) := goodIn_app (goodIn_of _ (by decide +kernel)) ggX4_setPortBit_X0_setBit
set_option maxRecDepth 20000 in
theorem ggX4_setPortBit_X4_onward : GoodIn wsX4_setPortBit wsX4_onward := goodIn_r _ [20, 21, 22, 23, 24, 25, 26, 27, 28, 29] (by decide +kernel) (by decide +kernel)
set_option maxRecDepth 20000 in
theorem gX4_setPortBit_X4_onward : GoodIn wsX4_setPortBit (wsV RX4 102 RX4 yX4_onward wsX4_onward) := goodIn_app (goodIn_of _ (by decide +kernel)) ggX4_setPortBit_X4_onward
theorem dX4_setPortBit_0 : decode cX4_setPortBit 0 = .ok (.aload_n 0, 1) := by decide +kernel
theorem dX4_setPortBit_1 : decode cX4_setPortBit 1 = .ok (.getfield 16, 3) := by decide +kernel
theorem dX4_setPortBit_4 : decode cX4_setPortBit 4 = .ok (.bipush 32, 2) := by decide +kernel
theorem dX4_setPortBit_6 : decode cX4_setPortBit 6 = .ok (.iload_n 1, 1) := by decide +kernel
theorem dX4_setPortBit_7 : decode cX4_setPortBit 7 = .ok (.iconst 3, 1) := by decide +kernel
theorem dX4_setPortBit_8 : decode cX4_setPortBit 8 = .ok (.ishr, 1) := by decide +kernel
theorem dX4_setPortBit_9 : decode cX4_setPortBit 9 = .ok (.bipush 31, 2) := by decide +kernel
theorem dX4_setPortBit_11 : decode cX4_setPortBit 11 = .ok (.iand, 1) := by decide +kernel
theorem dX4_setPortBit_12 : decode cX4_setPortBit 12 = .ok (.iadd, 1) := by decide +kernel
theorem dX4_setPortBit_13 : decode cX4_setPortBit 13 = .ok (.iload_n 1, 1) := by decide +kernel
theorem dX4_setPortBit_14 : decode cX4_setPortBit 14 = .ok (.bipush 7, 2) := by decide +kernel
theorem dX4_setPortBit_16 : decode cX4_setPortBit 16 = .ok (.iand, 1) := by decide +kernel
theorem dX4_setPortBit_17 : decode cX4_setPortBit 17 = .ok (.iload_n 1, 1) := by decide +kernel
theorem dX4_setPortBit_18 : decode cX4_setPortBit 18 = .ok (.bipush 9, 2) := by decide +kernel
theorem dX4_setPortBit_20 : decode cX4_setPortBit 20 = .ok (.ishr, 1) := by decide +kernel
theorem dX4_setPortBit_21 : decode cX4_setPortBit 21 = .ok (.iconst 1, 1) := by decide +kernel
theorem dX4_setPortBit_22 : decode cX4_setPortBit 22 = .ok (.iand, 1) := by decide +kernel
theorem dX4_setPortBit_23 : decode cX4_setPortBit 23 = .ok (.invokevirtual 242, 3) := by decide +kernel
theorem dX4_setPortBit_26 : decode cX4_setPortBit 26 = .ok (.aload_n 0, 1) := by decide +kernel
theorem dX4_setPortBit_27 : decode cX4_setPortBit 27 = .ok (.iconst 1, 1) := by decide +kernel
theorem dX4_setPortBit_28 : decode cX4_setPortBit 28 = .ok (.invokevirtual 102, 3) := by decide +kernel
theorem dX4_setPortBit_31 : decode cX4_setPortBit 31 = .ok (.ireturn, 1) := by decide +kernel
set_option maxRecDepth 20000 in
theorem ggX4_skipByPort_X0_bit : GoodIn wsX4_skipByPort wsX0_bit := goodIn_r _ [6, 7, 40] (by decide +kernel) (by decide +kernel)
set_option maxRecDepth 20000 in
theorem gX4_skipByPort_X0_bit : GoodIn wsX4_skipByPort (wsV RX4 245 RX0 yX0_bit wsX0_bit) := goodIn_app (goodIn_of _ (by decide +kernel)) ggX4_skipByPort_X0_bit
set_option maxRecDepth 20000 in
theorem ggX4_skipByPort_X4_skip : GoodIn wsX4_skipByPort wsX4_skip := goodIn_r _ [12, 13, 14, 15, 16, 17, 11, 18, 19, 20, 21, 22, 23, 24, 25, 26, 27, 28, 29, 30, 31, 32, 33, 34, 35, 36, 37, 38, 39] (by decide +kernel) (by decide +kernel)
set_option maxRecDepth 20000 in
theorem gX4_skipByPort_X4_skip : GoodIn wsX4_skipByPort (wsV RX4 200 RX4 yX4_skip wsX4_skip) := goodIn_app (goodIn_of _ (by decide +kernel)) ggX4_skipByPort_X4_skip
theorem dX4_skipByPort_0 : decode cX4_skipByPort 0 = .ok (.aload_n 0, 1) := by decide +kernel
theorem dX4_skipByPort_1 : decode cX4_skipByPort 1 = .ok (.aload_n 0, 1) := by decide +kernel
theorem dX4_skipByPort_2 : decode cX4_skipByPort 2 = .ok (.getfield 16, 3) := by decide +kernel
theorem dX4_skipByPort_5 : decode cX4_skipByPort 5 = .ok (.bipush 32, 2) := by decide +kernel
theorem dX4_skipByPort_7 : decode cX4_skipByPort 7 = .ok (.iload_n 1, 1) := by decide +kernel
theorem dX4_skipByPort_8 : decode cX4_skipByPort 8 = .ok (.iconst 3, 1) := by decide +kernel
theorem dX4_skipByPort_9 : decode cX4_skipByPort 9 = .ok (.ishr, 1) := by decide +kernel
theorem dX4_skipByPort_10 : decode cX4_skipByPort 10 = .ok (.bipush 31, 2) := by decide +kernel
theorem dX4_skipByPort_12 : decode cX4_skipByPort 12 = .ok (.iand, 1) := by decide +kernel
theorem dX4_skipByPort_13 : decode cX4_skipByPort 13 = .ok (.iadd, 1) := by decide +kernel
theorem dX4_skipByPort_14 : decode cX4_skipByPort 14 = .ok (.iload_n 1, 1) := by decide +kernel
theorem dX4_skipByPort_15 : decode cX4_skipByPort 15 = .ok (.bipush 7, 2) := by decide +kernel
theorem dX4_skipByPort_17 : decode cX4_skipByPort 17 = .ok (.iand, 1) := by decide +kernel
theorem dX4_skipByPort_18 : decode cX4_skipByPort 18 = .ok (.invokevirtual 245, 3) := by decide +kernel
theorem dX4_skipByPort_21 : decode cX4_skipByPort 21 = .ok (.iload_n 1, 1) := by decide +kernel
theorem dX4_skipByPort_22 : decode cX4_skipByPort 22 = .ok (.bipush 9, 2) := by decide +kernel
theorem dX4_skipByPort_24 : decode cX4_skipByPort 24 = .ok (.ishr, 1) := by decide +kernel
theorem dX4_skipByPort_25 : decode cX4_skipByPort 25 = .ok (.iconst 1, 1) := by decide +kernel
theorem dX4_skipByPort_26 : decode cX4_skipByPort 26 = .ok (.iand, 1) := by decide +kernel
theorem dX4_skipByPort_27 : decode cX4_skipByPort 27 = .ok (.if_icmp .ne 7, 3) := by decide +kernel
theorem dX4_skipByPort_30 : decode cX4_skipByPort 30 = .ok (.iconst 1, 1) := by decide +kernel
theorem dX4_skipByPort_31 : decode cX4_skipByPort 31 = .ok (.goto 4, 3) := by decide +kernel
theorem dX4_skipByPort_34 : decode cX4_skipByPort 34 = .ok (.iconst 0, 1) := by decide +kernel
theorem dX4_skipByPort_35 : decode cX4_skipByPort 35 = .ok (.invokevirtual 200, 3) := by decide +kernel
theorem dX4_skipByPort_38 : decode cX4_skipByPort 38 = .ok (.ireturn, 1) := by decide +kernel
set_option maxRecDepth 20000 in
theorem ggX4_skipByBit_X3_d : GoodIn wsX4_skipByBit wsX3_d := goodIn_r _ [5] (by decide +kernel) (by decide +kernel)
set_option maxRecDepth 20000 in
theorem gX4_skipByBit_X3_d : GoodIn wsX4_skipByBit (va_wsS RX4 173 yX3_d wsX3_d) := goodIn_app (goodIn_of _ (by decide +kernel)) ggX4_skipByBit_X3_d
set_option maxRecDepth 20000 in
theorem ggX4_skipByBit_X0_bit : GoodIn wsX4_skipByBit wsX0_bit := goodIn_r _ [10, 11, 43] (by decide +kernel) (by decide +kernel)
set_option maxRecDepth 20000 in
theorem gX4_skipByBit_X0_bit : GoodIn wsX4_skipByBit (wsV RX4 245 RX0 yX0_bit wsX0_bit) := goodIn_app (goodIn_of _ (by decide +kernel)) ggX4_skipByBit_X0_bit
set_option maxRecDepth 20000 in
theorem ggX4_skipByBit_X4_skip : GoodIn wsX4_skipByBit wsX4_skip := goodIn_r _ [16, 17, 18, 19, 20, 21, 15, 22, 23, 24, 25, 26, 27, 28, 29, 4, 30, 31, 32, 33, 34, 35, 36, 37, 38, 39, 40, 41, 42] (by decide +kernel) (by decide +kernel)
set_option maxRecDepth 20000 in
theorem gX4_skipByBit_X4_skip : GoodIn wsX4_skipByBit (wsV RX4 200 RX4 yX4_skip wsX4_skip) := goodIn_app (goodIn_of _ (by decide +kernel)) ggX4_skipByBit_X4_skip
theorem dX4_skipByBit_0 : decode cX4_skipByBit 0 = .ok (.aload_n 0, 1) := by decide +kernel
theorem dX4_skipByBit_1 : decode cX4_skipByBit 1 = .ok (.aload_n 0, 1) := by decide +kernel
theorem dX4_skipByBit_2 : decode cX4_skipByBit 2 = .ok (.getfield 16, 3) := by decide +kernel
theorem dX4_skipByBit_5 : decode cX4_skipByBit 5 = .ok (.iload_n 1, 1) := by decide +kernel
theorem dX4_skipByBit_6 : decode cX4_skipByBit 6 = .ok (.invokestatic 173, 3) := by decide +kernel
theorem dX4_skipByBit_9 : decode cX4_skipByBit 9 = .ok (.iload_n 1, 1) := by decide +kernel
theorem dX4_skipByBit_10 : decode cX4_skipByBit 10 = .ok (.bipush 7, 2) := by decide +kernel
theorem dX4_skipByBit_12 : decode cX4_skipByBit 12 = .ok (.iand, 1) := by decide +kernel
theorem dX4_skipByBit_13 : decode cX4_skipByBit 13 = .ok (.invokevirtual 245, 3) := by decide +kernel
theorem dX4_skipByBit_16 : decode cX4_skipByBit 16 = .ok (.iload_n 1, 1) := by decide +kernel
theorem dX4_skipByBit_17 : decode cX4_skipByBit 17 = .ok (.bipush 9, 2) := by decide +kernel
theorem dX4_skipByBit_19 : decode cX4_skipByBit 19 = .ok (.ishr, 1) := by decide +kernel
theorem dX4_skipByBit_20 : decode cX4_skipByBit 20 = .ok (.iconst 1, 1) := by decide +kernel
theorem dX4_skipByBit_21 : decode cX4_skipByBit 21 = .ok (.iand, 1) := by decide +kernel
theorem dX4_skipByBit_22 : decode cX4_skipByBit 22 = .ok (.if_icmp .ne 7, 3) := by decide +kernel
theorem dX4_skipByBit_25 : decode cX4_skipByBit 25 = .ok (.iconst 1, 1) := by decide +kernel
theorem dX4_skipByBit_26 : decode cX4_skipByBit 26 = .ok (.goto 4, 3) := by decide +kernel
theorem dX4_skipByBit_29 : decode cX4_skipByBit 29 = .ok (.iconst 0, 1) := by decide +kernel
theorem dX4_skipByBit_30 : decode cX4_skipByBit 30 = .ok (.invokevirtual 200, 3) := by decide +kernel
theorem dX4_skipByBit_33 : decode cX4_skipByBit 33 = .ok (.ireturn, 1) := by decide +kernel
set_option maxRecDepth 20000 in
theorem ggX4_moveBit_X3_d : GoodIn wsX4_moveBit wsX3_d := goodIn_r _ [5] (by decide +kernel) (by decide +kernel)
set_option maxRecDepth 20000 in
theorem gX4_moveBit_X3_d : GoodIn wsX4_moveBit (va_wsS RX4 173 yX3_d wsX3_d) := goodIn_app (goodIn_of _ (by decide +kernel)) ggX4_moveBit_X3_d
set_option maxRecDepth 20000 in
theorem ggX4_moveBit_X0_flag : GoodIn wsX4_moveBit wsX0_flag := goodIn_r _ [10, 11, 47] (by decide +kernel) (by decide +kernel)
set_option maxRecDepth 20000 in
theorem gX4_moveBit_X0_flag : GoodIn wsX4_moveBit (wsV RX4 80 RX0 yX0_flag wsX0_flag) := goodIn_app (goodIn_of _ (by decide +kernel)) ggX4_moveBit_X0_flag
set_option maxRecDepth 20000 in
theorem ggX4_moveBit_X0_setBit : GoodIn wsX4_moveBit wsX0_setBit := goodIn_r _ [15, 16, 17, 18, 9, 19, 11, 20, 21, 22, 23, 47] (by decide +kernel) (by decide +kernel)
set_option maxRecDepth 20000 in
theorem gX4_moveBit_X0_setBit : GoodIn wsX4_moveBit (wsV RX4 242 RX0 yX0_setBit wsX0_setBit) := goodIn_app (goodIn_of _ (by decide +kernel)) ggX4_moveBit_X0_setBit
set_option maxRecDepth 20000 in
theorem ggX4_moveBit_X0_bit : GoodIn wsX4_moveBit wsX0_bit := goodIn_r _ [27, 11, 47] (by decide +kernel) (by decide +kernel)
set_option maxRecDepth 20000 in
theorem gX4_moveBit_X0_bit : GoodIn wsX4_moveBit (wsV RX4 245 RX0 yX0_bit wsX0_bit) := goodIn_app (goodIn_of _ (by decide +kernel)) ggX4_moveBit_X0_bit
set_option maxRecDepth 20000 in
theorem ggX4_moveBit_X0_setFlag : GoodIn wsX4_moveBit wsX0_setFlag := goodIn_r _ [31, 32, 13, 14, 9, 15, 16, 17, 18, 19, 11, 20, 21, 22, 23, 47] (by decide +kernel) (by decide +kernel)
set_option maxRecDepth 20000 in
theorem gX4_moveBit_X0_setFlag : GoodIn wsX4_moveBit (wsV RX4 99 RX0 yX0_setFlag wsX0_setFlag) := goodIn_app (goodIn_of _ (by decide +kernel)) ggX4_moveBit_X0_setFlag
set_option maxRecDepth 20000 in
theorem ggX4_moveBit_X4_onward : GoodIn wsX4_moveBit wsX4_onward := goodIn_r _ [37, 38, 39, 40, 41, 42, 43, 44, 45, 46] (by decide +kernel) (by decide +kernel)
set_option maxRecDepth 20000 in
theorem gX4_moveBit_X4_onward : GoodIn wsX4_moveBit (wsV RX4 102 RX4 yX4_onward wsX4_onward) := goodIn_app (goodIn_of _ (by decide +kernel)) ggX4_moveBit_X4_onward
theorem dX4_moveBit_0 : decode cX4_moveBit 0 = .ok (.iload_n 1, 1) := by decide +kernel
theorem dX4_moveBit_1 : decode cX4_moveBit 1 = .ok (.invokestatic 173, 3) := by decide +kernel
theorem dX4_moveBit_4 : decode cX4_moveBit 4 = .ok (.istore_n 2, 1) := by decide +kernel
theorem dX4_moveBit_5 : decode cX4_moveBit 5 = .ok (.iload_n 1, 1) := by decide +kernel
theorem dX4_moveBit_6 : decode cX4_moveBit 6 = .ok (.sipush 512, 3) := by decide +kernel
theorem dX4_moveBit_9 : decode cX4_moveBit 9 = .ok (.iand, 1) := by decide +kernel
theorem dX4_moveBit_10 : decode cX4_moveBit 10 = .ok (.ifCond .ne 27, 3) := by decide +kernel
theorem dX4_moveBit_13 : decode cX4_moveBit 13 = .ok (.aload_n 0, 1) := by decide +kernel
theorem dX4_moveBit_14 : decode cX4_moveBit 14 = .ok (.getfield 16, 3) := by decide +kernel
theorem dX4_moveBit_17 : decode cX4_moveBit 17 = .ok (.iload_n 2, 1) := by decide +kernel
theorem dX4_moveBit_18 : decode cX4_moveBit 18 = .ok (.iload_n 1, 1) := by decide +kernel
theorem dX4_moveBit_19 : decode cX4_moveBit 19 = .ok (.bipush 7, 2) := by decide +kernel
theorem dX4_moveBit_21 : decode cX4_moveBit 21 = .ok (.iand, 1) := by decide +kernel
theorem dX4_moveBit_22 : decode cX4_moveBit 22 = .ok (.aload_n 0, 1) := by decide +kernel
theorem dX4_moveBit_23 : decode cX4_moveBit 23 = .ok (.getfield 16, 3) := by decide +kernel
theorem dX4_moveBit_26 : decode cX4_moveBit 26 = .ok (.bipush 6, 2) := by decide +kernel
theorem dX4_moveBit_28 : decode cX4_moveBit 28 = .ok (.invokevirtual 80, 3) := by decide +kernel
theorem dX4_moveBit_31 : decode cX4_moveBit 31 = .ok (.invokevirtual 242, 3) := by decide +kernel
theorem dX4_moveBit_34 : decode cX4_moveBit 34 = .ok (.goto 24, 3) := by decide +kernel
theorem dX4_moveBit_37 : decode cX4_moveBit 37 = .ok (.aload_n 0, 1) := by decide +kernel
theorem dX4_moveBit_38 : decode cX4_moveBit 38 = .ok (.getfield 16, 3) := by decide +kernel
theorem dX4_moveBit_41 : decode cX4_moveBit 41 = .ok (.bipush 6, 2) := by decide +kernel
theorem dX4_moveBit_43 : decode cX4_moveBit 43 = .ok (.aload_n 0, 1) := by decide +kernel
theorem dX4_moveBit_44 : decode cX4_moveBit 44 = .ok (.getfield 16, 3) := by decide +kernel
theorem dX4_moveBit_47 : decode cX4_moveBit 47 = .ok (.iload_n 2, 1) := by decide +kernel
theorem dX4_moveBit_48 : decode cX4_moveBit 48 = .ok (.iload_n 1, 1) := by decide +kernel
theorem dX4_moveBit_49 : decode cX4_moveBit 49 = .ok (.bipush 7, 2) := by decide +kernel
theorem dX4_moveBit_51 : decode cX4_moveBit 51 = .ok (.iand, 1) := by decide +kernel
theorem dX4_moveBit_52 : decode cX4_moveBit 52 = .ok (.invokevirtual 245, 3) := by decide +kernel
theorem dX4_moveBit_55 : decode cX4_moveBit 55 = .ok (.invokevirtual 99, 3) := by decide +kernel
theorem dX4_moveBit_58 : decode cX4_moveBit 58 = .ok (.aload_n 0, 1) := by decide +kernel
theorem dX4_moveBit_59 : decode cX4_moveBit 59 = .ok (.iconst 1, 1) := by decide +kernel
theorem dX4_moveBit_60 : decode cX4_moveBit 60 = .ok (.invokevirtual 102, 3) := by decide +kernel
theorem dX4_moveBit_63 : decode cX4_moveBit 63 = .ok (.ireturn, 1) := by decide +kernel
set_option maxRecDepth 20000 in
theorem ggX4_jumpNear_X4_jumpTo : GoodIn wsX4_jumpNear wsX4_jumpTo := goodIn_r _ [6, 1, 31, 32, 33, 34, 35, 36, 37, 38] (by decide +kernel) (by decide +kernel)
set_option maxRecDepth 20000 in
theorem gX4_jumpNear_X4_jumpTo : GoodIn wsX4_jumpNear (wsV RX4 248 RX4 yX4_jumpTo wsX4_jumpTo) := goodIn_app (goodIn_of _ (by decide +kernel)) ggX4_jumpNear_X4_jumpTo
set_option maxRecDepth 20000 in
theorem ggX4_jumpNear_X4_callTo : GoodIn wsX4_jumpNear wsX4_callTo := goodIn_r _ [10, 11, 12, 1, 13, 14, 15, 16, 17, 18, 19, 20, 21, 22, 23, 24, 25, 26, 27, 28, 29, 30, 31, 32, 33, 34, 35, 36, 37, 38, 39] (by decide +kernel) (by decide +kernel)
set_option maxRecDepth 20000 in
theorem gX4_jumpNear_X4_callTo : GoodIn wsX4_jumpNear (wsV RX4 251 RX4 yX4_callTo wsX4_callTo) := goodIn_app (goodIn_of _ (by decide +kernel)) ggX4_jumpNear_X4_callTo
theorem dX4_jumpNear_0 : decode cX4_jumpNear 0 = .ok (.iload_n 1, 1) := by decide +kernel
theorem dX4_jumpNear_1 : decode cX4_jumpNear 1 = .ok (.bipush 20, 2) := by decide +kernel
theorem dX4_jumpNear_3 : decode cX4_jumpNear 3 = .ok (.ishl, 1) := by decide +kernel
theorem dX4_jumpNear_4 : decode cX4_jumpNear 4 = .ok (.bipush 20, 2) := by decide +kernel
theorem dX4_jumpNear_6 : decode cX4_jumpNear 6 = .ok (.ishr, 1) := by decide +kernel
theorem dX4_jumpNear_7 : decode cX4_jumpNear 7 = .ok (.istore_n 2, 1) := by decide +kernel
theorem dX4_jumpNear_8 : decode cX4_jumpNear 8 = .ok (.aload_n 0, 1) := by decide +kernel
theorem dX4_jumpNear_9 : decode cX4_jumpNear 9 = .ok (.getfield 32, 3) := by decide +kernel
theorem dX4_jumpNear_12 : decode cX4_jumpNear 12 = .ok (.iconst 1, 1) := by decide +kernel
theorem dX4_jumpNear_13 : decode cX4_jumpNear 13 = .ok (.iadd, 1) := by decide +kernel
theorem dX4_jumpNear_14 : decode cX4_jumpNear 14 = .ok (.istore_n 3, 1) := by decide +kernel
theorem dX4_jumpNear_15 : decode cX4_jumpNear 15 = .ok (.iload_n 1, 1) := by decide +kernel
theorem dX4_jumpNear_16 : decode cX4_jumpNear 16 = .ok (.sipush 4096, 3) := by decide +kernel
theorem dX4_jumpNear_19 : decode cX4_jumpNear 19 = .ok (.iand, 1) := by decide +kernel
theorem dX4_jumpNear_20 : decode cX4_jumpNear 20 = .ok (.ifCond .ne 13, 3) := by decide +kernel
theorem dX4_jumpNear_23 : decode cX4_jumpNear 23 = .ok (.aload_n 0, 1) := by decide +kernel
theorem dX4_jumpNear_24 : decode cX4_jumpNear 24 = .ok (.iload_n 3, 1) := by decide +kernel
theorem dX4_jumpNear_25 : decode cX4_jumpNear 25 = .ok (.iload_n 2, 1) := by decide +kernel
theorem dX4_jumpNear_26 : decode cX4_jumpNear 26 = .ok (.iadd, 1) := by decide +kernel
theorem dX4_jumpNear_27 : decode cX4_jumpNear 27 = .ok (.invokevirtual 248, 3) := by decide +kernel
theorem dX4_jumpNear_30 : decode cX4_jumpNear 30 = .ok (.goto 11, 3) := by decide +kernel
theorem dX4_jumpNear_33 : decode cX4_jumpNear 33 = .ok (.aload_n 0, 1) := by decide +kernel
theorem dX4_jumpNear_34 : decode cX4_jumpNear 34 = .ok (.iload_n 3, 1) := by decide +kernel
theorem dX4_jumpNear_35 : decode cX4_jumpNear 35 = .ok (.iload_n 2, 1) := by decide +kernel
theorem dX4_jumpNear_36 : decode cX4_jumpNear 36 = .ok (.iadd, 1) := by decide +kernel
theorem dX4_jumpNear_37 : decode cX4_jumpNear 37 = .ok (.iload_n 3, 1) := by decide +kernel
theorem dX4_jumpNear_38 : decode cX4_jumpNear 38 = .ok (.invokevirtual 251, 3) := by decide +kernel
theorem dX4_jumpNear_41 : decode cX4_jumpNear 41 = .ok (.ireturn, 1) := by decide +kernel
set_option maxRecDepth 20000 in
theorem ggX4_branch_X0_flag : GoodIn wsX4_branch wsX0_flag := goodIn_r _ [6, 7, 22] (by decide +kernel) (by decide +kernel)
set_option maxRecDepth 20000 in
theorem gX4_branch_X0_flag : GoodIn wsX4_branch (wsV RX4 80 RX0 yX0_flag wsX0_flag) := goodIn_app (goodIn_of _ (by decide +kernel)) ggX4_branch_X0_flag
set_option maxRecDepth 20000 in
theorem ggX4_branch_X4_onward : GoodIn wsX4_branch wsX4_onward := goodIn_r _ [12, 13, 14, 15, 16, 17, 18, 19, 20, 21] (by decide +kernel) (by decide +kernel)
set_option maxRecDepth 20000 in
theorem gX4_branch_X4_onward : GoodIn wsX4_branch (wsV RX4 102 RX4 yX4_onward wsX4_onward) := goodIn_app (goodIn_of _ (by decide +kernel)) ggX4_branch_X4_onward
theorem dX4_branch_0 : decode cX4_branch 0 = .ok (.iload_n 1, 1) := by decide +kernel
theorem dX4_branch_1 : decode cX4_branch 1 = .ok (.bipush 22, 2) := by decide +kernel
theorem dX4_branch_3 : decode cX4_branch 3 = .ok (.ishl, 1) := by decide +kernel
theorem dX4_branch_4 : decode cX4_branch 4 = .ok (.bipush 25, 2) := by decide +kernel
theorem dX4_branch_6 : decode cX4_branch 6 = .ok (.ishr, 1) := by decide +kernel
theorem dX4_branch_7 : decode cX4_branch 7 = .ok (.istore_n 2, 1) := by decide +kernel
theorem dX4_branch_8 : decode cX4_branch 8 = .ok (.iload_n 1, 1) := by decide +kernel
theorem dX4_branch_9 : decode cX4_branch 9 = .ok (.sipush 1024, 3) := by decide +kernel
theorem dX4_branch_12 : decode cX4_branch 12 = .ok (.iand, 1) := by decide +kernel
theorem dX4_branch_13 : decode cX4_branch 13 = .ok (.ifCond .ne 7, 3) := by decide +kernel
theorem dX4_branch_16 : decode cX4_branch 16 = .ok (.iconst 1, 1) := by decide +kernel
theorem dX4_branch_17 : decode cX4_branch 17 = .ok (.goto 4, 3) := by decide +kernel
theorem dX4_branch_20 : decode cX4_branch 20 = .ok (.iconst 0, 1) := by decide +kernel
theorem dX4_branch_21 : decode cX4_branch 21 = .ok (.istore_n 3, 1) := by decide +kernel
theorem dX4_branch_22 : decode cX4_branch 22 = .ok (.aload_n 0, 1) := by decide +kernel
theorem dX4_branch_23 : decode cX4_branch 23 = .ok (.aload_n 0, 1) := by decide +kernel
theorem dX4_branch_24 : decode cX4_branch 24 = .ok (.getfield 16, 3) := by decide +kernel
theorem dX4_branch_27 : decode cX4_branch 27 = .ok (.iload_n 1, 1) := by decide +kernel
theorem dX4_branch_28 : decode cX4_branch 28 = .ok (.bipush 7, 2) := by decide +kernel
theorem dX4_branch_30 : decode cX4_branch 30 = .ok (.iand, 1) := by decide +kernel
theorem dX4_branch_31 : decode cX4_branch 31 = .ok (.invokevirtual 80, 3) := by decide +kernel
theorem dX4_branch_34 : decode cX4_branch 34 = .ok (.iload_n 3, 1) := by decide +kernel
theorem dX4_branch_35 : decode cX4_branch 35 = .ok (.if_icmp .ne 9, 3) := by decide +kernel
theorem dX4_branch_38 : decode cX4_branch 38 = .ok (.iconst 1, 1) := by decide +kernel
theorem dX4_branch_39 : decode cX4_branch 39 = .ok (.iload_n 2, 1) := by decide +kernel
theorem dX4_branch_40 : decode cX4_branch 40 = .ok (.iadd, 1) := by decide +kernel
theorem dX4_branch_41 : decode cX4_branch 41 = .ok (.goto 4, 3) := by decide +kernel
theorem dX4_branch_44 : decode cX4_branch 44 = .ok (.iconst 1, 1) := by decide +kernel
theorem dX4_branch_45 : decode cX4_branch 45 = .ok (.invokevirtual 102, 3) := by decide +kernel
theorem dX4_branch_48 : decode cX4_branch 48 = .ok (.ireturn, 1) := by decide +kernel
set_option maxRecDepth 20000 in
theorem ggX4_jumpFar_X4_cellAt : GoodIn wsX4_jumpFar wsX4_cellAt := goodIn_r _ [6, 7, 36, 37, 38, 39, 40, 41, 42, 43] (by decide +kernel) (by decide +kernel)
set_option maxRecDepth 20000 in
theorem gX4_jumpFar_X4_cellAt : GoodIn wsX4_jumpFar (wsV RX4 51 RX4 yX4_cellAt wsX4_cellAt) := goodIn_app (goodIn_of _ (by decide +kernel)) ggX4_jumpFar_X4_cellAt
set_option maxRecDepth 20000 in
theorem ggX4_jumpFar_X4_jumpTo : GoodIn wsX4_jumpFar wsX4_jumpTo := goodIn_r _ [11, 1, 36, 37, 38, 39, 40, 41, 42, 43] (by decide +kernel) (by decide +kernel)
set_option maxRecDepth 20000 in
theorem gX4_jumpFar_X4_jumpTo : GoodIn wsX4_jumpFar (wsV RX4 248 RX4 yX4_jumpTo wsX4_jumpTo) := goodIn_app (goodIn_of _ (by decide +kernel)) ggX4_jumpFar_X4_jumpTo
set_option maxRecDepth 20000 in
theorem ggX4_jumpFar_X4_callTo : GoodIn wsX4_jumpFar wsX4_callTo := goodIn_r _ [15, 16, 17, 1, 18, 19, 20, 21, 22, 23, 24, 25, 26, 27, 28, 29, 30, 31, 32, 33, 34, 35, 36, 37, 38, 39, 40, 41, 42, 43, 44] (by decide +kernel) (by decide +kernel)
set_option maxRecDepth 20000 in
theorem gX4_jumpFar_X4_callTo : GoodIn wsX4_jumpFar (wsV RX4 251 RX4 yX4_callTo wsX4_callTo) := goodIn_app (goodIn_of _ (by decide +kernel)) ggX4_jumpFar_X4_callTo
theorem dX4_jumpFar_0 : decode cX4_jumpFar 0 = .ok (.aload_n 0, 1) := by decide +kernel
theorem dX4_jumpFar_1 : decode cX4_jumpFar 1 = .ok (.aload_n 0, 1) := by decide +kernel
theorem dX4_jumpFar_2 : decode cX4_jumpFar 2 = .ok (.getfield 32, 3) := by decide +kernel
theorem dX4_jumpFar_5 : decode cX4_jumpFar 5 = .ok (.iconst 1, 1) := by decide +kernel
theorem dX4_jumpFar_6 : decode cX4_jumpFar 6 = .ok (.iadd, 1) := by decide +kernel
theorem dX4_jumpFar_7 : decode cX4_jumpFar 7 = .ok (.invokevirtual 51, 3) := by decide +kernel
theorem dX4_jumpFar_10 : decode cX4_jumpFar 10 = .ok (.istore_n 2, 1) := by decide +kernel
theorem dX4_jumpFar_11 : decode cX4_jumpFar 11 = .ok (.iload_n 1, 1) := by decide +kernel
theorem dX4_jumpFar_12 : decode cX4_jumpFar 12 = .ok (.iconst 2, 1) := by decide +kernel
theorem dX4_jumpFar_13 : decode cX4_jumpFar 13 = .ok (.iand, 1) := by decide +kernel
theorem dX4_jumpFar_14 : decode cX4_jumpFar 14 = .ok (.ifCond .ne 11, 3) := by decide +kernel
theorem dX4_jumpFar_17 : decode cX4_jumpFar 17 = .ok (.aload_n 0, 1) := by decide +kernel
theorem dX4_jumpFar_18 : decode cX4_jumpFar 18 = .ok (.iload_n 2, 1) := by decide +kernel
theorem dX4_jumpFar_19 : decode cX4_jumpFar 19 = .ok (.invokevirtual 248, 3) := by decide +kernel
theorem dX4_jumpFar_22 : decode cX4_jumpFar 22 = .ok (.goto 14, 3) := by decide +kernel
theorem dX4_jumpFar_25 : decode cX4_jumpFar 25 = .ok (.aload_n 0, 1) := by decide +kernel
theorem dX4_jumpFar_26 : decode cX4_jumpFar 26 = .ok (.iload_n 2, 1) := by decide +kernel
theorem dX4_jumpFar_27 : decode cX4_jumpFar 27 = .ok (.aload_n 0, 1) := by decide +kernel
theorem dX4_jumpFar_28 : decode cX4_jumpFar 28 = .ok (.getfield 32, 3) := by decide +kernel
theorem dX4_jumpFar_31 : decode cX4_jumpFar 31 = .ok (.iconst 2, 1) := by decide +kernel
theorem dX4_jumpFar_32 : decode cX4_jumpFar 32 = .ok (.iadd, 1) := by decide +kernel
theorem dX4_jumpFar_33 : decode cX4_jumpFar 33 = .ok (.invokevirtual 251, 3) := by decide +kernel
theorem dX4_jumpFar_36 : decode cX4_jumpFar 36 = .ok (.ireturn, 1) := by decide +kernel
set_option maxRecDepth 20000 in
theorem ggX4_jumpToZ_X0_pair : GoodIn wsX4_jumpToZ wsX0_pair := goodIn_r _ [7, 8, 40] (by decide +kernel) (by decide +kernel)
set_option maxRecDepth 20000 in
theorem gX4_jumpToZ_X0_pair : GoodIn wsX4_jumpToZ (wsV RX4 62 RX0 yX0_pair wsX0_pair) := goodIn_app (goodIn_of _ (by decide +kernel)) ggX4_jumpToZ_X0_pair
set_option maxRecDepth 20000 in
theorem ggX4_jumpToZ_X4_jumpTo : GoodIn wsX4_jumpToZ wsX4_jumpTo := goodIn_r _ [13, 2, 32, 33, 34, 35, 36, 37, 38, 39] (by decide +kernel) (by decide +kernel)
set_option maxRecDepth 20000 in
theorem gX4_jumpToZ_X4_jumpTo : GoodIn wsX4_jumpToZ (wsV RX4 248 RX4 yX4_jumpTo wsX4_jumpTo) := goodIn_app (goodIn_of _ (by decide +kernel)) ggX4_jumpToZ_X4_jumpTo
set_option maxRecDepth 20000 in
theorem ggX4_jumpToZ_X4_callTo : GoodIn wsX4_jumpToZ wsX4_callTo := goodIn_r _ [17, 1, 18, 2, 19, 20, 21, 6, 22, 23, 4, 5, 7, 8, 24, 25, 26, 27, 28, 29, 30, 31, 32, 33, 34, 35, 36, 37, 38, 39, 40] (by decide +kernel) (by decide +kernel)
set_option maxRecDepth 20000 in
theorem gX4_jumpToZ_X4_callTo : GoodIn wsX4_jumpToZ (wsV RX4 251 RX4 yX4_callTo wsX4_callTo) := goodIn_app (goodIn_of _ (by decide +kernel)) ggX4_jumpToZ_X4_callTo
theorem dX4_jumpToZ_0 : decode cX4_jumpToZ 0 = .ok (.aload_n 0, 1) := by decide +kernel
theorem dX4_jumpToZ_1 : decode cX4_jumpToZ 1 = .ok (.getfield 16, 3) := by decide +kernel
theorem dX4_jumpToZ_4 : decode cX4_jumpToZ 4 = .ok (.bipush 30, 2) := by decide +kernel
theorem dX4_jumpToZ_6 : decode cX4_jumpToZ 6 = .ok (.invokevirtual 62, 3) := by decide +kernel
theorem dX4_jumpToZ_9 : decode cX4_jumpToZ 9 = .ok (.istore_n 2, 1) := by decide +kernel
theorem dX4_jumpToZ_10 : decode cX4_jumpToZ 10 = .ok (.iload_n 1, 1) := by decide +kernel
theorem dX4_jumpToZ_11 : decode cX4_jumpToZ 11 = .ok (.sipush 256, 3) := by decide +kernel
theorem dX4_jumpToZ_14 : decode cX4_jumpToZ 14 = .ok (.iand, 1) := by decide +kernel
theorem dX4_jumpToZ_15 : decode cX4_jumpToZ 15 = .ok (.ifCond .ne 11, 3) := by decide +kernel
theorem dX4_jumpToZ_18 : decode cX4_jumpToZ 18 = .ok (.aload_n 0, 1) := by decide +kernel
theorem dX4_jumpToZ_19 : decode cX4_jumpToZ 19 = .ok (.iload_n 2, 1) := by decide +kernel
theorem dX4_jumpToZ_20 : decode cX4_jumpToZ 20 = .ok (.invokevirtual 248, 3) := by decide +kernel
theorem dX4_jumpToZ_23 : decode cX4_jumpToZ 23 = .ok (.goto 14, 3) := by decide +kernel
theorem dX4_jumpToZ_26 : decode cX4_jumpToZ 26 = .ok (.aload_n 0, 1) := by decide +kernel
theorem dX4_jumpToZ_27 : decode cX4_jumpToZ 27 = .ok (.iload_n 2, 1) := by decide +kernel
theorem dX4_jumpToZ_28 : decode cX4_jumpToZ 28 = .ok (.aload_n 0, 1) := by decide +kernel
theorem dX4_jumpToZ_29 : decode cX4_jumpToZ 29 = .ok (.getfield 32, 3) := by decide +kernel
theorem dX4_jumpToZ_32 : decode cX4_jumpToZ 32 = .ok (.iconst 1, 1) := by decide +kernel
theorem dX4_jumpToZ_33 : decode cX4_jumpToZ 33 = .ok (.iadd, 1) := by decide +kernel
theorem dX4_jumpToZ_34 : decode cX4_jumpToZ 34 = .ok (.invokevirtual 251, 3) := by decide +kernel
theorem dX4_jumpToZ_37 : decode cX4_jumpToZ 37 = .ok (.ireturn, 1) := by decide +kernel
set_option maxRecDepth 20000 in
theorem ggX4_comeBack_X0_pair : GoodIn wsX4_comeBack wsX0_pair := goodIn_r _ [8, 9, 49] (by decide +kernel) (by decide +kernel)
set_option maxRecDepth 20000 in
theorem gX4_comeBack_X0_pair : GoodIn wsX4_comeBack (wsV RX4 62 RX0 yX0_pair wsX0_pair) := goodIn_app (goodIn_of _ (by decide +kernel)) ggX4_comeBack_X0_pair
set_option maxRecDepth 20000 in
theorem ggX4_comeBack_X0_pull : GoodIn wsX4_comeBack wsX0_pull := goodIn_r _ [13, 14, 5, 6, 7, 8, 9, 15, 16, 17, 18, 19, 20, 21, 22, 49] (by decide +kernel) (by decide +kernel)
set_option maxRecDepth 20000 in
theorem gX4_comeBack_X0_pull : GoodIn wsX4_comeBack (wsV RX4 235 RX0 yX0_pull wsX0_pull) := goodIn_app (goodIn_of _ (by decide +kernel)) ggX4_comeBack_X0_pull
set_option maxRecDepth 20000 in
theorem ggX4_comeBack_X0_setFlag : GoodIn wsX4_comeBack wsX0_setFlag := goodIn_r _ [26, 27, 28, 29, 7, 30, 19, 20, 21, 22, 9, 31, 32, 33, 34, 49] (by decide +kernel) (by decide +kernel)
set_option maxRecDepth 20000 in
theorem gX4_comeBack_X0_setFlag : GoodIn wsX4_comeBack (wsV RX4 99 RX0 yX0_setFlag wsX0_setFlag) := goodIn_app (goodIn_of _ (by decide +kernel)) ggX4_comeBack_X0_setFlag
set_option maxRecDepth 20000 in
theorem ggX4_comeBack_X4_jumpTo : GoodIn wsX4_comeBack wsX4_jumpTo := goodIn_r _ [39, 40, 41, 42, 43, 44, 45, 46, 47, 48] (by decide +kernel) (by decide +kernel)
set_option maxRecDepth 20000 in
theorem gX4_comeBack_X4_jumpTo : GoodIn wsX4_comeBack (wsV RX4 248 RX4 yX4_jumpTo wsX4_jumpTo) := goodIn_app (goodIn_of _ (by decide +kernel)) ggX4_comeBack_X4_jumpTo
theorem dX4_comeBack_0 : decode cX4_comeBack 0 = .ok (.aload_n 0, 1) := by decide +kernel
theorem dX4_comeBack_1 : decode cX4_comeBack 1 = .ok (.getfield 16, 3) := by decide +kernel
theorem dX4_comeBack_4 : decode cX4_comeBack 4 = .ok (.bipush 93, 2) := by decide +kernel
theorem dX4_comeBack_6 : decode cX4_comeBack 6 = .ok (.invokevirtual 62, 3) := by decide +kernel
theorem dX4_comeBack_9 : decode cX4_comeBack 9 = .ok (.istore_n 2, 1) := by decide +kernel
theorem dX4_comeBack_10 : decode cX4_comeBack 10 = .ok (.iload_n 2, 1) := by decide +kernel
theorem dX4_comeBack_11 : decode cX4_comeBack 11 = .ok (.iconst 1, 1) := by decide +kernel
theorem dX4_comeBack_12 : decode cX4_comeBack 12 = .ok (.iadd, 1) := by decide +kernel
theorem dX4_comeBack_13 : decode cX4_comeBack 13 = .ok (.ldc 50, 2) := by decide +kernel
theorem dX4_comeBack_15 : decode cX4_comeBack 15 = .ok (.iand, 1) := by decide +kernel
theorem dX4_comeBack_16 : decode cX4_comeBack 16 = .ok (.sipush 1023, 3) := by decide +kernel
theorem dX4_comeBack_19 : decode cX4_comeBack 19 = .ok (.if_icmp .gt 15, 3) := by decide +kernel
theorem dX4_comeBack_22 : decode cX4_comeBack 22 = .ok (.iload_n 2, 1) := by decide +kernel
theorem dX4_comeBack_23 : decode cX4_comeBack 23 = .ok (.iconst 2, 1) := by decide +kernel
theorem dX4_comeBack_24 : decode cX4_comeBack 24 = .ok (.iadd, 1) := by decide +kernel
theorem dX4_comeBack_25 : decode cX4_comeBack 25 = .ok (.ldc 50, 2) := by decide +kernel
theorem dX4_comeBack_27 : decode cX4_comeBack 27 = .ok (.iand, 1) := by decide +kernel
theorem dX4_comeBack_28 : decode cX4_comeBack 28 = .ok (.sipush 1023, 3) := by decide +kernel
theorem dX4_comeBack_31 : decode cX4_comeBack 31 = .ok (.if_icmp .le 5, 3) := by decide +kernel
theorem dX4_comeBack_34 : decode cX4_comeBack 34 = .ok (.iconst 3, 1) := by decide +kernel
theorem dX4_comeBack_35 : decode cX4_comeBack 35 = .ok (.ireturn, 1) := by decide +kernel
theorem dX4_comeBack_36 : decode cX4_comeBack 36 = .ok (.aload_n 0, 1) := by decide +kernel
theorem dX4_comeBack_37 : decode cX4_comeBack 37 = .ok (.getfield 16, 3) := by decide +kernel
theorem dX4_comeBack_40 : decode cX4_comeBack 40 = .ok (.invokevirtual 235, 3) := by decide +kernel
theorem dX4_comeBack_43 : decode cX4_comeBack 43 = .ok (.istore_n 3, 1) := by decide +kernel
theorem dX4_comeBack_44 : decode cX4_comeBack 44 = .ok (.aload_n 0, 1) := by decide +kernel
theorem dX4_comeBack_45 : decode cX4_comeBack 45 = .ok (.getfield 16, 3) := by decide +kernel
theorem dX4_comeBack_48 : decode cX4_comeBack 48 = .ok (.invokevirtual 235, 3) := by decide +kernel
theorem dX4_comeBack_51 : decode cX4_comeBack 51 = .ok (.istore 4, 2) := by decide +kernel
theorem dX4_comeBack_53 : decode cX4_comeBack 53 = .ok (.iload_n 1, 1) := by decide +kernel
theorem dX4_comeBack_54 : decode cX4_comeBack 54 = .ok (.ldc 90, 2) := by decide +kernel
theorem dX4_comeBack_56 : decode cX4_comeBack 56 = .ok (.if_icmp .ne 13, 3) := by decide +kernel
theorem dX4_comeBack_59 : decode cX4_comeBack 59 = .ok (.aload_n 0, 1) := by decide +kernel
theorem dX4_comeBack_60 : decode cX4_comeBack 60 = .ok (.getfield 16, 3) := by decide +kernel
theorem dX4_comeBack_63 : decode cX4_comeBack 63 = .ok (.bipush 7, 2) := by decide +kernel
theorem dX4_comeBack_65 : decode cX4_comeBack 65 = .ok (.iconst 1, 1) := by decide +kernel
theorem dX4_comeBack_66 : decode cX4_comeBack 66 = .ok (.invokevirtual 99, 3) := by decide +kernel
theorem dX4_comeBack_69 : decode cX4_comeBack 69 = .ok (.aload_n 0, 1) := by decide +kernel
theorem dX4_comeBack_70 : decode cX4_comeBack 70 = .ok (.iload_n 3, 1) := by decide +kernel
theorem dX4_comeBack_71 : decode cX4_comeBack 71 = .ok (.bipush 8, 2) := by decide +kernel
theorem dX4_comeBack_73 : decode cX4_comeBack 73 = .ok (.ishl, 1) := by decide +kernel
theorem dX4_comeBack_74 : decode cX4_comeBack 74 = .ok (.iload 4, 2) := by decide +kernel
theorem dX4_comeBack_76 : decode cX4_comeBack 76 = .ok (.ior, 1) := by decide +kernel
theorem dX4_comeBack_77 : decode cX4_comeBack 77 = .ok (.invokevirtual 248, 3) := by decide +kernel
theorem dX4_comeBack_80 : decode cX4_comeBack 80 = .ok (.ireturn, 1) := by decide +kernel
theorem dX5_init_0 : decode cX5_init 0 = .ok (.aload_n 0, 1) := by decide +kernel
theorem dX5_init_1 : decode cX5_init 1 = .ok (.invokespecial 1, 3) := by decide +kernel
theorem dX5_init_4 : decode cX5_init 4 = .ok (.aload_n 0, 1) := by decide +kernel
theorem dX5_init_5 : decode cX5_init 5 = .ok (.sipush 1024, 3) := by decide +kernel
theorem dX5_init_8 : decode cX5_init 8 = .ok (.newarray .int, 2) := by decide +kernel
theorem dX5_init_10 : decode cX5_init 10 = .ok (.putfield 7, 3) := by decide +kernel
theorem dX5_init_13 : decode cX5_init 13 = .ok (.aload_n 0, 1) := by decide +kernel
theorem dX5_init_14 : decode cX5_init 14 = .ok (.sipush 1024, 3) := by decide +kernel
theorem dX5_init_17 : decode cX5_init 17 = .ok (.newarray .int, 2) := by decide +kernel
theorem dX5_init_19 : decode cX5_init 19 = .ok (.putfield 13, 3) := by decide +kernel
theorem dX5_init_22 : decode cX5_init 22 = .ok (.aload_n 0, 1) := by decide +kernel
theorem dX5_init_23 : decode cX5_init 23 = .ok (.bipush 7, 2) := by decide +kernel
theorem dX5_init_25 : decode cX5_init 25 = .ok (.newarray .int, 2) := by decide +kernel
theorem dX5_init_27 : decode cX5_init 27 = .ok (.putfield 16, 3) := by decide +kernel
theorem dX5_init_30 : decode cX5_init 30 = .ok (.aload_n 0, 1) := by decide +kernel
theorem dX5_init_31 : decode cX5_init 31 = .ok (.iconst 0, 1) := by decide +kernel
theorem dX5_init_32 : decode cX5_init 32 = .ok (.putfield 19, 3) := by decide +kernel
theorem dX5_init_35 : decode cX5_init 35 = .ok (.return_, 1) := by decide +kernel
theorem dX5_in_0 : decode cX5_in 0 = .ok (.iload_n 0, 1) := by decide +kernel
theorem dX5_in_1 : decode cX5_in 1 = .ok (.iload_n 1, 1) := by decide +kernel
theorem dX5_in_2 : decode cX5_in 2 = .ok (.if_icmp .lt 12, 3) := by decide +kernel
theorem dX5_in_5 : decode cX5_in 5 = .ok (.iload_n 0, 1) := by decide +kernel
theorem dX5_in_6 : decode cX5_in 6 = .ok (.iload_n 2, 1) := by decide +kernel
theorem dX5_in_7 : decode cX5_in 7 = .ok (.if_icmp .gt 7, 3) := by decide +kernel
theorem dX5_in_10 : decode cX5_in 10 = .ok (.iconst 1, 1) := by decide +kernel
theorem dX5_in_11 : decode cX5_in 11 = .ok (.goto 4, 3) := by decide +kernel
theorem dX5_in_14 : decode cX5_in 14 = .ok (.iconst 0, 1) := by decide +kernel
theorem dX5_in_15 : decode cX5_in 15 = .ok (.ireturn, 1) := by decide +kernel
set_option maxRecDepth 20000 in
theorem ggX5_code_X5_in : GoodIn wsX5_code wsX5_in := goodIn_r _ [6] (by decide +kernel) (by decide +kernel)
set_option maxRecDepth 20000 in
theorem gX5_code_X5_in : GoodIn wsX5_code (va_wsS RX5 23 yX5_in wsX5_in) := goodIn_app (goodIn_of _ (by decide +kernel)) ggX5_code_X5_in
theorem dX5_code_0 : decode cX5_code 0 = .ok (.iload_n 1, 1) := by decide +kernel
theorem dX5_code_1 : decode cX5_code 1 = .ok (.iconst 0, 1) := by decide +kernel
theorem dX5_code_2 : decode cX5_code 2 = .ok (.sipush 1023, 3) := by decide +kernel
theorem dX5_code_5 : decode cX5_code 5 = .ok (.invokestatic 23, 3) := by decide +kernel
theorem dX5_code_8 : decode cX5_code 8 = .ok (.ifCond .eq 13, 3) := by decide +kernel
theorem dX5_code_11 : decode cX5_code 11 = .ok (.iload_n 2, 1) := by decide +kernel
theorem dX5_code_12 : decode cX5_code 12 = .ok (.iconst 0, 1) := by decide +kernel
theorem dX5_code_13 : decode cX5_code 13 = .ok (.ldc 27, 2) := by decide +kernel
theorem dX5_code_15 : decode cX5_code 15 = .ok (.invokestatic 23, 3) := by decide +kernel
theorem dX5_code_18 : decode cX5_code 18 = .ok (.ifCond .ne 5, 3) := by decide +kernel
theorem dX5_code_21 : decode cX5_code 21 = .ok (.iconst (-1), 1) := by decide +kernel
theorem dX5_code_22 : decode cX5_code 22 = .ok (.ireturn, 1) := by decide +kernel
theorem dX5_code_23 : decode cX5_code 23 = .ok (.aload_n 0, 1) := by decide +kernel
theorem dX5_code_24 : decode cX5_code 24 = .ok (.getfield 7, 3) := by decide +kernel
theorem dX5_code_27 : decode cX5_code 27 = .ok (.iload_n 1, 1) := by decide +kernel
theorem dX5_code_28 : decode cX5_code 28 = .ok (.iaload, 1) := by decide +kernel
theorem dX5_code_29 : decode cX5_code 29 = .ok (.istore_n 3, 1) := by decide +kernel
theorem dX5_code_30 : decode cX5_code 30 = .ok (.aload_n 0, 1) := by decide +kernel
theorem dX5_code_31 : decode cX5_code 31 = .ok (.getfield 7, 3) := by decide +kernel
theorem dX5_code_34 : decode cX5_code 34 = .ok (.iload_n 1, 1) := by decide +kernel
theorem dX5_code_35 : decode cX5_code 35 = .ok (.iload_n 2, 1) := by decide +kernel
theorem dX5_code_36 : decode cX5_code 36 = .ok (.iastore, 1) := by decide +kernel
theorem dX5_code_37 : decode cX5_code 37 = .ok (.iload_n 3, 1) := by decide +kernel
theorem dX5_code_38 : decode cX5_code 38 = .ok (.ireturn, 1) := by decide +kernel
set_option maxRecDepth 20000 in
theorem ggX5_load_X5_in : GoodIn wsX5_load wsX5_in := goodIn_r _ [6] (by decide +kernel) (by decide +kernel)
set_option maxRecDepth 20000 in
theorem gX5_load_X5_in : GoodIn wsX5_load (va_wsS RX5 23 yX5_in wsX5_in) := goodIn_app (goodIn_of _ (by decide +kernel)) ggX5_load_X5_in
theorem dX5_load_0 : decode cX5_load 0 = .ok (.iload_n 1, 1) := by decide +kernel
theorem dX5_load_1 : decode cX5_load 1 = .ok (.iconst 0, 1) := by decide +kernel
theorem dX5_load_2 : decode cX5_load 2 = .ok (.sipush 1023, 3) := by decide +kernel
theorem dX5_load_5 : decode cX5_load 5 = .ok (.invokestatic 23, 3) := by decide +kernel
theorem dX5_load_8 : decode cX5_load 8 = .ok (.ifCond .ne 5, 3) := by decide +kernel
theorem dX5_load_11 : decode cX5_load 11 = .ok (.iconst (-1), 1) := by decide +kernel
theorem dX5_load_12 : decode cX5_load 12 = .ok (.ireturn, 1) := by decide +kernel
theorem dX5_load_13 : decode cX5_load 13 = .ok (.iconst 0, 1) := by decide +kernel
theorem dX5_load_14 : decode cX5_load 14 = .ok (.istore 4, 2) := by decide +kernel
theorem dX5_load_16 : decode cX5_load 16 = .ok (.iload 4, 2) := by decide +kernel
theorem dX5_load_18 : decode cX5_load 18 = .ok (.iconst 4, 1) := by decide +kernel
theorem dX5_load_19 : decode cX5_load 19 = .ok (.if_icmp .ge 36, 3) := by decide +kernel
theorem dX5_load_22 : decode cX5_load 22 = .ok (.aload_n 0, 1) := by decide +kernel
theorem dX5_load_23 : decode cX5_load 23 = .ok (.getfield 7, 3) := by decide +kernel
theorem dX5_load_26 : decode cX5_load 26 = .ok (.iload_n 1, 1) := by decide +kernel
theorem dX5_load_27 : decode cX5_load 27 = .ok (.iload 4, 2) := by decide +kernel
theorem dX5_load_29 : decode cX5_load 29 = .ok (.iadd, 1) := by decide +kernel
theorem dX5_load_30 : decode cX5_load 30 = .ok (.sipush 1023, 3) := by decide +kernel
theorem dX5_load_33 : decode cX5_load 33 = .ok (.iand, 1) := by decide +kernel
theorem dX5_load_34 : decode cX5_load 34 = .ok (.lload_n 2, 1) := by decide +kernel
theorem dX5_load_35 : decode cX5_load 35 = .ok (.bipush 48, 2) := by decide +kernel
theorem dX5_load_37 : decode cX5_load 37 = .ok (.bipush 16, 2) := by decide +kernel
theorem dX5_load_39 : decode cX5_load 39 = .ok (.iload 4, 2) := by decide +kernel
theorem dX5_load_41 : decode cX5_load 41 = .ok (.imul, 1) := by decide +kernel
theorem dX5_load_42 : decode cX5_load 42 = .ok (.isub, 1) := by decide +kernel
theorem dX5_load_43 : decode cX5_load 43 = .ok (.lshr, 1) := by decide +kernel
theorem dX5_load_44 : decode cX5_load 44 = .ok (.l2i, 1) := by decide +kernel
theorem dX5_load_45 : decode cX5_load 45 = .ok (.ldc 27, 2) := by decide +kernel
theorem dX5_load_47 : decode cX5_load 47 = .ok (.iand, 1) := by decide +kernel
theorem dX5_load_48 : decode cX5_load 48 = .ok (.iastore, 1) := by decide +kernel
theorem dX5_load_49 : decode cX5_load 49 = .ok (.iinc 4 1, 3) := by decide +kernel
theorem dX5_load_52 : decode cX5_load 52 = .ok (.goto (-36), 3) := by decide +kernel
theorem dX5_load_55 : decode cX5_load 55 = .ok (.iconst 1, 1) := by decide +kernel
theorem dX5_load_56 : decode cX5_load 56 = .ok (.ireturn, 1) := by decide +kernel
set_option maxRecDepth 20000 in
theorem ggX5_word_X5_in : GoodIn wsX5_word wsX5_in := goodIn_r _ [5] (by decide +kernel) (by decide +kernel)
set_option maxRecDepth 20000 in
theorem gX5_word_X5_in : GoodIn wsX5_word (va_wsS RX5 23 yX5_in wsX5_in) := goodIn_app (goodIn_of _ (by decide +kernel)) ggX5_word_X5_in
theorem dX5_word_0 : decode cX5_word 0 = .ok (.iload_n 1, 1) := by decide +kernel
theorem dX5_word_1 : decode cX5_word 1 = .ok (.iconst 0, 1) := by decide +kernel
theorem dX5_word_2 : decode cX5_word 2 = .ok (.sipush 1023, 3) := by decide +kernel
theorem dX5_word_5 : decode cX5_word 5 = .ok (.invokestatic 23, 3) := by decide +kernel
theorem dX5_word_8 : decode cX5_word 8 = .ok (.ifCond .eq 12, 3) := by decide +kernel
theorem dX5_word_11 : decode cX5_word 11 = .ok (.aload_n 0, 1) := by decide +kernel
theorem dX5_word_12 : decode cX5_word 12 = .ok (.getfield 7, 3) := by decide +kernel
theorem dX5_word_15 : decode cX5_word 15 = .ok (.iload_n 1, 1) := by decide +kernel
theorem dX5_word_16 : decode cX5_word 16 = .ok (.iaload, 1) := by decide +kernel
theorem dX5_word_17 : decode cX5_word 17 = .ok (.goto 4, 3) := by decide +kernel
theorem dX5_word_20 : decode cX5_word 20 = .ok (.iconst (-1), 1) := by decide +kernel
theorem dX5_word_21 : decode cX5_word 21 = .ok (.ireturn, 1) := by decide +kernel
set_option maxRecDepth 20000 in
theorem ggX5_put_X5_in : GoodIn wsX5_put wsX5_in := goodIn_r _ [5] (by decide +kernel) (by decide +kernel)
set_option maxRecDepth 20000 in
theorem gX5_put_X5_in : GoodIn wsX5_put (va_wsS RX5 23 yX5_in wsX5_in) := goodIn_app (goodIn_of _ (by decide +kernel)) ggX5_put_X5_in
end
section
theorem dX5_put_0 : decode cX5_put 0 = .ok (.iload_n 1, 1) := by decide +kernel
theorem dX5_put_1 : decode cX5_put 1 = .ok (.iconst 0, 1) := by decide +kernel
theorem dX5_put_2 : decode cX5_put 2 = .ok (.sipush 1023, 3) := by decide +kernel
theorem dX5_put_5 : decode cX5_put 5 = .ok (.invokestatic 23, 3) := by decide +kernel
theorem dX5_put_8 : decode cX5_put 8 = .ok (.ifCond .eq 14, 3) := by decide +kernel
theorem dX5_put_11 : decode cX5_put 11 = .ok (.iload_n 2, 1) := by decide +kernel
theorem dX5_put_12 : decode cX5_put 12 = .ok (.iconst 0, 1) := by decide +kernel
theorem dX5_put_13 : decode cX5_put 13 = .ok (.sipush 255, 3) := by decide +kernel
theorem dX5_put_16 : decode cX5_put 16 = .ok (.invokestatic 23, 3) := by decide +kernel
theorem dX5_put_19 : decode cX5_put 19 = .ok (.ifCond .ne 5, 3) := by decide +kernel
theorem dX5_put_22 : decode cX5_put 22 = .ok (.iconst (-1), 1) := by decide +kernel
theorem dX5_put_23 : decode cX5_put 23 = .ok (.ireturn, 1) := by decide +kernel
theorem dX5_put_24 : decode cX5_put 24 = .ok (.aload_n 0, 1) := by decide +kernel
theorem dX5_put_25 : decode cX5_put 25 = .ok (.getfield 13, 3) := by decide +kernel
theorem dX5_put_28 : decode cX5_put 28 = .ok (.iload_n 1, 1) := by decide +kernel
theorem dX5_put_29 : decode cX5_put 29 = .ok (.iaload, 1) := by decide +kernel
theorem dX5_put_30 : decode cX5_put 30 = .ok (.istore_n 3, 1) := by decide +kernel
theorem dX5_put_31 : decode cX5_put 31 = .ok (.aload_n 0, 1) := by decide +kernel
theorem dX5_put_32 : decode cX5_put 32 = .ok (.getfield 13, 3) := by decide +kernel
theorem dX5_put_35 : decode cX5_put 35 = .ok (.iload_n 1, 1) := by decide +kernel
theorem dX5_put_36 : decode cX5_put 36 = .ok (.iload_n 2, 1) := by decide +kernel
theorem dX5_put_37 : decode cX5_put 37 = .ok (.iastore, 1) := by decide +kernel
theorem dX5_put_38 : decode cX5_put 38 = .ok (.iload_n 3, 1) := by decide +kernel
theorem dX5_put_39 : decode cX5_put 39 = .ok (.ireturn, 1) := by decide +kernel
set_option maxRecDepth 20000 in
theorem ggX5_data_X5_in : GoodIn wsX5_data wsX5_in := goodIn_r _ [5] (by decide +kernel) (by decide +kernel)
set_option maxRecDepth 20000 in
theorem gX5_data_X5_in : GoodIn wsX5_data (va_wsS RX5 23 yX5_in wsX5_in) := goodIn_app (goodIn_of _ (by decide +kernel)) ggX5_data_X5_in
theorem dX5_data_0 : decode cX5_data 0 = .ok (.iload_n 1, 1) := by decide +kernel
theorem dX5_data_1 : decode cX5_data 1 = .ok (.iconst 0, 1) := by decide +kernel
theorem dX5_data_2 : decode cX5_data 2 = .ok (.sipush 1023, 3) := by decide +kernel
theorem dX5_data_5 : decode cX5_data 5 = .ok (.invokestatic 23, 3) := by decide +kernel
theorem dX5_data_8 : decode cX5_data 8 = .ok (.ifCond .eq 12, 3) := by decide +kernel
theorem dX5_data_11 : decode cX5_data 11 = .ok (.aload_n 0, 1) := by decide +kernel
theorem dX5_data_12 : decode cX5_data 12 = .ok (.getfield 13, 3) := by decide +kernel
theorem dX5_data_15 : decode cX5_data 15 = .ok (.iload_n 1, 1) := by decide +kernel
theorem dX5_data_16 : decode cX5_data 16 = .ok (.iaload, 1) := by decide +kernel
theorem dX5_data_17 : decode cX5_data 17 = .ok (.goto 4, 3) := by decide +kernel
theorem dX5_data_20 : decode cX5_data 20 = .ok (.iconst (-1), 1) := by decide +kernel
theorem dX5_data_21 : decode cX5_data 21 = .ok (.ireturn, 1) := by decide +kernel
theorem dX5_pair_0 : decode cX5_pair 0 = .ok (.aload_n 0, 1) := by decide +kernel
theorem dX5_pair_1 : decode cX5_pair 1 = .ok (.getfield 13, 3) := by decide +kernel
theorem dX5_pair_4 : decode cX5_pair 4 = .ok (.iload_n 1, 1) := by decide +kernel
theorem dX5_pair_5 : decode cX5_pair 5 = .ok (.iaload, 1) := by decide +kernel
theorem dX5_pair_6 : decode cX5_pair 6 = .ok (.aload_n 0, 1) := by decide +kernel
theorem dX5_pair_7 : decode cX5_pair 7 = .ok (.getfield 13, 3) := by decide +kernel
theorem dX5_pair_10 : decode cX5_pair 10 = .ok (.iload_n 1, 1) := by decide +kernel
theorem dX5_pair_11 : decode cX5_pair 11 = .ok (.iconst 1, 1) := by decide +kernel
theorem dX5_pair_12 : decode cX5_pair 12 = .ok (.iadd, 1) := by decide +kernel
theorem dX5_pair_13 : decode cX5_pair 13 = .ok (.iaload, 1) := by decide +kernel
theorem dX5_pair_14 : decode cX5_pair 14 = .ok (.bipush 8, 2) := by decide +kernel
theorem dX5_pair_16 : decode cX5_pair 16 = .ok (.ishl, 1) := by decide +kernel
theorem dX5_pair_17 : decode cX5_pair 17 = .ok (.ior, 1) := by decide +kernel
theorem dX5_pair_18 : decode cX5_pair 18 = .ok (.ireturn, 1) := by decide +kernel
theorem dX5_setPair_0 : decode cX5_setPair 0 = .ok (.aload_n 0, 1) := by decide +kernel
theorem dX5_setPair_1 : decode cX5_setPair 1 = .ok (.getfield 13, 3) := by decide +kernel
theorem dX5_setPair_4 : decode cX5_setPair 4 = .ok (.iload_n 1, 1) := by decide +kernel
theorem dX5_setPair_5 : decode cX5_setPair 5 = .ok (.iload_n 2, 1) := by decide +kernel
theorem dX5_setPair_6 : decode cX5_setPair 6 = .ok (.sipush 255, 3) := by decide +kernel
theorem dX5_setPair_9 : decode cX5_setPair 9 = .ok (.iand, 1) := by decide +kernel
theorem dX5_setPair_10 : decode cX5_setPair 10 = .ok (.iastore, 1) := by decide +kernel
theorem dX5_setPair_11 : decode cX5_setPair 11 = .ok (.aload_n 0, 1) := by decide +kernel
theorem dX5_setPair_12 : decode cX5_setPair 12 = .ok (.getfield 13, 3) := by decide +kernel
theorem dX5_setPair_15 : decode cX5_setPair 15 = .ok (.iload_n 1, 1) := by decide +kernel
theorem dX5_setPair_16 : decode cX5_setPair 16 = .ok (.iconst 1, 1) := by decide +kernel
theorem dX5_setPair_17 : decode cX5_setPair 17 = .ok (.iadd, 1) := by decide +kernel
theorem dX5_setPair_18 : decode cX5_setPair 18 = .ok (.iload_n 2, 1) := by decide +kernel
theorem dX5_setPair_19 : decode cX5_setPair 19 = .ok (.bipush 8, 2) := by decide +kernel
theorem dX5_setPair_21 : decode cX5_setPair 21 = .ok (.ishr, 1) := by decide +kernel
theorem dX5_setPair_22 : decode cX5_setPair 22 = .ok (.sipush 255, 3) := by decide +kernel
theorem dX5_setPair_25 : decode cX5_setPair 25 = .ok (.iand, 1) := by decide +kernel
theorem dX5_setPair_26 : decode cX5_setPair 26 = .ok (.iastore, 1) := by decide +kernel
theorem dX5_setPair_27 : decode cX5_setPair 27 = .ok (.return_, 1) := by decide +kernel
set_option maxRecDepth 20000 in
theorem ggX5_told_X5_pair : GoodIn wsX5_told wsX5_pair := goodIn_r _ [9, 2, 10, 11, 12, 13, 14, 15, 16, 17] (by decide +kernel) (by decide +kernel)
set_option maxRecDepth 20000 in
theorem gX5_told_X5_pair : GoodIn wsX5_told (wsV RX5 28 RX5 yX5_pair wsX5_pair) := goodIn_app (goodIn_of _ (by decide +kernel)) ggX5_told_X5_pair
theorem dX5_told_0 : decode cX5_told 0 = .ok (.iload_n 1, 1) := by decide +kernel
theorem dX5_told_1 : decode cX5_told 1 = .ok (.tableswitch 106 0 7 #[47, 52, 59, 67, 74, 81, 88, 101], 47) := by decide +kernel
theorem dX5_told_48 : decode cX5_told 48 = .ok (.aload_n 0, 1) := by decide +kernel
theorem dX5_told_49 : decode cX5_told 49 = .ok (.getfield 19, 3) := by decide +kernel
theorem dX5_told_52 : decode cX5_told 52 = .ok (.ireturn, 1) := by decide +kernel
theorem dX5_told_53 : decode cX5_told 53 = .ok (.aload_n 0, 1) := by decide +kernel
theorem dX5_told_54 : decode cX5_told 54 = .ok (.bipush 93, 2) := by decide +kernel
theorem dX5_told_56 : decode cX5_told 56 = .ok (.invokevirtual 28, 3) := by decide +kernel
theorem dX5_told_59 : decode cX5_told 59 = .ok (.ireturn, 1) := by decide +kernel
theorem dX5_told_60 : decode cX5_told 60 = .ok (.aload_n 0, 1) := by decide +kernel
theorem dX5_told_61 : decode cX5_told 61 = .ok (.getfield 13, 3) := by decide +kernel
theorem dX5_told_64 : decode cX5_told 64 = .ok (.bipush 95, 2) := by decide +kernel
theorem dX5_told_66 : decode cX5_told 66 = .ok (.iaload, 1) := by decide +kernel
theorem dX5_told_67 : decode cX5_told 67 = .ok (.ireturn, 1) := by decide +kernel
theorem dX5_told_68 : decode cX5_told 68 = .ok (.aload_n 0, 1) := by decide +kernel
theorem dX5_told_69 : decode cX5_told 69 = .ok (.bipush 26, 2) := by decide +kernel
theorem dX5_told_71 : decode cX5_told 71 = .ok (.invokevirtual 28, 3) := by decide +kernel
theorem dX5_told_74 : decode cX5_told 74 = .ok (.ireturn, 1) := by decide +kernel
theorem dX5_told_75 : decode cX5_told 75 = .ok (.aload_n 0, 1) := by decide +kernel
theorem dX5_told_76 : decode cX5_told 76 = .ok (.bipush 28, 2) := by decide +kernel
theorem dX5_told_78 : decode cX5_told 78 = .ok (.invokevirtual 28, 3) := by decide +kernel
theorem dX5_told_81 : decode cX5_told 81 = .ok (.ireturn, 1) := by decide +kernel
theorem dX5_told_82 : decode cX5_told 82 = .ok (.aload_n 0, 1) := by decide +kernel
theorem dX5_told_83 : decode cX5_told 83 = .ok (.bipush 30, 2) := by decide +kernel
theorem dX5_told_85 : decode cX5_told 85 = .ok (.invokevirtual 28, 3) := by decide +kernel
theorem dX5_told_88 : decode cX5_told 88 = .ok (.ireturn, 1) := by decide +kernel
theorem dX5_told_89 : decode cX5_told 89 = .ok (.aload_n 0, 1) := by decide +kernel
theorem dX5_told_90 : decode cX5_told 90 = .ok (.getfield 32, 3) := by decide +kernel
theorem dX5_told_93 : decode cX5_told 93 = .ok (.ifCond .eq 7, 3) := by decide +kernel
theorem dX5_told_96 : decode cX5_told 96 = .ok (.iconst 1, 1) := by decide +kernel
theorem dX5_told_97 : decode cX5_told 97 = .ok (.goto 4, 3) := by decide +kernel
theorem dX5_told_100 : decode cX5_told 100 = .ok (.iconst 0, 1) := by decide +kernel
theorem dX5_told_101 : decode cX5_told 101 = .ok (.ireturn, 1) := by decide +kernel
theorem dX5_told_102 : decode cX5_told 102 = .ok (.aload_n 0, 1) := by decide +kernel
theorem dX5_told_103 : decode cX5_told 103 = .ok (.getfield 36, 3) := by decide +kernel
theorem dX5_told_106 : decode cX5_told 106 = .ok (.ireturn, 1) := by decide +kernel
theorem dX5_told_107 : decode cX5_told 107 = .ok (.iconst (-1), 1) := by decide +kernel
theorem dX5_told_108 : decode cX5_told 108 = .ok (.ireturn, 1) := by decide +kernel
set_option maxRecDepth 20000 in
theorem ggX5_go_X5_in : GoodIn wsX5_go wsX5_in := goodIn_r _ [5] (by decide +kernel) (by decide +kernel)
set_option maxRecDepth 20000 in
theorem gX5_go_X5_in : GoodIn wsX5_go (va_wsS RX5 23 yX5_in wsX5_in) := goodIn_app (goodIn_of _ (by decide +kernel)) ggX5_go_X5_in
theorem dX5_go_0 : decode cX5_go 0 = .ok (.iload_n 1, 1) := by decide +kernel
theorem dX5_go_1 : decode cX5_go 1 = .ok (.iconst 0, 1) := by decide +kernel
theorem dX5_go_2 : decode cX5_go 2 = .ok (.sipush 1023, 3) := by decide +kernel
theorem dX5_go_5 : decode cX5_go 5 = .ok (.invokestatic 23, 3) := by decide +kernel
theorem dX5_go_8 : decode cX5_go 8 = .ok (.ifCond .ne 5, 3) := by decide +kernel
theorem dX5_go_11 : decode cX5_go 11 = .ok (.iconst (-1), 1) := by decide +kernel
theorem dX5_go_12 : decode cX5_go 12 = .ok (.ireturn, 1) := by decide +kernel
theorem dX5_go_13 : decode cX5_go 13 = .ok (.aload_n 0, 1) := by decide +kernel
theorem dX5_go_14 : decode cX5_go 14 = .ok (.getfield 19, 3) := by decide +kernel
theorem dX5_go_17 : decode cX5_go 17 = .ok (.istore_n 2, 1) := by decide +kernel
theorem dX5_go_18 : decode cX5_go 18 = .ok (.aload_n 0, 1) := by decide +kernel
theorem dX5_go_19 : decode cX5_go 19 = .ok (.iload_n 1, 1) := by decide +kernel
theorem dX5_go_20 : decode cX5_go 20 = .ok (.putfield 19, 3) := by decide +kernel
theorem dX5_go_23 : decode cX5_go 23 = .ok (.iload_n 2, 1) := by decide +kernel
theorem dX5_go_24 : decode cX5_go 24 = .ok (.ireturn, 1) := by decide +kernel
set_option maxRecDepth 20000 in
theorem ggX5_ask_X5_in : GoodIn wsX5_ask wsX5_in := goodIn_r _ [5] (by decide +kernel) (by decide +kernel)
set_option maxRecDepth 20000 in
theorem gX5_ask_X5_in : GoodIn wsX5_ask (va_wsS RX5 23 yX5_in wsX5_in) := goodIn_app (goodIn_of _ (by decide +kernel)) ggX5_ask_X5_in
theorem dX5_ask_0 : decode cX5_ask 0 = .ok (.iload_n 1, 1) := by decide +kernel
theorem dX5_ask_1 : decode cX5_ask 1 = .ok (.iconst 1, 1) := by decide +kernel
theorem dX5_ask_2 : decode cX5_ask 2 = .ok (.bipush 25, 2) := by decide +kernel
theorem dX5_ask_4 : decode cX5_ask 4 = .ok (.invokestatic 23, 3) := by decide +kernel
theorem dX5_ask_7 : decode cX5_ask 7 = .ok (.ifCond .ne 5, 3) := by decide +kernel
theorem dX5_ask_10 : decode cX5_ask 10 = .ok (.iconst (-1), 1) := by decide +kernel
theorem dX5_ask_11 : decode cX5_ask 11 = .ok (.ireturn, 1) := by decide +kernel
theorem dX5_ask_12 : decode cX5_ask 12 = .ok (.aload_n 0, 1) := by decide +kernel
theorem dX5_ask_13 : decode cX5_ask 13 = .ok (.getfield 36, 3) := by decide +kernel
theorem dX5_ask_16 : decode cX5_ask 16 = .ok (.iload_n 1, 1) := by decide +kernel
theorem dX5_ask_17 : decode cX5_ask 17 = .ok (.ishr, 1) := by decide +kernel
theorem dX5_ask_18 : decode cX5_ask 18 = .ok (.iconst 1, 1) := by decide +kernel
theorem dX5_ask_19 : decode cX5_ask 19 = .ok (.iand, 1) := by decide +kernel
theorem dX5_ask_20 : decode cX5_ask 20 = .ok (.iconst 1, 1) := by decide +kernel
theorem dX5_ask_21 : decode cX5_ask 21 = .ok (.if_icmp .ne 7, 3) := by decide +kernel
theorem dX5_ask_24 : decode cX5_ask 24 = .ok (.iconst 0, 1) := by decide +kernel
theorem dX5_ask_25 : decode cX5_ask 25 = .ok (.goto 4, 3) := by decide +kernel
theorem dX5_ask_28 : decode cX5_ask 28 = .ok (.iconst 1, 1) := by decide +kernel
theorem dX5_ask_29 : decode cX5_ask 29 = .ok (.istore_n 2, 1) := by decide +kernel
theorem dX5_ask_30 : decode cX5_ask 30 = .ok (.aload_n 0, 1) := by decide +kernel
theorem dX5_ask_31 : decode cX5_ask 31 = .ok (.dup, 1) := by decide +kernel
theorem dX5_ask_32 : decode cX5_ask 32 = .ok (.getfield 36, 3) := by decide +kernel
theorem dX5_ask_35 : decode cX5_ask 35 = .ok (.iconst 1, 1) := by decide +kernel
theorem dX5_ask_36 : decode cX5_ask 36 = .ok (.iload_n 1, 1) := by decide +kernel
theorem dX5_ask_37 : decode cX5_ask 37 = .ok (.ishl, 1) := by decide +kernel
theorem dX5_ask_38 : decode cX5_ask 38 = .ok (.ior, 1) := by decide +kernel
theorem dX5_ask_39 : decode cX5_ask 39 = .ok (.putfield 36, 3) := by decide +kernel
theorem dX5_ask_42 : decode cX5_ask 42 = .ok (.iload_n 2, 1) := by decide +kernel
theorem dX5_ask_43 : decode cX5_ask 43 = .ok (.ireturn, 1) := by decide +kernel
theorem dX5_isMemory_0 : decode cX5_isMemory 0 = .ok (.iload_n 0, 1) := by decide +kernel
theorem dX5_isMemory_1 : decode cX5_isMemory 1 = .ok (.ldc 39, 2) := by decide +kernel
theorem dX5_isMemory_3 : decode cX5_isMemory 3 = .ok (.iand, 1) := by decide +kernel
theorem dX5_isMemory_4 : decode cX5_isMemory 4 = .ok (.ldc 40, 2) := by decide +kernel
theorem dX5_isMemory_6 : decode cX5_isMemory 6 = .ok (.if_icmp .ne 7, 3) := by decide +kernel
theorem dX5_isMemory_9 : decode cX5_isMemory 9 = .ok (.iconst 1, 1) := by decide +kernel
theorem dX5_isMemory_10 : decode cX5_isMemory 10 = .ok (.goto 4, 3) := by decide +kernel
theorem dX5_isMemory_13 : decode cX5_isMemory 13 = .ok (.iconst 0, 1) := by decide +kernel
theorem dX5_isMemory_14 : decode cX5_isMemory 14 = .ok (.ireturn, 1) := by decide +kernel
theorem dX5_isOne_0 : decode cX5_isOne 0 = .ok (.iload_n 0, 1) := by decide +kernel
theorem dX5_isOne_1 : decode cX5_isOne 1 = .ok (.ldc 41, 2) := by decide +kernel
theorem dX5_isOne_3 : decode cX5_isOne 3 = .ok (.iand, 1) := by decide +kernel
theorem dX5_isOne_4 : decode cX5_isOne 4 = .ok (.ldc 42, 2) := by decide +kernel
theorem dX5_isOne_6 : decode cX5_isOne 6 = .ok (.if_icmp .ne 7, 3) := by decide +kernel
theorem dX5_isOne_9 : decode cX5_isOne 9 = .ok (.iconst 1, 1) := by decide +kernel
theorem dX5_isOne_10 : decode cX5_isOne 10 = .ok (.goto 4, 3) := by decide +kernel
theorem dX5_isOne_13 : decode cX5_isOne 13 = .ok (.iconst 0, 1) := by decide +kernel
theorem dX5_isOne_14 : decode cX5_isOne 14 = .ok (.ireturn, 1) := by decide +kernel
set_option maxRecDepth 20000 in
theorem ggX5_hasNext_X5_isMemory : GoodIn wsX5_hasNext wsX5_isMemory := goodIn_r _ [4, 5, 6] (by decide +kernel) (by decide +kernel)
set_option maxRecDepth 20000 in
theorem gX5_hasNext_X5_isMemory : GoodIn wsX5_hasNext (va_wsS RX5 43 yX5_isMemory wsX5_isMemory) := goodIn_app (goodIn_of _ (by decide +kernel)) ggX5_hasNext_X5_isMemory
set_option maxRecDepth 20000 in
theorem ggX5_hasNext_X5_isOne : GoodIn wsX5_hasNext wsX5_isOne := goodIn_r _ [9, 10, 11] (by decide +kernel) (by decide +kernel)
set_option maxRecDepth 20000 in
theorem gX5_hasNext_X5_isOne : GoodIn wsX5_hasNext (va_wsS RX5 47 yX5_isOne wsX5_isOne) := goodIn_app (goodIn_of _ (by decide +kernel)) ggX5_hasNext_X5_isOne
theorem dX5_hasNext_0 : decode cX5_hasNext 0 = .ok (.iload_n 0, 1) := by decide +kernel
theorem dX5_hasNext_1 : decode cX5_hasNext 1 = .ok (.invokestatic 43, 3) := by decide +kernel
theorem dX5_hasNext_4 : decode cX5_hasNext 4 = .ok (.ifCond .eq 10, 3) := by decide +kernel
theorem dX5_hasNext_7 : decode cX5_hasNext 7 = .ok (.iload_n 0, 1) := by decide +kernel
theorem dX5_hasNext_8 : decode cX5_hasNext 8 = .ok (.bipush 15, 2) := by decide +kernel
theorem dX5_hasNext_10 : decode cX5_hasNext 10 = .ok (.iand, 1) := by decide +kernel
theorem dX5_hasNext_11 : decode cX5_hasNext 11 = .ok (.ifCond .eq 19, 3) := by decide +kernel
theorem dX5_hasNext_14 : decode cX5_hasNext 14 = .ok (.iload_n 0, 1) := by decide +kernel
theorem dX5_hasNext_15 : decode cX5_hasNext 15 = .ok (.invokestatic 47, 3) := by decide +kernel
theorem dX5_hasNext_18 : decode cX5_hasNext 18 = .ok (.ifCond .eq 16, 3) := by decide +kernel
theorem dX5_hasNext_21 : decode cX5_hasNext 21 = .ok (.iload_n 0, 1) := by decide +kernel
theorem dX5_hasNext_22 : decode cX5_hasNext 22 = .ok (.bipush 15, 2) := by decide +kernel
theorem dX5_hasNext_24 : decode cX5_hasNext 24 = .ok (.iand, 1) := by decide +kernel
theorem dX5_hasNext_25 : decode cX5_hasNext 25 = .ok (.bipush 11, 2) := by decide +kernel
theorem dX5_hasNext_27 : decode cX5_hasNext 27 = .ok (.if_icmp .le 7, 3) := by decide +kernel
theorem dX5_hasNext_30 : decode cX5_hasNext 30 = .ok (.iconst 1, 1) := by decide +kernel
theorem dX5_hasNext_31 : decode cX5_hasNext 31 = .ok (.goto 4, 3) := by decide +kernel
theorem dX5_hasNext_34 : decode cX5_hasNext 34 = .ok (.iconst 0, 1) := by decide +kernel
theorem dX5_hasNext_35 : decode cX5_hasNext 35 = .ok (.ireturn, 1) := by decide +kernel
theorem dX5_dOf_0 : decode cX5_dOf 0 = .ok (.iload_n 0, 1) := by decide +kernel
theorem dX5_dOf_1 : decode cX5_dOf 1 = .ok (.iconst 4, 1) := by decide +kernel
theorem dX5_dOf_2 : decode cX5_dOf 2 = .ok (.ishr, 1) := by decide +kernel
theorem dX5_dOf_3 : decode cX5_dOf 3 = .ok (.bipush 31, 2) := by decide +kernel
theorem dX5_dOf_5 : decode cX5_dOf 5 = .ok (.iand, 1) := by decide +kernel
theorem dX5_dOf_6 : decode cX5_dOf 6 = .ok (.ireturn, 1) := by decide +kernel
theorem dX5_changes_0 : decode cX5_changes 0 = .ok (.iload_n 0, 1) := by decide +kernel
theorem dX5_changes_1 : decode cX5_changes 1 = .ok (.bipush 15, 2) := by decide +kernel
theorem dX5_changes_3 : decode cX5_changes 3 = .ok (.iand, 1) := by decide +kernel
theorem dX5_changes_4 : decode cX5_changes 4 = .ok (.tableswitch 81 1 14 #[72, 72, 81, 81, 72, 81, 81, 81, 75, 75, 81, 81, 78, 78], 72) := by decide +kernel
theorem dX5_changes_76 : decode cX5_changes 76 = .ok (.bipush 30, 2) := by decide +kernel
theorem dX5_changes_78 : decode cX5_changes 78 = .ok (.ireturn, 1) := by decide +kernel
theorem dX5_changes_79 : decode cX5_changes 79 = .ok (.bipush 28, 2) := by decide +kernel
theorem dX5_changes_81 : decode cX5_changes 81 = .ok (.ireturn, 1) := by decide +kernel
theorem dX5_changes_82 : decode cX5_changes 82 = .ok (.bipush 26, 2) := by decide +kernel
theorem dX5_changes_84 : decode cX5_changes 84 = .ok (.ireturn, 1) := by decide +kernel
theorem dX5_changes_85 : decode cX5_changes 85 = .ok (.iconst 0, 1) := by decide +kernel
theorem dX5_changes_86 : decode cX5_changes 86 = .ok (.ireturn, 1) := by decide +kernel
set_option maxRecDepth 20000 in
theorem ggX5_isBadMemory_X5_changes : GoodIn wsX5_isBadMemory wsX5_changes := goodIn_r _ [4] (by decide +kernel) (by decide +kernel)
set_option maxRecDepth 20000 in
theorem gX5_isBadMemory_X5_changes : GoodIn wsX5_isBadMemory (va_wsS RX5 50 yX5_changes wsX5_changes) := goodIn_app (goodIn_of _ (by decide +kernel)) ggX5_isBadMemory_X5_changes
set_option maxRecDepth 20000 in
theorem ggX5_isBadMemory_X5_dOf : GoodIn wsX5_isBadMemory wsX5_dOf := goodIn_r _ [7] (by decide +kernel) (by decide +kernel)
set_option maxRecDepth 20000 in
theorem gX5_isBadMemory_X5_dOf : GoodIn wsX5_isBadMemory (va_wsS RX5 53 yX5_dOf wsX5_dOf) := goodIn_app (goodIn_of _ (by decide +kernel)) ggX5_isBadMemory_X5_dOf
theorem dX5_isBadMemory_0 : decode cX5_isBadMemory 0 = .ok (.iload_n 0, 1) := by decide +kernel
theorem dX5_isBadMemory_1 : decode cX5_isBadMemory 1 = .ok (.bipush 15, 2) := by decide +kernel
theorem dX5_isBadMemory_3 : decode cX5_isBadMemory 3 = .ok (.iand, 1) := by decide +kernel
theorem dX5_isBadMemory_4 : decode cX5_isBadMemory 4 = .ok (.istore_n 1, 1) := by decide +kernel
theorem dX5_isBadMemory_5 : decode cX5_isBadMemory 5 = .ok (.iload_n 0, 1) := by decide +kernel
theorem dX5_isBadMemory_6 : decode cX5_isBadMemory 6 = .ok (.sipush 512, 3) := by decide +kernel
theorem dX5_isBadMemory_9 : decode cX5_isBadMemory 9 = .ok (.iand, 1) := by decide +kernel
theorem dX5_isBadMemory_10 : decode cX5_isBadMemory 10 = .ok (.ifCond .eq 7, 3) := by decide +kernel
theorem dX5_isBadMemory_13 : decode cX5_isBadMemory 13 = .ok (.iconst 1, 1) := by decide +kernel
theorem dX5_isBadMemory_14 : decode cX5_isBadMemory 14 = .ok (.goto 4, 3) := by decide +kernel
theorem dX5_isBadMemory_17 : decode cX5_isBadMemory 17 = .ok (.iconst 0, 1) := by decide +kernel
theorem dX5_isBadMemory_18 : decode cX5_isBadMemory 18 = .ok (.istore_n 2, 1) := by decide +kernel
theorem dX5_isBadMemory_19 : decode cX5_isBadMemory 19 = .ok (.iload_n 1, 1) := by decide +kernel
theorem dX5_isBadMemory_20 : decode cX5_isBadMemory 20 = .ok (.iconst 3, 1) := by decide +kernel
theorem dX5_isBadMemory_21 : decode cX5_isBadMemory 21 = .ok (.if_icmp .eq 41, 3) := by decide +kernel
theorem dX5_isBadMemory_24 : decode cX5_isBadMemory 24 = .ok (.iload_n 1, 1) := by decide +kernel
theorem dX5_isBadMemory_25 : decode cX5_isBadMemory 25 = .ok (.bipush 6, 2) := by decide +kernel
theorem dX5_isBadMemory_27 : decode cX5_isBadMemory 27 = .ok (.if_icmp .eq 35, 3) := by decide +kernel
theorem dX5_isBadMemory_30 : decode cX5_isBadMemory 30 = .ok (.iload_n 1, 1) := by decide +kernel
theorem dX5_isBadMemory_31 : decode cX5_isBadMemory 31 = .ok (.bipush 7, 2) := by decide +kernel
theorem dX5_isBadMemory_33 : decode cX5_isBadMemory 33 = .ok (.if_icmp .eq 29, 3) := by decide +kernel
theorem dX5_isBadMemory_36 : decode cX5_isBadMemory 36 = .ok (.iload_n 1, 1) := by decide +kernel
theorem dX5_isBadMemory_37 : decode cX5_isBadMemory 37 = .ok (.bipush 8, 2) := by decide +kernel
theorem dX5_isBadMemory_39 : decode cX5_isBadMemory 39 = .ok (.if_icmp .eq 23, 3) := by decide +kernel
theorem dX5_isBadMemory_42 : decode cX5_isBadMemory 42 = .ok (.iload_n 1, 1) := by decide +kernel
theorem dX5_isBadMemory_43 : decode cX5_isBadMemory 43 = .ok (.bipush 11, 2) := by decide +kernel
theorem dX5_isBadMemory_45 : decode cX5_isBadMemory 45 = .ok (.if_icmp .eq 17, 3) := by decide +kernel
theorem dX5_isBadMemory_48 : decode cX5_isBadMemory 48 = .ok (.iload_n 2, 1) := by decide +kernel
theorem dX5_isBadMemory_49 : decode cX5_isBadMemory 49 = .ok (.ifCond .eq 15, 3) := by decide +kernel
theorem dX5_isBadMemory_52 : decode cX5_isBadMemory 52 = .ok (.iload_n 1, 1) := by decide +kernel
theorem dX5_isBadMemory_53 : decode cX5_isBadMemory 53 = .ok (.iconst 4, 1) := by decide +kernel
theorem dX5_isBadMemory_54 : decode cX5_isBadMemory 54 = .ok (.if_icmp .eq 8, 3) := by decide +kernel
theorem dX5_isBadMemory_57 : decode cX5_isBadMemory 57 = .ok (.iload_n 1, 1) := by decide +kernel
theorem dX5_isBadMemory_58 : decode cX5_isBadMemory 58 = .ok (.iconst 5, 1) := by decide +kernel
theorem dX5_isBadMemory_59 : decode cX5_isBadMemory 59 = .ok (.if_icmp .ne 5, 3) := by decide +kernel
theorem dX5_isBadMemory_62 : decode cX5_isBadMemory 62 = .ok (.iconst 1, 1) := by decide +kernel
theorem dX5_isBadMemory_63 : decode cX5_isBadMemory 63 = .ok (.ireturn, 1) := by decide +kernel
theorem dX5_isBadMemory_64 : decode cX5_isBadMemory 64 = .ok (.iload_n 0, 1) := by decide +kernel
theorem dX5_isBadMemory_65 : decode cX5_isBadMemory 65 = .ok (.invokestatic 50, 3) := by decide +kernel
theorem dX5_isBadMemory_68 : decode cX5_isBadMemory 68 = .ok (.istore_n 3, 1) := by decide +kernel
theorem dX5_isBadMemory_69 : decode cX5_isBadMemory 69 = .ok (.iload_n 3, 1) := by decide +kernel
theorem dX5_isBadMemory_70 : decode cX5_isBadMemory 70 = .ok (.ifCond .le 25, 3) := by decide +kernel
theorem dX5_isBadMemory_73 : decode cX5_isBadMemory 73 = .ok (.iload_n 0, 1) := by decide +kernel
theorem dX5_isBadMemory_74 : decode cX5_isBadMemory 74 = .ok (.invokestatic 53, 3) := by decide +kernel
theorem dX5_isBadMemory_77 : decode cX5_isBadMemory 77 = .ok (.iload_n 3, 1) := by decide +kernel
theorem dX5_isBadMemory_78 : decode cX5_isBadMemory 78 = .ok (.if_icmp .eq 13, 3) := by decide +kernel
theorem dX5_isBadMemory_81 : decode cX5_isBadMemory 81 = .ok (.iload_n 0, 1) := by decide +kernel
theorem dX5_isBadMemory_82 : decode cX5_isBadMemory 82 = .ok (.invokestatic 53, 3) := by decide +kernel
theorem dX5_isBadMemory_85 : decode cX5_isBadMemory 85 = .ok (.iload_n 3, 1) := by decide +kernel
theorem dX5_isBadMemory_86 : decode cX5_isBadMemory 86 = .ok (.iconst 1, 1) := by decide +kernel
theorem dX5_isBadMemory_87 : decode cX5_isBadMemory 87 = .ok (.iadd, 1) := by decide +kernel
theorem dX5_isBadMemory_88 : decode cX5_isBadMemory 88 = .ok (.if_icmp .ne 7, 3) := by decide +kernel
theorem dX5_isBadMemory_91 : decode cX5_isBadMemory 91 = .ok (.iconst 1, 1) := by decide +kernel
theorem dX5_isBadMemory_92 : decode cX5_isBadMemory 92 = .ok (.goto 4, 3) := by decide +kernel
theorem dX5_isBadMemory_95 : decode cX5_isBadMemory 95 = .ok (.iconst 0, 1) := by decide +kernel
theorem dX5_isBadMemory_96 : decode cX5_isBadMemory 96 = .ok (.ireturn, 1) := by decide +kernel
theorem dX5_isBadOne_0 : decode cX5_isBadOne 0 = .ok (.iload_n 0, 1) := by decide +kernel
theorem dX5_isBadOne_1 : decode cX5_isBadOne 1 = .ok (.bipush 15, 2) := by decide +kernel
theorem dX5_isBadOne_3 : decode cX5_isBadOne 3 = .ok (.iand, 1) := by decide +kernel
theorem dX5_isBadOne_4 : decode cX5_isBadOne 4 = .ok (.istore_n 1, 1) := by decide +kernel
theorem dX5_isBadOne_5 : decode cX5_isBadOne 5 = .ok (.iload_n 1, 1) := by decide +kernel
theorem dX5_isBadOne_6 : decode cX5_isBadOne 6 = .ok (.iconst 4, 1) := by decide +kernel
theorem dX5_isBadOne_7 : decode cX5_isBadOne 7 = .ok (.if_icmp .eq 9, 3) := by decide +kernel
theorem dX5_isBadOne_10 : decode cX5_isBadOne 10 = .ok (.iload_n 1, 1) := by decide +kernel
theorem dX5_isBadOne_11 : decode cX5_isBadOne 11 = .ok (.bipush 11, 2) := by decide +kernel
theorem dX5_isBadOne_13 : decode cX5_isBadOne 13 = .ok (.if_icmp .ne 5, 3) := by decide +kernel
theorem dX5_isBadOne_16 : decode cX5_isBadOne 16 = .ok (.iconst 1, 1) := by decide +kernel
theorem dX5_isBadOne_17 : decode cX5_isBadOne 17 = .ok (.ireturn, 1) := by decide +kernel
theorem dX5_isBadOne_18 : decode cX5_isBadOne 18 = .ok (.iload_n 1, 1) := by decide +kernel
theorem dX5_isBadOne_19 : decode cX5_isBadOne 19 = .ok (.bipush 8, 2) := by decide +kernel
theorem dX5_isBadOne_21 : decode cX5_isBadOne 21 = .ok (.if_icmp .ne 35, 3) := by decide +kernel
theorem dX5_isBadOne_24 : decode cX5_isBadOne 24 = .ok (.iload_n 0, 1) := by decide +kernel
theorem dX5_isBadOne_25 : decode cX5_isBadOne 25 = .ok (.sipush 256, 3) := by decide +kernel
theorem dX5_isBadOne_28 : decode cX5_isBadOne 28 = .ok (.iand, 1) := by decide +kernel
theorem dX5_isBadOne_29 : decode cX5_isBadOne 29 = .ok (.ifCond .eq 25, 3) := by decide +kernel
theorem dX5_isBadOne_32 : decode cX5_isBadOne 32 = .ok (.iload_n 0, 1) := by decide +kernel
theorem dX5_isBadOne_33 : decode cX5_isBadOne 33 = .ok (.ldc 56, 2) := by decide +kernel
theorem dX5_isBadOne_35 : decode cX5_isBadOne 35 = .ok (.if_icmp .eq 19, 3) := by decide +kernel
theorem dX5_isBadOne_38 : decode cX5_isBadOne 38 = .ok (.iload_n 0, 1) := by decide +kernel
theorem dX5_isBadOne_39 : decode cX5_isBadOne 39 = .ok (.ldc 57, 2) := by decide +kernel
theorem dX5_isBadOne_41 : decode cX5_isBadOne 41 = .ok (.if_icmp .eq 13, 3) := by decide +kernel
theorem dX5_isBadOne_44 : decode cX5_isBadOne 44 = .ok (.iload_n 0, 1) := by decide +kernel
theorem dX5_isBadOne_45 : decode cX5_isBadOne 45 = .ok (.ldc 58, 2) := by decide +kernel
theorem dX5_isBadOne_47 : decode cX5_isBadOne 47 = .ok (.if_icmp .eq 7, 3) := by decide +kernel
theorem dX5_isBadOne_50 : decode cX5_isBadOne 50 = .ok (.iconst 1, 1) := by decide +kernel
theorem dX5_isBadOne_51 : decode cX5_isBadOne 51 = .ok (.goto 4, 3) := by decide +kernel
theorem dX5_isBadOne_54 : decode cX5_isBadOne 54 = .ok (.iconst 0, 1) := by decide +kernel
theorem dX5_isBadOne_55 : decode cX5_isBadOne 55 = .ok (.ireturn, 1) := by decide +kernel
theorem dX5_isBadOne_56 : decode cX5_isBadOne 56 = .ok (.iload_n 1, 1) := by decide +kernel
theorem dX5_isBadOne_57 : decode cX5_isBadOne 57 = .ok (.bipush 9, 2) := by decide +kernel
theorem dX5_isBadOne_59 : decode cX5_isBadOne 59 = .ok (.if_icmp .ne 19, 3) := by decide +kernel
theorem dX5_isBadOne_62 : decode cX5_isBadOne 62 = .ok (.iload_n 0, 1) := by decide +kernel
theorem dX5_isBadOne_63 : decode cX5_isBadOne 63 = .ok (.ldc 59, 2) := by decide +kernel
theorem dX5_isBadOne_65 : decode cX5_isBadOne 65 = .ok (.if_icmp .eq 13, 3) := by decide +kernel
theorem dX5_isBadOne_68 : decode cX5_isBadOne 68 = .ok (.iload_n 0, 1) := by decide +kernel
theorem dX5_isBadOne_69 : decode cX5_isBadOne 69 = .ok (.ldc 60, 2) := by decide +kernel
theorem dX5_isBadOne_71 : decode cX5_isBadOne 71 = .ok (.if_icmp .eq 7, 3) := by decide +kernel
theorem dX5_isBadOne_74 : decode cX5_isBadOne 74 = .ok (.iconst 1, 1) := by decide +kernel
theorem dX5_isBadOne_75 : decode cX5_isBadOne 75 = .ok (.goto 4, 3) := by decide +kernel
theorem dX5_isBadOne_78 : decode cX5_isBadOne 78 = .ok (.iconst 0, 1) := by decide +kernel
theorem dX5_isBadOne_79 : decode cX5_isBadOne 79 = .ok (.ireturn, 1) := by decide +kernel
set_option maxRecDepth 20000 in
theorem ggX5_isIllegal_X5_isMemory : GoodIn wsX5_isIllegal wsX5_isMemory := goodIn_r _ [5, 6, 7] (by decide +kernel) (by decide +kernel)
set_option maxRecDepth 20000 in
theorem gX5_isIllegal_X5_isMemory : GoodIn wsX5_isIllegal (va_wsS RX5 43 yX5_isMemory wsX5_isMemory) := goodIn_app (goodIn_of _ (by decide +kernel)) ggX5_isIllegal_X5_isMemory
set_option maxRecDepth 20000 in
theorem ggX5_isIllegal_X5_isBadMemory : GoodIn wsX5_isIllegal wsX5_isBadMemory := goodIn_r _ [10, 11, 12, 4, 13, 14, 15, 16] (by decide +kernel) (by decide +kernel)
set_option maxRecDepth 20000 in
theorem gX5_isIllegal_X5_isBadMemory : GoodIn wsX5_isIllegal (va_wsS RX5 61 yX5_isBadMemory wsX5_isBadMemory) := goodIn_app (goodIn_of _ (by decide +kernel)) ggX5_isIllegal_X5_isBadMemory
set_option maxRecDepth 20000 in
theorem ggX5_isIllegal_X5_isOne : GoodIn wsX5_isIllegal wsX5_isOne := goodIn_r _ [19, 20, 21] (by decide +kernel) (by decide +kernel)
set_option maxRecDepth 20000 in
theorem gX5_isIllegal_X5_isOne : GoodIn wsX5_isIllegal (va_wsS RX5 47 yX5_isOne wsX5_isOne) := goodIn_app (goodIn_of _ (by decide +kernel)) ggX5_isIllegal_X5_isOne
set_option maxRecDepth 20000 in
theorem ggX5_isIllegal_X5_isBadOne : GoodIn wsX5_isIllegal wsX5_isBadOne := goodIn_r _ [24, 25, 26, 27, 28, 29] (by decide +kernel) (by decide +kernel)
set_option maxRecDepth 20000 in
theorem gX5_isIllegal_X5_isBadOne : GoodIn wsX5_isIllegal (va_wsS RX5 64 yX5_isBadOne wsX5_isBadOne) := goodIn_app (goodIn_of _ (by decide +kernel)) ggX5_isIllegal_X5_isBadOne
theorem dX5_isIllegal_0 : decode cX5_isIllegal 0 = .ok (.iload_n 0, 1) := by decide +kernel
theorem dX5_isIllegal_1 : decode cX5_isIllegal 1 = .ok (.sipush 256, 3) := by decide +kernel
theorem dX5_isIllegal_4 : decode cX5_isIllegal 4 = .ok (.if_icmp .ge 13, 3) := by decide +kernel
theorem dX5_isIllegal_7 : decode cX5_isIllegal 7 = .ok (.iload_n 0, 1) := by decide +kernel
theorem dX5_isIllegal_8 : decode cX5_isIllegal 8 = .ok (.ifCond .eq 7, 3) := by decide +kernel
theorem dX5_isIllegal_11 : decode cX5_isIllegal 11 = .ok (.iconst 1, 1) := by decide +kernel
theorem dX5_isIllegal_12 : decode cX5_isIllegal 12 = .ok (.goto 4, 3) := by decide +kernel
theorem dX5_isIllegal_15 : decode cX5_isIllegal 15 = .ok (.iconst 0, 1) := by decide +kernel
theorem dX5_isIllegal_16 : decode cX5_isIllegal 16 = .ok (.ireturn, 1) := by decide +kernel
theorem dX5_isIllegal_17 : decode cX5_isIllegal 17 = .ok (.iload_n 0, 1) := by decide +kernel
theorem dX5_isIllegal_18 : decode cX5_isIllegal 18 = .ok (.invokestatic 43, 3) := by decide +kernel
theorem dX5_isIllegal_21 : decode cX5_isIllegal 21 = .ok (.ifCond .eq 8, 3) := by decide +kernel
theorem dX5_isIllegal_24 : decode cX5_isIllegal 24 = .ok (.iload_n 0, 1) := by decide +kernel
theorem dX5_isIllegal_25 : decode cX5_isIllegal 25 = .ok (.invokestatic 61, 3) := by decide +kernel
theorem dX5_isIllegal_28 : decode cX5_isIllegal 28 = .ok (.ireturn, 1) := by decide +kernel
theorem dX5_isIllegal_29 : decode cX5_isIllegal 29 = .ok (.iload_n 0, 1) := by decide +kernel
theorem dX5_isIllegal_30 : decode cX5_isIllegal 30 = .ok (.invokestatic 47, 3) := by decide +kernel
theorem dX5_isIllegal_33 : decode cX5_isIllegal 33 = .ok (.ifCond .eq 8, 3) := by decide +kernel
theorem dX5_isIllegal_36 : decode cX5_isIllegal 36 = .ok (.iload_n 0, 1) := by decide +kernel
theorem dX5_isIllegal_37 : decode cX5_isIllegal 37 = .ok (.invokestatic 64, 3) := by decide +kernel
theorem dX5_isIllegal_40 : decode cX5_isIllegal 40 = .ok (.ireturn, 1) := by decide +kernel
theorem dX5_isIllegal_41 : decode cX5_isIllegal 41 = .ok (.iload_n 0, 1) := by decide +kernel
theorem dX5_isIllegal_42 : decode cX5_isIllegal 42 = .ok (.ldc 67, 2) := by decide +kernel
theorem dX5_isIllegal_44 : decode cX5_isIllegal 44 = .ok (.iand, 1) := by decide +kernel
theorem dX5_isIllegal_45 : decode cX5_isIllegal 45 = .ok (.ldc 67, 2) := by decide +kernel
theorem dX5_isIllegal_47 : decode cX5_isIllegal 47 = .ok (.if_icmp .ne 7, 3) := by decide +kernel
theorem dX5_isIllegal_50 : decode cX5_isIllegal 50 = .ok (.iconst 1, 1) := by decide +kernel
theorem dX5_isIllegal_51 : decode cX5_isIllegal 51 = .ok (.goto 4, 3) := by decide +kernel
theorem dX5_isIllegal_54 : decode cX5_isIllegal 54 = .ok (.iconst 0, 1) := by decide +kernel
theorem dX5_isIllegal_55 : decode cX5_isIllegal 55 = .ok (.ireturn, 1) := by decide +kernel
set_option maxRecDepth 20000 in
theorem ggX5_reads_X5_in : GoodIn wsX5_reads wsX5_in := goodIn_r _ [5] (by decide +kernel) (by decide +kernel)
set_option maxRecDepth 20000 in
theorem gX5_reads_X5_in : GoodIn wsX5_reads (va_wsS RX5 23 yX5_in wsX5_in) := goodIn_app (goodIn_of _ (by decide +kernel)) ggX5_reads_X5_in
set_option maxRecDepth 20000 in
theorem ggX5_reads_X5_isIllegal : GoodIn wsX5_reads wsX5_isIllegal := goodIn_r _ [8, 9, 10, 11, 4, 12, 13, 14, 15, 16, 17, 18, 19, 20, 21, 22, 23, 24, 25, 26, 27, 28, 29, 30, 31, 32, 33, 34, 35, 36] (by decide +kernel) (by decide +kernel)
set_option maxRecDepth 20000 in
theorem gX5_reads_X5_isIllegal : GoodIn wsX5_reads (va_wsS RX5 68 yX5_isIllegal wsX5_isIllegal) := goodIn_app (goodIn_of _ (by decide +kernel)) ggX5_reads_X5_isIllegal
set_option maxRecDepth 20000 in
theorem ggX5_reads_X5_hasNext : GoodIn wsX5_reads wsX5_hasNext := goodIn_r _ [39, 10, 11, 4, 12, 13, 14, 24, 25, 26, 27, 28] (by decide +kernel) (by decide +kernel)
set_option maxRecDepth 20000 in
theorem gX5_reads_X5_hasNext : GoodIn wsX5_reads (va_wsS RX5 71 yX5_hasNext wsX5_hasNext) := goodIn_app (goodIn_of _ (by decide +kernel)) ggX5_reads_X5_hasNext
theorem dX5_reads_0 : decode cX5_reads 0 = .ok (.iload_n 1, 1) := by decide +kernel
theorem dX5_reads_1 : decode cX5_reads 1 = .ok (.iconst 0, 1) := by decide +kernel
theorem dX5_reads_2 : decode cX5_reads 2 = .ok (.ldc 27, 2) := by decide +kernel
theorem dX5_reads_4 : decode cX5_reads 4 = .ok (.invokestatic 23, 3) := by decide +kernel
theorem dX5_reads_7 : decode cX5_reads 7 = .ok (.ifCond .eq 12, 3) := by decide +kernel
theorem dX5_reads_10 : decode cX5_reads 10 = .ok (.iload_n 2, 1) := by decide +kernel
theorem dX5_reads_11 : decode cX5_reads 11 = .ok (.iconst 0, 1) := by decide +kernel
theorem dX5_reads_12 : decode cX5_reads 12 = .ok (.iconst 1, 1) := by decide +kernel
theorem dX5_reads_13 : decode cX5_reads 13 = .ok (.invokestatic 23, 3) := by decide +kernel
theorem dX5_reads_16 : decode cX5_reads 16 = .ok (.ifCond .ne 5, 3) := by decide +kernel
theorem dX5_reads_19 : decode cX5_reads 19 = .ok (.iconst (-1), 1) := by decide +kernel
theorem dX5_reads_20 : decode cX5_reads 20 = .ok (.ireturn, 1) := by decide +kernel
theorem dX5_reads_21 : decode cX5_reads 21 = .ok (.iload_n 2, 1) := by decide +kernel
theorem dX5_reads_22 : decode cX5_reads 22 = .ok (.ifCond .ne 13, 3) := by decide +kernel
theorem dX5_reads_25 : decode cX5_reads 25 = .ok (.iload_n 1, 1) := by decide +kernel
theorem dX5_reads_26 : decode cX5_reads 26 = .ok (.invokestatic 68, 3) := by decide +kernel
theorem dX5_reads_29 : decode cX5_reads 29 = .ok (.ifCond .eq 17, 3) := by decide +kernel
theorem dX5_reads_32 : decode cX5_reads 32 = .ok (.goto 10, 3) := by decide +kernel
theorem dX5_reads_35 : decode cX5_reads 35 = .ok (.iload_n 1, 1) := by decide +kernel
theorem dX5_reads_36 : decode cX5_reads 36 = .ok (.invokestatic 71, 3) := by decide +kernel
theorem dX5_reads_39 : decode cX5_reads 39 = .ok (.ifCond .eq 7, 3) := by decide +kernel
theorem dX5_reads_42 : decode cX5_reads 42 = .ok (.iconst 1, 1) := by decide +kernel
theorem dX5_reads_43 : decode cX5_reads 43 = .ok (.goto 4, 3) := by decide +kernel
theorem dX5_reads_46 : decode cX5_reads 46 = .ok (.iconst 0, 1) := by decide +kernel
theorem dX5_reads_47 : decode cX5_reads 47 = .ok (.ireturn, 1) := by decide +kernel
theorem dX5_has_0 : decode cX5_has 0 = .ok (.aload_n 0, 1) := by decide +kernel
theorem dX5_has_1 : decode cX5_has 1 = .ok (.getfield 13, 3) := by decide +kernel
theorem dX5_has_4 : decode cX5_has 4 = .ok (.bipush 95, 2) := by decide +kernel
theorem dX5_has_6 : decode cX5_has 6 = .ok (.iaload, 1) := by decide +kernel
theorem dX5_has_7 : decode cX5_has 7 = .ok (.iload_n 1, 1) := by decide +kernel
theorem dX5_has_8 : decode cX5_has 8 = .ok (.iand, 1) := by decide +kernel
theorem dX5_has_9 : decode cX5_has 9 = .ok (.ifCond .eq 7, 3) := by decide +kernel
theorem dX5_has_12 : decode cX5_has 12 = .ok (.iconst 1, 1) := by decide +kernel
theorem dX5_has_13 : decode cX5_has 13 = .ok (.goto 4, 3) := by decide +kernel
theorem dX5_has_16 : decode cX5_has 16 = .ok (.iconst 0, 1) := by decide +kernel
theorem dX5_has_17 : decode cX5_has 17 = .ok (.ireturn, 1) := by decide +kernel
theorem dX5_flag_0 : decode cX5_flag 0 = .ok (.aload_n 0, 1) := by decide +kernel
theorem dX5_flag_1 : decode cX5_flag 1 = .ok (.getfield 13, 3) := by decide +kernel
theorem dX5_flag_4 : decode cX5_flag 4 = .ok (.bipush 95, 2) := by decide +kernel
theorem dX5_flag_6 : decode cX5_flag 6 = .ok (.iload_n 2, 1) := by decide +kernel
theorem dX5_flag_7 : decode cX5_flag 7 = .ok (.ifCond .eq 15, 3) := by decide +kernel
theorem dX5_flag_10 : decode cX5_flag 10 = .ok (.aload_n 0, 1) := by decide +kernel
theorem dX5_flag_11 : decode cX5_flag 11 = .ok (.getfield 13, 3) := by decide +kernel
theorem dX5_flag_14 : decode cX5_flag 14 = .ok (.bipush 95, 2) := by decide +kernel
theorem dX5_flag_16 : decode cX5_flag 16 = .ok (.iaload, 1) := by decide +kernel
theorem dX5_flag_17 : decode cX5_flag 17 = .ok (.iload_n 1, 1) := by decide +kernel
theorem dX5_flag_18 : decode cX5_flag 18 = .ok (.ior, 1) := by decide +kernel
theorem dX5_flag_19 : decode cX5_flag 19 = .ok (.goto 14, 3) := by decide +kernel
theorem dX5_flag_22 : decode cX5_flag 22 = .ok (.aload_n 0, 1) := by decide +kernel
theorem dX5_flag_23 : decode cX5_flag 23 = .ok (.getfield 13, 3) := by decide +kernel
theorem dX5_flag_26 : decode cX5_flag 26 = .ok (.bipush 95, 2) := by decide +kernel
theorem dX5_flag_28 : decode cX5_flag 28 = .ok (.iaload, 1) := by decide +kernel
theorem dX5_flag_29 : decode cX5_flag 29 = .ok (.iload_n 1, 1) := by decide +kernel
theorem dX5_flag_30 : decode cX5_flag 30 = .ok (.iconst (-1), 1) := by decide +kernel
theorem dX5_flag_31 : decode cX5_flag 31 = .ok (.ixor, 1) := by decide +kernel
theorem dX5_flag_32 : decode cX5_flag 32 = .ok (.iand, 1) := by decide +kernel
theorem dX5_flag_33 : decode cX5_flag 33 = .ok (.iastore, 1) := by decide +kernel
theorem dX5_flag_34 : decode cX5_flag 34 = .ok (.return_, 1) := by decide +kernel
set_option maxRecDepth 20000 in
theorem ggX5_signs_X5_flag : GoodIn wsX5_signs wsX5_flag := goodIn_r _ [5, 6, 7, 8, 9, 10, 11, 12, 13, 14] (by decide +kernel) (by decide +kernel)
set_option maxRecDepth 20000 in
theorem gX5_signs_X5_flag : GoodIn wsX5_signs (wsV RX5 74 RX5 yX5_flag wsX5_flag) := goodIn_app (goodIn_of _ (by decide +kernel)) ggX5_signs_X5_flag
theorem dX5_signs_0 : decode cX5_signs 0 = .ok (.aload_n 0, 1) := by decide +kernel
theorem dX5_signs_1 : decode cX5_signs 1 = .ok (.iconst 2, 1) := by decide +kernel
theorem dX5_signs_2 : decode cX5_signs 2 = .ok (.iload_n 1, 1) := by decide +kernel
theorem dX5_signs_3 : decode cX5_signs 3 = .ok (.ifCond .ne 7, 3) := by decide +kernel
theorem dX5_signs_6 : decode cX5_signs 6 = .ok (.iconst 1, 1) := by decide +kernel
theorem dX5_signs_7 : decode cX5_signs 7 = .ok (.goto 4, 3) := by decide +kernel
theorem dX5_signs_10 : decode cX5_signs 10 = .ok (.iconst 0, 1) := by decide +kernel
theorem dX5_signs_11 : decode cX5_signs 11 = .ok (.invokevirtual 74, 3) := by decide +kernel
theorem dX5_signs_14 : decode cX5_signs 14 = .ok (.aload_n 0, 1) := by decide +kernel
theorem dX5_signs_15 : decode cX5_signs 15 = .ok (.iconst 4, 1) := by decide +kernel
theorem dX5_signs_16 : decode cX5_signs 16 = .ok (.iload_n 1, 1) := by decide +kernel
theorem dX5_signs_17 : decode cX5_signs 17 = .ok (.bipush 127, 2) := by decide +kernel
theorem dX5_signs_19 : decode cX5_signs 19 = .ok (.if_icmp .le 7, 3) := by decide +kernel
theorem dX5_signs_22 : decode cX5_signs 22 = .ok (.iconst 1, 1) := by decide +kernel
theorem dX5_signs_23 : decode cX5_signs 23 = .ok (.goto 4, 3) := by decide +kernel
theorem dX5_signs_26 : decode cX5_signs 26 = .ok (.iconst 0, 1) := by decide +kernel
theorem dX5_signs_27 : decode cX5_signs 27 = .ok (.invokevirtual 74, 3) := by decide +kernel
theorem dX5_signs_30 : decode cX5_signs 30 = .ok (.aload_n 0, 1) := by decide +kernel
theorem dX5_signs_31 : decode cX5_signs 31 = .ok (.bipush 8, 2) := by decide +kernel
theorem dX5_signs_33 : decode cX5_signs 33 = .ok (.iload_n 2, 1) := by decide +kernel
theorem dX5_signs_34 : decode cX5_signs 34 = .ok (.invokevirtual 74, 3) := by decide +kernel
theorem dX5_signs_37 : decode cX5_signs 37 = .ok (.aload_n 0, 1) := by decide +kernel
theorem dX5_signs_38 : decode cX5_signs 38 = .ok (.bipush 16, 2) := by decide +kernel
theorem dX5_signs_40 : decode cX5_signs 40 = .ok (.iload_n 1, 1) := by decide +kernel
theorem dX5_signs_41 : decode cX5_signs 41 = .ok (.bipush 127, 2) := by decide +kernel
theorem dX5_signs_43 : decode cX5_signs 43 = .ok (.if_icmp .le 7, 3) := by decide +kernel
theorem dX5_signs_46 : decode cX5_signs 46 = .ok (.iconst 1, 1) := by decide +kernel
theorem dX5_signs_47 : decode cX5_signs 47 = .ok (.goto 4, 3) := by decide +kernel
theorem dX5_signs_50 : decode cX5_signs 50 = .ok (.iconst 0, 1) := by decide +kernel
theorem dX5_signs_51 : decode cX5_signs 51 = .ok (.iload_n 2, 1) := by decide +kernel
theorem dX5_signs_52 : decode cX5_signs 52 = .ok (.if_icmp .eq 7, 3) := by decide +kernel
theorem dX5_signs_55 : decode cX5_signs 55 = .ok (.iconst 1, 1) := by decide +kernel
theorem dX5_signs_56 : decode cX5_signs 56 = .ok (.goto 4, 3) := by decide +kernel
theorem dX5_signs_59 : decode cX5_signs 59 = .ok (.iconst 0, 1) := by decide +kernel
theorem dX5_signs_60 : decode cX5_signs 60 = .ok (.invokevirtual 74, 3) := by decide +kernel
theorem dX5_signs_63 : decode cX5_signs 63 = .ok (.return_, 1) := by decide +kernel
set_option maxRecDepth 20000 in
theorem ggX5_add_X5_flag : GoodIn wsX5_add wsX5_flag := goodIn_r _ [5, 6, 11, 12, 13, 14, 15, 16, 17, 18] (by decide +kernel) (by decide +kernel)
set_option maxRecDepth 20000 in
theorem gX5_add_X5_flag : GoodIn wsX5_add (wsV RX5 74 RX5 yX5_flag wsX5_flag) := goodIn_app (goodIn_of _ (by decide +kernel)) ggX5_add_X5_flag
set_option maxRecDepth 20000 in
theorem ggX5_add_X5_signs : GoodIn wsX5_add wsX5_signs := goodIn_r _ [10, 1, 2, 3, 4, 5, 6, 11, 12, 13, 14, 15, 16, 17, 18] (by decide +kernel) (by decide +kernel)
set_option maxRecDepth 20000 in
theorem gX5_add_X5_signs : GoodIn wsX5_add (wsV RX5 78 RX5 yX5_signs wsX5_signs) := goodIn_app (goodIn_of _ (by decide +kernel)) ggX5_add_X5_signs
theorem dX5_add_0 : decode cX5_add 0 = .ok (.iload_n 1, 1) := by decide +kernel
theorem dX5_add_1 : decode cX5_add 1 = .ok (.iload_n 2, 1) := by decide +kernel
theorem dX5_add_2 : decode cX5_add 2 = .ok (.iadd, 1) := by decide +kernel
theorem dX5_add_3 : decode cX5_add 3 = .ok (.iload_n 3, 1) := by decide +kernel
theorem dX5_add_4 : decode cX5_add 4 = .ok (.iadd, 1) := by decide +kernel
theorem dX5_add_5 : decode cX5_add 5 = .ok (.sipush 255, 3) := by decide +kernel
theorem dX5_add_8 : decode cX5_add 8 = .ok (.iand, 1) := by decide +kernel
theorem dX5_add_9 : decode cX5_add 9 = .ok (.istore 4, 2) := by decide +kernel
theorem dX5_add_11 : decode cX5_add 11 = .ok (.aload_n 0, 1) := by decide +kernel
theorem dX5_add_12 : decode cX5_add 12 = .ok (.iconst 1, 1) := by decide +kernel
theorem dX5_add_13 : decode cX5_add 13 = .ok (.iload_n 1, 1) := by decide +kernel
theorem dX5_add_14 : decode cX5_add 14 = .ok (.iload_n 2, 1) := by decide +kernel
theorem dX5_add_15 : decode cX5_add 15 = .ok (.iadd, 1) := by decide +kernel
theorem dX5_add_16 : decode cX5_add 16 = .ok (.iload_n 3, 1) := by decide +kernel
theorem dX5_add_17 : decode cX5_add 17 = .ok (.iadd, 1) := by decide +kernel
theorem dX5_add_18 : decode cX5_add 18 = .ok (.sipush 255, 3) := by decide +kernel
theorem dX5_add_21 : decode cX5_add 21 = .ok (.if_icmp .le 7, 3) := by decide +kernel
theorem dX5_add_24 : decode cX5_add 24 = .ok (.iconst 1, 1) := by decide +kernel
theorem dX5_add_25 : decode cX5_add 25 = .ok (.goto 4, 3) := by decide +kernel
theorem dX5_add_28 : decode cX5_add 28 = .ok (.iconst 0, 1) := by decide +kernel
theorem dX5_add_29 : decode cX5_add 29 = .ok (.invokevirtual 74, 3) := by decide +kernel
theorem dX5_add_32 : decode cX5_add 32 = .ok (.aload_n 0, 1) := by decide +kernel
theorem dX5_add_33 : decode cX5_add 33 = .ok (.bipush 32, 2) := by decide +kernel
theorem dX5_add_35 : decode cX5_add 35 = .ok (.iload_n 1, 1) := by decide +kernel
theorem dX5_add_36 : decode cX5_add 36 = .ok (.bipush 15, 2) := by decide +kernel
theorem dX5_add_38 : decode cX5_add 38 = .ok (.iand, 1) := by decide +kernel
theorem dX5_add_39 : decode cX5_add 39 = .ok (.iload_n 2, 1) := by decide +kernel
theorem dX5_add_40 : decode cX5_add 40 = .ok (.bipush 15, 2) := by decide +kernel
theorem dX5_add_42 : decode cX5_add 42 = .ok (.iand, 1) := by decide +kernel
theorem dX5_add_43 : decode cX5_add 43 = .ok (.iadd, 1) := by decide +kernel
theorem dX5_add_44 : decode cX5_add 44 = .ok (.iload_n 3, 1) := by decide +kernel
theorem dX5_add_45 : decode cX5_add 45 = .ok (.iadd, 1) := by decide +kernel
theorem dX5_add_46 : decode cX5_add 46 = .ok (.bipush 15, 2) := by decide +kernel
theorem dX5_add_48 : decode cX5_add 48 = .ok (.if_icmp .le 7, 3) := by decide +kernel
theorem dX5_add_51 : decode cX5_add 51 = .ok (.iconst 1, 1) := by decide +kernel
theorem dX5_add_52 : decode cX5_add 52 = .ok (.goto 4, 3) := by decide +kernel
theorem dX5_add_55 : decode cX5_add 55 = .ok (.iconst 0, 1) := by decide +kernel
theorem dX5_add_56 : decode cX5_add 56 = .ok (.invokevirtual 74, 3) := by decide +kernel
theorem dX5_add_59 : decode cX5_add 59 = .ok (.aload_n 0, 1) := by decide +kernel
theorem dX5_add_60 : decode cX5_add 60 = .ok (.iload 4, 2) := by decide +kernel
theorem dX5_add_62 : decode cX5_add 62 = .ok (.iload_n 1, 1) := by decide +kernel
theorem dX5_add_63 : decode cX5_add 63 = .ok (.bipush 127, 2) := by decide +kernel
theorem dX5_add_65 : decode cX5_add 65 = .ok (.if_icmp .le 7, 3) := by decide +kernel
theorem dX5_add_68 : decode cX5_add 68 = .ok (.iconst 1, 1) := by decide +kernel
theorem dX5_add_69 : decode cX5_add 69 = .ok (.goto 4, 3) := by decide +kernel
theorem dX5_add_72 : decode cX5_add 72 = .ok (.iconst 0, 1) := by decide +kernel
theorem dX5_add_73 : decode cX5_add 73 = .ok (.iload_n 2, 1) := by decide +kernel
theorem dX5_add_74 : decode cX5_add 74 = .ok (.bipush 127, 2) := by decide +kernel
theorem dX5_add_76 : decode cX5_add 76 = .ok (.if_icmp .le 7, 3) := by decide +kernel
theorem dX5_add_79 : decode cX5_add 79 = .ok (.iconst 1, 1) := by decide +kernel
theorem dX5_add_80 : decode cX5_add 80 = .ok (.goto 4, 3) := by decide +kernel
theorem dX5_add_83 : decode cX5_add 83 = .ok (.iconst 0, 1) := by decide +kernel
theorem dX5_add_84 : decode cX5_add 84 = .ok (.if_icmp .ne 33, 3) := by decide +kernel
theorem dX5_add_87 : decode cX5_add 87 = .ok (.iload 4, 2) := by decide +kernel
theorem dX5_add_89 : decode cX5_add 89 = .ok (.bipush 127, 2) := by decide +kernel
theorem dX5_add_91 : decode cX5_add 91 = .ok (.if_icmp .le 7, 3) := by decide +kernel
theorem dX5_add_94 : decode cX5_add 94 = .ok (.iconst 1, 1) := by decide +kernel
theorem dX5_add_95 : decode cX5_add 95 = .ok (.goto 4, 3) := by decide +kernel
theorem dX5_add_98 : decode cX5_add 98 = .ok (.iconst 0, 1) := by decide +kernel
theorem dX5_add_99 : decode cX5_add 99 = .ok (.iload_n 1, 1) := by decide +kernel
theorem dX5_add_100 : decode cX5_add 100 = .ok (.bipush 127, 2) := by decide +kernel
theorem dX5_add_102 : decode cX5_add 102 = .ok (.if_icmp .le 7, 3) := by decide +kernel
theorem dX5_add_105 : decode cX5_add 105 = .ok (.iconst 1, 1) := by decide +kernel
theorem dX5_add_106 : decode cX5_add 106 = .ok (.goto 4, 3) := by decide +kernel
theorem dX5_add_109 : decode cX5_add 109 = .ok (.iconst 0, 1) := by decide +kernel
theorem dX5_add_110 : decode cX5_add 110 = .ok (.if_icmp .eq 7, 3) := by decide +kernel
theorem dX5_add_113 : decode cX5_add 113 = .ok (.iconst 1, 1) := by decide +kernel
theorem dX5_add_114 : decode cX5_add 114 = .ok (.goto 4, 3) := by decide +kernel
theorem dX5_add_117 : decode cX5_add 117 = .ok (.iconst 0, 1) := by decide +kernel
theorem dX5_add_118 : decode cX5_add 118 = .ok (.invokevirtual 78, 3) := by decide +kernel
theorem dX5_add_121 : decode cX5_add 121 = .ok (.iload 4, 2) := by decide +kernel
theorem dX5_add_123 : decode cX5_add 123 = .ok (.ireturn, 1) := by decide +kernel
set_option maxRecDepth 20000 in
theorem ggX5_subtract_X5_has : GoodIn wsX5_subtract wsX5_has := goodIn_r _ [5, 6, 15, 16, 17, 18, 19, 20, 21, 22] (by decide +kernel) (by decide +kernel)
set_option maxRecDepth 20000 in
theorem gX5_subtract_X5_has : GoodIn wsX5_subtract (wsV RX5 81 RX5 yX5_has wsX5_has) := goodIn_app (goodIn_of _ (by decide +kernel)) ggX5_subtract_X5_has
set_option maxRecDepth 20000 in
theorem ggX5_subtract_X5_flag : GoodIn wsX5_subtract wsX5_flag := goodIn_r _ [10, 6, 15, 16, 17, 18, 19, 20, 21, 22] (by decide +kernel) (by decide +kernel)
set_option maxRecDepth 20000 in
theorem gX5_subtract_X5_flag : GoodIn wsX5_subtract (wsV RX5 74 RX5 yX5_flag wsX5_flag) := goodIn_app (goodIn_of _ (by decide +kernel)) ggX5_subtract_X5_flag
set_option maxRecDepth 20000 in
theorem ggX5_subtract_X5_signs : GoodIn wsX5_subtract wsX5_signs := goodIn_r _ [14, 7, 8, 9, 4, 10, 6, 15, 16, 17, 18, 19, 20, 21, 22] (by decide +kernel) (by decide +kernel)
set_option maxRecDepth 20000 in
theorem gX5_subtract_X5_signs : GoodIn wsX5_subtract (wsV RX5 78 RX5 yX5_signs wsX5_signs) := goodIn_app (goodIn_of _ (by decide +kernel)) ggX5_subtract_X5_signs
theorem dX5_subtract_0 : decode cX5_subtract 0 = .ok (.aload_n 0, 1) := by decide +kernel
theorem dX5_subtract_1 : decode cX5_subtract 1 = .ok (.iconst 2, 1) := by decide +kernel
theorem dX5_subtract_2 : decode cX5_subtract 2 = .ok (.invokevirtual 81, 3) := by decide +kernel
theorem dX5_subtract_5 : decode cX5_subtract 5 = .ok (.istore 5, 2) := by decide +kernel
theorem dX5_subtract_7 : decode cX5_subtract 7 = .ok (.iload_n 1, 1) := by decide +kernel
theorem dX5_subtract_8 : decode cX5_subtract 8 = .ok (.iload_n 2, 1) := by decide +kernel
theorem dX5_subtract_9 : decode cX5_subtract 9 = .ok (.isub, 1) := by decide +kernel
theorem dX5_subtract_10 : decode cX5_subtract 10 = .ok (.iload_n 3, 1) := by decide +kernel
theorem dX5_subtract_11 : decode cX5_subtract 11 = .ok (.isub, 1) := by decide +kernel
theorem dX5_subtract_12 : decode cX5_subtract 12 = .ok (.sipush 255, 3) := by decide +kernel
theorem dX5_subtract_15 : decode cX5_subtract 15 = .ok (.iand, 1) := by decide +kernel
theorem dX5_subtract_16 : decode cX5_subtract 16 = .ok (.istore 6, 2) := by decide +kernel
theorem dX5_subtract_18 : decode cX5_subtract 18 = .ok (.aload_n 0, 1) := by decide +kernel
theorem dX5_subtract_19 : decode cX5_subtract 19 = .ok (.iconst 1, 1) := by decide +kernel
theorem dX5_subtract_20 : decode cX5_subtract 20 = .ok (.iload_n 1, 1) := by decide +kernel
theorem dX5_subtract_21 : decode cX5_subtract 21 = .ok (.iload_n 2, 1) := by decide +kernel
theorem dX5_subtract_22 : decode cX5_subtract 22 = .ok (.isub, 1) := by decide +kernel
theorem dX5_subtract_23 : decode cX5_subtract 23 = .ok (.iload_n 3, 1) := by decide +kernel
theorem dX5_subtract_24 : decode cX5_subtract 24 = .ok (.isub, 1) := by decide +kernel
theorem dX5_subtract_25 : decode cX5_subtract 25 = .ok (.ifCond .ge 7, 3) := by decide +kernel
theorem dX5_subtract_28 : decode cX5_subtract 28 = .ok (.iconst 1, 1) := by decide +kernel
theorem dX5_subtract_29 : decode cX5_subtract 29 = .ok (.goto 4, 3) := by decide +kernel
theorem dX5_subtract_32 : decode cX5_subtract 32 = .ok (.iconst 0, 1) := by decide +kernel
theorem dX5_subtract_33 : decode cX5_subtract 33 = .ok (.invokevirtual 74, 3) := by decide +kernel
theorem dX5_subtract_36 : decode cX5_subtract 36 = .ok (.aload_n 0, 1) := by decide +kernel
theorem dX5_subtract_37 : decode cX5_subtract 37 = .ok (.bipush 32, 2) := by decide +kernel
theorem dX5_subtract_39 : decode cX5_subtract 39 = .ok (.iload_n 1, 1) := by decide +kernel
theorem dX5_subtract_40 : decode cX5_subtract 40 = .ok (.bipush 15, 2) := by decide +kernel
theorem dX5_subtract_42 : decode cX5_subtract 42 = .ok (.iand, 1) := by decide +kernel
theorem dX5_subtract_43 : decode cX5_subtract 43 = .ok (.iload_n 2, 1) := by decide +kernel
theorem dX5_subtract_44 : decode cX5_subtract 44 = .ok (.bipush 15, 2) := by decide +kernel
theorem dX5_subtract_46 : decode cX5_subtract 46 = .ok (.iand, 1) := by decide +kernel
theorem dX5_subtract_47 : decode cX5_subtract 47 = .ok (.isub, 1) := by decide +kernel
theorem dX5_subtract_48 : decode cX5_subtract 48 = .ok (.iload_n 3, 1) := by decide +kernel
theorem dX5_subtract_49 : decode cX5_subtract 49 = .ok (.isub, 1) := by decide +kernel
theorem dX5_subtract_50 : decode cX5_subtract 50 = .ok (.ifCond .ge 7, 3) := by decide +kernel
theorem dX5_subtract_53 : decode cX5_subtract 53 = .ok (.iconst 1, 1) := by decide +kernel
theorem dX5_subtract_54 : decode cX5_subtract 54 = .ok (.goto 4, 3) := by decide +kernel
theorem dX5_subtract_57 : decode cX5_subtract 57 = .ok (.iconst 0, 1) := by decide +kernel
theorem dX5_subtract_58 : decode cX5_subtract 58 = .ok (.invokevirtual 74, 3) := by decide +kernel
theorem dX5_subtract_61 : decode cX5_subtract 61 = .ok (.aload_n 0, 1) := by decide +kernel
theorem dX5_subtract_62 : decode cX5_subtract 62 = .ok (.iload 6, 2) := by decide +kernel
theorem dX5_subtract_64 : decode cX5_subtract 64 = .ok (.iload_n 1, 1) := by decide +kernel
theorem dX5_subtract_65 : decode cX5_subtract 65 = .ok (.bipush 127, 2) := by decide +kernel
theorem dX5_subtract_67 : decode cX5_subtract 67 = .ok (.if_icmp .le 7, 3) := by decide +kernel
theorem dX5_subtract_70 : decode cX5_subtract 70 = .ok (.iconst 1, 1) := by decide +kernel
theorem dX5_subtract_71 : decode cX5_subtract 71 = .ok (.goto 4, 3) := by decide +kernel
theorem dX5_subtract_74 : decode cX5_subtract 74 = .ok (.iconst 0, 1) := by decide +kernel
theorem dX5_subtract_75 : decode cX5_subtract 75 = .ok (.iload_n 2, 1) := by decide +kernel
theorem dX5_subtract_76 : decode cX5_subtract 76 = .ok (.bipush 127, 2) := by decide +kernel
theorem dX5_subtract_78 : decode cX5_subtract 78 = .ok (.if_icmp .le 7, 3) := by decide +kernel
theorem dX5_subtract_81 : decode cX5_subtract 81 = .ok (.iconst 1, 1) := by decide +kernel
theorem dX5_subtract_82 : decode cX5_subtract 82 = .ok (.goto 4, 3) := by decide +kernel
theorem dX5_subtract_85 : decode cX5_subtract 85 = .ok (.iconst 0, 1) := by decide +kernel
theorem dX5_subtract_86 : decode cX5_subtract 86 = .ok (.if_icmp .eq 33, 3) := by decide +kernel
theorem dX5_subtract_89 : decode cX5_subtract 89 = .ok (.iload 6, 2) := by decide +kernel
theorem dX5_subtract_91 : decode cX5_subtract 91 = .ok (.bipush 127, 2) := by decide +kernel
theorem dX5_subtract_93 : decode cX5_subtract 93 = .ok (.if_icmp .le 7, 3) := by decide +kernel
theorem dX5_subtract_96 : decode cX5_subtract 96 = .ok (.iconst 1, 1) := by decide +kernel
theorem dX5_subtract_97 : decode cX5_subtract 97 = .ok (.goto 4, 3) := by decide +kernel
theorem dX5_subtract_100 : decode cX5_subtract 100 = .ok (.iconst 0, 1) := by decide +kernel
theorem dX5_subtract_101 : decode cX5_subtract 101 = .ok (.iload_n 2, 1) := by decide +kernel
theorem dX5_subtract_102 : decode cX5_subtract 102 = .ok (.bipush 127, 2) := by decide +kernel
theorem dX5_subtract_104 : decode cX5_subtract 104 = .ok (.if_icmp .le 7, 3) := by decide +kernel
theorem dX5_subtract_107 : decode cX5_subtract 107 = .ok (.iconst 1, 1) := by decide +kernel
theorem dX5_subtract_108 : decode cX5_subtract 108 = .ok (.goto 4, 3) := by decide +kernel
theorem dX5_subtract_111 : decode cX5_subtract 111 = .ok (.iconst 0, 1) := by decide +kernel
theorem dX5_subtract_112 : decode cX5_subtract 112 = .ok (.if_icmp .ne 7, 3) := by decide +kernel
theorem dX5_subtract_115 : decode cX5_subtract 115 = .ok (.iconst 1, 1) := by decide +kernel
theorem dX5_subtract_116 : decode cX5_subtract 116 = .ok (.goto 4, 3) := by decide +kernel
theorem dX5_subtract_119 : decode cX5_subtract 119 = .ok (.iconst 0, 1) := by decide +kernel
theorem dX5_subtract_120 : decode cX5_subtract 120 = .ok (.invokevirtual 78, 3) := by decide +kernel
theorem dX5_subtract_123 : decode cX5_subtract 123 = .ok (.iload 4, 2) := by decide +kernel
theorem dX5_subtract_125 : decode cX5_subtract 125 = .ok (.ifCond .eq 23, 3) := by decide +kernel
theorem dX5_subtract_128 : decode cX5_subtract 128 = .ok (.aload_n 0, 1) := by decide +kernel
theorem dX5_subtract_129 : decode cX5_subtract 129 = .ok (.iconst 2, 1) := by decide +kernel
theorem dX5_subtract_130 : decode cX5_subtract 130 = .ok (.iload 6, 2) := by decide +kernel
theorem dX5_subtract_132 : decode cX5_subtract 132 = .ok (.ifCond .ne 12, 3) := by decide +kernel
theorem dX5_subtract_135 : decode cX5_subtract 135 = .ok (.iload 5, 2) := by decide +kernel
theorem dX5_subtract_137 : decode cX5_subtract 137 = .ok (.ifCond .eq 7, 3) := by decide +kernel
theorem dX5_subtract_140 : decode cX5_subtract 140 = .ok (.iconst 1, 1) := by decide +kernel
theorem dX5_subtract_141 : decode cX5_subtract 141 = .ok (.goto 4, 3) := by decide +kernel
theorem dX5_subtract_144 : decode cX5_subtract 144 = .ok (.iconst 0, 1) := by decide +kernel
theorem dX5_subtract_145 : decode cX5_subtract 145 = .ok (.invokevirtual 74, 3) := by decide +kernel
theorem dX5_subtract_148 : decode cX5_subtract 148 = .ok (.iload 6, 2) := by decide +kernel
theorem dX5_subtract_150 : decode cX5_subtract 150 = .ok (.ireturn, 1) := by decide +kernel
set_option maxRecDepth 20000 in
theorem ggX5_logic_X5_signs : GoodIn wsX5_logic wsX5_signs := goodIn_r _ [5, 6, 7, 8, 4, 9, 10, 11, 12, 13, 14, 15, 16, 17, 18] (by decide +kernel) (by decide +kernel)
set_option maxRecDepth 20000 in
theorem gX5_logic_X5_signs : GoodIn wsX5_logic (wsV RX5 78 RX5 yX5_signs wsX5_signs) := goodIn_app (goodIn_of _ (by decide +kernel)) ggX5_logic_X5_signs
theorem dX5_logic_0 : decode cX5_logic 0 = .ok (.aload_n 0, 1) := by decide +kernel
theorem dX5_logic_1 : decode cX5_logic 1 = .ok (.iload_n 1, 1) := by decide +kernel
theorem dX5_logic_2 : decode cX5_logic 2 = .ok (.iconst 0, 1) := by decide +kernel
theorem dX5_logic_3 : decode cX5_logic 3 = .ok (.invokevirtual 78, 3) := by decide +kernel
theorem dX5_logic_6 : decode cX5_logic 6 = .ok (.iload_n 1, 1) := by decide +kernel
theorem dX5_logic_7 : decode cX5_logic 7 = .ok (.ireturn, 1) := by decide +kernel
set_option maxRecDepth 20000 in
theorem ggX5_carry_X5_has : GoodIn wsX5_carry wsX5_has := goodIn_r _ [5, 6, 7, 8, 9, 10, 11, 12, 13, 14] (by decide +kernel) (by decide +kernel)
set_option maxRecDepth 20000 in
theorem gX5_carry_X5_has : GoodIn wsX5_carry (wsV RX5 81 RX5 yX5_has wsX5_has) := goodIn_app (goodIn_of _ (by decide +kernel)) ggX5_carry_X5_has
theorem dX5_carry_0 : decode cX5_carry 0 = .ok (.aload_n 0, 1) := by decide +kernel
theorem dX5_carry_1 : decode cX5_carry 1 = .ok (.iconst 1, 1) := by decide +kernel
theorem dX5_carry_2 : decode cX5_carry 2 = .ok (.invokevirtual 81, 3) := by decide +kernel
theorem dX5_carry_5 : decode cX5_carry 5 = .ok (.ifCond .eq 7, 3) := by decide +kernel
theorem dX5_carry_8 : decode cX5_carry 8 = .ok (.iconst 1, 1) := by decide +kernel
theorem dX5_carry_9 : decode cX5_carry 9 = .ok (.goto 4, 3) := by decide +kernel
theorem dX5_carry_12 : decode cX5_carry 12 = .ok (.iconst 0, 1) := by decide +kernel
theorem dX5_carry_13 : decode cX5_carry 13 = .ok (.ireturn, 1) := by decide +kernel
set_option maxRecDepth 20000 in
theorem ggX5_skips_X5_hasNext : GoodIn wsX5_skips wsX5_hasNext := goodIn_r _ [7, 8, 9, 6, 10, 11, 12, 13, 14, 15, 16, 17] (by decide +kernel) (by decide +kernel)
set_option maxRecDepth 20000 in
theorem gX5_skips_X5_hasNext : GoodIn wsX5_skips (va_wsS RX5 71 yX5_hasNext wsX5_hasNext) := goodIn_app (goodIn_of _ (by decide +kernel)) ggX5_skips_X5_hasNext
theorem dX5_skips_0 : decode cX5_skips 0 = .ok (.iload_n 1, 1) := by decide +kernel
theorem dX5_skips_1 : decode cX5_skips 1 = .ok (.ifCond .eq 56, 3) := by decide +kernel
theorem dX5_skips_4 : decode cX5_skips 4 = .ok (.aload_n 0, 1) := by decide +kernel
theorem dX5_skips_5 : decode cX5_skips 5 = .ok (.getfield 7, 3) := by decide +kernel
theorem dX5_skips_8 : decode cX5_skips 8 = .ok (.aload_n 0, 1) := by decide +kernel
theorem dX5_skips_9 : decode cX5_skips 9 = .ok (.getfield 84, 3) := by decide +kernel
theorem dX5_skips_12 : decode cX5_skips 12 = .ok (.iaload, 1) := by decide +kernel
theorem dX5_skips_13 : decode cX5_skips 13 = .ok (.invokestatic 71, 3) := by decide +kernel
theorem dX5_skips_16 : decode cX5_skips 16 = .ok (.istore_n 2, 1) := by decide +kernel
theorem dX5_skips_17 : decode cX5_skips 17 = .ok (.aload_n 0, 1) := by decide +kernel
theorem dX5_skips_18 : decode cX5_skips 18 = .ok (.aload_n 0, 1) := by decide +kernel
theorem dX5_skips_19 : decode cX5_skips 19 = .ok (.getfield 84, 3) := by decide +kernel
theorem dX5_skips_22 : decode cX5_skips 22 = .ok (.iload_n 2, 1) := by decide +kernel
theorem dX5_skips_23 : decode cX5_skips 23 = .ok (.ifCond .eq 7, 3) := by decide +kernel
theorem dX5_skips_26 : decode cX5_skips 26 = .ok (.iconst 2, 1) := by decide +kernel
theorem dX5_skips_27 : decode cX5_skips 27 = .ok (.goto 4, 3) := by decide +kernel
theorem dX5_skips_30 : decode cX5_skips 30 = .ok (.iconst 1, 1) := by decide +kernel
theorem dX5_skips_31 : decode cX5_skips 31 = .ok (.iadd, 1) := by decide +kernel
theorem dX5_skips_32 : decode cX5_skips 32 = .ok (.sipush 1023, 3) := by decide +kernel
theorem dX5_skips_35 : decode cX5_skips 35 = .ok (.iand, 1) := by decide +kernel
theorem dX5_skips_36 : decode cX5_skips 36 = .ok (.putfield 84, 3) := by decide +kernel
theorem dX5_skips_39 : decode cX5_skips 39 = .ok (.aload_n 0, 1) := by decide +kernel
theorem dX5_skips_40 : decode cX5_skips 40 = .ok (.getfield 16, 3) := by decide +kernel
theorem dX5_skips_43 : decode cX5_skips 43 = .ok (.iload_n 2, 1) := by decide +kernel
theorem dX5_skips_44 : decode cX5_skips 44 = .ok (.ifCond .eq 7, 3) := by decide +kernel
theorem dX5_skips_47 : decode cX5_skips 47 = .ok (.iconst 5, 1) := by decide +kernel
theorem dX5_skips_48 : decode cX5_skips 48 = .ok (.goto 4, 3) := by decide +kernel
theorem dX5_skips_51 : decode cX5_skips 51 = .ok (.iconst 4, 1) := by decide +kernel
theorem dX5_skips_52 : decode cX5_skips 52 = .ok (.dup2, 1) := by decide +kernel
theorem dX5_skips_53 : decode cX5_skips 53 = .ok (.iaload, 1) := by decide +kernel
theorem dX5_skips_54 : decode cX5_skips 54 = .ok (.iconst 1, 1) := by decide +kernel
theorem dX5_skips_55 : decode cX5_skips 55 = .ok (.iadd, 1) := by decide +kernel
theorem dX5_skips_56 : decode cX5_skips 56 = .ok (.iastore, 1) := by decide +kernel
theorem dX5_skips_57 : decode cX5_skips 57 = .ok (.return_, 1) := by decide +kernel
set_option maxRecDepth 20000 in
theorem ggX5_ofTwo_X5_dOf : GoodIn wsX5_ofTwo wsX5_dOf := goodIn_r _ [5] (by decide +kernel) (by decide +kernel)
set_option maxRecDepth 20000 in
theorem gX5_ofTwo_X5_dOf : GoodIn wsX5_ofTwo (va_wsS RX5 53 yX5_dOf wsX5_dOf) := goodIn_app (goodIn_of _ (by decide +kernel)) ggX5_ofTwo_X5_dOf
set_option maxRecDepth 20000 in
theorem ggX5_ofTwo_X5_carry : GoodIn wsX5_ofTwo wsX5_carry := goodIn_r _ [9, 10, 11, 12, 4, 13, 1, 54, 55, 56, 57, 58, 59, 60, 61] (by decide +kernel) (by decide +kernel)
set_option maxRecDepth 20000 in
theorem gX5_ofTwo_X5_carry : GoodIn wsX5_ofTwo (wsV RX5 87 RX5 yX5_carry wsX5_carry) := goodIn_app (goodIn_of _ (by decide +kernel)) ggX5_ofTwo_X5_carry
set_option maxRecDepth 20000 in
theorem ggX5_ofTwo_X5_subtract : GoodIn wsX5_ofTwo wsX5_subtract := goodIn_r _ [17, 10, 11, 12, 4, 13, 1, 18, 19, 20, 21, 22, 23, 24, 25, 54, 55, 56, 57, 58, 59, 60, 61] (by decide +kernel) (by decide +kernel)
set_option maxRecDepth 20000 in
theorem gX5_ofTwo_X5_subtract : GoodIn wsX5_ofTwo (wsV RX5 91 RX5 yX5_subtract wsX5_subtract) := goodIn_app (goodIn_of _ (by decide +kernel)) ggX5_ofTwo_X5_subtract
set_option maxRecDepth 20000 in
theorem ggX5_ofTwo_X5_add : GoodIn wsX5_ofTwo wsX5_add := goodIn_r _ [29, 18, 19, 20, 4, 21, 1, 22, 23, 24, 25, 54, 55, 56, 57, 58, 59, 60, 61] (by decide +kernel) (by decide +kernel)
set_option maxRecDepth 20000 in
theorem gX5_ofTwo_X5_add : GoodIn wsX5_ofTwo (wsV RX5 95 RX5 yX5_add wsX5_add) := goodIn_app (goodIn_of _ (by decide +kernel)) ggX5_ofTwo_X5_add
set_option maxRecDepth 20000 in
theorem ggX5_ofTwo_X5_skips : GoodIn wsX5_ofTwo wsX5_skips := goodIn_r _ [33, 34, 35, 36, 37, 38, 4, 39, 40, 41, 42, 43, 44, 45, 46, 47, 48, 49, 54, 55, 56, 57, 58, 59, 60, 61] (by decide +kernel) (by decide +kernel)
set_option maxRecDepth 20000 in
theorem gX5_ofTwo_X5_skips : GoodIn wsX5_ofTwo (wsV RX5 99 RX5 yX5_skips wsX5_skips) := goodIn_app (goodIn_of _ (by decide +kernel)) ggX5_ofTwo_X5_skips
set_option maxRecDepth 20000 in
theorem ggX5_ofTwo_X5_logic : GoodIn wsX5_ofTwo wsX5_logic := goodIn_r _ [53, 22, 23, 24, 4, 25, 18, 19, 20, 21, 1, 54, 55, 56, 57, 58, 59, 60, 61] (by decide +kernel) (by decide +kernel)
set_option maxRecDepth 20000 in
theorem gX5_ofTwo_X5_logic : GoodIn wsX5_ofTwo (wsV RX5 103 RX5 yX5_logic wsX5_logic) := goodIn_app (goodIn_of _ (by decide +kernel)) ggX5_ofTwo_X5_logic
theorem dX5_ofTwo_0 : decode cX5_ofTwo 0 = .ok (.iload_n 1, 1) := by decide +kernel
theorem dX5_ofTwo_1 : decode cX5_ofTwo 1 = .ok (.invokestatic 53, 3) := by decide +kernel
theorem dX5_ofTwo_4 : decode cX5_ofTwo 4 = .ok (.istore_n 2, 1) := by decide +kernel
theorem dX5_ofTwo_5 : decode cX5_ofTwo 5 = .ok (.aload_n 0, 1) := by decide +kernel
theorem dX5_ofTwo_6 : decode cX5_ofTwo 6 = .ok (.getfield 13, 3) := by decide +kernel
theorem dX5_ofTwo_9 : decode cX5_ofTwo 9 = .ok (.iload_n 2, 1) := by decide +kernel
theorem dX5_ofTwo_10 : decode cX5_ofTwo 10 = .ok (.iaload, 1) := by decide +kernel
theorem dX5_ofTwo_11 : decode cX5_ofTwo 11 = .ok (.istore_n 3, 1) := by decide +kernel
theorem dX5_ofTwo_12 : decode cX5_ofTwo 12 = .ok (.aload_n 0, 1) := by decide +kernel
theorem dX5_ofTwo_13 : decode cX5_ofTwo 13 = .ok (.getfield 13, 3) := by decide +kernel
theorem dX5_ofTwo_16 : decode cX5_ofTwo 16 = .ok (.iload_n 1, 1) := by decide +kernel
theorem dX5_ofTwo_17 : decode cX5_ofTwo 17 = .ok (.iconst 5, 1) := by decide +kernel
theorem dX5_ofTwo_18 : decode cX5_ofTwo 18 = .ok (.ishr, 1) := by decide +kernel
theorem dX5_ofTwo_19 : decode cX5_ofTwo 19 = .ok (.bipush 16, 2) := by decide +kernel
theorem dX5_ofTwo_21 : decode cX5_ofTwo 21 = .ok (.iand, 1) := by decide +kernel
theorem dX5_ofTwo_22 : decode cX5_ofTwo 22 = .ok (.iload_n 1, 1) := by decide +kernel
theorem dX5_ofTwo_23 : decode cX5_ofTwo 23 = .ok (.bipush 15, 2) := by decide +kernel
theorem dX5_ofTwo_25 : decode cX5_ofTwo 25 = .ok (.iand, 1) := by decide +kernel
theorem dX5_ofTwo_26 : decode cX5_ofTwo 26 = .ok (.ior, 1) := by decide +kernel
theorem dX5_ofTwo_27 : decode cX5_ofTwo 27 = .ok (.iaload, 1) := by decide +kernel
theorem dX5_ofTwo_28 : decode cX5_ofTwo 28 = .ok (.istore 4, 2) := by decide +kernel
theorem dX5_ofTwo_30 : decode cX5_ofTwo 30 = .ok (.iload_n 1, 1) := by decide +kernel
theorem dX5_ofTwo_31 : decode cX5_ofTwo 31 = .ok (.bipush 10, 2) := by decide +kernel
theorem dX5_ofTwo_33 : decode cX5_ofTwo 33 = .ok (.ishr, 1) := by decide +kernel
theorem dX5_ofTwo_34 : decode cX5_ofTwo 34 = .ok (.tableswitch 234 1 10 #[54, 71, 96, 113, 131, 145, 163, 183, 200, 217], 54) := by decide +kernel
theorem dX5_ofTwo_88 : decode cX5_ofTwo 88 = .ok (.aload_n 0, 1) := by decide +kernel
theorem dX5_ofTwo_89 : decode cX5_ofTwo 89 = .ok (.iload_n 3, 1) := by decide +kernel
theorem dX5_ofTwo_90 : decode cX5_ofTwo 90 = .ok (.iload 4, 2) := by decide +kernel
theorem dX5_ofTwo_92 : decode cX5_ofTwo 92 = .ok (.aload_n 0, 1) := by decide +kernel
theorem dX5_ofTwo_93 : decode cX5_ofTwo 93 = .ok (.invokevirtual 87, 3) := by decide +kernel
theorem dX5_ofTwo_96 : decode cX5_ofTwo 96 = .ok (.iconst 1, 1) := by decide +kernel
theorem dX5_ofTwo_97 : decode cX5_ofTwo 97 = .ok (.invokevirtual 91, 3) := by decide +kernel
theorem dX5_ofTwo_100 : decode cX5_ofTwo 100 = .ok (.istore 5, 2) := by decide +kernel
theorem dX5_ofTwo_102 : decode cX5_ofTwo 102 = .ok (.goto 174, 3) := by decide +kernel
theorem dX5_ofTwo_105 : decode cX5_ofTwo 105 = .ok (.aload_n 0, 1) := by decide +kernel
theorem dX5_ofTwo_106 : decode cX5_ofTwo 106 = .ok (.iload_n 3, 1) := by decide +kernel
theorem dX5_ofTwo_107 : decode cX5_ofTwo 107 = .ok (.iload 4, 2) := by decide +kernel
theorem dX5_ofTwo_109 : decode cX5_ofTwo 109 = .ok (.aload_n 0, 1) := by decide +kernel
theorem dX5_ofTwo_110 : decode cX5_ofTwo 110 = .ok (.invokevirtual 87, 3) := by decide +kernel
theorem dX5_ofTwo_113 : decode cX5_ofTwo 113 = .ok (.iconst 1, 1) := by decide +kernel
theorem dX5_ofTwo_114 : decode cX5_ofTwo 114 = .ok (.invokevirtual 91, 3) := by decide +kernel
theorem dX5_ofTwo_117 : decode cX5_ofTwo 117 = .ok (.istore 6, 2) := by decide +kernel
theorem dX5_ofTwo_119 : decode cX5_ofTwo 119 = .ok (.aload_n 0, 1) := by decide +kernel
theorem dX5_ofTwo_120 : decode cX5_ofTwo 120 = .ok (.getfield 13, 3) := by decide +kernel
theorem dX5_ofTwo_123 : decode cX5_ofTwo 123 = .ok (.iload_n 2, 1) := by decide +kernel
theorem dX5_ofTwo_124 : decode cX5_ofTwo 124 = .ok (.iload 6, 2) := by decide +kernel
theorem dX5_ofTwo_126 : decode cX5_ofTwo 126 = .ok (.iastore, 1) := by decide +kernel
theorem dX5_ofTwo_127 : decode cX5_ofTwo 127 = .ok (.goto 149, 3) := by decide +kernel
theorem dX5_ofTwo_130 : decode cX5_ofTwo 130 = .ok (.aload_n 0, 1) := by decide +kernel
theorem dX5_ofTwo_131 : decode cX5_ofTwo 131 = .ok (.getfield 13, 3) := by decide +kernel
theorem dX5_ofTwo_134 : decode cX5_ofTwo 134 = .ok (.iload_n 2, 1) := by decide +kernel
theorem dX5_ofTwo_135 : decode cX5_ofTwo 135 = .ok (.aload_n 0, 1) := by decide +kernel
theorem dX5_ofTwo_136 : decode cX5_ofTwo 136 = .ok (.iload_n 3, 1) := by decide +kernel
theorem dX5_ofTwo_137 : decode cX5_ofTwo 137 = .ok (.iload 4, 2) := by decide +kernel
theorem dX5_ofTwo_139 : decode cX5_ofTwo 139 = .ok (.iconst 0, 1) := by decide +kernel
theorem dX5_ofTwo_140 : decode cX5_ofTwo 140 = .ok (.invokevirtual 95, 3) := by decide +kernel
theorem dX5_ofTwo_143 : decode cX5_ofTwo 143 = .ok (.iastore, 1) := by decide +kernel
theorem dX5_ofTwo_144 : decode cX5_ofTwo 144 = .ok (.goto 132, 3) := by decide +kernel
theorem dX5_ofTwo_147 : decode cX5_ofTwo 147 = .ok (.aload_n 0, 1) := by decide +kernel
theorem dX5_ofTwo_148 : decode cX5_ofTwo 148 = .ok (.iload_n 3, 1) := by decide +kernel
theorem dX5_ofTwo_149 : decode cX5_ofTwo 149 = .ok (.iload 4, 2) := by decide +kernel
theorem dX5_ofTwo_151 : decode cX5_ofTwo 151 = .ok (.if_icmp .ne 7, 3) := by decide +kernel
theorem dX5_ofTwo_154 : decode cX5_ofTwo 154 = .ok (.iconst 1, 1) := by decide +kernel
theorem dX5_ofTwo_155 : decode cX5_ofTwo 155 = .ok (.goto 4, 3) := by decide +kernel
theorem dX5_ofTwo_158 : decode cX5_ofTwo 158 = .ok (.iconst 0, 1) := by decide +kernel
theorem dX5_ofTwo_159 : decode cX5_ofTwo 159 = .ok (.invokevirtual 99, 3) := by decide +kernel
theorem dX5_ofTwo_162 : decode cX5_ofTwo 162 = .ok (.goto 114, 3) := by decide +kernel
theorem dX5_ofTwo_165 : decode cX5_ofTwo 165 = .ok (.aload_n 0, 1) := by decide +kernel
theorem dX5_ofTwo_166 : decode cX5_ofTwo 166 = .ok (.iload_n 3, 1) := by decide +kernel
theorem dX5_ofTwo_167 : decode cX5_ofTwo 167 = .ok (.iload 4, 2) := by decide +kernel
theorem dX5_ofTwo_169 : decode cX5_ofTwo 169 = .ok (.iconst 0, 1) := by decide +kernel
theorem dX5_ofTwo_170 : decode cX5_ofTwo 170 = .ok (.iconst 0, 1) := by decide +kernel
theorem dX5_ofTwo_171 : decode cX5_ofTwo 171 = .ok (.invokevirtual 91, 3) := by decide +kernel
theorem dX5_ofTwo_174 : decode cX5_ofTwo 174 = .ok (.istore 7, 2) := by decide +kernel
theorem dX5_ofTwo_176 : decode cX5_ofTwo 176 = .ok (.goto 100, 3) := by decide +kernel
theorem dX5_ofTwo_179 : decode cX5_ofTwo 179 = .ok (.aload_n 0, 1) := by decide +kernel
theorem dX5_ofTwo_180 : decode cX5_ofTwo 180 = .ok (.getfield 13, 3) := by decide +kernel
theorem dX5_ofTwo_183 : decode cX5_ofTwo 183 = .ok (.iload_n 2, 1) := by decide +kernel
theorem dX5_ofTwo_184 : decode cX5_ofTwo 184 = .ok (.aload_n 0, 1) := by decide +kernel
theorem dX5_ofTwo_185 : decode cX5_ofTwo 185 = .ok (.iload_n 3, 1) := by decide +kernel
theorem dX5_ofTwo_186 : decode cX5_ofTwo 186 = .ok (.iload 4, 2) := by decide +kernel
theorem dX5_ofTwo_188 : decode cX5_ofTwo 188 = .ok (.iconst 0, 1) := by decide +kernel
theorem dX5_ofTwo_189 : decode cX5_ofTwo 189 = .ok (.iconst 0, 1) := by decide +kernel
theorem dX5_ofTwo_190 : decode cX5_ofTwo 190 = .ok (.invokevirtual 91, 3) := by decide +kernel
theorem dX5_ofTwo_193 : decode cX5_ofTwo 193 = .ok (.iastore, 1) := by decide +kernel
theorem dX5_ofTwo_194 : decode cX5_ofTwo 194 = .ok (.goto 82, 3) := by decide +kernel
theorem dX5_ofTwo_197 : decode cX5_ofTwo 197 = .ok (.aload_n 0, 1) := by decide +kernel
theorem dX5_ofTwo_198 : decode cX5_ofTwo 198 = .ok (.getfield 13, 3) := by decide +kernel
theorem dX5_ofTwo_201 : decode cX5_ofTwo 201 = .ok (.iload_n 2, 1) := by decide +kernel
theorem dX5_ofTwo_202 : decode cX5_ofTwo 202 = .ok (.aload_n 0, 1) := by decide +kernel
theorem dX5_ofTwo_203 : decode cX5_ofTwo 203 = .ok (.iload_n 3, 1) := by decide +kernel
theorem dX5_ofTwo_204 : decode cX5_ofTwo 204 = .ok (.iload 4, 2) := by decide +kernel
theorem dX5_ofTwo_206 : decode cX5_ofTwo 206 = .ok (.aload_n 0, 1) := by decide +kernel
theorem dX5_ofTwo_207 : decode cX5_ofTwo 207 = .ok (.invokevirtual 87, 3) := by decide +kernel
theorem dX5_ofTwo_210 : decode cX5_ofTwo 210 = .ok (.invokevirtual 95, 3) := by decide +kernel
theorem dX5_ofTwo_213 : decode cX5_ofTwo 213 = .ok (.iastore, 1) := by decide +kernel
theorem dX5_ofTwo_214 : decode cX5_ofTwo 214 = .ok (.goto 62, 3) := by decide +kernel
theorem dX5_ofTwo_217 : decode cX5_ofTwo 217 = .ok (.aload_n 0, 1) := by decide +kernel
theorem dX5_ofTwo_218 : decode cX5_ofTwo 218 = .ok (.getfield 13, 3) := by decide +kernel
theorem dX5_ofTwo_221 : decode cX5_ofTwo 221 = .ok (.iload_n 2, 1) := by decide +kernel
theorem dX5_ofTwo_222 : decode cX5_ofTwo 222 = .ok (.aload_n 0, 1) := by decide +kernel
theorem dX5_ofTwo_223 : decode cX5_ofTwo 223 = .ok (.iload_n 3, 1) := by decide +kernel
theorem dX5_ofTwo_224 : decode cX5_ofTwo 224 = .ok (.iload 4, 2) := by decide +kernel
theorem dX5_ofTwo_226 : decode cX5_ofTwo 226 = .ok (.iand, 1) := by decide +kernel
theorem dX5_ofTwo_227 : decode cX5_ofTwo 227 = .ok (.invokevirtual 103, 3) := by decide +kernel
theorem dX5_ofTwo_230 : decode cX5_ofTwo 230 = .ok (.iastore, 1) := by decide +kernel
theorem dX5_ofTwo_231 : decode cX5_ofTwo 231 = .ok (.goto 45, 3) := by decide +kernel
theorem dX5_ofTwo_234 : decode cX5_ofTwo 234 = .ok (.aload_n 0, 1) := by decide +kernel
theorem dX5_ofTwo_235 : decode cX5_ofTwo 235 = .ok (.getfield 13, 3) := by decide +kernel
theorem dX5_ofTwo_238 : decode cX5_ofTwo 238 = .ok (.iload_n 2, 1) := by decide +kernel
theorem dX5_ofTwo_239 : decode cX5_ofTwo 239 = .ok (.aload_n 0, 1) := by decide +kernel
theorem dX5_ofTwo_240 : decode cX5_ofTwo 240 = .ok (.iload_n 3, 1) := by decide +kernel
theorem dX5_ofTwo_241 : decode cX5_ofTwo 241 = .ok (.iload 4, 2) := by decide +kernel
theorem dX5_ofTwo_243 : decode cX5_ofTwo 243 = .ok (.ixor, 1) := by decide +kernel
theorem dX5_ofTwo_244 : decode cX5_ofTwo 244 = .ok (.invokevirtual 103, 3) := by decide +kernel
theorem dX5_ofTwo_247 : decode cX5_ofTwo 247 = .ok (.iastore, 1) := by decide +kernel
theorem dX5_ofTwo_248 : decode cX5_ofTwo 248 = .ok (.goto 28, 3) := by decide +kernel
theorem dX5_ofTwo_251 : decode cX5_ofTwo 251 = .ok (.aload_n 0, 1) := by decide +kernel
theorem dX5_ofTwo_252 : decode cX5_ofTwo 252 = .ok (.getfield 13, 3) := by decide +kernel
theorem dX5_ofTwo_255 : decode cX5_ofTwo 255 = .ok (.iload_n 2, 1) := by decide +kernel
theorem dX5_ofTwo_256 : decode cX5_ofTwo 256 = .ok (.aload_n 0, 1) := by decide +kernel
theorem dX5_ofTwo_257 : decode cX5_ofTwo 257 = .ok (.iload_n 3, 1) := by decide +kernel
theorem dX5_ofTwo_258 : decode cX5_ofTwo 258 = .ok (.iload 4, 2) := by decide +kernel
theorem dX5_ofTwo_260 : decode cX5_ofTwo 260 = .ok (.ior, 1) := by decide +kernel
theorem dX5_ofTwo_261 : decode cX5_ofTwo 261 = .ok (.invokevirtual 103, 3) := by decide +kernel
theorem dX5_ofTwo_264 : decode cX5_ofTwo 264 = .ok (.iastore, 1) := by decide +kernel
theorem dX5_ofTwo_265 : decode cX5_ofTwo 265 = .ok (.goto 11, 3) := by decide +kernel
theorem dX5_ofTwo_268 : decode cX5_ofTwo 268 = .ok (.aload_n 0, 1) := by decide +kernel
theorem dX5_ofTwo_269 : decode cX5_ofTwo 269 = .ok (.getfield 13, 3) := by decide +kernel
theorem dX5_ofTwo_272 : decode cX5_ofTwo 272 = .ok (.iload_n 2, 1) := by decide +kernel
theorem dX5_ofTwo_273 : decode cX5_ofTwo 273 = .ok (.iload 4, 2) := by decide +kernel
theorem dX5_ofTwo_275 : decode cX5_ofTwo 275 = .ok (.iastore, 1) := by decide +kernel
theorem dX5_ofTwo_276 : decode cX5_ofTwo 276 = .ok (.return_, 1) := by decide +kernel
set_option maxRecDepth 20000 in
theorem ggX5_ofNumber_X5_subtract : GoodIn wsX5_ofNumber wsX5_subtract := goodIn_r _ [6, 7, 8, 9, 5, 10, 1, 11, 12, 13, 14, 15, 16, 17, 18, 27, 28, 29, 30, 31, 32, 33, 34] (by decide +kernel) (by decide +kernel)
set_option maxRecDepth 20000 in
theorem gX5_ofNumber_X5_subtract : GoodIn wsX5_ofNumber (wsV RX5 91 RX5 yX5_subtract wsX5_subtract) := goodIn_app (goodIn_of _ (by decide +kernel)) ggX5_ofNumber_X5_subtract
set_option maxRecDepth 20000 in
theorem ggX5_ofNumber_X5_carry : GoodIn wsX5_ofNumber wsX5_carry := goodIn_r _ [22, 7, 8, 9, 5, 10, 1, 27, 28, 29, 30, 31, 32, 33, 34] (by decide +kernel) (by decide +kernel)
set_option maxRecDepth 20000 in
theorem gX5_ofNumber_X5_carry : GoodIn wsX5_ofNumber (wsV RX5 87 RX5 yX5_carry wsX5_carry) := goodIn_app (goodIn_of _ (by decide +kernel)) ggX5_ofNumber_X5_carry
set_option maxRecDepth 20000 in
theorem ggX5_ofNumber_X5_logic : GoodIn wsX5_ofNumber wsX5_logic := goodIn_r _ [26, 15, 16, 17, 5, 18, 11, 12, 13, 14, 1, 27, 28, 29, 30, 31, 32, 33, 34] (by decide +kernel) (by decide +kernel)
set_option maxRecDepth 20000 in
theorem gX5_ofNumber_X5_logic : GoodIn wsX5_ofNumber (wsV RX5 103 RX5 yX5_logic wsX5_logic) := goodIn_app (goodIn_of _ (by decide +kernel)) ggX5_ofNumber_X5_logic
theorem dX5_ofNumber_0 : decode cX5_ofNumber 0 = .ok (.bipush 16, 2) := by decide +kernel
theorem dX5_ofNumber_2 : decode cX5_ofNumber 2 = .ok (.iload_n 1, 1) := by decide +kernel
theorem dX5_ofNumber_3 : decode cX5_ofNumber 3 = .ok (.iconst 4, 1) := by decide +kernel
theorem dX5_ofNumber_4 : decode cX5_ofNumber 4 = .ok (.ishr, 1) := by decide +kernel
theorem dX5_ofNumber_5 : decode cX5_ofNumber 5 = .ok (.bipush 15, 2) := by decide +kernel
theorem dX5_ofNumber_7 : decode cX5_ofNumber 7 = .ok (.iand, 1) := by decide +kernel
theorem dX5_ofNumber_8 : decode cX5_ofNumber 8 = .ok (.iadd, 1) := by decide +kernel
theorem dX5_ofNumber_9 : decode cX5_ofNumber 9 = .ok (.istore_n 2, 1) := by decide +kernel
theorem dX5_ofNumber_10 : decode cX5_ofNumber 10 = .ok (.iload_n 1, 1) := by decide +kernel
theorem dX5_ofNumber_11 : decode cX5_ofNumber 11 = .ok (.iconst 4, 1) := by decide +kernel
theorem dX5_ofNumber_12 : decode cX5_ofNumber 12 = .ok (.ishr, 1) := by decide +kernel
theorem dX5_ofNumber_13 : decode cX5_ofNumber 13 = .ok (.sipush 240, 3) := by decide +kernel
theorem dX5_ofNumber_16 : decode cX5_ofNumber 16 = .ok (.iand, 1) := by decide +kernel
theorem dX5_ofNumber_17 : decode cX5_ofNumber 17 = .ok (.iload_n 1, 1) := by decide +kernel
theorem dX5_ofNumber_18 : decode cX5_ofNumber 18 = .ok (.bipush 15, 2) := by decide +kernel
theorem dX5_ofNumber_20 : decode cX5_ofNumber 20 = .ok (.iand, 1) := by decide +kernel
theorem dX5_ofNumber_21 : decode cX5_ofNumber 21 = .ok (.ior, 1) := by decide +kernel
theorem dX5_ofNumber_22 : decode cX5_ofNumber 22 = .ok (.istore_n 3, 1) := by decide +kernel
theorem dX5_ofNumber_23 : decode cX5_ofNumber 23 = .ok (.aload_n 0, 1) := by decide +kernel
theorem dX5_ofNumber_24 : decode cX5_ofNumber 24 = .ok (.getfield 13, 3) := by decide +kernel
theorem dX5_ofNumber_27 : decode cX5_ofNumber 27 = .ok (.iload_n 2, 1) := by decide +kernel
theorem dX5_ofNumber_28 : decode cX5_ofNumber 28 = .ok (.iaload, 1) := by decide +kernel
theorem dX5_ofNumber_29 : decode cX5_ofNumber 29 = .ok (.istore 4, 2) := by decide +kernel
theorem dX5_ofNumber_31 : decode cX5_ofNumber 31 = .ok (.iload_n 1, 1) := by decide +kernel
theorem dX5_ofNumber_32 : decode cX5_ofNumber 32 = .ok (.bipush 12, 2) := by decide +kernel
theorem dX5_ofNumber_34 : decode cX5_ofNumber 34 = .ok (.ishr, 1) := by decide +kernel
theorem dX5_ofNumber_35 : decode cX5_ofNumber 35 = .ok (.tableswitch 120 3 7 #[33, 47, 68, 86, 103], 33) := by decide +kernel
theorem dX5_ofNumber_68 : decode cX5_ofNumber 68 = .ok (.aload_n 0, 1) := by decide +kernel
theorem dX5_ofNumber_69 : decode cX5_ofNumber 69 = .ok (.iload 4, 2) := by decide +kernel
theorem dX5_ofNumber_71 : decode cX5_ofNumber 71 = .ok (.iload_n 3, 1) := by decide +kernel
theorem dX5_ofNumber_72 : decode cX5_ofNumber 72 = .ok (.iconst 0, 1) := by decide +kernel
theorem dX5_ofNumber_73 : decode cX5_ofNumber 73 = .ok (.iconst 0, 1) := by decide +kernel
theorem dX5_ofNumber_74 : decode cX5_ofNumber 74 = .ok (.invokevirtual 91, 3) := by decide +kernel
theorem dX5_ofNumber_77 : decode cX5_ofNumber 77 = .ok (.istore 5, 2) := by decide +kernel
theorem dX5_ofNumber_79 : decode cX5_ofNumber 79 = .ok (.goto 83, 3) := by decide +kernel
theorem dX5_ofNumber_82 : decode cX5_ofNumber 82 = .ok (.aload_n 0, 1) := by decide +kernel
theorem dX5_ofNumber_83 : decode cX5_ofNumber 83 = .ok (.getfield 13, 3) := by decide +kernel
theorem dX5_ofNumber_86 : decode cX5_ofNumber 86 = .ok (.iload_n 2, 1) := by decide +kernel
theorem dX5_ofNumber_87 : decode cX5_ofNumber 87 = .ok (.aload_n 0, 1) := by decide +kernel
theorem dX5_ofNumber_88 : decode cX5_ofNumber 88 = .ok (.iload 4, 2) := by decide +kernel
theorem dX5_ofNumber_90 : decode cX5_ofNumber 90 = .ok (.iload_n 3, 1) := by decide +kernel
theorem dX5_ofNumber_91 : decode cX5_ofNumber 91 = .ok (.aload_n 0, 1) := by decide +kernel
theorem dX5_ofNumber_92 : decode cX5_ofNumber 92 = .ok (.invokevirtual 87, 3) := by decide +kernel
theorem dX5_ofNumber_95 : decode cX5_ofNumber 95 = .ok (.iconst 1, 1) := by decide +kernel
theorem dX5_ofNumber_96 : decode cX5_ofNumber 96 = .ok (.invokevirtual 91, 3) := by decide +kernel
theorem dX5_ofNumber_99 : decode cX5_ofNumber 99 = .ok (.iastore, 1) := by decide +kernel
theorem dX5_ofNumber_100 : decode cX5_ofNumber 100 = .ok (.goto 62, 3) := by decide +kernel
theorem dX5_ofNumber_103 : decode cX5_ofNumber 103 = .ok (.aload_n 0, 1) := by decide +kernel
theorem dX5_ofNumber_104 : decode cX5_ofNumber 104 = .ok (.getfield 13, 3) := by decide +kernel
theorem dX5_ofNumber_107 : decode cX5_ofNumber 107 = .ok (.iload_n 2, 1) := by decide +kernel
theorem dX5_ofNumber_108 : decode cX5_ofNumber 108 = .ok (.aload_n 0, 1) := by decide +kernel
theorem dX5_ofNumber_109 : decode cX5_ofNumber 109 = .ok (.iload 4, 2) := by decide +kernel
theorem dX5_ofNumber_111 : decode cX5_ofNumber 111 = .ok (.iload_n 3, 1) := by decide +kernel
theorem dX5_ofNumber_112 : decode cX5_ofNumber 112 = .ok (.iconst 0, 1) := by decide +kernel
theorem dX5_ofNumber_113 : decode cX5_ofNumber 113 = .ok (.iconst 0, 1) := by decide +kernel
theorem dX5_ofNumber_114 : decode cX5_ofNumber 114 = .ok (.invokevirtual 91, 3) := by decide +kernel
theorem dX5_ofNumber_117 : decode cX5_ofNumber 117 = .ok (.iastore, 1) := by decide +kernel
theorem dX5_ofNumber_118 : decode cX5_ofNumber 118 = .ok (.goto 44, 3) := by decide +kernel
theorem dX5_ofNumber_121 : decode cX5_ofNumber 121 = .ok (.aload_n 0, 1) := by decide +kernel
theorem dX5_ofNumber_122 : decode cX5_ofNumber 122 = .ok (.getfield 13, 3) := by decide +kernel
theorem dX5_ofNumber_125 : decode cX5_ofNumber 125 = .ok (.iload_n 2, 1) := by decide +kernel
theorem dX5_ofNumber_126 : decode cX5_ofNumber 126 = .ok (.aload_n 0, 1) := by decide +kernel
theorem dX5_ofNumber_127 : decode cX5_ofNumber 127 = .ok (.iload 4, 2) := by decide +kernel
theorem dX5_ofNumber_129 : decode cX5_ofNumber 129 = .ok (.iload_n 3, 1) := by decide +kernel
theorem dX5_ofNumber_130 : decode cX5_ofNumber 130 = .ok (.ior, 1) := by decide +kernel
theorem dX5_ofNumber_131 : decode cX5_ofNumber 131 = .ok (.invokevirtual 103, 3) := by decide +kernel
theorem dX5_ofNumber_134 : decode cX5_ofNumber 134 = .ok (.iastore, 1) := by decide +kernel
theorem dX5_ofNumber_135 : decode cX5_ofNumber 135 = .ok (.goto 27, 3) := by decide +kernel
theorem dX5_ofNumber_138 : decode cX5_ofNumber 138 = .ok (.aload_n 0, 1) := by decide +kernel
theorem dX5_ofNumber_139 : decode cX5_ofNumber 139 = .ok (.getfield 13, 3) := by decide +kernel
theorem dX5_ofNumber_142 : decode cX5_ofNumber 142 = .ok (.iload_n 2, 1) := by decide +kernel
theorem dX5_ofNumber_143 : decode cX5_ofNumber 143 = .ok (.aload_n 0, 1) := by decide +kernel
theorem dX5_ofNumber_144 : decode cX5_ofNumber 144 = .ok (.iload 4, 2) := by decide +kernel
theorem dX5_ofNumber_146 : decode cX5_ofNumber 146 = .ok (.iload_n 3, 1) := by decide +kernel
theorem dX5_ofNumber_147 : decode cX5_ofNumber 147 = .ok (.iand, 1) := by decide +kernel
theorem dX5_ofNumber_148 : decode cX5_ofNumber 148 = .ok (.invokevirtual 103, 3) := by decide +kernel
theorem dX5_ofNumber_151 : decode cX5_ofNumber 151 = .ok (.iastore, 1) := by decide +kernel
theorem dX5_ofNumber_152 : decode cX5_ofNumber 152 = .ok (.goto 10, 3) := by decide +kernel
theorem dX5_ofNumber_155 : decode cX5_ofNumber 155 = .ok (.aload_n 0, 1) := by decide +kernel
theorem dX5_ofNumber_156 : decode cX5_ofNumber 156 = .ok (.getfield 13, 3) := by decide +kernel
theorem dX5_ofNumber_159 : decode cX5_ofNumber 159 = .ok (.iload_n 2, 1) := by decide +kernel
theorem dX5_ofNumber_160 : decode cX5_ofNumber 160 = .ok (.iload_n 3, 1) := by decide +kernel
theorem dX5_ofNumber_161 : decode cX5_ofNumber 161 = .ok (.iastore, 1) := by decide +kernel
theorem dX5_ofNumber_162 : decode cX5_ofNumber 162 = .ok (.return_, 1) := by decide +kernel
theorem dX5_signed_0 : decode cX5_signed 0 = .ok (.iload_n 0, 1) := by decide +kernel
theorem dX5_signed_1 : decode cX5_signed 1 = .ok (.bipush 127, 2) := by decide +kernel
theorem dX5_signed_3 : decode cX5_signed 3 = .ok (.if_icmp .le 11, 3) := by decide +kernel
theorem dX5_signed_6 : decode cX5_signed 6 = .ok (.iload_n 0, 1) := by decide +kernel
theorem dX5_signed_7 : decode cX5_signed 7 = .ok (.sipush 256, 3) := by decide +kernel
theorem dX5_signed_10 : decode cX5_signed 10 = .ok (.isub, 1) := by decide +kernel
theorem dX5_signed_11 : decode cX5_signed 11 = .ok (.goto 4, 3) := by decide +kernel
theorem dX5_signed_14 : decode cX5_signed 14 = .ok (.iload_n 0, 1) := by decide +kernel
theorem dX5_signed_15 : decode cX5_signed 15 = .ok (.ireturn, 1) := by decide +kernel
set_option maxRecDepth 20000 in
theorem ggX5_product_X5_flag : GoodIn wsX5_product wsX5_flag := goodIn_r _ [6, 7, 12, 13, 14, 15, 16, 17, 18, 19] (by decide +kernel) (by decide +kernel)
set_option maxRecDepth 20000 in
theorem gX5_product_X5_flag : GoodIn wsX5_product (wsV RX5 74 RX5 yX5_flag wsX5_flag) := goodIn_app (goodIn_of _ (by decide +kernel)) ggX5_product_X5_flag
set_option maxRecDepth 20000 in
theorem ggX5_product_X5_setPair : GoodIn wsX5_product wsX5_setPair := goodIn_r _ [11, 7, 12, 13, 14, 15, 16, 17, 18, 19] (by decide +kernel) (by decide +kernel)
set_option maxRecDepth 20000 in
theorem gX5_product_X5_setPair : GoodIn wsX5_product (wsV RX5 106 RX5 yX5_setPair wsX5_setPair) := goodIn_app (goodIn_of _ (by decide +kernel)) ggX5_product_X5_setPair
theorem dX5_product_0 : decode cX5_product 0 = .ok (.iload_n 1, 1) := by decide +kernel
theorem dX5_product_1 : decode cX5_product 1 = .ok (.ldc 27, 2) := by decide +kernel
theorem dX5_product_3 : decode cX5_product 3 = .ok (.iand, 1) := by decide +kernel
theorem dX5_product_4 : decode cX5_product 4 = .ok (.istore_n 3, 1) := by decide +kernel
theorem dX5_product_5 : decode cX5_product 5 = .ok (.aload_n 0, 1) := by decide +kernel
theorem dX5_product_6 : decode cX5_product 6 = .ok (.iconst 1, 1) := by decide +kernel
theorem dX5_product_7 : decode cX5_product 7 = .ok (.iload_n 3, 1) := by decide +kernel
theorem dX5_product_8 : decode cX5_product 8 = .ok (.sipush 32767, 3) := by decide +kernel
theorem dX5_product_11 : decode cX5_product 11 = .ok (.if_icmp .le 7, 3) := by decide +kernel
theorem dX5_product_14 : decode cX5_product 14 = .ok (.iconst 1, 1) := by decide +kernel
theorem dX5_product_15 : decode cX5_product 15 = .ok (.goto 4, 3) := by decide +kernel
theorem dX5_product_18 : decode cX5_product 18 = .ok (.iconst 0, 1) := by decide +kernel
theorem dX5_product_19 : decode cX5_product 19 = .ok (.invokevirtual 74, 3) := by decide +kernel
theorem dX5_product_22 : decode cX5_product 22 = .ok (.iload_n 2, 1) := by decide +kernel
theorem dX5_product_23 : decode cX5_product 23 = .ok (.ifCond .eq 12, 3) := by decide +kernel
theorem dX5_product_26 : decode cX5_product 26 = .ok (.iload_n 3, 1) := by decide +kernel
theorem dX5_product_27 : decode cX5_product 27 = .ok (.iconst 1, 1) := by decide +kernel
theorem dX5_product_28 : decode cX5_product 28 = .ok (.ishl, 1) := by decide +kernel
theorem dX5_product_29 : decode cX5_product 29 = .ok (.ldc 27, 2) := by decide +kernel
theorem dX5_product_31 : decode cX5_product 31 = .ok (.iand, 1) := by decide +kernel
theorem dX5_product_32 : decode cX5_product 32 = .ok (.goto 4, 3) := by decide +kernel
theorem dX5_product_35 : decode cX5_product 35 = .ok (.iload_n 3, 1) := by decide +kernel
theorem dX5_product_36 : decode cX5_product 36 = .ok (.istore_n 3, 1) := by decide +kernel
theorem dX5_product_37 : decode cX5_product 37 = .ok (.aload_n 0, 1) := by decide +kernel
theorem dX5_product_38 : decode cX5_product 38 = .ok (.iconst 2, 1) := by decide +kernel
theorem dX5_product_39 : decode cX5_product 39 = .ok (.iload_n 3, 1) := by decide +kernel
theorem dX5_product_40 : decode cX5_product 40 = .ok (.ifCond .ne 7, 3) := by decide +kernel
theorem dX5_product_43 : decode cX5_product 43 = .ok (.iconst 1, 1) := by decide +kernel
theorem dX5_product_44 : decode cX5_product 44 = .ok (.goto 4, 3) := by decide +kernel
theorem dX5_product_47 : decode cX5_product 47 = .ok (.iconst 0, 1) := by decide +kernel
theorem dX5_product_48 : decode cX5_product 48 = .ok (.invokevirtual 74, 3) := by decide +kernel
theorem dX5_product_51 : decode cX5_product 51 = .ok (.aload_n 0, 1) := by decide +kernel
theorem dX5_product_52 : decode cX5_product 52 = .ok (.iconst 0, 1) := by decide +kernel
theorem dX5_product_53 : decode cX5_product 53 = .ok (.iload_n 3, 1) := by decide +kernel
theorem dX5_product_54 : decode cX5_product 54 = .ok (.invokevirtual 106, 3) := by decide +kernel
theorem dX5_product_57 : decode cX5_product 57 = .ok (.return_, 1) := by decide +kernel
set_option maxRecDepth 20000 in
theorem ggX5_products_X5_signed : GoodIn wsX5_products wsX5_signed := goodIn_r _ [5] (by decide +kernel) (by decide +kernel)
set_option maxRecDepth 20000 in
theorem gX5_products_X5_signed : GoodIn wsX5_products (va_wsS RX5 110 yX5_signed wsX5_signed) := goodIn_app (goodIn_of _ (by decide +kernel)) ggX5_products_X5_signed
set_option maxRecDepth 20000 in
theorem ggX5_products_X5_product : GoodIn wsX5_products wsX5_product := goodIn_r _ [9, 10, 11, 12, 13, 4, 14, 1, 15, 16, 17, 18, 19, 20, 21, 22, 23, 24, 25, 26] (by decide +kernel) (by decide +kernel)
set_option maxRecDepth 20000 in
theorem gX5_products_X5_product : GoodIn wsX5_products (wsV RX5 113 RX5 yX5_product wsX5_product) := goodIn_app (goodIn_of _ (by decide +kernel)) ggX5_products_X5_product
theorem dX5_products_0 : decode cX5_products 0 = .ok (.iload_n 1, 1) := by decide +kernel
theorem dX5_products_1 : decode cX5_products 1 = .ok (.bipush 8, 2) := by decide +kernel
theorem dX5_products_3 : decode cX5_products 3 = .ok (.ishr, 1) := by decide +kernel
theorem dX5_products_4 : decode cX5_products 4 = .ok (.iconst 2, 1) := by decide +kernel
theorem dX5_products_5 : decode cX5_products 5 = .ok (.if_icmp .ne 42, 3) := by decide +kernel
theorem dX5_products_8 : decode cX5_products 8 = .ok (.aload_n 0, 1) := by decide +kernel
theorem dX5_products_9 : decode cX5_products 9 = .ok (.aload_n 0, 1) := by decide +kernel
theorem dX5_products_10 : decode cX5_products 10 = .ok (.getfield 13, 3) := by decide +kernel
theorem dX5_products_13 : decode cX5_products 13 = .ok (.bipush 16, 2) := by decide +kernel
theorem dX5_products_15 : decode cX5_products 15 = .ok (.iload_n 1, 1) := by decide +kernel
theorem dX5_products_16 : decode cX5_products 16 = .ok (.iconst 4, 1) := by decide +kernel
theorem dX5_products_17 : decode cX5_products 17 = .ok (.ishr, 1) := by decide +kernel
theorem dX5_products_18 : decode cX5_products 18 = .ok (.bipush 15, 2) := by decide +kernel
theorem dX5_products_20 : decode cX5_products 20 = .ok (.iand, 1) := by decide +kernel
theorem dX5_products_21 : decode cX5_products 21 = .ok (.iadd, 1) := by decide +kernel
theorem dX5_products_22 : decode cX5_products 22 = .ok (.iaload, 1) := by decide +kernel
theorem dX5_products_23 : decode cX5_products 23 = .ok (.invokestatic 110, 3) := by decide +kernel
theorem dX5_products_26 : decode cX5_products 26 = .ok (.aload_n 0, 1) := by decide +kernel
theorem dX5_products_27 : decode cX5_products 27 = .ok (.getfield 13, 3) := by decide +kernel
theorem dX5_products_30 : decode cX5_products 30 = .ok (.bipush 16, 2) := by decide +kernel
theorem dX5_products_32 : decode cX5_products 32 = .ok (.iload_n 1, 1) := by decide +kernel
theorem dX5_products_33 : decode cX5_products 33 = .ok (.bipush 15, 2) := by decide +kernel
theorem dX5_products_35 : decode cX5_products 35 = .ok (.iand, 1) := by decide +kernel
theorem dX5_products_36 : decode cX5_products 36 = .ok (.iadd, 1) := by decide +kernel
theorem dX5_products_37 : decode cX5_products 37 = .ok (.iaload, 1) := by decide +kernel
theorem dX5_products_38 : decode cX5_products 38 = .ok (.invokestatic 110, 3) := by decide +kernel
theorem dX5_products_41 : decode cX5_products 41 = .ok (.imul, 1) := by decide +kernel
theorem dX5_products_42 : decode cX5_products 42 = .ok (.iconst 0, 1) := by decide +kernel
theorem dX5_products_43 : decode cX5_products 43 = .ok (.invokevirtual 113, 3) := by decide +kernel
theorem dX5_products_46 : decode cX5_products 46 = .ok (.return_, 1) := by decide +kernel
theorem dX5_products_47 : decode cX5_products 47 = .ok (.aload_n 0, 1) := by decide +kernel
theorem dX5_products_48 : decode cX5_products 48 = .ok (.getfield 13, 3) := by decide +kernel
theorem dX5_products_51 : decode cX5_products 51 = .ok (.bipush 16, 2) := by decide +kernel
theorem dX5_products_53 : decode cX5_products 53 = .ok (.iload_n 1, 1) := by decide +kernel
theorem dX5_products_54 : decode cX5_products 54 = .ok (.iconst 4, 1) := by decide +kernel
theorem dX5_products_55 : decode cX5_products 55 = .ok (.ishr, 1) := by decide +kernel
theorem dX5_products_56 : decode cX5_products 56 = .ok (.bipush 7, 2) := by decide +kernel
theorem dX5_products_58 : decode cX5_products 58 = .ok (.iand, 1) := by decide +kernel
theorem dX5_products_59 : decode cX5_products 59 = .ok (.iadd, 1) := by decide +kernel
theorem dX5_products_60 : decode cX5_products 60 = .ok (.iaload, 1) := by decide +kernel
theorem dX5_products_61 : decode cX5_products 61 = .ok (.istore_n 2, 1) := by decide +kernel
theorem dX5_products_62 : decode cX5_products 62 = .ok (.aload_n 0, 1) := by decide +kernel
theorem dX5_products_63 : decode cX5_products 63 = .ok (.getfield 13, 3) := by decide +kernel
theorem dX5_products_66 : decode cX5_products 66 = .ok (.bipush 16, 2) := by decide +kernel
theorem dX5_products_68 : decode cX5_products 68 = .ok (.iload_n 1, 1) := by decide +kernel
theorem dX5_products_69 : decode cX5_products 69 = .ok (.bipush 7, 2) := by decide +kernel
theorem dX5_products_71 : decode cX5_products 71 = .ok (.iand, 1) := by decide +kernel
theorem dX5_products_72 : decode cX5_products 72 = .ok (.iadd, 1) := by decide +kernel
theorem dX5_products_73 : decode cX5_products 73 = .ok (.iaload, 1) := by decide +kernel
theorem dX5_products_74 : decode cX5_products 74 = .ok (.istore_n 3, 1) := by decide +kernel
theorem dX5_products_75 : decode cX5_products 75 = .ok (.iload_n 1, 1) := by decide +kernel
theorem dX5_products_76 : decode cX5_products 76 = .ok (.sipush 136, 3) := by decide +kernel
theorem dX5_products_79 : decode cX5_products 79 = .ok (.iand, 1) := by decide +kernel
theorem dX5_products_80 : decode cX5_products 80 = .ok (.lookupswitch 78 #[(0, 36), (8, 50), (128, 61)], 36) := by decide +kernel
theorem dX5_products_116 : decode cX5_products 116 = .ok (.aload_n 0, 1) := by decide +kernel
theorem dX5_products_117 : decode cX5_products 117 = .ok (.iload_n 2, 1) := by decide +kernel
theorem dX5_products_118 : decode cX5_products 118 = .ok (.invokestatic 110, 3) := by decide +kernel
theorem dX5_products_121 : decode cX5_products 121 = .ok (.iload_n 3, 1) := by decide +kernel
theorem dX5_products_122 : decode cX5_products 122 = .ok (.imul, 1) := by decide +kernel
theorem dX5_products_123 : decode cX5_products 123 = .ok (.iconst 0, 1) := by decide +kernel
theorem dX5_products_124 : decode cX5_products 124 = .ok (.invokevirtual 113, 3) := by decide +kernel
theorem dX5_products_127 : decode cX5_products 127 = .ok (.goto 42, 3) := by decide +kernel
theorem dX5_products_130 : decode cX5_products 130 = .ok (.aload_n 0, 1) := by decide +kernel
theorem dX5_products_131 : decode cX5_products 131 = .ok (.iload_n 2, 1) := by decide +kernel
theorem dX5_products_132 : decode cX5_products 132 = .ok (.iload_n 3, 1) := by decide +kernel
theorem dX5_products_133 : decode cX5_products 133 = .ok (.imul, 1) := by decide +kernel
theorem dX5_products_134 : decode cX5_products 134 = .ok (.iconst 1, 1) := by decide +kernel
theorem dX5_products_135 : decode cX5_products 135 = .ok (.invokevirtual 113, 3) := by decide +kernel
theorem dX5_products_138 : decode cX5_products 138 = .ok (.goto 31, 3) := by decide +kernel
theorem dX5_products_141 : decode cX5_products 141 = .ok (.aload_n 0, 1) := by decide +kernel
theorem dX5_products_142 : decode cX5_products 142 = .ok (.iload_n 2, 1) := by decide +kernel
theorem dX5_products_143 : decode cX5_products 143 = .ok (.invokestatic 110, 3) := by decide +kernel
theorem dX5_products_146 : decode cX5_products 146 = .ok (.iload_n 3, 1) := by decide +kernel
theorem dX5_products_147 : decode cX5_products 147 = .ok (.invokestatic 110, 3) := by decide +kernel
theorem dX5_products_150 : decode cX5_products 150 = .ok (.imul, 1) := by decide +kernel
theorem dX5_products_151 : decode cX5_products 151 = .ok (.iconst 1, 1) := by decide +kernel
theorem dX5_products_152 : decode cX5_products 152 = .ok (.invokevirtual 113, 3) := by decide +kernel
theorem dX5_products_155 : decode cX5_products 155 = .ok (.goto 14, 3) := by decide +kernel
theorem dX5_products_158 : decode cX5_products 158 = .ok (.aload_n 0, 1) := by decide +kernel
theorem dX5_products_159 : decode cX5_products 159 = .ok (.iload_n 2, 1) := by decide +kernel
theorem dX5_products_160 : decode cX5_products 160 = .ok (.invokestatic 110, 3) := by decide +kernel
theorem dX5_products_163 : decode cX5_products 163 = .ok (.iload_n 3, 1) := by decide +kernel
theorem dX5_products_164 : decode cX5_products 164 = .ok (.imul, 1) := by decide +kernel
theorem dX5_products_165 : decode cX5_products 165 = .ok (.iconst 1, 1) := by decide +kernel
theorem dX5_products_166 : decode cX5_products 166 = .ok (.invokevirtual 113, 3) := by decide +kernel
theorem dX5_products_169 : decode cX5_products 169 = .ok (.return_, 1) := by decide +kernel
set_option maxRecDepth 20000 in
theorem ggX5_right_X5_flag : GoodIn wsX5_right wsX5_flag := goodIn_r _ [5, 6, 11, 12, 13, 14, 15, 16, 17, 18] (by decide +kernel) (by decide +kernel)
set_option maxRecDepth 20000 in
theorem gX5_right_X5_flag : GoodIn wsX5_right (wsV RX5 74 RX5 yX5_flag wsX5_flag) := goodIn_app (goodIn_of _ (by decide +kernel)) ggX5_right_X5_flag
set_option maxRecDepth 20000 in
theorem ggX5_right_X5_signs : GoodIn wsX5_right wsX5_signs := goodIn_r _ [10, 1, 2, 3, 4, 5, 6, 11, 12, 13, 14, 15, 16, 17, 18] (by decide +kernel) (by decide +kernel)
set_option maxRecDepth 20000 in
theorem gX5_right_X5_signs : GoodIn wsX5_right (wsV RX5 78 RX5 yX5_signs wsX5_signs) := goodIn_app (goodIn_of _ (by decide +kernel)) ggX5_right_X5_signs
theorem dX5_right_0 : decode cX5_right 0 = .ok (.iload_n 1, 1) := by decide +kernel
theorem dX5_right_1 : decode cX5_right 1 = .ok (.iconst 1, 1) := by decide +kernel
theorem dX5_right_2 : decode cX5_right 2 = .ok (.ishr, 1) := by decide +kernel
theorem dX5_right_3 : decode cX5_right 3 = .ok (.iload_n 2, 1) := by decide +kernel
theorem dX5_right_4 : decode cX5_right 4 = .ok (.ior, 1) := by decide +kernel
theorem dX5_right_5 : decode cX5_right 5 = .ok (.istore_n 3, 1) := by decide +kernel
theorem dX5_right_6 : decode cX5_right 6 = .ok (.iload_n 1, 1) := by decide +kernel
theorem dX5_right_7 : decode cX5_right 7 = .ok (.iconst 1, 1) := by decide +kernel
theorem dX5_right_8 : decode cX5_right 8 = .ok (.iand, 1) := by decide +kernel
theorem dX5_right_9 : decode cX5_right 9 = .ok (.iconst 1, 1) := by decide +kernel
theorem dX5_right_10 : decode cX5_right 10 = .ok (.if_icmp .ne 7, 3) := by decide +kernel
theorem dX5_right_13 : decode cX5_right 13 = .ok (.iconst 1, 1) := by decide +kernel
theorem dX5_right_14 : decode cX5_right 14 = .ok (.goto 4, 3) := by decide +kernel
theorem dX5_right_17 : decode cX5_right 17 = .ok (.iconst 0, 1) := by decide +kernel
theorem dX5_right_18 : decode cX5_right 18 = .ok (.istore 4, 2) := by decide +kernel
theorem dX5_right_20 : decode cX5_right 20 = .ok (.aload_n 0, 1) := by decide +kernel
theorem dX5_right_21 : decode cX5_right 21 = .ok (.iconst 1, 1) := by decide +kernel
theorem dX5_right_22 : decode cX5_right 22 = .ok (.iload 4, 2) := by decide +kernel
theorem dX5_right_24 : decode cX5_right 24 = .ok (.invokevirtual 74, 3) := by decide +kernel
theorem dX5_right_27 : decode cX5_right 27 = .ok (.aload_n 0, 1) := by decide +kernel
theorem dX5_right_28 : decode cX5_right 28 = .ok (.iload_n 3, 1) := by decide +kernel
theorem dX5_right_29 : decode cX5_right 29 = .ok (.iload_n 3, 1) := by decide +kernel
theorem dX5_right_30 : decode cX5_right 30 = .ok (.bipush 127, 2) := by decide +kernel
theorem dX5_right_32 : decode cX5_right 32 = .ok (.if_icmp .le 7, 3) := by decide +kernel
theorem dX5_right_35 : decode cX5_right 35 = .ok (.iconst 1, 1) := by decide +kernel
theorem dX5_right_36 : decode cX5_right 36 = .ok (.goto 4, 3) := by decide +kernel
theorem dX5_right_39 : decode cX5_right 39 = .ok (.iconst 0, 1) := by decide +kernel
theorem dX5_right_40 : decode cX5_right 40 = .ok (.iload 4, 2) := by decide +kernel
theorem dX5_right_42 : decode cX5_right 42 = .ok (.if_icmp .eq 7, 3) := by decide +kernel
theorem dX5_right_45 : decode cX5_right 45 = .ok (.iconst 1, 1) := by decide +kernel
theorem dX5_right_46 : decode cX5_right 46 = .ok (.goto 4, 3) := by decide +kernel
theorem dX5_right_49 : decode cX5_right 49 = .ok (.iconst 0, 1) := by decide +kernel
theorem dX5_right_50 : decode cX5_right 50 = .ok (.invokevirtual 78, 3) := by decide +kernel
theorem dX5_right_53 : decode cX5_right 53 = .ok (.iload_n 3, 1) := by decide +kernel
theorem dX5_right_54 : decode cX5_right 54 = .ok (.ireturn, 1) := by decide +kernel
set_option maxRecDepth 20000 in
theorem ggX5_ofOne_X5_dOf : GoodIn wsX5_ofOne wsX5_dOf := goodIn_r _ [5] (by decide +kernel) (by decide +kernel)
set_option maxRecDepth 20000 in
theorem gX5_ofOne_X5_dOf : GoodIn wsX5_ofOne (va_wsS RX5 53 yX5_dOf wsX5_dOf) := goodIn_app (goodIn_of _ (by decide +kernel)) ggX5_ofOne_X5_dOf
set_option maxRecDepth 20000 in
theorem ggX5_ofOne_X5_logic : GoodIn wsX5_ofOne wsX5_logic := goodIn_r _ [9, 10, 11, 12, 4, 13, 14, 15, 16, 17, 1, 34, 35, 36, 37, 38, 39, 40, 41] (by decide +kernel) (by decide +kernel)
set_option maxRecDepth 20000 in
theorem gX5_ofOne_X5_logic : GoodIn wsX5_ofOne (wsV RX5 103 RX5 yX5_logic wsX5_logic) := goodIn_app (goodIn_of _ (by decide +kernel)) ggX5_ofOne_X5_logic
set_option maxRecDepth 20000 in
theorem ggX5_ofOne_X5_flag : GoodIn wsX5_ofOne wsX5_flag := goodIn_r _ [17, 1, 34, 35, 36, 37, 38, 39, 40, 41] (by decide +kernel) (by decide +kernel)
set_option maxRecDepth 20000 in
theorem gX5_ofOne_X5_flag : GoodIn wsX5_ofOne (wsV RX5 74 RX5 yX5_flag wsX5_flag) := goodIn_app (goodIn_of _ (by decide +kernel)) ggX5_ofOne_X5_flag
set_option maxRecDepth 20000 in
theorem ggX5_ofOne_X5_subtract : GoodIn wsX5_ofOne wsX5_subtract := goodIn_r _ [21, 22, 23, 24, 4, 25, 1, 14, 15, 16, 17, 10, 11, 12, 13, 34, 35, 36, 37, 38, 39, 40, 41] (by decide +kernel) (by decide +kernel)
set_option maxRecDepth 20000 in
theorem gX5_ofOne_X5_subtract : GoodIn wsX5_ofOne (wsV RX5 91 RX5 yX5_subtract wsX5_subtract) := goodIn_app (goodIn_of _ (by decide +kernel)) ggX5_ofOne_X5_subtract
set_option maxRecDepth 20000 in
theorem ggX5_ofOne_X5_signs : GoodIn wsX5_ofOne wsX5_signs := goodIn_r _ [13, 14, 15, 16, 4, 17, 1, 34, 35, 36, 37, 38, 39, 40, 41] (by decide +kernel) (by decide +kernel)
set_option maxRecDepth 20000 in
theorem gX5_ofOne_X5_signs : GoodIn wsX5_ofOne (wsV RX5 78 RX5 yX5_signs wsX5_signs) := goodIn_app (goodIn_of _ (by decide +kernel)) ggX5_ofOne_X5_signs
set_option maxRecDepth 20000 in
theorem ggX5_ofOne_X5_right : GoodIn wsX5_ofOne wsX5_right := goodIn_r _ [29, 14, 15, 16, 4, 17, 1, 10, 11, 12, 13, 34, 35, 36, 37, 38, 39, 40, 41] (by decide +kernel) (by decide +kernel)
set_option maxRecDepth 20000 in
theorem gX5_ofOne_X5_right : GoodIn wsX5_ofOne (wsV RX5 116 RX5 yX5_right wsX5_right) := goodIn_app (goodIn_of _ (by decide +kernel)) ggX5_ofOne_X5_right
set_option maxRecDepth 20000 in
theorem ggX5_ofOne_X5_carry : GoodIn wsX5_ofOne wsX5_carry := goodIn_r _ [33, 22, 23, 24, 4, 25, 1, 34, 35, 36, 37, 38, 39, 40, 41] (by decide +kernel) (by decide +kernel)
set_option maxRecDepth 20000 in
theorem gX5_ofOne_X5_carry : GoodIn wsX5_ofOne (wsV RX5 87 RX5 yX5_carry wsX5_carry) := goodIn_app (goodIn_of _ (by decide +kernel)) ggX5_ofOne_X5_carry
theorem dX5_ofOne_0 : decode cX5_ofOne 0 = .ok (.iload_n 1, 1) := by decide +kernel
theorem dX5_ofOne_1 : decode cX5_ofOne 1 = .ok (.invokestatic 53, 3) := by decide +kernel
theorem dX5_ofOne_4 : decode cX5_ofOne 4 = .ok (.istore_n 2, 1) := by decide +kernel
theorem dX5_ofOne_5 : decode cX5_ofOne 5 = .ok (.aload_n 0, 1) := by decide +kernel
theorem dX5_ofOne_6 : decode cX5_ofOne 6 = .ok (.getfield 13, 3) := by decide +kernel
theorem dX5_ofOne_9 : decode cX5_ofOne 9 = .ok (.iload_n 2, 1) := by decide +kernel
theorem dX5_ofOne_10 : decode cX5_ofOne 10 = .ok (.iaload, 1) := by decide +kernel
theorem dX5_ofOne_11 : decode cX5_ofOne 11 = .ok (.istore_n 3, 1) := by decide +kernel
theorem dX5_ofOne_12 : decode cX5_ofOne 12 = .ok (.iload_n 3, 1) := by decide +kernel
theorem dX5_ofOne_13 : decode cX5_ofOne 13 = .ok (.istore 4, 2) := by decide +kernel
theorem dX5_ofOne_15 : decode cX5_ofOne 15 = .ok (.iload_n 1, 1) := by decide +kernel
theorem dX5_ofOne_16 : decode cX5_ofOne 16 = .ok (.bipush 15, 2) := by decide +kernel
theorem dX5_ofOne_18 : decode cX5_ofOne 18 = .ok (.iand, 1) := by decide +kernel
theorem dX5_ofOne_19 : decode cX5_ofOne 19 = .ok (.tableswitch 168 0 7 #[45, 65, 78, 94, 168, 125, 140, 151], 45) := by decide +kernel
theorem dX5_ofOne_64 : decode cX5_ofOne 64 = .ok (.aload_n 0, 1) := by decide +kernel
theorem dX5_ofOne_65 : decode cX5_ofOne 65 = .ok (.sipush 255, 3) := by decide +kernel
theorem dX5_ofOne_68 : decode cX5_ofOne 68 = .ok (.iload_n 3, 1) := by decide +kernel
theorem dX5_ofOne_69 : decode cX5_ofOne 69 = .ok (.isub, 1) := by decide +kernel
theorem dX5_ofOne_70 : decode cX5_ofOne 70 = .ok (.invokevirtual 103, 3) := by decide +kernel
theorem dX5_ofOne_73 : decode cX5_ofOne 73 = .ok (.istore 4, 2) := by decide +kernel
theorem dX5_ofOne_75 : decode cX5_ofOne 75 = .ok (.aload_n 0, 1) := by decide +kernel
theorem dX5_ofOne_76 : decode cX5_ofOne 76 = .ok (.iconst 1, 1) := by decide +kernel
theorem dX5_ofOne_77 : decode cX5_ofOne 77 = .ok (.iconst 1, 1) := by decide +kernel
theorem dX5_ofOne_78 : decode cX5_ofOne 78 = .ok (.invokevirtual 74, 3) := by decide +kernel
theorem dX5_ofOne_81 : decode cX5_ofOne 81 = .ok (.goto 133, 3) := by decide +kernel
theorem dX5_ofOne_84 : decode cX5_ofOne 84 = .ok (.aload_n 0, 1) := by decide +kernel
theorem dX5_ofOne_85 : decode cX5_ofOne 85 = .ok (.iconst 0, 1) := by decide +kernel
theorem dX5_ofOne_86 : decode cX5_ofOne 86 = .ok (.iload_n 3, 1) := by decide +kernel
theorem dX5_ofOne_87 : decode cX5_ofOne 87 = .ok (.iconst 0, 1) := by decide +kernel
theorem dX5_ofOne_88 : decode cX5_ofOne 88 = .ok (.iconst 0, 1) := by decide +kernel
theorem dX5_ofOne_89 : decode cX5_ofOne 89 = .ok (.invokevirtual 91, 3) := by decide +kernel
theorem dX5_ofOne_92 : decode cX5_ofOne 92 = .ok (.istore 4, 2) := by decide +kernel
theorem dX5_ofOne_94 : decode cX5_ofOne 94 = .ok (.goto 120, 3) := by decide +kernel
theorem dX5_ofOne_97 : decode cX5_ofOne 97 = .ok (.iload_n 3, 1) := by decide +kernel
theorem dX5_ofOne_98 : decode cX5_ofOne 98 = .ok (.iconst 4, 1) := by decide +kernel
theorem dX5_ofOne_99 : decode cX5_ofOne 99 = .ok (.ishr, 1) := by decide +kernel
theorem dX5_ofOne_100 : decode cX5_ofOne 100 = .ok (.iload_n 3, 1) := by decide +kernel
theorem dX5_ofOne_101 : decode cX5_ofOne 101 = .ok (.iconst 4, 1) := by decide +kernel
theorem dX5_ofOne_102 : decode cX5_ofOne 102 = .ok (.ishl, 1) := by decide +kernel
theorem dX5_ofOne_103 : decode cX5_ofOne 103 = .ok (.sipush 240, 3) := by decide +kernel
theorem dX5_ofOne_106 : decode cX5_ofOne 106 = .ok (.iand, 1) := by decide +kernel
theorem dX5_ofOne_107 : decode cX5_ofOne 107 = .ok (.ior, 1) := by decide +kernel
theorem dX5_ofOne_108 : decode cX5_ofOne 108 = .ok (.istore 4, 2) := by decide +kernel
theorem dX5_ofOne_110 : decode cX5_ofOne 110 = .ok (.goto 104, 3) := by decide +kernel
theorem dX5_ofOne_113 : decode cX5_ofOne 113 = .ok (.iload_n 3, 1) := by decide +kernel
theorem dX5_ofOne_114 : decode cX5_ofOne 114 = .ok (.iconst 1, 1) := by decide +kernel
theorem dX5_ofOne_115 : decode cX5_ofOne 115 = .ok (.iadd, 1) := by decide +kernel
theorem dX5_ofOne_116 : decode cX5_ofOne 116 = .ok (.sipush 255, 3) := by decide +kernel
theorem dX5_ofOne_119 : decode cX5_ofOne 119 = .ok (.iand, 1) := by decide +kernel
theorem dX5_ofOne_120 : decode cX5_ofOne 120 = .ok (.istore 4, 2) := by decide +kernel
theorem dX5_ofOne_122 : decode cX5_ofOne 122 = .ok (.aload_n 0, 1) := by decide +kernel
theorem dX5_ofOne_123 : decode cX5_ofOne 123 = .ok (.iload 4, 2) := by decide +kernel
theorem dX5_ofOne_125 : decode cX5_ofOne 125 = .ok (.iload 4, 2) := by decide +kernel
theorem dX5_ofOne_127 : decode cX5_ofOne 127 = .ok (.sipush 128, 3) := by decide +kernel
theorem dX5_ofOne_130 : decode cX5_ofOne 130 = .ok (.if_icmp .ne 7, 3) := by decide +kernel
theorem dX5_ofOne_133 : decode cX5_ofOne 133 = .ok (.iconst 1, 1) := by decide +kernel
theorem dX5_ofOne_134 : decode cX5_ofOne 134 = .ok (.goto 4, 3) := by decide +kernel
theorem dX5_ofOne_137 : decode cX5_ofOne 137 = .ok (.iconst 0, 1) := by decide +kernel
theorem dX5_ofOne_138 : decode cX5_ofOne 138 = .ok (.invokevirtual 78, 3) := by decide +kernel
theorem dX5_ofOne_141 : decode cX5_ofOne 141 = .ok (.goto 73, 3) := by decide +kernel
theorem dX5_ofOne_144 : decode cX5_ofOne 144 = .ok (.aload_n 0, 1) := by decide +kernel
theorem dX5_ofOne_145 : decode cX5_ofOne 145 = .ok (.iload_n 3, 1) := by decide +kernel
theorem dX5_ofOne_146 : decode cX5_ofOne 146 = .ok (.iload_n 3, 1) := by decide +kernel
theorem dX5_ofOne_147 : decode cX5_ofOne 147 = .ok (.sipush 128, 3) := by decide +kernel
theorem dX5_ofOne_150 : decode cX5_ofOne 150 = .ok (.iand, 1) := by decide +kernel
theorem dX5_ofOne_151 : decode cX5_ofOne 151 = .ok (.invokevirtual 116, 3) := by decide +kernel
theorem dX5_ofOne_154 : decode cX5_ofOne 154 = .ok (.istore 4, 2) := by decide +kernel
theorem dX5_ofOne_156 : decode cX5_ofOne 156 = .ok (.goto 58, 3) := by decide +kernel
theorem dX5_ofOne_159 : decode cX5_ofOne 159 = .ok (.aload_n 0, 1) := by decide +kernel
theorem dX5_ofOne_160 : decode cX5_ofOne 160 = .ok (.iload_n 3, 1) := by decide +kernel
theorem dX5_ofOne_161 : decode cX5_ofOne 161 = .ok (.iconst 0, 1) := by decide +kernel
theorem dX5_ofOne_162 : decode cX5_ofOne 162 = .ok (.invokevirtual 116, 3) := by decide +kernel
theorem dX5_ofOne_165 : decode cX5_ofOne 165 = .ok (.istore 4, 2) := by decide +kernel
theorem dX5_ofOne_167 : decode cX5_ofOne 167 = .ok (.goto 47, 3) := by decide +kernel
theorem dX5_ofOne_170 : decode cX5_ofOne 170 = .ok (.aload_n 0, 1) := by decide +kernel
theorem dX5_ofOne_171 : decode cX5_ofOne 171 = .ok (.iload_n 3, 1) := by decide +kernel
theorem dX5_ofOne_172 : decode cX5_ofOne 172 = .ok (.aload_n 0, 1) := by decide +kernel
theorem dX5_ofOne_173 : decode cX5_ofOne 173 = .ok (.invokevirtual 87, 3) := by decide +kernel
theorem dX5_ofOne_176 : decode cX5_ofOne 176 = .ok (.bipush 7, 2) := by decide +kernel
theorem dX5_ofOne_178 : decode cX5_ofOne 178 = .ok (.ishl, 1) := by decide +kernel
theorem dX5_ofOne_179 : decode cX5_ofOne 179 = .ok (.invokevirtual 116, 3) := by decide +kernel
theorem dX5_ofOne_182 : decode cX5_ofOne 182 = .ok (.istore 4, 2) := by decide +kernel
theorem dX5_ofOne_184 : decode cX5_ofOne 184 = .ok (.goto 30, 3) := by decide +kernel
theorem dX5_ofOne_187 : decode cX5_ofOne 187 = .ok (.iload_n 3, 1) := by decide +kernel
theorem dX5_ofOne_188 : decode cX5_ofOne 188 = .ok (.iconst 1, 1) := by decide +kernel
theorem dX5_ofOne_189 : decode cX5_ofOne 189 = .ok (.isub, 1) := by decide +kernel
theorem dX5_ofOne_190 : decode cX5_ofOne 190 = .ok (.sipush 255, 3) := by decide +kernel
theorem dX5_ofOne_193 : decode cX5_ofOne 193 = .ok (.iand, 1) := by decide +kernel
theorem dX5_ofOne_194 : decode cX5_ofOne 194 = .ok (.istore 4, 2) := by decide +kernel
theorem dX5_ofOne_196 : decode cX5_ofOne 196 = .ok (.aload_n 0, 1) := by decide +kernel
theorem dX5_ofOne_197 : decode cX5_ofOne 197 = .ok (.iload 4, 2) := by decide +kernel
theorem dX5_ofOne_199 : decode cX5_ofOne 199 = .ok (.iload 4, 2) := by decide +kernel
theorem dX5_ofOne_201 : decode cX5_ofOne 201 = .ok (.bipush 127, 2) := by decide +kernel
theorem dX5_ofOne_203 : decode cX5_ofOne 203 = .ok (.if_icmp .ne 7, 3) := by decide +kernel
theorem dX5_ofOne_206 : decode cX5_ofOne 206 = .ok (.iconst 1, 1) := by decide +kernel
theorem dX5_ofOne_207 : decode cX5_ofOne 207 = .ok (.goto 4, 3) := by decide +kernel
theorem dX5_ofOne_210 : decode cX5_ofOne 210 = .ok (.iconst 0, 1) := by decide +kernel
theorem dX5_ofOne_211 : decode cX5_ofOne 211 = .ok (.invokevirtual 78, 3) := by decide +kernel
theorem dX5_ofOne_214 : decode cX5_ofOne 214 = .ok (.aload_n 0, 1) := by decide +kernel
theorem dX5_ofOne_215 : decode cX5_ofOne 215 = .ok (.getfield 13, 3) := by decide +kernel
theorem dX5_ofOne_218 : decode cX5_ofOne 218 = .ok (.iload_n 2, 1) := by decide +kernel
theorem dX5_ofOne_219 : decode cX5_ofOne 219 = .ok (.iload 4, 2) := by decide +kernel
theorem dX5_ofOne_221 : decode cX5_ofOne 221 = .ok (.iastore, 1) := by decide +kernel
theorem dX5_ofOne_222 : decode cX5_ofOne 222 = .ok (.return_, 1) := by decide +kernel
set_option maxRecDepth 20000 in
theorem ggX5_ofPair_X5_pair : GoodIn wsX5_ofPair wsX5_pair := goodIn_r _ [7, 8, 17, 18, 19, 20, 21, 22, 23, 24] (by decide +kernel) (by decide +kernel)
set_option maxRecDepth 20000 in
theorem gX5_ofPair_X5_pair : GoodIn wsX5_ofPair (wsV RX5 28 RX5 yX5_pair wsX5_pair) := goodIn_app (goodIn_of _ (by decide +kernel)) ggX5_ofPair_X5_pair
set_option maxRecDepth 20000 in
theorem ggX5_ofPair_X5_setPair : GoodIn wsX5_ofPair wsX5_setPair := goodIn_r _ [12, 8, 17, 18, 19, 20, 21, 22, 23, 24] (by decide +kernel) (by decide +kernel)
set_option maxRecDepth 20000 in
theorem gX5_ofPair_X5_setPair : GoodIn wsX5_ofPair (wsV RX5 106 RX5 yX5_setPair wsX5_setPair) := goodIn_app (goodIn_of _ (by decide +kernel)) ggX5_ofPair_X5_setPair
set_option maxRecDepth 20000 in
theorem ggX5_ofPair_X5_flag : GoodIn wsX5_ofPair wsX5_flag := goodIn_r _ [16, 8, 17, 18, 19, 20, 21, 22, 23, 24] (by decide +kernel) (by decide +kernel)
set_option maxRecDepth 20000 in
theorem gX5_ofPair_X5_flag : GoodIn wsX5_ofPair (wsV RX5 74 RX5 yX5_flag wsX5_flag) := goodIn_app (goodIn_of _ (by decide +kernel)) ggX5_ofPair_X5_flag
theorem dX5_ofPair_0 : decode cX5_ofPair 0 = .ok (.bipush 24, 2) := by decide +kernel
theorem dX5_ofPair_2 : decode cX5_ofPair 2 = .ok (.iconst 2, 1) := by decide +kernel
theorem dX5_ofPair_3 : decode cX5_ofPair 3 = .ok (.iload_n 1, 1) := by decide +kernel
theorem dX5_ofPair_4 : decode cX5_ofPair 4 = .ok (.iconst 4, 1) := by decide +kernel
theorem dX5_ofPair_5 : decode cX5_ofPair 5 = .ok (.ishr, 1) := by decide +kernel
theorem dX5_ofPair_6 : decode cX5_ofPair 6 = .ok (.iconst 3, 1) := by decide +kernel
theorem dX5_ofPair_7 : decode cX5_ofPair 7 = .ok (.iand, 1) := by decide +kernel
theorem dX5_ofPair_8 : decode cX5_ofPair 8 = .ok (.imul, 1) := by decide +kernel
theorem dX5_ofPair_9 : decode cX5_ofPair 9 = .ok (.iadd, 1) := by decide +kernel
theorem dX5_ofPair_10 : decode cX5_ofPair 10 = .ok (.istore_n 2, 1) := by decide +kernel
theorem dX5_ofPair_11 : decode cX5_ofPair 11 = .ok (.iload_n 1, 1) := by decide +kernel
theorem dX5_ofPair_12 : decode cX5_ofPair 12 = .ok (.iconst 2, 1) := by decide +kernel
theorem dX5_ofPair_13 : decode cX5_ofPair 13 = .ok (.ishr, 1) := by decide +kernel
theorem dX5_ofPair_14 : decode cX5_ofPair 14 = .ok (.bipush 48, 2) := by decide +kernel
theorem dX5_ofPair_16 : decode cX5_ofPair 16 = .ok (.iand, 1) := by decide +kernel
theorem dX5_ofPair_17 : decode cX5_ofPair 17 = .ok (.iload_n 1, 1) := by decide +kernel
theorem dX5_ofPair_18 : decode cX5_ofPair 18 = .ok (.bipush 15, 2) := by decide +kernel
theorem dX5_ofPair_20 : decode cX5_ofPair 20 = .ok (.iand, 1) := by decide +kernel
theorem dX5_ofPair_21 : decode cX5_ofPair 21 = .ok (.ior, 1) := by decide +kernel
theorem dX5_ofPair_22 : decode cX5_ofPair 22 = .ok (.istore_n 3, 1) := by decide +kernel
theorem dX5_ofPair_23 : decode cX5_ofPair 23 = .ok (.aload_n 0, 1) := by decide +kernel
theorem dX5_ofPair_24 : decode cX5_ofPair 24 = .ok (.iload_n 2, 1) := by decide +kernel
theorem dX5_ofPair_25 : decode cX5_ofPair 25 = .ok (.invokevirtual 28, 3) := by decide +kernel
theorem dX5_ofPair_28 : decode cX5_ofPair 28 = .ok (.istore 4, 2) := by decide +kernel
theorem dX5_ofPair_30 : decode cX5_ofPair 30 = .ok (.iload_n 1, 1) := by decide +kernel
theorem dX5_ofPair_31 : decode cX5_ofPair 31 = .ok (.sipush 256, 3) := by decide +kernel
theorem dX5_ofPair_34 : decode cX5_ofPair 34 = .ok (.iand, 1) := by decide +kernel
theorem dX5_ofPair_35 : decode cX5_ofPair 35 = .ok (.ifCond .eq 7, 3) := by decide +kernel
theorem dX5_ofPair_38 : decode cX5_ofPair 38 = .ok (.iconst 1, 1) := by decide +kernel
theorem dX5_ofPair_39 : decode cX5_ofPair 39 = .ok (.goto 4, 3) := by decide +kernel
theorem dX5_ofPair_42 : decode cX5_ofPair 42 = .ok (.iconst 0, 1) := by decide +kernel
theorem dX5_ofPair_43 : decode cX5_ofPair 43 = .ok (.istore 5, 2) := by decide +kernel
theorem dX5_ofPair_45 : decode cX5_ofPair 45 = .ok (.iload 5, 2) := by decide +kernel
theorem dX5_ofPair_47 : decode cX5_ofPair 47 = .ok (.ifCond .eq 10, 3) := by decide +kernel
theorem dX5_ofPair_50 : decode cX5_ofPair 50 = .ok (.iload 4, 2) := by decide +kernel
theorem dX5_ofPair_52 : decode cX5_ofPair 52 = .ok (.iload_n 3, 1) := by decide +kernel
theorem dX5_ofPair_53 : decode cX5_ofPair 53 = .ok (.isub, 1) := by decide +kernel
theorem dX5_ofPair_54 : decode cX5_ofPair 54 = .ok (.goto 7, 3) := by decide +kernel
theorem dX5_ofPair_57 : decode cX5_ofPair 57 = .ok (.iload 4, 2) := by decide +kernel
theorem dX5_ofPair_59 : decode cX5_ofPair 59 = .ok (.iload_n 3, 1) := by decide +kernel
theorem dX5_ofPair_60 : decode cX5_ofPair 60 = .ok (.iadd, 1) := by decide +kernel
theorem dX5_ofPair_61 : decode cX5_ofPair 61 = .ok (.ldc 27, 2) := by decide +kernel
theorem dX5_ofPair_63 : decode cX5_ofPair 63 = .ok (.iand, 1) := by decide +kernel
theorem dX5_ofPair_64 : decode cX5_ofPair 64 = .ok (.istore 6, 2) := by decide +kernel
theorem dX5_ofPair_66 : decode cX5_ofPair 66 = .ok (.iload 4, 2) := by decide +kernel
theorem dX5_ofPair_68 : decode cX5_ofPair 68 = .ok (.ldc 120, 2) := by decide +kernel
theorem dX5_ofPair_70 : decode cX5_ofPair 70 = .ok (.if_icmp .ge 15, 3) := by decide +kernel
theorem dX5_ofPair_73 : decode cX5_ofPair 73 = .ok (.iload 6, 2) := by decide +kernel
theorem dX5_ofPair_75 : decode cX5_ofPair 75 = .ok (.sipush 32767, 3) := by decide +kernel
theorem dX5_ofPair_78 : decode cX5_ofPair 78 = .ok (.if_icmp .le 7, 3) := by decide +kernel
theorem dX5_ofPair_81 : decode cX5_ofPair 81 = .ok (.iconst 1, 1) := by decide +kernel
theorem dX5_ofPair_82 : decode cX5_ofPair 82 = .ok (.goto 4, 3) := by decide +kernel
theorem dX5_ofPair_85 : decode cX5_ofPair 85 = .ok (.iconst 0, 1) := by decide +kernel
theorem dX5_ofPair_86 : decode cX5_ofPair 86 = .ok (.istore 7, 2) := by decide +kernel
theorem dX5_ofPair_88 : decode cX5_ofPair 88 = .ok (.iload 4, 2) := by decide +kernel
theorem dX5_ofPair_90 : decode cX5_ofPair 90 = .ok (.sipush 32767, 3) := by decide +kernel
theorem dX5_ofPair_93 : decode cX5_ofPair 93 = .ok (.if_icmp .le 14, 3) := by decide +kernel
theorem dX5_ofPair_96 : decode cX5_ofPair 96 = .ok (.iload 6, 2) := by decide +kernel
theorem dX5_ofPair_98 : decode cX5_ofPair 98 = .ok (.ldc 120, 2) := by decide +kernel
theorem dX5_ofPair_100 : decode cX5_ofPair 100 = .ok (.if_icmp .ge 7, 3) := by decide +kernel
theorem dX5_ofPair_103 : decode cX5_ofPair 103 = .ok (.iconst 1, 1) := by decide +kernel
theorem dX5_ofPair_104 : decode cX5_ofPair 104 = .ok (.goto 4, 3) := by decide +kernel
theorem dX5_ofPair_107 : decode cX5_ofPair 107 = .ok (.iconst 0, 1) := by decide +kernel
theorem dX5_ofPair_108 : decode cX5_ofPair 108 = .ok (.istore 8, 2) := by decide +kernel
theorem dX5_ofPair_110 : decode cX5_ofPair 110 = .ok (.aload_n 0, 1) := by decide +kernel
theorem dX5_ofPair_111 : decode cX5_ofPair 111 = .ok (.iload_n 2, 1) := by decide +kernel
theorem dX5_ofPair_112 : decode cX5_ofPair 112 = .ok (.iload 6, 2) := by decide +kernel
theorem dX5_ofPair_114 : decode cX5_ofPair 114 = .ok (.invokevirtual 106, 3) := by decide +kernel
theorem dX5_ofPair_117 : decode cX5_ofPair 117 = .ok (.aload_n 0, 1) := by decide +kernel
theorem dX5_ofPair_118 : decode cX5_ofPair 118 = .ok (.iconst 2, 1) := by decide +kernel
theorem dX5_ofPair_119 : decode cX5_ofPair 119 = .ok (.iload 6, 2) := by decide +kernel
theorem dX5_ofPair_121 : decode cX5_ofPair 121 = .ok (.ifCond .ne 7, 3) := by decide +kernel
theorem dX5_ofPair_124 : decode cX5_ofPair 124 = .ok (.iconst 1, 1) := by decide +kernel
theorem dX5_ofPair_125 : decode cX5_ofPair 125 = .ok (.goto 4, 3) := by decide +kernel
theorem dX5_ofPair_128 : decode cX5_ofPair 128 = .ok (.iconst 0, 1) := by decide +kernel
theorem dX5_ofPair_129 : decode cX5_ofPair 129 = .ok (.invokevirtual 74, 3) := by decide +kernel
theorem dX5_ofPair_132 : decode cX5_ofPair 132 = .ok (.aload_n 0, 1) := by decide +kernel
theorem dX5_ofPair_133 : decode cX5_ofPair 133 = .ok (.iconst 4, 1) := by decide +kernel
theorem dX5_ofPair_134 : decode cX5_ofPair 134 = .ok (.iload 6, 2) := by decide +kernel
theorem dX5_ofPair_136 : decode cX5_ofPair 136 = .ok (.sipush 32767, 3) := by decide +kernel
theorem dX5_ofPair_139 : decode cX5_ofPair 139 = .ok (.if_icmp .le 7, 3) := by decide +kernel
theorem dX5_ofPair_142 : decode cX5_ofPair 142 = .ok (.iconst 1, 1) := by decide +kernel
theorem dX5_ofPair_143 : decode cX5_ofPair 143 = .ok (.goto 4, 3) := by decide +kernel
theorem dX5_ofPair_146 : decode cX5_ofPair 146 = .ok (.iconst 0, 1) := by decide +kernel
theorem dX5_ofPair_147 : decode cX5_ofPair 147 = .ok (.invokevirtual 74, 3) := by decide +kernel
theorem dX5_ofPair_150 : decode cX5_ofPair 150 = .ok (.aload_n 0, 1) := by decide +kernel
theorem dX5_ofPair_151 : decode cX5_ofPair 151 = .ok (.bipush 8, 2) := by decide +kernel
theorem dX5_ofPair_153 : decode cX5_ofPair 153 = .ok (.iload 5, 2) := by decide +kernel
theorem dX5_ofPair_155 : decode cX5_ofPair 155 = .ok (.ifCond .eq 8, 3) := by decide +kernel
theorem dX5_ofPair_158 : decode cX5_ofPair 158 = .ok (.iload 8, 2) := by decide +kernel
theorem dX5_ofPair_160 : decode cX5_ofPair 160 = .ok (.goto 5, 3) := by decide +kernel
theorem dX5_ofPair_163 : decode cX5_ofPair 163 = .ok (.iload 7, 2) := by decide +kernel
theorem dX5_ofPair_165 : decode cX5_ofPair 165 = .ok (.invokevirtual 74, 3) := by decide +kernel
theorem dX5_ofPair_168 : decode cX5_ofPair 168 = .ok (.aload_n 0, 1) := by decide +kernel
theorem dX5_ofPair_169 : decode cX5_ofPair 169 = .ok (.iconst 1, 1) := by decide +kernel
theorem dX5_ofPair_170 : decode cX5_ofPair 170 = .ok (.iload 5, 2) := by decide +kernel
theorem dX5_ofPair_172 : decode cX5_ofPair 172 = .ok (.ifCond .eq 8, 3) := by decide +kernel
theorem dX5_ofPair_175 : decode cX5_ofPair 175 = .ok (.iload 7, 2) := by decide +kernel
theorem dX5_ofPair_177 : decode cX5_ofPair 177 = .ok (.goto 5, 3) := by decide +kernel
theorem dX5_ofPair_180 : decode cX5_ofPair 180 = .ok (.iload 8, 2) := by decide +kernel
theorem dX5_ofPair_182 : decode cX5_ofPair 182 = .ok (.invokevirtual 74, 3) := by decide +kernel
theorem dX5_ofPair_185 : decode cX5_ofPair 185 = .ok (.aload_n 0, 1) := by decide +kernel
theorem dX5_ofPair_186 : decode cX5_ofPair 186 = .ok (.bipush 16, 2) := by decide +kernel
theorem dX5_ofPair_188 : decode cX5_ofPair 188 = .ok (.iload 6, 2) := by decide +kernel
theorem dX5_ofPair_190 : decode cX5_ofPair 190 = .ok (.sipush 32767, 3) := by decide +kernel
theorem dX5_ofPair_193 : decode cX5_ofPair 193 = .ok (.if_icmp .le 7, 3) := by decide +kernel
theorem dX5_ofPair_196 : decode cX5_ofPair 196 = .ok (.iconst 1, 1) := by decide +kernel
theorem dX5_ofPair_197 : decode cX5_ofPair 197 = .ok (.goto 4, 3) := by decide +kernel
theorem dX5_ofPair_200 : decode cX5_ofPair 200 = .ok (.iconst 0, 1) := by decide +kernel
theorem dX5_ofPair_201 : decode cX5_ofPair 201 = .ok (.iload 5, 2) := by decide +kernel
theorem dX5_ofPair_203 : decode cX5_ofPair 203 = .ok (.ifCond .eq 8, 3) := by decide +kernel
theorem dX5_ofPair_206 : decode cX5_ofPair 206 = .ok (.iload 8, 2) := by decide +kernel
theorem dX5_ofPair_208 : decode cX5_ofPair 208 = .ok (.goto 5, 3) := by decide +kernel
theorem dX5_ofPair_211 : decode cX5_ofPair 211 = .ok (.iload 7, 2) := by decide +kernel
theorem dX5_ofPair_213 : decode cX5_ofPair 213 = .ok (.if_icmp .eq 7, 3) := by decide +kernel
theorem dX5_ofPair_216 : decode cX5_ofPair 216 = .ok (.iconst 1, 1) := by decide +kernel
theorem dX5_ofPair_217 : decode cX5_ofPair 217 = .ok (.goto 4, 3) := by decide +kernel
theorem dX5_ofPair_220 : decode cX5_ofPair 220 = .ok (.iconst 0, 1) := by decide +kernel
theorem dX5_ofPair_221 : decode cX5_ofPair 221 = .ok (.invokevirtual 74, 3) := by decide +kernel
theorem dX5_ofPair_224 : decode cX5_ofPair 224 = .ok (.return_, 1) := by decide +kernel
theorem dX5_isFar_0 : decode cX5_isFar 0 = .ok (.iload_n 0, 1) := by decide +kernel
theorem dX5_isFar_1 : decode cX5_isFar 1 = .ok (.sipush 1023, 3) := by decide +kernel
theorem dX5_isFar_4 : decode cX5_isFar 4 = .ok (.if_icmp .le 7, 3) := by decide +kernel
theorem dX5_isFar_7 : decode cX5_isFar 7 = .ok (.iconst 1, 1) := by decide +kernel
theorem dX5_isFar_8 : decode cX5_isFar 8 = .ok (.goto 4, 3) := by decide +kernel
theorem dX5_isFar_11 : decode cX5_isFar 11 = .ok (.iconst 0, 1) := by decide +kernel
theorem dX5_isFar_12 : decode cX5_isFar 12 = .ok (.ireturn, 1) := by decide +kernel
set_option maxRecDepth 20000 in
theorem ggX5_pushes_X5_pair : GoodIn wsX5_pushes wsX5_pair := goodIn_r _ [7, 1, 12, 13, 14, 15, 16, 17, 18, 19] (by decide +kernel) (by decide +kernel)
set_option maxRecDepth 20000 in
theorem gX5_pushes_X5_pair : GoodIn wsX5_pushes (wsV RX5 28 RX5 yX5_pair wsX5_pair) := goodIn_app (goodIn_of _ (by decide +kernel)) ggX5_pushes_X5_pair
set_option maxRecDepth 20000 in
theorem ggX5_pushes_X5_setPair : GoodIn wsX5_pushes wsX5_setPair := goodIn_r _ [11, 1, 12, 13, 14, 15, 16, 17, 18, 19] (by decide +kernel) (by decide +kernel)
set_option maxRecDepth 20000 in
theorem gX5_pushes_X5_setPair : GoodIn wsX5_pushes (wsV RX5 106 RX5 yX5_setPair wsX5_setPair) := goodIn_app (goodIn_of _ (by decide +kernel)) ggX5_pushes_X5_setPair
theorem dX5_pushes_0 : decode cX5_pushes 0 = .ok (.aload_n 0, 1) := by decide +kernel
theorem dX5_pushes_1 : decode cX5_pushes 1 = .ok (.bipush 93, 2) := by decide +kernel
theorem dX5_pushes_3 : decode cX5_pushes 3 = .ok (.invokevirtual 28, 3) := by decide +kernel
theorem dX5_pushes_6 : decode cX5_pushes 6 = .ok (.istore_n 2, 1) := by decide +kernel
theorem dX5_pushes_7 : decode cX5_pushes 7 = .ok (.aload_n 0, 1) := by decide +kernel
theorem dX5_pushes_8 : decode cX5_pushes 8 = .ok (.getfield 13, 3) := by decide +kernel
theorem dX5_pushes_11 : decode cX5_pushes 11 = .ok (.iload_n 2, 1) := by decide +kernel
theorem dX5_pushes_12 : decode cX5_pushes 12 = .ok (.iload_n 1, 1) := by decide +kernel
theorem dX5_pushes_13 : decode cX5_pushes 13 = .ok (.iastore, 1) := by decide +kernel
theorem dX5_pushes_14 : decode cX5_pushes 14 = .ok (.aload_n 0, 1) := by decide +kernel
theorem dX5_pushes_15 : decode cX5_pushes 15 = .ok (.bipush 93, 2) := by decide +kernel
theorem dX5_pushes_17 : decode cX5_pushes 17 = .ok (.iload_n 2, 1) := by decide +kernel
theorem dX5_pushes_18 : decode cX5_pushes 18 = .ok (.iconst 1, 1) := by decide +kernel
theorem dX5_pushes_19 : decode cX5_pushes 19 = .ok (.isub, 1) := by decide +kernel
theorem dX5_pushes_20 : decode cX5_pushes 20 = .ok (.ldc 27, 2) := by decide +kernel
theorem dX5_pushes_22 : decode cX5_pushes 22 = .ok (.iand, 1) := by decide +kernel
theorem dX5_pushes_23 : decode cX5_pushes 23 = .ok (.invokevirtual 106, 3) := by decide +kernel
theorem dX5_pushes_26 : decode cX5_pushes 26 = .ok (.return_, 1) := by decide +kernel
set_option maxRecDepth 20000 in
theorem ggX5_pops_X5_pair : GoodIn wsX5_pops wsX5_pair := goodIn_r _ [7, 2, 12, 13, 14, 15, 16, 17, 18, 19] (by decide +kernel) (by decide +kernel)
set_option maxRecDepth 20000 in
theorem gX5_pops_X5_pair : GoodIn wsX5_pops (wsV RX5 28 RX5 yX5_pair wsX5_pair) := goodIn_app (goodIn_of _ (by decide +kernel)) ggX5_pops_X5_pair
set_option maxRecDepth 20000 in
theorem ggX5_pops_X5_setPair : GoodIn wsX5_pops wsX5_setPair := goodIn_r _ [11, 2, 12, 13, 14, 15, 16, 17, 18, 19] (by decide +kernel) (by decide +kernel)
set_option maxRecDepth 20000 in
theorem gX5_pops_X5_setPair : GoodIn wsX5_pops (wsV RX5 106 RX5 yX5_setPair wsX5_setPair) := goodIn_app (goodIn_of _ (by decide +kernel)) ggX5_pops_X5_setPair
theorem dX5_pops_0 : decode cX5_pops 0 = .ok (.aload_n 0, 1) := by decide +kernel
theorem dX5_pops_1 : decode cX5_pops 1 = .ok (.bipush 93, 2) := by decide +kernel
theorem dX5_pops_3 : decode cX5_pops 3 = .ok (.invokevirtual 28, 3) := by decide +kernel
theorem dX5_pops_6 : decode cX5_pops 6 = .ok (.iconst 1, 1) := by decide +kernel
theorem dX5_pops_7 : decode cX5_pops 7 = .ok (.iadd, 1) := by decide +kernel
theorem dX5_pops_8 : decode cX5_pops 8 = .ok (.ldc 27, 2) := by decide +kernel
theorem dX5_pops_10 : decode cX5_pops 10 = .ok (.iand, 1) := by decide +kernel
theorem dX5_pops_11 : decode cX5_pops 11 = .ok (.istore_n 1, 1) := by decide +kernel
theorem dX5_pops_12 : decode cX5_pops 12 = .ok (.aload_n 0, 1) := by decide +kernel
theorem dX5_pops_13 : decode cX5_pops 13 = .ok (.bipush 93, 2) := by decide +kernel
theorem dX5_pops_15 : decode cX5_pops 15 = .ok (.iload_n 1, 1) := by decide +kernel
theorem dX5_pops_16 : decode cX5_pops 16 = .ok (.invokevirtual 106, 3) := by decide +kernel
theorem dX5_pops_19 : decode cX5_pops 19 = .ok (.aload_n 0, 1) := by decide +kernel
theorem dX5_pops_20 : decode cX5_pops 20 = .ok (.getfield 13, 3) := by decide +kernel
theorem dX5_pops_23 : decode cX5_pops 23 = .ok (.iload_n 1, 1) := by decide +kernel
theorem dX5_pops_24 : decode cX5_pops 24 = .ok (.iaload, 1) := by decide +kernel
theorem dX5_pops_25 : decode cX5_pops 25 = .ok (.ireturn, 1) := by decide +kernel
set_option maxRecDepth 20000 in
theorem ggX5_canCall_X5_pair : GoodIn wsX5_canCall wsX5_pair := goodIn_r _ [6, 7, 11, 12, 13, 14, 15, 16, 17, 18] (by decide +kernel) (by decide +kernel)
set_option maxRecDepth 20000 in
theorem gX5_canCall_X5_pair : GoodIn wsX5_canCall (wsV RX5 28 RX5 yX5_pair wsX5_pair) := goodIn_app (goodIn_of _ (by decide +kernel)) ggX5_canCall_X5_pair
set_option maxRecDepth 20000 in
theorem ggX5_canCall_X5_isFar : GoodIn wsX5_canCall wsX5_isFar := goodIn_r _ [10] (by decide +kernel) (by decide +kernel)
set_option maxRecDepth 20000 in
theorem gX5_canCall_X5_isFar : GoodIn wsX5_canCall (va_wsS RX5 121 yX5_isFar wsX5_isFar) := goodIn_app (goodIn_of _ (by decide +kernel)) ggX5_canCall_X5_isFar
theorem dX5_canCall_0 : decode cX5_canCall 0 = .ok (.aload_n 0, 1) := by decide +kernel
theorem dX5_canCall_1 : decode cX5_canCall 1 = .ok (.bipush 93, 2) := by decide +kernel
theorem dX5_canCall_3 : decode cX5_canCall 3 = .ok (.invokevirtual 28, 3) := by decide +kernel
theorem dX5_canCall_6 : decode cX5_canCall 6 = .ok (.istore_n 1, 1) := by decide +kernel
theorem dX5_canCall_7 : decode cX5_canCall 7 = .ok (.iload_n 1, 1) := by decide +kernel
theorem dX5_canCall_8 : decode cX5_canCall 8 = .ok (.invokestatic 121, 3) := by decide +kernel
theorem dX5_canCall_11 : decode cX5_canCall 11 = .ok (.ifCond .ne 19, 3) := by decide +kernel
theorem dX5_canCall_14 : decode cX5_canCall 14 = .ok (.iload_n 1, 1) := by decide +kernel
theorem dX5_canCall_15 : decode cX5_canCall 15 = .ok (.iconst 1, 1) := by decide +kernel
theorem dX5_canCall_16 : decode cX5_canCall 16 = .ok (.isub, 1) := by decide +kernel
theorem dX5_canCall_17 : decode cX5_canCall 17 = .ok (.ldc 27, 2) := by decide +kernel
theorem dX5_canCall_19 : decode cX5_canCall 19 = .ok (.iand, 1) := by decide +kernel
theorem dX5_canCall_20 : decode cX5_canCall 20 = .ok (.invokestatic 121, 3) := by decide +kernel
theorem dX5_canCall_23 : decode cX5_canCall 23 = .ok (.ifCond .ne 7, 3) := by decide +kernel
theorem dX5_canCall_26 : decode cX5_canCall 26 = .ok (.iconst 1, 1) := by decide +kernel
theorem dX5_canCall_27 : decode cX5_canCall 27 = .ok (.goto 4, 3) := by decide +kernel
theorem dX5_canCall_30 : decode cX5_canCall 30 = .ok (.iconst 0, 1) := by decide +kernel
theorem dX5_canCall_31 : decode cX5_canCall 31 = .ok (.ireturn, 1) := by decide +kernel
set_option maxRecDepth 20000 in
theorem ggX5_calls_X5_pushes : GoodIn wsX5_calls wsX5_pushes := goodIn_r _ [6, 7, 8, 9, 10, 11, 5, 12, 13, 14, 15, 16, 17, 18, 19, 20, 21, 22, 23, 24] (by decide +kernel) (by decide +kernel)
set_option maxRecDepth 20000 in
theorem gX5_calls_X5_pushes : GoodIn wsX5_calls (wsV RX5 124 RX5 yX5_pushes wsX5_pushes) := goodIn_app (goodIn_of _ (by decide +kernel)) ggX5_calls_X5_pushes
theorem dX5_calls_0 : decode cX5_calls 0 = .ok (.aload_n 0, 1) := by decide +kernel
theorem dX5_calls_1 : decode cX5_calls 1 = .ok (.iload_n 1, 1) := by decide +kernel
theorem dX5_calls_2 : decode cX5_calls 2 = .ok (.sipush 255, 3) := by decide +kernel
theorem dX5_calls_5 : decode cX5_calls 5 = .ok (.iand, 1) := by decide +kernel
theorem dX5_calls_6 : decode cX5_calls 6 = .ok (.invokevirtual 124, 3) := by decide +kernel
theorem dX5_calls_9 : decode cX5_calls 9 = .ok (.aload_n 0, 1) := by decide +kernel
theorem dX5_calls_10 : decode cX5_calls 10 = .ok (.iload_n 1, 1) := by decide +kernel
theorem dX5_calls_11 : decode cX5_calls 11 = .ok (.bipush 8, 2) := by decide +kernel
theorem dX5_calls_13 : decode cX5_calls 13 = .ok (.ishr, 1) := by decide +kernel
theorem dX5_calls_14 : decode cX5_calls 14 = .ok (.invokevirtual 124, 3) := by decide +kernel
theorem dX5_calls_17 : decode cX5_calls 17 = .ok (.aload_n 0, 1) := by decide +kernel
theorem dX5_calls_18 : decode cX5_calls 18 = .ok (.iload_n 2, 1) := by decide +kernel
theorem dX5_calls_19 : decode cX5_calls 19 = .ok (.sipush 1023, 3) := by decide +kernel
theorem dX5_calls_22 : decode cX5_calls 22 = .ok (.iand, 1) := by decide +kernel
theorem dX5_calls_23 : decode cX5_calls 23 = .ok (.putfield 84, 3) := by decide +kernel
theorem dX5_calls_26 : decode cX5_calls 26 = .ok (.return_, 1) := by decide +kernel
theorem dX5_codeByte_0 : decode cX5_codeByte 0 = .ok (.aload_n 0, 1) := by decide +kernel
theorem dX5_codeByte_1 : decode cX5_codeByte 1 = .ok (.getfield 7, 3) := by decide +kernel
theorem dX5_codeByte_4 : decode cX5_codeByte 4 = .ok (.iload_n 1, 1) := by decide +kernel
theorem dX5_codeByte_5 : decode cX5_codeByte 5 = .ok (.iconst 1, 1) := by decide +kernel
theorem dX5_codeByte_6 : decode cX5_codeByte 6 = .ok (.ishr, 1) := by decide +kernel
theorem dX5_codeByte_7 : decode cX5_codeByte 7 = .ok (.sipush 1023, 3) := by decide +kernel
theorem dX5_codeByte_10 : decode cX5_codeByte 10 = .ok (.iand, 1) := by decide +kernel
theorem dX5_codeByte_11 : decode cX5_codeByte 11 = .ok (.iaload, 1) := by decide +kernel
theorem dX5_codeByte_12 : decode cX5_codeByte 12 = .ok (.istore_n 2, 1) := by decide +kernel
theorem dX5_codeByte_13 : decode cX5_codeByte 13 = .ok (.iload_n 1, 1) := by decide +kernel
theorem dX5_codeByte_14 : decode cX5_codeByte 14 = .ok (.iconst 1, 1) := by decide +kernel
theorem dX5_codeByte_15 : decode cX5_codeByte 15 = .ok (.iand, 1) := by decide +kernel
theorem dX5_codeByte_16 : decode cX5_codeByte 16 = .ok (.ifCond .ne 11, 3) := by decide +kernel
theorem dX5_codeByte_19 : decode cX5_codeByte 19 = .ok (.iload_n 2, 1) := by decide +kernel
theorem dX5_codeByte_20 : decode cX5_codeByte 20 = .ok (.sipush 255, 3) := by decide +kernel
theorem dX5_codeByte_23 : decode cX5_codeByte 23 = .ok (.iand, 1) := by decide +kernel
theorem dX5_codeByte_24 : decode cX5_codeByte 24 = .ok (.goto 7, 3) := by decide +kernel
theorem dX5_codeByte_27 : decode cX5_codeByte 27 = .ok (.iload_n 2, 1) := by decide +kernel
theorem dX5_codeByte_28 : decode cX5_codeByte 28 = .ok (.bipush 8, 2) := by decide +kernel
theorem dX5_codeByte_30 : decode cX5_codeByte 30 = .ok (.ishr, 1) := by decide +kernel
theorem dX5_codeByte_31 : decode cX5_codeByte 31 = .ok (.ireturn, 1) := by decide +kernel
set_option maxRecDepth 20000 in
theorem ggX5_ofStack_X5_dOf : GoodIn wsX5_ofStack wsX5_dOf := goodIn_r _ [6] (by decide +kernel) (by decide +kernel)
set_option maxRecDepth 20000 in
theorem gX5_ofStack_X5_dOf : GoodIn wsX5_ofStack (va_wsS RX5 53 yX5_dOf wsX5_dOf) := goodIn_app (goodIn_of _ (by decide +kernel)) ggX5_ofStack_X5_dOf
set_option maxRecDepth 20000 in
theorem ggX5_ofStack_X5_pair : GoodIn wsX5_ofStack wsX5_pair := goodIn_r _ [10, 2, 26, 27, 28, 29, 30, 31, 32, 33] (by decide +kernel) (by decide +kernel)
set_option maxRecDepth 20000 in
theorem gX5_ofStack_X5_pair : GoodIn wsX5_ofStack (wsV RX5 28 RX5 yX5_pair wsX5_pair) := goodIn_app (goodIn_of _ (by decide +kernel)) ggX5_ofStack_X5_pair
set_option maxRecDepth 20000 in
theorem ggX5_ofStack_X5_isFar : GoodIn wsX5_ofStack wsX5_isFar := goodIn_r _ [13] (by decide +kernel) (by decide +kernel)
set_option maxRecDepth 20000 in
theorem gX5_ofStack_X5_isFar : GoodIn wsX5_ofStack (va_wsS RX5 121 yX5_isFar wsX5_isFar) := goodIn_app (goodIn_of _ (by decide +kernel)) ggX5_ofStack_X5_isFar
set_option maxRecDepth 20000 in
theorem ggX5_ofStack_X5_pushes : GoodIn wsX5_ofStack wsX5_pushes := goodIn_r _ [17, 2, 1, 7, 8, 9, 5, 10, 18, 19, 20, 21, 26, 27, 28, 29, 30, 31, 32, 33] (by decide +kernel) (by decide +kernel)
set_option maxRecDepth 20000 in
theorem gX5_ofStack_X5_pushes : GoodIn wsX5_ofStack (wsV RX5 124 RX5 yX5_pushes wsX5_pushes) := goodIn_app (goodIn_of _ (by decide +kernel)) ggX5_ofStack_X5_pushes
set_option maxRecDepth 20000 in
theorem ggX5_ofStack_X5_pops : GoodIn wsX5_ofStack wsX5_pops := goodIn_r _ [25, 1, 2, 7, 8, 9, 5, 10, 18, 19, 20, 21, 26, 27, 28, 29, 30, 31, 32, 33] (by decide +kernel) (by decide +kernel)
set_option maxRecDepth 20000 in
theorem gX5_ofStack_X5_pops : GoodIn wsX5_ofStack (wsV RX5 128 RX5 yX5_pops wsX5_pops) := goodIn_app (goodIn_of _ (by decide +kernel)) ggX5_ofStack_X5_pops
theorem dX5_ofStack_0 : decode cX5_ofStack 0 = .ok (.iload_n 1, 1) := by decide +kernel
theorem dX5_ofStack_1 : decode cX5_ofStack 1 = .ok (.invokestatic 53, 3) := by decide +kernel
theorem dX5_ofStack_4 : decode cX5_ofStack 4 = .ok (.istore_n 2, 1) := by decide +kernel
theorem dX5_ofStack_5 : decode cX5_ofStack 5 = .ok (.iload_n 1, 1) := by decide +kernel
theorem dX5_ofStack_6 : decode cX5_ofStack 6 = .ok (.sipush 512, 3) := by decide +kernel
theorem dX5_ofStack_9 : decode cX5_ofStack 9 = .ok (.iand, 1) := by decide +kernel
theorem dX5_ofStack_10 : decode cX5_ofStack 10 = .ok (.ifCond .eq 7, 3) := by decide +kernel
theorem dX5_ofStack_13 : decode cX5_ofStack 13 = .ok (.iconst 1, 1) := by decide +kernel
theorem dX5_ofStack_14 : decode cX5_ofStack 14 = .ok (.goto 4, 3) := by decide +kernel
theorem dX5_ofStack_17 : decode cX5_ofStack 17 = .ok (.iconst 0, 1) := by decide +kernel
theorem dX5_ofStack_18 : decode cX5_ofStack 18 = .ok (.istore_n 3, 1) := by decide +kernel
theorem dX5_ofStack_19 : decode cX5_ofStack 19 = .ok (.iload_n 3, 1) := by decide +kernel
theorem dX5_ofStack_20 : decode cX5_ofStack 20 = .ok (.ifCond .eq 12, 3) := by decide +kernel
theorem dX5_ofStack_23 : decode cX5_ofStack 23 = .ok (.aload_n 0, 1) := by decide +kernel
theorem dX5_ofStack_24 : decode cX5_ofStack 24 = .ok (.bipush 93, 2) := by decide +kernel
theorem dX5_ofStack_26 : decode cX5_ofStack 26 = .ok (.invokevirtual 28, 3) := by decide +kernel
theorem dX5_ofStack_29 : decode cX5_ofStack 29 = .ok (.goto 14, 3) := by decide +kernel
theorem dX5_ofStack_32 : decode cX5_ofStack 32 = .ok (.aload_n 0, 1) := by decide +kernel
theorem dX5_ofStack_33 : decode cX5_ofStack 33 = .ok (.bipush 93, 2) := by decide +kernel
theorem dX5_ofStack_35 : decode cX5_ofStack 35 = .ok (.invokevirtual 28, 3) := by decide +kernel
theorem dX5_ofStack_38 : decode cX5_ofStack 38 = .ok (.iconst 1, 1) := by decide +kernel
theorem dX5_ofStack_39 : decode cX5_ofStack 39 = .ok (.iadd, 1) := by decide +kernel
theorem dX5_ofStack_40 : decode cX5_ofStack 40 = .ok (.ldc 27, 2) := by decide +kernel
theorem dX5_ofStack_42 : decode cX5_ofStack 42 = .ok (.iand, 1) := by decide +kernel
theorem dX5_ofStack_43 : decode cX5_ofStack 43 = .ok (.istore 4, 2) := by decide +kernel
theorem dX5_ofStack_45 : decode cX5_ofStack 45 = .ok (.iload 4, 2) := by decide +kernel
theorem dX5_ofStack_47 : decode cX5_ofStack 47 = .ok (.invokestatic 121, 3) := by decide +kernel
theorem dX5_ofStack_50 : decode cX5_ofStack 50 = .ok (.ifCond .eq 5, 3) := by decide +kernel
theorem dX5_ofStack_53 : decode cX5_ofStack 53 = .ok (.iconst 3, 1) := by decide +kernel
theorem dX5_ofStack_54 : decode cX5_ofStack 54 = .ok (.ireturn, 1) := by decide +kernel
theorem dX5_ofStack_55 : decode cX5_ofStack 55 = .ok (.iload_n 3, 1) := by decide +kernel
theorem dX5_ofStack_56 : decode cX5_ofStack 56 = .ok (.ifCond .eq 16, 3) := by decide +kernel
theorem dX5_ofStack_59 : decode cX5_ofStack 59 = .ok (.aload_n 0, 1) := by decide +kernel
theorem dX5_ofStack_60 : decode cX5_ofStack 60 = .ok (.aload_n 0, 1) := by decide +kernel
theorem dX5_ofStack_61 : decode cX5_ofStack 61 = .ok (.getfield 13, 3) := by decide +kernel
theorem dX5_ofStack_64 : decode cX5_ofStack 64 = .ok (.iload_n 2, 1) := by decide +kernel
theorem dX5_ofStack_65 : decode cX5_ofStack 65 = .ok (.iaload, 1) := by decide +kernel
theorem dX5_ofStack_66 : decode cX5_ofStack 66 = .ok (.invokevirtual 124, 3) := by decide +kernel
theorem dX5_ofStack_69 : decode cX5_ofStack 69 = .ok (.goto 17, 3) := by decide +kernel
theorem dX5_ofStack_72 : decode cX5_ofStack 72 = .ok (.aload_n 0, 1) := by decide +kernel
theorem dX5_ofStack_73 : decode cX5_ofStack 73 = .ok (.invokevirtual 128, 3) := by decide +kernel
theorem dX5_ofStack_76 : decode cX5_ofStack 76 = .ok (.istore 5, 2) := by decide +kernel
theorem dX5_ofStack_78 : decode cX5_ofStack 78 = .ok (.aload_n 0, 1) := by decide +kernel
theorem dX5_ofStack_79 : decode cX5_ofStack 79 = .ok (.getfield 13, 3) := by decide +kernel
theorem dX5_ofStack_82 : decode cX5_ofStack 82 = .ok (.iload_n 2, 1) := by decide +kernel
theorem dX5_ofStack_83 : decode cX5_ofStack 83 = .ok (.iload 5, 2) := by decide +kernel
theorem dX5_ofStack_85 : decode cX5_ofStack 85 = .ok (.iastore, 1) := by decide +kernel
theorem dX5_ofStack_86 : decode cX5_ofStack 86 = .ok (.iconst 0, 1) := by decide +kernel
theorem dX5_ofStack_87 : decode cX5_ofStack 87 = .ok (.ireturn, 1) := by decide +kernel
set_option maxRecDepth 20000 in
theorem ggX5_moves_X5_isFar : GoodIn wsX5_moves wsX5_isFar := goodIn_r _ [5] (by decide +kernel) (by decide +kernel)
set_option maxRecDepth 20000 in
theorem gX5_moves_X5_isFar : GoodIn wsX5_moves (va_wsS RX5 121 yX5_isFar wsX5_isFar) := goodIn_app (goodIn_of _ (by decide +kernel)) ggX5_moves_X5_isFar
theorem dX5_moves_0 : decode cX5_moves 0 = .ok (.iload_n 1, 1) := by decide +kernel
theorem dX5_moves_1 : decode cX5_moves 1 = .ok (.invokestatic 121, 3) := by decide +kernel
theorem dX5_moves_4 : decode cX5_moves 4 = .ok (.ifCond .eq 5, 3) := by decide +kernel
theorem dX5_moves_7 : decode cX5_moves 7 = .ok (.iconst 3, 1) := by decide +kernel
theorem dX5_moves_8 : decode cX5_moves 8 = .ok (.ireturn, 1) := by decide +kernel
theorem dX5_moves_9 : decode cX5_moves 9 = .ok (.iload_n 3, 1) := by decide +kernel
theorem dX5_moves_10 : decode cX5_moves 10 = .ok (.ifCond .eq 18, 3) := by decide +kernel
theorem dX5_moves_13 : decode cX5_moves 13 = .ok (.aload_n 0, 1) := by decide +kernel
theorem dX5_moves_14 : decode cX5_moves 14 = .ok (.getfield 13, 3) := by decide +kernel
theorem dX5_moves_17 : decode cX5_moves 17 = .ok (.iload_n 1, 1) := by decide +kernel
theorem dX5_moves_18 : decode cX5_moves 18 = .ok (.aload_n 0, 1) := by decide +kernel
theorem dX5_moves_19 : decode cX5_moves 19 = .ok (.getfield 13, 3) := by decide +kernel
theorem dX5_moves_22 : decode cX5_moves 22 = .ok (.iload_n 2, 1) := by decide +kernel
theorem dX5_moves_23 : decode cX5_moves 23 = .ok (.iaload, 1) := by decide +kernel
theorem dX5_moves_24 : decode cX5_moves 24 = .ok (.iastore, 1) := by decide +kernel
theorem dX5_moves_25 : decode cX5_moves 25 = .ok (.goto 15, 3) := by decide +kernel
theorem dX5_moves_28 : decode cX5_moves 28 = .ok (.aload_n 0, 1) := by decide +kernel
theorem dX5_moves_29 : decode cX5_moves 29 = .ok (.getfield 13, 3) := by decide +kernel
theorem dX5_moves_32 : decode cX5_moves 32 = .ok (.iload_n 2, 1) := by decide +kernel
theorem dX5_moves_33 : decode cX5_moves 33 = .ok (.aload_n 0, 1) := by decide +kernel
theorem dX5_moves_34 : decode cX5_moves 34 = .ok (.getfield 13, 3) := by decide +kernel
theorem dX5_moves_37 : decode cX5_moves 37 = .ok (.iload_n 1, 1) := by decide +kernel
theorem dX5_moves_38 : decode cX5_moves 38 = .ok (.iaload, 1) := by decide +kernel
theorem dX5_moves_39 : decode cX5_moves 39 = .ok (.iastore, 1) := by decide +kernel
theorem dX5_moves_40 : decode cX5_moves 40 = .ok (.iconst 0, 1) := by decide +kernel
theorem dX5_moves_41 : decode cX5_moves 41 = .ok (.ireturn, 1) := by decide +kernel
set_option maxRecDepth 20000 in
theorem ggX5_ofMemory_X5_dOf : GoodIn wsX5_ofMemory wsX5_dOf := goodIn_r _ [8] (by decide +kernel) (by decide +kernel)
set_option maxRecDepth 20000 in
theorem gX5_ofMemory_X5_dOf : GoodIn wsX5_ofMemory (va_wsS RX5 53 yX5_dOf wsX5_dOf) := goodIn_app (goodIn_of _ (by decide +kernel)) ggX5_ofMemory_X5_dOf
set_option maxRecDepth 20000 in
theorem ggX5_ofMemory_X5_ofStack : GoodIn wsX5_ofMemory wsX5_ofStack := goodIn_r _ [12, 4, 3, 5, 6, 7, 8, 13, 14, 15, 16, 17, 18, 19, 20, 21, 22, 23, 24, 25, 26, 27, 28, 29, 30, 31, 43, 44, 45, 46, 47, 48, 49, 50] (by decide +kernel) (by decide +kernel)
set_option maxRecDepth 20000 in
theorem gX5_ofMemory_X5_ofStack : GoodIn wsX5_ofMemory (wsV RX5 131 RX5 yX5_ofStack wsX5_ofStack) := goodIn_app (goodIn_of _ (by decide +kernel)) ggX5_ofMemory_X5_ofStack
set_option maxRecDepth 20000 in
theorem ggX5_ofMemory_X5_moves : GoodIn wsX5_ofMemory wsX5_moves := goodIn_r _ [35, 3, 17, 18, 7, 19, 43, 44, 45, 46, 47, 48, 49, 50] (by decide +kernel) (by decide +kernel)
set_option maxRecDepth 20000 in
theorem gX5_ofMemory_X5_moves : GoodIn wsX5_ofMemory (wsV RX5 134 RX5 yX5_moves wsX5_moves) := goodIn_app (goodIn_of _ (by decide +kernel)) ggX5_ofMemory_X5_moves
set_option maxRecDepth 20000 in
theorem ggX5_ofMemory_X5_pair : GoodIn wsX5_ofMemory wsX5_pair := goodIn_r _ [16, 3, 43, 44, 45, 46, 47, 48, 49, 50] (by decide +kernel) (by decide +kernel)
set_option maxRecDepth 20000 in
theorem gX5_ofMemory_X5_pair : GoodIn wsX5_ofMemory (wsV RX5 28 RX5 yX5_pair wsX5_pair) := goodIn_app (goodIn_of _ (by decide +kernel)) ggX5_ofMemory_X5_pair
set_option maxRecDepth 20000 in
theorem ggX5_ofMemory_X5_codeByte : GoodIn wsX5_ofMemory wsX5_codeByte := goodIn_r _ [39, 1, 43, 44, 45, 46, 47, 48, 49, 50] (by decide +kernel) (by decide +kernel)
set_option maxRecDepth 20000 in
theorem gX5_ofMemory_X5_codeByte : GoodIn wsX5_ofMemory (wsV RX5 138 RX5 yX5_codeByte wsX5_codeByte) := goodIn_app (goodIn_of _ (by decide +kernel)) ggX5_ofMemory_X5_codeByte
set_option maxRecDepth 20000 in
theorem ggX5_ofMemory_X5_setPair : GoodIn wsX5_ofMemory wsX5_setPair := goodIn_r _ [27, 3, 43, 44, 45, 46, 47, 48, 49, 50] (by decide +kernel) (by decide +kernel)
set_option maxRecDepth 20000 in
theorem gX5_ofMemory_X5_setPair : GoodIn wsX5_ofMemory (wsV RX5 106 RX5 yX5_setPair wsX5_setPair) := goodIn_app (goodIn_of _ (by decide +kernel)) ggX5_ofMemory_X5_setPair
set_option maxRecDepth 20000 in
theorem ggX5_ofMemory_X5_changes : GoodIn wsX5_ofMemory wsX5_changes := goodIn_r _ [42] (by decide +kernel) (by decide +kernel)
set_option maxRecDepth 20000 in
theorem gX5_ofMemory_X5_changes : GoodIn wsX5_ofMemory (va_wsS RX5 50 yX5_changes wsX5_changes) := goodIn_app (goodIn_of _ (by decide +kernel)) ggX5_ofMemory_X5_changes
set_option maxRecDepth 20000 in
theorem ggX5_ofMemory_X5_isFar : GoodIn wsX5_ofMemory wsX5_isFar := goodIn_r _ [19] (by decide +kernel) (by decide +kernel)
set_option maxRecDepth 20000 in
theorem gX5_ofMemory_X5_isFar : GoodIn wsX5_ofMemory (va_wsS RX5 121 yX5_isFar wsX5_isFar) := goodIn_app (goodIn_of _ (by decide +kernel)) ggX5_ofMemory_X5_isFar
theorem dX5_ofMemory_0 : decode cX5_ofMemory 0 = .ok (.iload_n 1, 1) := by decide +kernel
theorem dX5_ofMemory_1 : decode cX5_ofMemory 1 = .ok (.invokestatic 53, 3) := by decide +kernel
theorem dX5_ofMemory_4 : decode cX5_ofMemory 4 = .ok (.istore_n 2, 1) := by decide +kernel
theorem dX5_ofMemory_5 : decode cX5_ofMemory 5 = .ok (.iload_n 1, 1) := by decide +kernel
end
section
theorem dX5_ofMemory_6 : decode cX5_ofMemory 6 = .ok (.bipush 15, 2) := by decide +kernel
theorem dX5_ofMemory_8 : decode cX5_ofMemory 8 = .ok (.iand, 1) := by decide +kernel
theorem dX5_ofMemory_9 : decode cX5_ofMemory 9 = .ok (.istore_n 3, 1) := by decide +kernel
theorem dX5_ofMemory_10 : decode cX5_ofMemory 10 = .ok (.iload_n 1, 1) := by decide +kernel
theorem dX5_ofMemory_11 : decode cX5_ofMemory 11 = .ok (.sipush 512, 3) := by decide +kernel
theorem dX5_ofMemory_14 : decode cX5_ofMemory 14 = .ok (.iand, 1) := by decide +kernel
theorem dX5_ofMemory_15 : decode cX5_ofMemory 15 = .ok (.ifCond .eq 7, 3) := by decide +kernel
theorem dX5_ofMemory_18 : decode cX5_ofMemory 18 = .ok (.iconst 1, 1) := by decide +kernel
theorem dX5_ofMemory_19 : decode cX5_ofMemory 19 = .ok (.goto 4, 3) := by decide +kernel
theorem dX5_ofMemory_22 : decode cX5_ofMemory 22 = .ok (.iconst 0, 1) := by decide +kernel
theorem dX5_ofMemory_23 : decode cX5_ofMemory 23 = .ok (.istore 4, 2) := by decide +kernel
theorem dX5_ofMemory_25 : decode cX5_ofMemory 25 = .ok (.iload_n 3, 1) := by decide +kernel
theorem dX5_ofMemory_26 : decode cX5_ofMemory 26 = .ok (.bipush 15, 2) := by decide +kernel
theorem dX5_ofMemory_28 : decode cX5_ofMemory 28 = .ok (.if_icmp .ne 9, 3) := by decide +kernel
theorem dX5_ofMemory_31 : decode cX5_ofMemory 31 = .ok (.aload_n 0, 1) := by decide +kernel
theorem dX5_ofMemory_32 : decode cX5_ofMemory 32 = .ok (.iload_n 1, 1) := by decide +kernel
theorem dX5_ofMemory_33 : decode cX5_ofMemory 33 = .ok (.invokevirtual 131, 3) := by decide +kernel
theorem dX5_ofMemory_36 : decode cX5_ofMemory 36 = .ok (.ireturn, 1) := by decide +kernel
theorem dX5_ofMemory_37 : decode cX5_ofMemory 37 = .ok (.iload_n 3, 1) := by decide +kernel
theorem dX5_ofMemory_38 : decode cX5_ofMemory 38 = .ok (.ifCond .ne 38, 3) := by decide +kernel
theorem dX5_ofMemory_41 : decode cX5_ofMemory 41 = .ok (.aload_n 0, 1) := by decide +kernel
theorem dX5_ofMemory_42 : decode cX5_ofMemory 42 = .ok (.getfield 7, 3) := by decide +kernel
theorem dX5_ofMemory_45 : decode cX5_ofMemory 45 = .ok (.aload_n 0, 1) := by decide +kernel
theorem dX5_ofMemory_46 : decode cX5_ofMemory 46 = .ok (.getfield 84, 3) := by decide +kernel
theorem dX5_ofMemory_49 : decode cX5_ofMemory 49 = .ok (.iaload, 1) := by decide +kernel
theorem dX5_ofMemory_50 : decode cX5_ofMemory 50 = .ok (.istore 5, 2) := by decide +kernel
theorem dX5_ofMemory_52 : decode cX5_ofMemory 52 = .ok (.aload_n 0, 1) := by decide +kernel
theorem dX5_ofMemory_53 : decode cX5_ofMemory 53 = .ok (.aload_n 0, 1) := by decide +kernel
theorem dX5_ofMemory_54 : decode cX5_ofMemory 54 = .ok (.getfield 84, 3) := by decide +kernel
theorem dX5_ofMemory_57 : decode cX5_ofMemory 57 = .ok (.iconst 1, 1) := by decide +kernel
theorem dX5_ofMemory_58 : decode cX5_ofMemory 58 = .ok (.iadd, 1) := by decide +kernel
theorem dX5_ofMemory_59 : decode cX5_ofMemory 59 = .ok (.sipush 1023, 3) := by decide +kernel
theorem dX5_ofMemory_62 : decode cX5_ofMemory 62 = .ok (.iand, 1) := by decide +kernel
theorem dX5_ofMemory_63 : decode cX5_ofMemory 63 = .ok (.putfield 84, 3) := by decide +kernel
theorem dX5_ofMemory_66 : decode cX5_ofMemory 66 = .ok (.aload_n 0, 1) := by decide +kernel
theorem dX5_ofMemory_67 : decode cX5_ofMemory 67 = .ok (.iload 5, 2) := by decide +kernel
theorem dX5_ofMemory_69 : decode cX5_ofMemory 69 = .ok (.iload_n 2, 1) := by decide +kernel
theorem dX5_ofMemory_70 : decode cX5_ofMemory 70 = .ok (.iload 4, 2) := by decide +kernel
theorem dX5_ofMemory_72 : decode cX5_ofMemory 72 = .ok (.invokevirtual 134, 3) := by decide +kernel
theorem dX5_ofMemory_75 : decode cX5_ofMemory 75 = .ok (.ireturn, 1) := by decide +kernel
theorem dX5_ofMemory_76 : decode cX5_ofMemory 76 = .ok (.iload_n 3, 1) := by decide +kernel
theorem dX5_ofMemory_77 : decode cX5_ofMemory 77 = .ok (.iconst 4, 1) := by decide +kernel
theorem dX5_ofMemory_78 : decode cX5_ofMemory 78 = .ok (.if_icmp .eq 8, 3) := by decide +kernel
theorem dX5_ofMemory_81 : decode cX5_ofMemory 81 = .ok (.iload_n 3, 1) := by decide +kernel
theorem dX5_ofMemory_82 : decode cX5_ofMemory 82 = .ok (.iconst 5, 1) := by decide +kernel
theorem dX5_ofMemory_83 : decode cX5_ofMemory 83 = .ok (.if_icmp .ne 43, 3) := by decide +kernel
theorem dX5_ofMemory_86 : decode cX5_ofMemory 86 = .ok (.aload_n 0, 1) := by decide +kernel
theorem dX5_ofMemory_87 : decode cX5_ofMemory 87 = .ok (.bipush 30, 2) := by decide +kernel
theorem dX5_ofMemory_89 : decode cX5_ofMemory 89 = .ok (.invokevirtual 28, 3) := by decide +kernel
theorem dX5_ofMemory_92 : decode cX5_ofMemory 92 = .ok (.istore 5, 2) := by decide +kernel
theorem dX5_ofMemory_94 : decode cX5_ofMemory 94 = .ok (.aload_n 0, 1) := by decide +kernel
theorem dX5_ofMemory_95 : decode cX5_ofMemory 95 = .ok (.getfield 13, 3) := by decide +kernel
theorem dX5_ofMemory_98 : decode cX5_ofMemory 98 = .ok (.iload_n 2, 1) := by decide +kernel
theorem dX5_ofMemory_99 : decode cX5_ofMemory 99 = .ok (.aload_n 0, 1) := by decide +kernel
theorem dX5_ofMemory_100 : decode cX5_ofMemory 100 = .ok (.iload 5, 2) := by decide +kernel
theorem dX5_ofMemory_102 : decode cX5_ofMemory 102 = .ok (.invokevirtual 138, 3) := by decide +kernel
theorem dX5_ofMemory_105 : decode cX5_ofMemory 105 = .ok (.iastore, 1) := by decide +kernel
theorem dX5_ofMemory_106 : decode cX5_ofMemory 106 = .ok (.iload_n 3, 1) := by decide +kernel
theorem dX5_ofMemory_107 : decode cX5_ofMemory 107 = .ok (.iconst 5, 1) := by decide +kernel
theorem dX5_ofMemory_108 : decode cX5_ofMemory 108 = .ok (.if_icmp .ne 16, 3) := by decide +kernel
theorem dX5_ofMemory_111 : decode cX5_ofMemory 111 = .ok (.aload_n 0, 1) := by decide +kernel
theorem dX5_ofMemory_112 : decode cX5_ofMemory 112 = .ok (.bipush 30, 2) := by decide +kernel
theorem dX5_ofMemory_114 : decode cX5_ofMemory 114 = .ok (.iload 5, 2) := by decide +kernel
theorem dX5_ofMemory_116 : decode cX5_ofMemory 116 = .ok (.iconst 1, 1) := by decide +kernel
theorem dX5_ofMemory_117 : decode cX5_ofMemory 117 = .ok (.iadd, 1) := by decide +kernel
theorem dX5_ofMemory_118 : decode cX5_ofMemory 118 = .ok (.ldc 27, 2) := by decide +kernel
theorem dX5_ofMemory_120 : decode cX5_ofMemory 120 = .ok (.iand, 1) := by decide +kernel
theorem dX5_ofMemory_121 : decode cX5_ofMemory 121 = .ok (.invokevirtual 106, 3) := by decide +kernel
theorem dX5_ofMemory_124 : decode cX5_ofMemory 124 = .ok (.iconst 0, 1) := by decide +kernel
theorem dX5_ofMemory_125 : decode cX5_ofMemory 125 = .ok (.ireturn, 1) := by decide +kernel
theorem dX5_ofMemory_126 : decode cX5_ofMemory 126 = .ok (.iload_n 3, 1) := by decide +kernel
theorem dX5_ofMemory_127 : decode cX5_ofMemory 127 = .ok (.bipush 12, 2) := by decide +kernel
theorem dX5_ofMemory_129 : decode cX5_ofMemory 129 = .ok (.if_icmp .ne 17, 3) := by decide +kernel
theorem dX5_ofMemory_132 : decode cX5_ofMemory 132 = .ok (.aload_n 0, 1) := by decide +kernel
theorem dX5_ofMemory_133 : decode cX5_ofMemory 133 = .ok (.aload_n 0, 1) := by decide +kernel
theorem dX5_ofMemory_134 : decode cX5_ofMemory 134 = .ok (.bipush 26, 2) := by decide +kernel
theorem dX5_ofMemory_136 : decode cX5_ofMemory 136 = .ok (.invokevirtual 28, 3) := by decide +kernel
theorem dX5_ofMemory_139 : decode cX5_ofMemory 139 = .ok (.iload_n 2, 1) := by decide +kernel
theorem dX5_ofMemory_140 : decode cX5_ofMemory 140 = .ok (.iload 4, 2) := by decide +kernel
theorem dX5_ofMemory_142 : decode cX5_ofMemory 142 = .ok (.invokevirtual 134, 3) := by decide +kernel
theorem dX5_ofMemory_145 : decode cX5_ofMemory 145 = .ok (.ireturn, 1) := by decide +kernel
theorem dX5_ofMemory_146 : decode cX5_ofMemory 146 = .ok (.iload_n 1, 1) := by decide +kernel
theorem dX5_ofMemory_147 : decode cX5_ofMemory 147 = .ok (.invokestatic 50, 3) := by decide +kernel
theorem dX5_ofMemory_150 : decode cX5_ofMemory 150 = .ok (.istore 5, 2) := by decide +kernel
theorem dX5_ofMemory_152 : decode cX5_ofMemory 152 = .ok (.aload_n 0, 1) := by decide +kernel
theorem dX5_ofMemory_153 : decode cX5_ofMemory 153 = .ok (.iload 5, 2) := by decide +kernel
theorem dX5_ofMemory_155 : decode cX5_ofMemory 155 = .ok (.invokevirtual 28, 3) := by decide +kernel
theorem dX5_ofMemory_158 : decode cX5_ofMemory 158 = .ok (.istore 6, 2) := by decide +kernel
theorem dX5_ofMemory_160 : decode cX5_ofMemory 160 = .ok (.iload_n 3, 1) := by decide +kernel
theorem dX5_ofMemory_161 : decode cX5_ofMemory 161 = .ok (.iconst 2, 1) := by decide +kernel
theorem dX5_ofMemory_162 : decode cX5_ofMemory 162 = .ok (.if_icmp .eq 15, 3) := by decide +kernel
theorem dX5_ofMemory_165 : decode cX5_ofMemory 165 = .ok (.iload_n 3, 1) := by decide +kernel
theorem dX5_ofMemory_166 : decode cX5_ofMemory 166 = .ok (.bipush 10, 2) := by decide +kernel
theorem dX5_ofMemory_168 : decode cX5_ofMemory 168 = .ok (.if_icmp .eq 9, 3) := by decide +kernel
theorem dX5_ofMemory_171 : decode cX5_ofMemory 171 = .ok (.iload_n 3, 1) := by decide +kernel
theorem dX5_ofMemory_172 : decode cX5_ofMemory 172 = .ok (.bipush 14, 2) := by decide +kernel
theorem dX5_ofMemory_174 : decode cX5_ofMemory 174 = .ok (.if_icmp .ne 7, 3) := by decide +kernel
theorem dX5_ofMemory_177 : decode cX5_ofMemory 177 = .ok (.iconst 1, 1) := by decide +kernel
theorem dX5_ofMemory_178 : decode cX5_ofMemory 178 = .ok (.goto 4, 3) := by decide +kernel
theorem dX5_ofMemory_181 : decode cX5_ofMemory 181 = .ok (.iconst 0, 1) := by decide +kernel
theorem dX5_ofMemory_182 : decode cX5_ofMemory 182 = .ok (.istore 7, 2) := by decide +kernel
theorem dX5_ofMemory_184 : decode cX5_ofMemory 184 = .ok (.iload 7, 2) := by decide +kernel
theorem dX5_ofMemory_186 : decode cX5_ofMemory 186 = .ok (.ifCond .eq 13, 3) := by decide +kernel
theorem dX5_ofMemory_189 : decode cX5_ofMemory 189 = .ok (.iload 6, 2) := by decide +kernel
theorem dX5_ofMemory_191 : decode cX5_ofMemory 191 = .ok (.iconst 1, 1) := by decide +kernel
theorem dX5_ofMemory_192 : decode cX5_ofMemory 192 = .ok (.isub, 1) := by decide +kernel
theorem dX5_ofMemory_193 : decode cX5_ofMemory 193 = .ok (.ldc 27, 2) := by decide +kernel
theorem dX5_ofMemory_195 : decode cX5_ofMemory 195 = .ok (.iand, 1) := by decide +kernel
theorem dX5_ofMemory_196 : decode cX5_ofMemory 196 = .ok (.goto 5, 3) := by decide +kernel
theorem dX5_ofMemory_199 : decode cX5_ofMemory 199 = .ok (.iload 6, 2) := by decide +kernel
theorem dX5_ofMemory_201 : decode cX5_ofMemory 201 = .ok (.istore 8, 2) := by decide +kernel
theorem dX5_ofMemory_203 : decode cX5_ofMemory 203 = .ok (.iload 8, 2) := by decide +kernel
theorem dX5_ofMemory_205 : decode cX5_ofMemory 205 = .ok (.invokestatic 121, 3) := by decide +kernel
theorem dX5_ofMemory_208 : decode cX5_ofMemory 208 = .ok (.ifCond .eq 5, 3) := by decide +kernel
theorem dX5_ofMemory_211 : decode cX5_ofMemory 211 = .ok (.iconst 3, 1) := by decide +kernel
theorem dX5_ofMemory_212 : decode cX5_ofMemory 212 = .ok (.ireturn, 1) := by decide +kernel
theorem dX5_ofMemory_213 : decode cX5_ofMemory 213 = .ok (.iload 7, 2) := by decide +kernel
theorem dX5_ofMemory_215 : decode cX5_ofMemory 215 = .ok (.ifCond .eq 11, 3) := by decide +kernel
theorem dX5_ofMemory_218 : decode cX5_ofMemory 218 = .ok (.aload_n 0, 1) := by decide +kernel
theorem dX5_ofMemory_219 : decode cX5_ofMemory 219 = .ok (.iload 5, 2) := by decide +kernel
theorem dX5_ofMemory_221 : decode cX5_ofMemory 221 = .ok (.iload 8, 2) := by decide +kernel
theorem dX5_ofMemory_223 : decode cX5_ofMemory 223 = .ok (.invokevirtual 106, 3) := by decide +kernel
theorem dX5_ofMemory_226 : decode cX5_ofMemory 226 = .ok (.aload_n 0, 1) := by decide +kernel
theorem dX5_ofMemory_227 : decode cX5_ofMemory 227 = .ok (.iload 8, 2) := by decide +kernel
theorem dX5_ofMemory_229 : decode cX5_ofMemory 229 = .ok (.iload_n 2, 1) := by decide +kernel
theorem dX5_ofMemory_230 : decode cX5_ofMemory 230 = .ok (.iload 4, 2) := by decide +kernel
theorem dX5_ofMemory_232 : decode cX5_ofMemory 232 = .ok (.invokevirtual 134, 3) := by decide +kernel
theorem dX5_ofMemory_235 : decode cX5_ofMemory 235 = .ok (.istore 9, 2) := by decide +kernel
theorem dX5_ofMemory_237 : decode cX5_ofMemory 237 = .ok (.iload 7, 2) := by decide +kernel
theorem dX5_ofMemory_239 : decode cX5_ofMemory 239 = .ok (.ifCond .ne 16, 3) := by decide +kernel
theorem dX5_ofMemory_242 : decode cX5_ofMemory 242 = .ok (.aload_n 0, 1) := by decide +kernel
theorem dX5_ofMemory_243 : decode cX5_ofMemory 243 = .ok (.iload 5, 2) := by decide +kernel
theorem dX5_ofMemory_245 : decode cX5_ofMemory 245 = .ok (.iload 6, 2) := by decide +kernel
theorem dX5_ofMemory_247 : decode cX5_ofMemory 247 = .ok (.iconst 1, 1) := by decide +kernel
theorem dX5_ofMemory_248 : decode cX5_ofMemory 248 = .ok (.iadd, 1) := by decide +kernel
theorem dX5_ofMemory_249 : decode cX5_ofMemory 249 = .ok (.ldc 27, 2) := by decide +kernel
theorem dX5_ofMemory_251 : decode cX5_ofMemory 251 = .ok (.iand, 1) := by decide +kernel
theorem dX5_ofMemory_252 : decode cX5_ofMemory 252 = .ok (.invokevirtual 106, 3) := by decide +kernel
theorem dX5_ofMemory_255 : decode cX5_ofMemory 255 = .ok (.iload 9, 2) := by decide +kernel
theorem dX5_ofMemory_257 : decode cX5_ofMemory 257 = .ok (.ireturn, 1) := by decide +kernel
set_option maxRecDepth 20000 in
theorem ggX5_ofPlaces_X5_pair : GoodIn wsX5_ofPlaces wsX5_pair := goodIn_r _ [6, 7, 18, 19, 20, 21, 22, 23, 24, 25] (by decide +kernel) (by decide +kernel)
set_option maxRecDepth 20000 in
theorem gX5_ofPlaces_X5_pair : GoodIn wsX5_ofPlaces (wsV RX5 28 RX5 yX5_pair wsX5_pair) := goodIn_app (goodIn_of _ (by decide +kernel)) ggX5_ofPlaces_X5_pair
set_option maxRecDepth 20000 in
theorem ggX5_ofPlaces_X5_dOf : GoodIn wsX5_ofPlaces wsX5_dOf := goodIn_r _ [10] (by decide +kernel) (by decide +kernel)
set_option maxRecDepth 20000 in
theorem gX5_ofPlaces_X5_dOf : GoodIn wsX5_ofPlaces (va_wsS RX5 53 yX5_dOf wsX5_dOf) := goodIn_app (goodIn_of _ (by decide +kernel)) ggX5_ofPlaces_X5_dOf
set_option maxRecDepth 20000 in
theorem ggX5_ofPlaces_X5_moves : GoodIn wsX5_ofPlaces wsX5_moves := goodIn_r _ [14, 7, 15, 16, 5, 17, 18, 19, 20, 21, 22, 23, 24, 25] (by decide +kernel) (by decide +kernel)
set_option maxRecDepth 20000 in
theorem gX5_ofPlaces_X5_moves : GoodIn wsX5_ofPlaces (wsV RX5 134 RX5 yX5_moves wsX5_moves) := goodIn_app (goodIn_of _ (by decide +kernel)) ggX5_ofPlaces_X5_moves
theorem dX5_ofPlaces_0 : decode cX5_ofPlaces 0 = .ok (.iload_n 1, 1) := by decide +kernel
theorem dX5_ofPlaces_1 : decode cX5_ofPlaces 1 = .ok (.bipush 8, 2) := by decide +kernel
theorem dX5_ofPlaces_3 : decode cX5_ofPlaces 3 = .ok (.ishr, 1) := by decide +kernel
theorem dX5_ofPlaces_4 : decode cX5_ofPlaces 4 = .ok (.bipush 32, 2) := by decide +kernel
theorem dX5_ofPlaces_6 : decode cX5_ofPlaces 6 = .ok (.iand, 1) := by decide +kernel
theorem dX5_ofPlaces_7 : decode cX5_ofPlaces 7 = .ok (.iload_n 1, 1) := by decide +kernel
theorem dX5_ofPlaces_8 : decode cX5_ofPlaces 8 = .ok (.bipush 7, 2) := by decide +kernel
theorem dX5_ofPlaces_10 : decode cX5_ofPlaces 10 = .ok (.ishr, 1) := by decide +kernel
theorem dX5_ofPlaces_11 : decode cX5_ofPlaces 11 = .ok (.bipush 24, 2) := by decide +kernel
theorem dX5_ofPlaces_13 : decode cX5_ofPlaces 13 = .ok (.iand, 1) := by decide +kernel
theorem dX5_ofPlaces_14 : decode cX5_ofPlaces 14 = .ok (.ior, 1) := by decide +kernel
theorem dX5_ofPlaces_15 : decode cX5_ofPlaces 15 = .ok (.iload_n 1, 1) := by decide +kernel
theorem dX5_ofPlaces_16 : decode cX5_ofPlaces 16 = .ok (.bipush 7, 2) := by decide +kernel
theorem dX5_ofPlaces_18 : decode cX5_ofPlaces 18 = .ok (.iand, 1) := by decide +kernel
theorem dX5_ofPlaces_19 : decode cX5_ofPlaces 19 = .ok (.ior, 1) := by decide +kernel
theorem dX5_ofPlaces_20 : decode cX5_ofPlaces 20 = .ok (.istore_n 2, 1) := by decide +kernel
theorem dX5_ofPlaces_21 : decode cX5_ofPlaces 21 = .ok (.aload_n 0, 1) := by decide +kernel
theorem dX5_ofPlaces_22 : decode cX5_ofPlaces 22 = .ok (.iload_n 1, 1) := by decide +kernel
theorem dX5_ofPlaces_23 : decode cX5_ofPlaces 23 = .ok (.bipush 8, 2) := by decide +kernel
theorem dX5_ofPlaces_25 : decode cX5_ofPlaces 25 = .ok (.iand, 1) := by decide +kernel
theorem dX5_ofPlaces_26 : decode cX5_ofPlaces 26 = .ok (.ifCond .eq 8, 3) := by decide +kernel
theorem dX5_ofPlaces_29 : decode cX5_ofPlaces 29 = .ok (.bipush 28, 2) := by decide +kernel
theorem dX5_ofPlaces_31 : decode cX5_ofPlaces 31 = .ok (.goto 5, 3) := by decide +kernel
theorem dX5_ofPlaces_34 : decode cX5_ofPlaces 34 = .ok (.bipush 30, 2) := by decide +kernel
theorem dX5_ofPlaces_36 : decode cX5_ofPlaces 36 = .ok (.invokevirtual 28, 3) := by decide +kernel
theorem dX5_ofPlaces_39 : decode cX5_ofPlaces 39 = .ok (.istore_n 3, 1) := by decide +kernel
theorem dX5_ofPlaces_40 : decode cX5_ofPlaces 40 = .ok (.aload_n 0, 1) := by decide +kernel
theorem dX5_ofPlaces_41 : decode cX5_ofPlaces 41 = .ok (.iload_n 3, 1) := by decide +kernel
theorem dX5_ofPlaces_42 : decode cX5_ofPlaces 42 = .ok (.iload_n 2, 1) := by decide +kernel
theorem dX5_ofPlaces_43 : decode cX5_ofPlaces 43 = .ok (.iadd, 1) := by decide +kernel
theorem dX5_ofPlaces_44 : decode cX5_ofPlaces 44 = .ok (.ldc 27, 2) := by decide +kernel
theorem dX5_ofPlaces_46 : decode cX5_ofPlaces 46 = .ok (.iand, 1) := by decide +kernel
theorem dX5_ofPlaces_47 : decode cX5_ofPlaces 47 = .ok (.iload_n 1, 1) := by decide +kernel
theorem dX5_ofPlaces_48 : decode cX5_ofPlaces 48 = .ok (.invokestatic 53, 3) := by decide +kernel
theorem dX5_ofPlaces_51 : decode cX5_ofPlaces 51 = .ok (.iload_n 1, 1) := by decide +kernel
theorem dX5_ofPlaces_52 : decode cX5_ofPlaces 52 = .ok (.sipush 512, 3) := by decide +kernel
theorem dX5_ofPlaces_55 : decode cX5_ofPlaces 55 = .ok (.iand, 1) := by decide +kernel
theorem dX5_ofPlaces_56 : decode cX5_ofPlaces 56 = .ok (.ifCond .eq 7, 3) := by decide +kernel
theorem dX5_ofPlaces_59 : decode cX5_ofPlaces 59 = .ok (.iconst 1, 1) := by decide +kernel
theorem dX5_ofPlaces_60 : decode cX5_ofPlaces 60 = .ok (.goto 4, 3) := by decide +kernel
theorem dX5_ofPlaces_63 : decode cX5_ofPlaces 63 = .ok (.iconst 0, 1) := by decide +kernel
theorem dX5_ofPlaces_64 : decode cX5_ofPlaces 64 = .ok (.invokevirtual 134, 3) := by decide +kernel
theorem dX5_ofPlaces_67 : decode cX5_ofPlaces 67 = .ok (.ireturn, 1) := by decide +kernel
set_option maxRecDepth 20000 in
theorem ggX5_ofPort_X5_dOf : GoodIn wsX5_ofPort wsX5_dOf := goodIn_r _ [5] (by decide +kernel) (by decide +kernel)
set_option maxRecDepth 20000 in
theorem gX5_ofPort_X5_dOf : GoodIn wsX5_ofPort (va_wsS RX5 53 yX5_dOf wsX5_dOf) := goodIn_app (goodIn_of _ (by decide +kernel)) ggX5_ofPort_X5_dOf
theorem dX5_ofPort_0 : decode cX5_ofPort 0 = .ok (.iload_n 1, 1) := by decide +kernel
theorem dX5_ofPort_1 : decode cX5_ofPort 1 = .ok (.iconst 5, 1) := by decide +kernel
theorem dX5_ofPort_2 : decode cX5_ofPort 2 = .ok (.ishr, 1) := by decide +kernel
theorem dX5_ofPort_3 : decode cX5_ofPort 3 = .ok (.bipush 48, 2) := by decide +kernel
theorem dX5_ofPort_5 : decode cX5_ofPort 5 = .ok (.iand, 1) := by decide +kernel
theorem dX5_ofPort_6 : decode cX5_ofPort 6 = .ok (.iload_n 1, 1) := by decide +kernel
theorem dX5_ofPort_7 : decode cX5_ofPort 7 = .ok (.bipush 15, 2) := by decide +kernel
theorem dX5_ofPort_9 : decode cX5_ofPort 9 = .ok (.iand, 1) := by decide +kernel
theorem dX5_ofPort_10 : decode cX5_ofPort 10 = .ok (.ior, 1) := by decide +kernel
theorem dX5_ofPort_11 : decode cX5_ofPort 11 = .ok (.istore_n 2, 1) := by decide +kernel
theorem dX5_ofPort_12 : decode cX5_ofPort 12 = .ok (.iload_n 1, 1) := by decide +kernel
theorem dX5_ofPort_13 : decode cX5_ofPort 13 = .ok (.sipush 2048, 3) := by decide +kernel
theorem dX5_ofPort_16 : decode cX5_ofPort 16 = .ok (.iand, 1) := by decide +kernel
theorem dX5_ofPort_17 : decode cX5_ofPort 17 = .ok (.ifCond .ne 24, 3) := by decide +kernel
theorem dX5_ofPort_20 : decode cX5_ofPort 20 = .ok (.aload_n 0, 1) := by decide +kernel
theorem dX5_ofPort_21 : decode cX5_ofPort 21 = .ok (.getfield 13, 3) := by decide +kernel
theorem dX5_ofPort_24 : decode cX5_ofPort 24 = .ok (.iload_n 1, 1) := by decide +kernel
theorem dX5_ofPort_25 : decode cX5_ofPort 25 = .ok (.invokestatic 53, 3) := by decide +kernel
theorem dX5_ofPort_28 : decode cX5_ofPort 28 = .ok (.aload_n 0, 1) := by decide +kernel
theorem dX5_ofPort_29 : decode cX5_ofPort 29 = .ok (.getfield 13, 3) := by decide +kernel
theorem dX5_ofPort_32 : decode cX5_ofPort 32 = .ok (.bipush 32, 2) := by decide +kernel
theorem dX5_ofPort_34 : decode cX5_ofPort 34 = .ok (.iload_n 2, 1) := by decide +kernel
theorem dX5_ofPort_35 : decode cX5_ofPort 35 = .ok (.iadd, 1) := by decide +kernel
theorem dX5_ofPort_36 : decode cX5_ofPort 36 = .ok (.iaload, 1) := by decide +kernel
theorem dX5_ofPort_37 : decode cX5_ofPort 37 = .ok (.iastore, 1) := by decide +kernel
theorem dX5_ofPort_38 : decode cX5_ofPort 38 = .ok (.goto 21, 3) := by decide +kernel
theorem dX5_ofPort_41 : decode cX5_ofPort 41 = .ok (.aload_n 0, 1) := by decide +kernel
theorem dX5_ofPort_42 : decode cX5_ofPort 42 = .ok (.getfield 13, 3) := by decide +kernel
theorem dX5_ofPort_45 : decode cX5_ofPort 45 = .ok (.bipush 32, 2) := by decide +kernel
theorem dX5_ofPort_47 : decode cX5_ofPort 47 = .ok (.iload_n 2, 1) := by decide +kernel
theorem dX5_ofPort_48 : decode cX5_ofPort 48 = .ok (.iadd, 1) := by decide +kernel
theorem dX5_ofPort_49 : decode cX5_ofPort 49 = .ok (.aload_n 0, 1) := by decide +kernel
theorem dX5_ofPort_50 : decode cX5_ofPort 50 = .ok (.getfield 13, 3) := by decide +kernel
theorem dX5_ofPort_53 : decode cX5_ofPort 53 = .ok (.iload_n 1, 1) := by decide +kernel
theorem dX5_ofPort_54 : decode cX5_ofPort 54 = .ok (.invokestatic 53, 3) := by decide +kernel
theorem dX5_ofPort_57 : decode cX5_ofPort 57 = .ok (.iaload, 1) := by decide +kernel
theorem dX5_ofPort_58 : decode cX5_ofPort 58 = .ok (.iastore, 1) := by decide +kernel
theorem dX5_ofPort_59 : decode cX5_ofPort 59 = .ok (.return_, 1) := by decide +kernel
set_option maxRecDepth 20000 in
theorem ggX5_ofPortBit_X5_skips : GoodIn wsX5_ofPortBit wsX5_skips := goodIn_r _ [6, 7, 8, 9, 10, 11, 5, 12, 13, 14, 15, 16, 17, 18, 19, 20, 21, 22, 23, 24, 25, 26, 27, 28, 29, 30] (by decide +kernel) (by decide +kernel)
set_option maxRecDepth 20000 in
theorem gX5_ofPortBit_X5_skips : GoodIn wsX5_ofPortBit (wsV RX5 99 RX5 yX5_skips wsX5_skips) := goodIn_app (goodIn_of _ (by decide +kernel)) ggX5_ofPortBit_X5_skips
theorem dX5_ofPortBit_0 : decode cX5_ofPortBit 0 = .ok (.bipush 32, 2) := by decide +kernel
theorem dX5_ofPortBit_2 : decode cX5_ofPortBit 2 = .ok (.iload_n 1, 1) := by decide +kernel
theorem dX5_ofPortBit_3 : decode cX5_ofPortBit 3 = .ok (.iconst 3, 1) := by decide +kernel
theorem dX5_ofPortBit_4 : decode cX5_ofPortBit 4 = .ok (.ishr, 1) := by decide +kernel
theorem dX5_ofPortBit_5 : decode cX5_ofPortBit 5 = .ok (.bipush 31, 2) := by decide +kernel
theorem dX5_ofPortBit_7 : decode cX5_ofPortBit 7 = .ok (.iand, 1) := by decide +kernel
theorem dX5_ofPortBit_8 : decode cX5_ofPortBit 8 = .ok (.iadd, 1) := by decide +kernel
theorem dX5_ofPortBit_9 : decode cX5_ofPortBit 9 = .ok (.istore_n 2, 1) := by decide +kernel
theorem dX5_ofPortBit_10 : decode cX5_ofPortBit 10 = .ok (.iconst 1, 1) := by decide +kernel
theorem dX5_ofPortBit_11 : decode cX5_ofPortBit 11 = .ok (.iload_n 1, 1) := by decide +kernel
theorem dX5_ofPortBit_12 : decode cX5_ofPortBit 12 = .ok (.bipush 7, 2) := by decide +kernel
theorem dX5_ofPortBit_14 : decode cX5_ofPortBit 14 = .ok (.iand, 1) := by decide +kernel
theorem dX5_ofPortBit_15 : decode cX5_ofPortBit 15 = .ok (.ishl, 1) := by decide +kernel
theorem dX5_ofPortBit_16 : decode cX5_ofPortBit 16 = .ok (.istore_n 3, 1) := by decide +kernel
theorem dX5_ofPortBit_17 : decode cX5_ofPortBit 17 = .ok (.aload_n 0, 1) := by decide +kernel
theorem dX5_ofPortBit_18 : decode cX5_ofPortBit 18 = .ok (.getfield 13, 3) := by decide +kernel
theorem dX5_ofPortBit_21 : decode cX5_ofPortBit 21 = .ok (.iload_n 2, 1) := by decide +kernel
theorem dX5_ofPortBit_22 : decode cX5_ofPortBit 22 = .ok (.iaload, 1) := by decide +kernel
theorem dX5_ofPortBit_23 : decode cX5_ofPortBit 23 = .ok (.iload_n 3, 1) := by decide +kernel
theorem dX5_ofPortBit_24 : decode cX5_ofPortBit 24 = .ok (.iand, 1) := by decide +kernel
theorem dX5_ofPortBit_25 : decode cX5_ofPortBit 25 = .ok (.ifCond .eq 7, 3) := by decide +kernel
theorem dX5_ofPortBit_28 : decode cX5_ofPortBit 28 = .ok (.iconst 1, 1) := by decide +kernel
theorem dX5_ofPortBit_29 : decode cX5_ofPortBit 29 = .ok (.goto 4, 3) := by decide +kernel
theorem dX5_ofPortBit_32 : decode cX5_ofPortBit 32 = .ok (.iconst 0, 1) := by decide +kernel
theorem dX5_ofPortBit_33 : decode cX5_ofPortBit 33 = .ok (.istore 4, 2) := by decide +kernel
theorem dX5_ofPortBit_35 : decode cX5_ofPortBit 35 = .ok (.iload_n 1, 1) := by decide +kernel
theorem dX5_ofPortBit_36 : decode cX5_ofPortBit 36 = .ok (.bipush 8, 2) := by decide +kernel
theorem dX5_ofPortBit_38 : decode cX5_ofPortBit 38 = .ok (.ishr, 1) := by decide +kernel
theorem dX5_ofPortBit_39 : decode cX5_ofPortBit 39 = .ok (.iconst 3, 1) := by decide +kernel
theorem dX5_ofPortBit_40 : decode cX5_ofPortBit 40 = .ok (.iand, 1) := by decide +kernel
theorem dX5_ofPortBit_41 : decode cX5_ofPortBit 41 = .ok (.tableswitch 72 0 2 #[27, 42, 59], 27) := by decide +kernel
theorem dX5_ofPortBit_68 : decode cX5_ofPortBit 68 = .ok (.aload_n 0, 1) := by decide +kernel
theorem dX5_ofPortBit_69 : decode cX5_ofPortBit 69 = .ok (.getfield 13, 3) := by decide +kernel
theorem dX5_ofPortBit_72 : decode cX5_ofPortBit 72 = .ok (.iload_n 2, 1) := by decide +kernel
theorem dX5_ofPortBit_73 : decode cX5_ofPortBit 73 = .ok (.dup2, 1) := by decide +kernel
theorem dX5_ofPortBit_74 : decode cX5_ofPortBit 74 = .ok (.iaload, 1) := by decide +kernel
theorem dX5_ofPortBit_75 : decode cX5_ofPortBit 75 = .ok (.iload_n 3, 1) := by decide +kernel
theorem dX5_ofPortBit_76 : decode cX5_ofPortBit 76 = .ok (.iconst (-1), 1) := by decide +kernel
theorem dX5_ofPortBit_77 : decode cX5_ofPortBit 77 = .ok (.ixor, 1) := by decide +kernel
theorem dX5_ofPortBit_78 : decode cX5_ofPortBit 78 = .ok (.iand, 1) := by decide +kernel
theorem dX5_ofPortBit_79 : decode cX5_ofPortBit 79 = .ok (.iastore, 1) := by decide +kernel
theorem dX5_ofPortBit_80 : decode cX5_ofPortBit 80 = .ok (.goto 39, 3) := by decide +kernel
theorem dX5_ofPortBit_83 : decode cX5_ofPortBit 83 = .ok (.aload_n 0, 1) := by decide +kernel
theorem dX5_ofPortBit_84 : decode cX5_ofPortBit 84 = .ok (.iload 4, 2) := by decide +kernel
theorem dX5_ofPortBit_86 : decode cX5_ofPortBit 86 = .ok (.ifCond .ne 7, 3) := by decide +kernel
theorem dX5_ofPortBit_89 : decode cX5_ofPortBit 89 = .ok (.iconst 1, 1) := by decide +kernel
theorem dX5_ofPortBit_90 : decode cX5_ofPortBit 90 = .ok (.goto 4, 3) := by decide +kernel
theorem dX5_ofPortBit_93 : decode cX5_ofPortBit 93 = .ok (.iconst 0, 1) := by decide +kernel
theorem dX5_ofPortBit_94 : decode cX5_ofPortBit 94 = .ok (.invokevirtual 99, 3) := by decide +kernel
theorem dX5_ofPortBit_97 : decode cX5_ofPortBit 97 = .ok (.goto 22, 3) := by decide +kernel
theorem dX5_ofPortBit_100 : decode cX5_ofPortBit 100 = .ok (.aload_n 0, 1) := by decide +kernel
theorem dX5_ofPortBit_101 : decode cX5_ofPortBit 101 = .ok (.getfield 13, 3) := by decide +kernel
theorem dX5_ofPortBit_104 : decode cX5_ofPortBit 104 = .ok (.iload_n 2, 1) := by decide +kernel
theorem dX5_ofPortBit_105 : decode cX5_ofPortBit 105 = .ok (.dup2, 1) := by decide +kernel
theorem dX5_ofPortBit_106 : decode cX5_ofPortBit 106 = .ok (.iaload, 1) := by decide +kernel
theorem dX5_ofPortBit_107 : decode cX5_ofPortBit 107 = .ok (.iload_n 3, 1) := by decide +kernel
theorem dX5_ofPortBit_108 : decode cX5_ofPortBit 108 = .ok (.ior, 1) := by decide +kernel
theorem dX5_ofPortBit_109 : decode cX5_ofPortBit 109 = .ok (.iastore, 1) := by decide +kernel
theorem dX5_ofPortBit_110 : decode cX5_ofPortBit 110 = .ok (.goto 9, 3) := by decide +kernel
theorem dX5_ofPortBit_113 : decode cX5_ofPortBit 113 = .ok (.aload_n 0, 1) := by decide +kernel
theorem dX5_ofPortBit_114 : decode cX5_ofPortBit 114 = .ok (.iload 4, 2) := by decide +kernel
theorem dX5_ofPortBit_116 : decode cX5_ofPortBit 116 = .ok (.invokevirtual 99, 3) := by decide +kernel
theorem dX5_ofPortBit_119 : decode cX5_ofPortBit 119 = .ok (.return_, 1) := by decide +kernel
set_option maxRecDepth 20000 in
theorem ggX5_ofBit_X5_dOf : GoodIn wsX5_ofBit wsX5_dOf := goodIn_r _ [5] (by decide +kernel) (by decide +kernel)
set_option maxRecDepth 20000 in
theorem gX5_ofBit_X5_dOf : GoodIn wsX5_ofBit (va_wsS RX5 53 yX5_dOf wsX5_dOf) := goodIn_app (goodIn_of _ (by decide +kernel)) ggX5_ofBit_X5_dOf
set_option maxRecDepth 20000 in
theorem ggX5_ofBit_X5_has : GoodIn wsX5_ofBit wsX5_has := goodIn_r _ [9, 1, 34, 35, 36, 37, 38, 39, 40, 41] (by decide +kernel) (by decide +kernel)
set_option maxRecDepth 20000 in
theorem gX5_ofBit_X5_has : GoodIn wsX5_ofBit (wsV RX5 81 RX5 yX5_has wsX5_has) := goodIn_app (goodIn_of _ (by decide +kernel)) ggX5_ofBit_X5_has
set_option maxRecDepth 20000 in
theorem ggX5_ofBit_X5_flag : GoodIn wsX5_ofBit wsX5_flag := goodIn_r _ [13, 1, 34, 35, 36, 37, 38, 39, 40, 41] (by decide +kernel) (by decide +kernel)
set_option maxRecDepth 20000 in
theorem gX5_ofBit_X5_flag : GoodIn wsX5_ofBit (wsV RX5 74 RX5 yX5_flag wsX5_flag) := goodIn_app (goodIn_of _ (by decide +kernel)) ggX5_ofBit_X5_flag
set_option maxRecDepth 20000 in
theorem ggX5_ofBit_X5_skips : GoodIn wsX5_ofBit wsX5_skips := goodIn_r _ [17, 18, 19, 20, 21, 22, 4, 23, 24, 25, 26, 27, 28, 29, 30, 31, 32, 33, 34, 35, 36, 37, 38, 39, 40, 41] (by decide +kernel) (by decide +kernel)
set_option maxRecDepth 20000 in
theorem gX5_ofBit_X5_skips : GoodIn wsX5_ofBit (wsV RX5 99 RX5 yX5_skips wsX5_skips) := goodIn_app (goodIn_of _ (by decide +kernel)) ggX5_ofBit_X5_skips
theorem dX5_ofBit_0 : decode cX5_ofBit 0 = .ok (.iload_n 1, 1) := by decide +kernel
theorem dX5_ofBit_1 : decode cX5_ofBit 1 = .ok (.invokestatic 53, 3) := by decide +kernel
theorem dX5_ofBit_4 : decode cX5_ofBit 4 = .ok (.istore_n 2, 1) := by decide +kernel
theorem dX5_ofBit_5 : decode cX5_ofBit 5 = .ok (.iconst 1, 1) := by decide +kernel
theorem dX5_ofBit_6 : decode cX5_ofBit 6 = .ok (.iload_n 1, 1) := by decide +kernel
theorem dX5_ofBit_7 : decode cX5_ofBit 7 = .ok (.bipush 7, 2) := by decide +kernel
theorem dX5_ofBit_9 : decode cX5_ofBit 9 = .ok (.iand, 1) := by decide +kernel
theorem dX5_ofBit_10 : decode cX5_ofBit 10 = .ok (.ishl, 1) := by decide +kernel
theorem dX5_ofBit_11 : decode cX5_ofBit 11 = .ok (.istore_n 3, 1) := by decide +kernel
theorem dX5_ofBit_12 : decode cX5_ofBit 12 = .ok (.aload_n 0, 1) := by decide +kernel
theorem dX5_ofBit_13 : decode cX5_ofBit 13 = .ok (.getfield 13, 3) := by decide +kernel
theorem dX5_ofBit_16 : decode cX5_ofBit 16 = .ok (.iload_n 2, 1) := by decide +kernel
theorem dX5_ofBit_17 : decode cX5_ofBit 17 = .ok (.iaload, 1) := by decide +kernel
theorem dX5_ofBit_18 : decode cX5_ofBit 18 = .ok (.iload_n 3, 1) := by decide +kernel
theorem dX5_ofBit_19 : decode cX5_ofBit 19 = .ok (.iand, 1) := by decide +kernel
theorem dX5_ofBit_20 : decode cX5_ofBit 20 = .ok (.ifCond .eq 7, 3) := by decide +kernel
theorem dX5_ofBit_23 : decode cX5_ofBit 23 = .ok (.iconst 1, 1) := by decide +kernel
theorem dX5_ofBit_24 : decode cX5_ofBit 24 = .ok (.goto 4, 3) := by decide +kernel
theorem dX5_ofBit_27 : decode cX5_ofBit 27 = .ok (.iconst 0, 1) := by decide +kernel
theorem dX5_ofBit_28 : decode cX5_ofBit 28 = .ok (.istore 4, 2) := by decide +kernel
theorem dX5_ofBit_30 : decode cX5_ofBit 30 = .ok (.iload_n 1, 1) := by decide +kernel
theorem dX5_ofBit_31 : decode cX5_ofBit 31 = .ok (.bipush 9, 2) := by decide +kernel
theorem dX5_ofBit_33 : decode cX5_ofBit 33 = .ok (.ishr, 1) := by decide +kernel
theorem dX5_ofBit_34 : decode cX5_ofBit 34 = .ok (.iconst 3, 1) := by decide +kernel
theorem dX5_ofBit_35 : decode cX5_ofBit 35 = .ok (.iand, 1) := by decide +kernel
theorem dX5_ofBit_36 : decode cX5_ofBit 36 = .ok (.tableswitch 95 0 2 #[28, 67, 78], 28) := by decide +kernel
theorem dX5_ofBit_64 : decode cX5_ofBit 64 = .ok (.aload_n 0, 1) := by decide +kernel
theorem dX5_ofBit_65 : decode cX5_ofBit 65 = .ok (.getfield 13, 3) := by decide +kernel
theorem dX5_ofBit_68 : decode cX5_ofBit 68 = .ok (.iload_n 2, 1) := by decide +kernel
theorem dX5_ofBit_69 : decode cX5_ofBit 69 = .ok (.aload_n 0, 1) := by decide +kernel
theorem dX5_ofBit_70 : decode cX5_ofBit 70 = .ok (.bipush 64, 2) := by decide +kernel
theorem dX5_ofBit_72 : decode cX5_ofBit 72 = .ok (.invokevirtual 81, 3) := by decide +kernel
theorem dX5_ofBit_75 : decode cX5_ofBit 75 = .ok (.ifCond .eq 14, 3) := by decide +kernel
theorem dX5_ofBit_78 : decode cX5_ofBit 78 = .ok (.aload_n 0, 1) := by decide +kernel
theorem dX5_ofBit_79 : decode cX5_ofBit 79 = .ok (.getfield 13, 3) := by decide +kernel
theorem dX5_ofBit_82 : decode cX5_ofBit 82 = .ok (.iload_n 2, 1) := by decide +kernel
theorem dX5_ofBit_83 : decode cX5_ofBit 83 = .ok (.iaload, 1) := by decide +kernel
theorem dX5_ofBit_84 : decode cX5_ofBit 84 = .ok (.iload_n 3, 1) := by decide +kernel
theorem dX5_ofBit_85 : decode cX5_ofBit 85 = .ok (.ior, 1) := by decide +kernel
theorem dX5_ofBit_86 : decode cX5_ofBit 86 = .ok (.goto 13, 3) := by decide +kernel
theorem dX5_ofBit_89 : decode cX5_ofBit 89 = .ok (.aload_n 0, 1) := by decide +kernel
theorem dX5_ofBit_90 : decode cX5_ofBit 90 = .ok (.getfield 13, 3) := by decide +kernel
theorem dX5_ofBit_93 : decode cX5_ofBit 93 = .ok (.iload_n 2, 1) := by decide +kernel
theorem dX5_ofBit_94 : decode cX5_ofBit 94 = .ok (.iaload, 1) := by decide +kernel
theorem dX5_ofBit_95 : decode cX5_ofBit 95 = .ok (.iload_n 3, 1) := by decide +kernel
theorem dX5_ofBit_96 : decode cX5_ofBit 96 = .ok (.iconst (-1), 1) := by decide +kernel
theorem dX5_ofBit_97 : decode cX5_ofBit 97 = .ok (.ixor, 1) := by decide +kernel
theorem dX5_ofBit_98 : decode cX5_ofBit 98 = .ok (.iand, 1) := by decide +kernel
theorem dX5_ofBit_99 : decode cX5_ofBit 99 = .ok (.iastore, 1) := by decide +kernel
theorem dX5_ofBit_100 : decode cX5_ofBit 100 = .ok (.goto 37, 3) := by decide +kernel
theorem dX5_ofBit_103 : decode cX5_ofBit 103 = .ok (.aload_n 0, 1) := by decide +kernel
theorem dX5_ofBit_104 : decode cX5_ofBit 104 = .ok (.bipush 64, 2) := by decide +kernel
theorem dX5_ofBit_106 : decode cX5_ofBit 106 = .ok (.iload 4, 2) := by decide +kernel
theorem dX5_ofBit_108 : decode cX5_ofBit 108 = .ok (.invokevirtual 74, 3) := by decide +kernel
theorem dX5_ofBit_111 : decode cX5_ofBit 111 = .ok (.goto 26, 3) := by decide +kernel
theorem dX5_ofBit_114 : decode cX5_ofBit 114 = .ok (.aload_n 0, 1) := by decide +kernel
theorem dX5_ofBit_115 : decode cX5_ofBit 115 = .ok (.iload 4, 2) := by decide +kernel
theorem dX5_ofBit_117 : decode cX5_ofBit 117 = .ok (.ifCond .ne 7, 3) := by decide +kernel
theorem dX5_ofBit_120 : decode cX5_ofBit 120 = .ok (.iconst 1, 1) := by decide +kernel
theorem dX5_ofBit_121 : decode cX5_ofBit 121 = .ok (.goto 4, 3) := by decide +kernel
theorem dX5_ofBit_124 : decode cX5_ofBit 124 = .ok (.iconst 0, 1) := by decide +kernel
theorem dX5_ofBit_125 : decode cX5_ofBit 125 = .ok (.invokevirtual 99, 3) := by decide +kernel
theorem dX5_ofBit_128 : decode cX5_ofBit 128 = .ok (.goto 9, 3) := by decide +kernel
theorem dX5_ofBit_131 : decode cX5_ofBit 131 = .ok (.aload_n 0, 1) := by decide +kernel
theorem dX5_ofBit_132 : decode cX5_ofBit 132 = .ok (.iload 4, 2) := by decide +kernel
theorem dX5_ofBit_134 : decode cX5_ofBit 134 = .ok (.invokevirtual 99, 3) := by decide +kernel
theorem dX5_ofBit_137 : decode cX5_ofBit 137 = .ok (.return_, 1) := by decide +kernel
set_option maxRecDepth 20000 in
theorem ggX5_jumps_X5_canCall : GoodIn wsX5_jumps wsX5_canCall := goodIn_r _ [7, 8, 9, 10, 11, 6, 12, 13, 14, 15, 16, 29, 30, 31, 32, 33, 34, 35, 36] (by decide +kernel) (by decide +kernel)
set_option maxRecDepth 20000 in
theorem gX5_jumps_X5_canCall : GoodIn wsX5_jumps (wsV RX5 141 RX5 yX5_canCall wsX5_canCall) := goodIn_app (goodIn_of _ (by decide +kernel)) ggX5_jumps_X5_canCall
set_option maxRecDepth 20000 in
theorem ggX5_jumps_X5_calls : GoodIn wsX5_jumps wsX5_calls := goodIn_r _ [20, 1, 21, 22, 23, 6, 24, 13, 8, 9, 10, 11, 12, 25, 26, 27, 28, 29, 30, 31, 32, 33, 34, 35, 36] (by decide +kernel) (by decide +kernel)
set_option maxRecDepth 20000 in
theorem gX5_jumps_X5_calls : GoodIn wsX5_jumps (wsV RX5 145 RX5 yX5_calls wsX5_calls) := goodIn_app (goodIn_of _ (by decide +kernel)) ggX5_jumps_X5_calls
theorem dX5_jumps_0 : decode cX5_jumps 0 = .ok (.iload_n 3, 1) := by decide +kernel
theorem dX5_jumps_1 : decode cX5_jumps 1 = .ok (.ifCond .ne 14, 3) := by decide +kernel
theorem dX5_jumps_4 : decode cX5_jumps 4 = .ok (.aload_n 0, 1) := by decide +kernel
theorem dX5_jumps_5 : decode cX5_jumps 5 = .ok (.iload_n 2, 1) := by decide +kernel
theorem dX5_jumps_6 : decode cX5_jumps 6 = .ok (.sipush 1023, 3) := by decide +kernel
theorem dX5_jumps_9 : decode cX5_jumps 9 = .ok (.iand, 1) := by decide +kernel
theorem dX5_jumps_10 : decode cX5_jumps 10 = .ok (.putfield 84, 3) := by decide +kernel
theorem dX5_jumps_13 : decode cX5_jumps 13 = .ok (.iconst 0, 1) := by decide +kernel
theorem dX5_jumps_14 : decode cX5_jumps 14 = .ok (.ireturn, 1) := by decide +kernel
theorem dX5_jumps_15 : decode cX5_jumps 15 = .ok (.aload_n 0, 1) := by decide +kernel
theorem dX5_jumps_16 : decode cX5_jumps 16 = .ok (.invokevirtual 141, 3) := by decide +kernel
theorem dX5_jumps_19 : decode cX5_jumps 19 = .ok (.ifCond .ne 5, 3) := by decide +kernel
theorem dX5_jumps_22 : decode cX5_jumps 22 = .ok (.iconst 3, 1) := by decide +kernel
theorem dX5_jumps_23 : decode cX5_jumps 23 = .ok (.ireturn, 1) := by decide +kernel
theorem dX5_jumps_24 : decode cX5_jumps 24 = .ok (.aload_n 0, 1) := by decide +kernel
theorem dX5_jumps_25 : decode cX5_jumps 25 = .ok (.iload_n 1, 1) := by decide +kernel
theorem dX5_jumps_26 : decode cX5_jumps 26 = .ok (.iload_n 2, 1) := by decide +kernel
theorem dX5_jumps_27 : decode cX5_jumps 27 = .ok (.invokevirtual 145, 3) := by decide +kernel
theorem dX5_jumps_30 : decode cX5_jumps 30 = .ok (.aload_n 0, 1) := by decide +kernel
theorem dX5_jumps_31 : decode cX5_jumps 31 = .ok (.getfield 16, 3) := by decide +kernel
theorem dX5_jumps_34 : decode cX5_jumps 34 = .ok (.bipush 6, 2) := by decide +kernel
theorem dX5_jumps_36 : decode cX5_jumps 36 = .ok (.dup2, 1) := by decide +kernel
theorem dX5_jumps_37 : decode cX5_jumps 37 = .ok (.iaload, 1) := by decide +kernel
theorem dX5_jumps_38 : decode cX5_jumps 38 = .ok (.iconst 1, 1) := by decide +kernel
theorem dX5_jumps_39 : decode cX5_jumps 39 = .ok (.iadd, 1) := by decide +kernel
theorem dX5_jumps_40 : decode cX5_jumps 40 = .ok (.iastore, 1) := by decide +kernel
theorem dX5_jumps_41 : decode cX5_jumps 41 = .ok (.iconst 0, 1) := by decide +kernel
theorem dX5_jumps_42 : decode cX5_jumps 42 = .ok (.ireturn, 1) := by decide +kernel
set_option maxRecDepth 20000 in
theorem ggX5_returns_X5_pair : GoodIn wsX5_returns wsX5_pair := goodIn_r _ [8, 9, 25, 26, 27, 28, 29, 30, 31, 32] (by decide +kernel) (by decide +kernel)
set_option maxRecDepth 20000 in
theorem gX5_returns_X5_pair : GoodIn wsX5_returns (wsV RX5 28 RX5 yX5_pair wsX5_pair) := goodIn_app (goodIn_of _ (by decide +kernel)) ggX5_returns_X5_pair
set_option maxRecDepth 20000 in
theorem ggX5_returns_X5_isFar : GoodIn wsX5_returns wsX5_isFar := goodIn_r _ [12] (by decide +kernel) (by decide +kernel)
set_option maxRecDepth 20000 in
theorem gX5_returns_X5_isFar : GoodIn wsX5_returns (va_wsS RX5 121 yX5_isFar wsX5_isFar) := goodIn_app (goodIn_of _ (by decide +kernel)) ggX5_returns_X5_isFar
set_option maxRecDepth 20000 in
theorem ggX5_returns_X5_pops : GoodIn wsX5_returns wsX5_pops := goodIn_r _ [16, 1, 9, 4, 5, 6, 7, 8, 17, 18, 19, 20, 25, 26, 27, 28, 29, 30, 31, 32] (by decide +kernel) (by decide +kernel)
set_option maxRecDepth 20000 in
theorem gX5_returns_X5_pops : GoodIn wsX5_returns (wsV RX5 128 RX5 yX5_pops wsX5_pops) := goodIn_app (goodIn_of _ (by decide +kernel)) ggX5_returns_X5_pops
set_option maxRecDepth 20000 in
theorem ggX5_returns_X5_flag : GoodIn wsX5_returns wsX5_flag := goodIn_r _ [24, 9, 25, 26, 27, 28, 29, 30, 31, 32] (by decide +kernel) (by decide +kernel)
set_option maxRecDepth 20000 in
theorem gX5_returns_X5_flag : GoodIn wsX5_returns (wsV RX5 74 RX5 yX5_flag wsX5_flag) := goodIn_app (goodIn_of _ (by decide +kernel)) ggX5_returns_X5_flag
theorem dX5_returns_0 : decode cX5_returns 0 = .ok (.aload_n 0, 1) := by decide +kernel
theorem dX5_returns_1 : decode cX5_returns 1 = .ok (.bipush 93, 2) := by decide +kernel
theorem dX5_returns_3 : decode cX5_returns 3 = .ok (.invokevirtual 28, 3) := by decide +kernel
theorem dX5_returns_6 : decode cX5_returns 6 = .ok (.istore_n 2, 1) := by decide +kernel
theorem dX5_returns_7 : decode cX5_returns 7 = .ok (.iload_n 2, 1) := by decide +kernel
theorem dX5_returns_8 : decode cX5_returns 8 = .ok (.iconst 1, 1) := by decide +kernel
theorem dX5_returns_9 : decode cX5_returns 9 = .ok (.iadd, 1) := by decide +kernel
theorem dX5_returns_10 : decode cX5_returns 10 = .ok (.ldc 27, 2) := by decide +kernel
theorem dX5_returns_12 : decode cX5_returns 12 = .ok (.iand, 1) := by decide +kernel
theorem dX5_returns_13 : decode cX5_returns 13 = .ok (.invokestatic 121, 3) := by decide +kernel
theorem dX5_returns_16 : decode cX5_returns 16 = .ok (.ifCond .ne 15, 3) := by decide +kernel
theorem dX5_returns_19 : decode cX5_returns 19 = .ok (.iload_n 2, 1) := by decide +kernel
theorem dX5_returns_20 : decode cX5_returns 20 = .ok (.iconst 2, 1) := by decide +kernel
theorem dX5_returns_21 : decode cX5_returns 21 = .ok (.iadd, 1) := by decide +kernel
theorem dX5_returns_22 : decode cX5_returns 22 = .ok (.ldc 27, 2) := by decide +kernel
theorem dX5_returns_24 : decode cX5_returns 24 = .ok (.iand, 1) := by decide +kernel
theorem dX5_returns_25 : decode cX5_returns 25 = .ok (.invokestatic 121, 3) := by decide +kernel
theorem dX5_returns_28 : decode cX5_returns 28 = .ok (.ifCond .eq 5, 3) := by decide +kernel
theorem dX5_returns_31 : decode cX5_returns 31 = .ok (.iconst 3, 1) := by decide +kernel
theorem dX5_returns_32 : decode cX5_returns 32 = .ok (.ireturn, 1) := by decide +kernel
theorem dX5_returns_33 : decode cX5_returns 33 = .ok (.aload_n 0, 1) := by decide +kernel
theorem dX5_returns_34 : decode cX5_returns 34 = .ok (.invokevirtual 128, 3) := by decide +kernel
theorem dX5_returns_37 : decode cX5_returns 37 = .ok (.istore_n 3, 1) := by decide +kernel
theorem dX5_returns_38 : decode cX5_returns 38 = .ok (.aload_n 0, 1) := by decide +kernel
theorem dX5_returns_39 : decode cX5_returns 39 = .ok (.invokevirtual 128, 3) := by decide +kernel
theorem dX5_returns_42 : decode cX5_returns 42 = .ok (.istore 4, 2) := by decide +kernel
theorem dX5_returns_44 : decode cX5_returns 44 = .ok (.aload_n 0, 1) := by decide +kernel
theorem dX5_returns_45 : decode cX5_returns 45 = .ok (.iload_n 3, 1) := by decide +kernel
theorem dX5_returns_46 : decode cX5_returns 46 = .ok (.bipush 8, 2) := by decide +kernel
theorem dX5_returns_48 : decode cX5_returns 48 = .ok (.ishl, 1) := by decide +kernel
theorem dX5_returns_49 : decode cX5_returns 49 = .ok (.iload 4, 2) := by decide +kernel
theorem dX5_returns_51 : decode cX5_returns 51 = .ok (.ior, 1) := by decide +kernel
theorem dX5_returns_52 : decode cX5_returns 52 = .ok (.sipush 1023, 3) := by decide +kernel
theorem dX5_returns_55 : decode cX5_returns 55 = .ok (.iand, 1) := by decide +kernel
theorem dX5_returns_56 : decode cX5_returns 56 = .ok (.putfield 84, 3) := by decide +kernel
theorem dX5_returns_59 : decode cX5_returns 59 = .ok (.iload_n 1, 1) := by decide +kernel
theorem dX5_returns_60 : decode cX5_returns 60 = .ok (.ldc 57, 2) := by decide +kernel
theorem dX5_returns_62 : decode cX5_returns 62 = .ok (.if_icmp .ne 11, 3) := by decide +kernel
theorem dX5_returns_65 : decode cX5_returns 65 = .ok (.aload_n 0, 1) := by decide +kernel
theorem dX5_returns_66 : decode cX5_returns 66 = .ok (.sipush 128, 3) := by decide +kernel
theorem dX5_returns_69 : decode cX5_returns 69 = .ok (.iconst 1, 1) := by decide +kernel
theorem dX5_returns_70 : decode cX5_returns 70 = .ok (.invokevirtual 74, 3) := by decide +kernel
theorem dX5_returns_73 : decode cX5_returns 73 = .ok (.iconst 0, 1) := by decide +kernel
theorem dX5_returns_74 : decode cX5_returns 74 = .ok (.ireturn, 1) := by decide +kernel
set_option maxRecDepth 20000 in
theorem ggX5_ofOthers_X5_jumps : GoodIn wsX5_ofOthers wsX5_jumps := goodIn_r _ [12, 2, 13, 14, 15, 16, 11, 17, 18, 19, 20, 21, 22, 7, 23, 24, 25, 26, 27, 28, 29, 30, 31, 32, 33, 34, 35, 36, 37, 54, 55, 56, 57, 58, 59, 60, 61] (by decide +kernel) (by decide +kernel)
set_option maxRecDepth 20000 in
theorem gX5_ofOthers_X5_jumps : GoodIn wsX5_ofOthers (wsV RX5 148 RX5 yX5_jumps wsX5_jumps) := goodIn_app (goodIn_of _ (by decide +kernel)) ggX5_ofOthers_X5_jumps
set_option maxRecDepth 20000 in
theorem ggX5_ofOthers_X5_pair : GoodIn wsX5_ofOthers wsX5_pair := goodIn_r _ [22, 7, 54, 55, 56, 57, 58, 59, 60, 61] (by decide +kernel) (by decide +kernel)
set_option maxRecDepth 20000 in
theorem gX5_ofOthers_X5_pair : GoodIn wsX5_ofOthers (wsV RX5 28 RX5 yX5_pair wsX5_pair) := goodIn_app (goodIn_of _ (by decide +kernel)) ggX5_ofOthers_X5_pair
set_option maxRecDepth 20000 in
theorem ggX5_ofOthers_X5_returns : GoodIn wsX5_ofOthers wsX5_returns := goodIn_r _ [41, 18, 2, 5, 19, 20, 21, 11, 22, 7, 23, 24, 25, 42, 43, 44, 45, 34, 35, 36, 37, 46, 47, 48, 49, 54, 55, 56, 57, 58, 59, 60, 61] (by decide +kernel) (by decide +kernel)
set_option maxRecDepth 20000 in
theorem gX5_ofOthers_X5_returns : GoodIn wsX5_ofOthers (wsV RX5 151 RX5 yX5_returns wsX5_returns) := goodIn_app (goodIn_of _ (by decide +kernel)) ggX5_ofOthers_X5_returns
set_option maxRecDepth 20000 in
theorem ggX5_ofOthers_X5_codeByte : GoodIn wsX5_ofOthers wsX5_codeByte := goodIn_r _ [53, 1, 54, 55, 56, 57, 58, 59, 60, 61] (by decide +kernel) (by decide +kernel)
set_option maxRecDepth 20000 in
theorem gX5_ofOthers_X5_codeByte : GoodIn wsX5_ofOthers (wsV RX5 138 RX5 yX5_codeByte wsX5_codeByte) := goodIn_app (goodIn_of _ (by decide +kernel)) ggX5_ofOthers_X5_codeByte
set_option maxRecDepth 20000 in
theorem ggX5_ofOthers_X5_flag : GoodIn wsX5_ofOthers wsX5_flag := goodIn_r _ [49, 7, 54, 55, 56, 57, 58, 59, 60, 61] (by decide +kernel) (by decide +kernel)
set_option maxRecDepth 20000 in
theorem gX5_ofOthers_X5_flag : GoodIn wsX5_ofOthers (wsV RX5 74 RX5 yX5_flag wsX5_flag) := goodIn_app (goodIn_of _ (by decide +kernel)) ggX5_ofOthers_X5_flag
theorem dX5_ofOthers_0 : decode cX5_ofOthers 0 = .ok (.iload_n 1, 1) := by decide +kernel
theorem dX5_ofOthers_1 : decode cX5_ofOthers 1 = .ok (.bipush 15, 2) := by decide +kernel
theorem dX5_ofOthers_3 : decode cX5_ofOthers 3 = .ok (.iand, 1) := by decide +kernel
theorem dX5_ofOthers_4 : decode cX5_ofOthers 4 = .ok (.istore_n 2, 1) := by decide +kernel
theorem dX5_ofOthers_5 : decode cX5_ofOthers 5 = .ok (.iload_n 2, 1) := by decide +kernel
theorem dX5_ofOthers_6 : decode cX5_ofOthers 6 = .ok (.bipush 11, 2) := by decide +kernel
theorem dX5_ofOthers_8 : decode cX5_ofOthers 8 = .ok (.if_icmp .le 48, 3) := by decide +kernel
theorem dX5_ofOthers_11 : decode cX5_ofOthers 11 = .ok (.aload_n 0, 1) := by decide +kernel
theorem dX5_ofOthers_12 : decode cX5_ofOthers 12 = .ok (.getfield 7, 3) := by decide +kernel
theorem dX5_ofOthers_15 : decode cX5_ofOthers 15 = .ok (.aload_n 0, 1) := by decide +kernel
theorem dX5_ofOthers_16 : decode cX5_ofOthers 16 = .ok (.getfield 84, 3) := by decide +kernel
theorem dX5_ofOthers_19 : decode cX5_ofOthers 19 = .ok (.iaload, 1) := by decide +kernel
theorem dX5_ofOthers_20 : decode cX5_ofOthers 20 = .ok (.istore_n 3, 1) := by decide +kernel
theorem dX5_ofOthers_21 : decode cX5_ofOthers 21 = .ok (.aload_n 0, 1) := by decide +kernel
theorem dX5_ofOthers_22 : decode cX5_ofOthers 22 = .ok (.aload_n 0, 1) := by decide +kernel
theorem dX5_ofOthers_23 : decode cX5_ofOthers 23 = .ok (.getfield 84, 3) := by decide +kernel
theorem dX5_ofOthers_26 : decode cX5_ofOthers 26 = .ok (.iconst 1, 1) := by decide +kernel
theorem dX5_ofOthers_27 : decode cX5_ofOthers 27 = .ok (.iadd, 1) := by decide +kernel
theorem dX5_ofOthers_28 : decode cX5_ofOthers 28 = .ok (.sipush 1023, 3) := by decide +kernel
theorem dX5_ofOthers_31 : decode cX5_ofOthers 31 = .ok (.iand, 1) := by decide +kernel
theorem dX5_ofOthers_32 : decode cX5_ofOthers 32 = .ok (.putfield 84, 3) := by decide +kernel
theorem dX5_ofOthers_35 : decode cX5_ofOthers 35 = .ok (.aload_n 0, 1) := by decide +kernel
theorem dX5_ofOthers_36 : decode cX5_ofOthers 36 = .ok (.aload_n 0, 1) := by decide +kernel
theorem dX5_ofOthers_37 : decode cX5_ofOthers 37 = .ok (.getfield 84, 3) := by decide +kernel
theorem dX5_ofOthers_40 : decode cX5_ofOthers 40 = .ok (.iload_n 3, 1) := by decide +kernel
theorem dX5_ofOthers_41 : decode cX5_ofOthers 41 = .ok (.iload_n 2, 1) := by decide +kernel
theorem dX5_ofOthers_42 : decode cX5_ofOthers 42 = .ok (.bipush 13, 2) := by decide +kernel
theorem dX5_ofOthers_44 : decode cX5_ofOthers 44 = .ok (.if_icmp .le 7, 3) := by decide +kernel
theorem dX5_ofOthers_47 : decode cX5_ofOthers 47 = .ok (.iconst 1, 1) := by decide +kernel
theorem dX5_ofOthers_48 : decode cX5_ofOthers 48 = .ok (.goto 4, 3) := by decide +kernel
theorem dX5_ofOthers_51 : decode cX5_ofOthers 51 = .ok (.iconst 0, 1) := by decide +kernel
theorem dX5_ofOthers_52 : decode cX5_ofOthers 52 = .ok (.invokevirtual 148, 3) := by decide +kernel
theorem dX5_ofOthers_55 : decode cX5_ofOthers 55 = .ok (.ireturn, 1) := by decide +kernel
theorem dX5_ofOthers_56 : decode cX5_ofOthers 56 = .ok (.iload_n 2, 1) := by decide +kernel
theorem dX5_ofOthers_57 : decode cX5_ofOthers 57 = .ok (.bipush 9, 2) := by decide +kernel
theorem dX5_ofOthers_59 : decode cX5_ofOthers 59 = .ok (.if_icmp .ne 29, 3) := by decide +kernel
theorem dX5_ofOthers_62 : decode cX5_ofOthers 62 = .ok (.aload_n 0, 1) := by decide +kernel
theorem dX5_ofOthers_63 : decode cX5_ofOthers 63 = .ok (.aload_n 0, 1) := by decide +kernel
theorem dX5_ofOthers_64 : decode cX5_ofOthers 64 = .ok (.getfield 84, 3) := by decide +kernel
theorem dX5_ofOthers_67 : decode cX5_ofOthers 67 = .ok (.aload_n 0, 1) := by decide +kernel
theorem dX5_ofOthers_68 : decode cX5_ofOthers 68 = .ok (.bipush 30, 2) := by decide +kernel
theorem dX5_ofOthers_70 : decode cX5_ofOthers 70 = .ok (.invokevirtual 28, 3) := by decide +kernel
theorem dX5_ofOthers_73 : decode cX5_ofOthers 73 = .ok (.iload_n 1, 1) := by decide +kernel
theorem dX5_ofOthers_74 : decode cX5_ofOthers 74 = .ok (.ldc 60, 2) := by decide +kernel
theorem dX5_ofOthers_76 : decode cX5_ofOthers 76 = .ok (.if_icmp .ne 7, 3) := by decide +kernel
theorem dX5_ofOthers_79 : decode cX5_ofOthers 79 = .ok (.iconst 1, 1) := by decide +kernel
theorem dX5_ofOthers_80 : decode cX5_ofOthers 80 = .ok (.goto 4, 3) := by decide +kernel
theorem dX5_ofOthers_83 : decode cX5_ofOthers 83 = .ok (.iconst 0, 1) := by decide +kernel
theorem dX5_ofOthers_84 : decode cX5_ofOthers 84 = .ok (.invokevirtual 148, 3) := by decide +kernel
theorem dX5_ofOthers_87 : decode cX5_ofOthers 87 = .ok (.ireturn, 1) := by decide +kernel
theorem dX5_ofOthers_88 : decode cX5_ofOthers 88 = .ok (.iload_n 1, 1) := by decide +kernel
theorem dX5_ofOthers_89 : decode cX5_ofOthers 89 = .ok (.ldc 56, 2) := by decide +kernel
theorem dX5_ofOthers_91 : decode cX5_ofOthers 91 = .ok (.if_icmp .eq 9, 3) := by decide +kernel
theorem dX5_ofOthers_94 : decode cX5_ofOthers 94 = .ok (.iload_n 1, 1) := by decide +kernel
theorem dX5_ofOthers_95 : decode cX5_ofOthers 95 = .ok (.ldc 57, 2) := by decide +kernel
theorem dX5_ofOthers_97 : decode cX5_ofOthers 97 = .ok (.if_icmp .ne 9, 3) := by decide +kernel
theorem dX5_ofOthers_100 : decode cX5_ofOthers 100 = .ok (.aload_n 0, 1) := by decide +kernel
theorem dX5_ofOthers_101 : decode cX5_ofOthers 101 = .ok (.iload_n 1, 1) := by decide +kernel
theorem dX5_ofOthers_102 : decode cX5_ofOthers 102 = .ok (.invokevirtual 151, 3) := by decide +kernel
theorem dX5_ofOthers_105 : decode cX5_ofOthers 105 = .ok (.ireturn, 1) := by decide +kernel
theorem dX5_ofOthers_106 : decode cX5_ofOthers 106 = .ok (.iload_n 1, 1) := by decide +kernel
theorem dX5_ofOthers_107 : decode cX5_ofOthers 107 = .ok (.ldc 58, 2) := by decide +kernel
theorem dX5_ofOthers_109 : decode cX5_ofOthers 109 = .ok (.if_icmp .ne 22, 3) := by decide +kernel
theorem dX5_ofOthers_112 : decode cX5_ofOthers 112 = .ok (.aload_n 0, 1) := by decide +kernel
theorem dX5_ofOthers_113 : decode cX5_ofOthers 113 = .ok (.getfield 13, 3) := by decide +kernel
theorem dX5_ofOthers_116 : decode cX5_ofOthers 116 = .ok (.iconst 0, 1) := by decide +kernel
theorem dX5_ofOthers_117 : decode cX5_ofOthers 117 = .ok (.aload_n 0, 1) := by decide +kernel
theorem dX5_ofOthers_118 : decode cX5_ofOthers 118 = .ok (.aload_n 0, 1) := by decide +kernel
theorem dX5_ofOthers_119 : decode cX5_ofOthers 119 = .ok (.bipush 30, 2) := by decide +kernel
theorem dX5_ofOthers_121 : decode cX5_ofOthers 121 = .ok (.invokevirtual 28, 3) := by decide +kernel
theorem dX5_ofOthers_124 : decode cX5_ofOthers 124 = .ok (.invokevirtual 138, 3) := by decide +kernel
theorem dX5_ofOthers_127 : decode cX5_ofOthers 127 = .ok (.iastore, 1) := by decide +kernel
theorem dX5_ofOthers_128 : decode cX5_ofOthers 128 = .ok (.goto 28, 3) := by decide +kernel
theorem dX5_ofOthers_131 : decode cX5_ofOthers 131 = .ok (.aload_n 0, 1) := by decide +kernel
theorem dX5_ofOthers_132 : decode cX5_ofOthers 132 = .ok (.iconst 1, 1) := by decide +kernel
theorem dX5_ofOthers_133 : decode cX5_ofOthers 133 = .ok (.iload_n 1, 1) := by decide +kernel
theorem dX5_ofOthers_134 : decode cX5_ofOthers 134 = .ok (.iconst 4, 1) := by decide +kernel
theorem dX5_ofOthers_135 : decode cX5_ofOthers 135 = .ok (.ishr, 1) := by decide +kernel
theorem dX5_ofOthers_136 : decode cX5_ofOthers 136 = .ok (.bipush 7, 2) := by decide +kernel
theorem dX5_ofOthers_138 : decode cX5_ofOthers 138 = .ok (.iand, 1) := by decide +kernel
theorem dX5_ofOthers_139 : decode cX5_ofOthers 139 = .ok (.ishl, 1) := by decide +kernel
theorem dX5_ofOthers_140 : decode cX5_ofOthers 140 = .ok (.iload_n 1, 1) := by decide +kernel
theorem dX5_ofOthers_141 : decode cX5_ofOthers 141 = .ok (.sipush 128, 3) := by decide +kernel
theorem dX5_ofOthers_144 : decode cX5_ofOthers 144 = .ok (.iand, 1) := by decide +kernel
theorem dX5_ofOthers_145 : decode cX5_ofOthers 145 = .ok (.ifCond .ne 7, 3) := by decide +kernel
theorem dX5_ofOthers_148 : decode cX5_ofOthers 148 = .ok (.iconst 1, 1) := by decide +kernel
theorem dX5_ofOthers_149 : decode cX5_ofOthers 149 = .ok (.goto 4, 3) := by decide +kernel
theorem dX5_ofOthers_152 : decode cX5_ofOthers 152 = .ok (.iconst 0, 1) := by decide +kernel
theorem dX5_ofOthers_153 : decode cX5_ofOthers 153 = .ok (.invokevirtual 74, 3) := by decide +kernel
theorem dX5_ofOthers_156 : decode cX5_ofOthers 156 = .ok (.iconst 0, 1) := by decide +kernel
theorem dX5_ofOthers_157 : decode cX5_ofOthers 157 = .ok (.ireturn, 1) := by decide +kernel
set_option maxRecDepth 20000 in
theorem ggX5_ofNine_X5_isMemory : GoodIn wsX5_ofNine wsX5_isMemory := goodIn_r _ [7, 8, 9] (by decide +kernel) (by decide +kernel)
set_option maxRecDepth 20000 in
theorem gX5_ofNine_X5_isMemory : GoodIn wsX5_ofNine (va_wsS RX5 43 yX5_isMemory wsX5_isMemory) := goodIn_app (goodIn_of _ (by decide +kernel)) ggX5_ofNine_X5_isMemory
set_option maxRecDepth 20000 in
theorem ggX5_ofNine_X5_ofMemory : GoodIn wsX5_ofNine wsX5_ofMemory := goodIn_r _ [13, 14, 15, 3, 16, 17, 18, 6, 19, 20, 21, 22, 23, 24, 25, 26, 27, 28, 29, 30, 31, 32, 33, 34, 35, 36, 37, 38, 39, 40, 41, 42, 43, 44, 45, 46, 47, 48, 49, 50, 51, 52, 53, 136, 137, 138, 139, 140, 141, 142, 143] (by decide +kernel) (by decide +kernel)
set_option maxRecDepth 20000 in
theorem gX5_ofNine_X5_ofMemory : GoodIn wsX5_ofNine (wsV RX5 154 RX5 yX5_ofMemory wsX5_ofMemory) := goodIn_app (goodIn_of _ (by decide +kernel)) ggX5_ofNine_X5_ofMemory
set_option maxRecDepth 20000 in
theorem ggX5_ofNine_X5_isOne : GoodIn wsX5_ofNine wsX5_isOne := goodIn_r _ [56, 57, 58] (by decide +kernel) (by decide +kernel)
set_option maxRecDepth 20000 in
theorem gX5_ofNine_X5_isOne : GoodIn wsX5_ofNine (va_wsS RX5 47 yX5_isOne wsX5_isOne) := goodIn_app (goodIn_of _ (by decide +kernel)) ggX5_ofNine_X5_isOne
set_option maxRecDepth 20000 in
theorem ggX5_ofNine_X5_ofOthers : GoodIn wsX5_ofNine wsX5_ofOthers := goodIn_r _ [62, 14, 15, 63, 64, 65, 66, 3, 67, 68, 69, 6, 70, 71, 72, 73, 74, 75, 16, 24, 25, 26, 27, 28, 29, 30, 76, 77, 78, 79, 31, 32, 33, 34, 35, 36, 37, 38, 80, 81, 82, 83, 39, 40, 41, 42, 84, 85, 86, 87, 47, 48, 49, 50, 136, 137, 138, 139, 140, 141, 142, 143] (by decide +kernel) (by decide +kernel)
set_option maxRecDepth 20000 in
theorem gX5_ofNine_X5_ofOthers : GoodIn wsX5_ofNine (wsV RX5 157 RX5 yX5_ofOthers wsX5_ofOthers) := goodIn_app (goodIn_of _ (by decide +kernel)) ggX5_ofNine_X5_ofOthers
set_option maxRecDepth 20000 in
theorem ggX5_ofNine_X5_ofOne : GoodIn wsX5_ofNine wsX5_ofOne := goodIn_r _ [91, 3, 17, 18, 6, 19, 92, 93, 94, 95, 96, 97, 98, 99, 84, 85, 86, 87, 100, 101, 102, 103, 104, 105, 106, 107, 108, 109, 110, 111, 112, 113, 114, 115, 136, 137, 138, 139, 140, 141, 142, 143] (by decide +kernel) (by decide +kernel)
set_option maxRecDepth 20000 in
theorem gX5_ofNine_X5_ofOne : GoodIn wsX5_ofNine (wsV RX5 160 RX5 yX5_ofOne wsX5_ofOne) := goodIn_app (goodIn_of _ (by decide +kernel)) ggX5_ofNine_X5_ofOne
set_option maxRecDepth 20000 in
theorem ggX5_ofNine_X5_ofPair : GoodIn wsX5_ofNine wsX5_ofPair := goodIn_r _ [119, 16, 120, 24, 25, 26, 6, 27, 3, 35, 36, 37, 38, 84, 85, 86, 87, 136, 137, 138, 139, 140, 141, 142, 143] (by decide +kernel) (by decide +kernel)
set_option maxRecDepth 20000 in
theorem gX5_ofNine_X5_ofPair : GoodIn wsX5_ofNine (wsV RX5 164 RX5 yX5_ofPair wsX5_ofPair) := goodIn_app (goodIn_of _ (by decide +kernel)) ggX5_ofNine_X5_ofPair
set_option maxRecDepth 20000 in
theorem ggX5_ofNine_X5_ofPortBit : GoodIn wsX5_ofNine wsX5_ofPortBit := goodIn_r _ [124, 3, 125, 126, 127, 6, 128, 14, 15, 71, 129, 130, 131, 4, 5, 7, 8, 9, 54, 55, 56, 57, 58, 136, 137, 138, 139, 140, 141, 142, 143] (by decide +kernel) (by decide +kernel)
set_option maxRecDepth 20000 in
theorem gX5_ofNine_X5_ofPortBit : GoodIn wsX5_ofNine (wsV RX5 168 RX5 yX5_ofPortBit wsX5_ofPortBit) := goodIn_app (goodIn_of _ (by decide +kernel)) ggX5_ofNine_X5_ofPortBit
set_option maxRecDepth 20000 in
theorem ggX5_ofNine_X5_dOf : GoodIn wsX5_ofNine wsX5_dOf := goodIn_r _ [19] (by decide +kernel) (by decide +kernel)
set_option maxRecDepth 20000 in
theorem gX5_ofNine_X5_dOf : GoodIn wsX5_ofNine (va_wsS RX5 53 yX5_dOf wsX5_dOf) := goodIn_app (goodIn_of _ (by decide +kernel)) ggX5_ofNine_X5_dOf
set_option maxRecDepth 20000 in
theorem ggX5_ofNine_X5_product : GoodIn wsX5_ofNine wsX5_product := goodIn_r _ [135, 16, 84, 85, 86, 6, 87, 3, 35, 36, 37, 38, 136, 137, 138, 139, 140, 141, 142, 143] (by decide +kernel) (by decide +kernel)
set_option maxRecDepth 20000 in
theorem gX5_ofNine_X5_product : GoodIn wsX5_ofNine (wsV RX5 113 RX5 yX5_product wsX5_product) := goodIn_app (goodIn_of _ (by decide +kernel)) ggX5_ofNine_X5_product
theorem dX5_ofNine_0 : decode cX5_ofNine 0 = .ok (.iload_n 1, 1) := by decide +kernel
theorem dX5_ofNine_1 : decode cX5_ofNine 1 = .ok (.invokestatic 43, 3) := by decide +kernel
theorem dX5_ofNine_4 : decode cX5_ofNine 4 = .ok (.ifCond .eq 9, 3) := by decide +kernel
theorem dX5_ofNine_7 : decode cX5_ofNine 7 = .ok (.aload_n 0, 1) := by decide +kernel
theorem dX5_ofNine_8 : decode cX5_ofNine 8 = .ok (.iload_n 1, 1) := by decide +kernel
theorem dX5_ofNine_9 : decode cX5_ofNine 9 = .ok (.invokevirtual 154, 3) := by decide +kernel
theorem dX5_ofNine_12 : decode cX5_ofNine 12 = .ok (.ireturn, 1) := by decide +kernel
theorem dX5_ofNine_13 : decode cX5_ofNine 13 = .ok (.iload_n 1, 1) := by decide +kernel
theorem dX5_ofNine_14 : decode cX5_ofNine 14 = .ok (.invokestatic 47, 3) := by decide +kernel
theorem dX5_ofNine_17 : decode cX5_ofNine 17 = .ok (.ifCond .eq 40, 3) := by decide +kernel
theorem dX5_ofNine_20 : decode cX5_ofNine 20 = .ok (.iload_n 1, 1) := by decide +kernel
theorem dX5_ofNine_21 : decode cX5_ofNine 21 = .ok (.bipush 15, 2) := by decide +kernel
theorem dX5_ofNine_23 : decode cX5_ofNine 23 = .ok (.iand, 1) := by decide +kernel
theorem dX5_ofNine_24 : decode cX5_ofNine 24 = .ok (.istore_n 2, 1) := by decide +kernel
theorem dX5_ofNine_25 : decode cX5_ofNine 25 = .ok (.iload_n 2, 1) := by decide +kernel
theorem dX5_ofNine_26 : decode cX5_ofNine 26 = .ok (.bipush 10, 2) := by decide +kernel
theorem dX5_ofNine_28 : decode cX5_ofNine 28 = .ok (.if_icmp .gt 15, 3) := by decide +kernel
theorem dX5_ofNine_31 : decode cX5_ofNine 31 = .ok (.iload_n 2, 1) := by decide +kernel
theorem dX5_ofNine_32 : decode cX5_ofNine 32 = .ok (.bipush 8, 2) := by decide +kernel
theorem dX5_ofNine_34 : decode cX5_ofNine 34 = .ok (.if_icmp .eq 9, 3) := by decide +kernel
theorem dX5_ofNine_37 : decode cX5_ofNine 37 = .ok (.iload_n 2, 1) := by decide +kernel
theorem dX5_ofNine_38 : decode cX5_ofNine 38 = .ok (.bipush 9, 2) := by decide +kernel
theorem dX5_ofNine_40 : decode cX5_ofNine 40 = .ok (.if_icmp .ne 9, 3) := by decide +kernel
theorem dX5_ofNine_43 : decode cX5_ofNine 43 = .ok (.aload_n 0, 1) := by decide +kernel
theorem dX5_ofNine_44 : decode cX5_ofNine 44 = .ok (.iload_n 1, 1) := by decide +kernel
theorem dX5_ofNine_45 : decode cX5_ofNine 45 = .ok (.invokevirtual 157, 3) := by decide +kernel
theorem dX5_ofNine_48 : decode cX5_ofNine 48 = .ok (.ireturn, 1) := by decide +kernel
theorem dX5_ofNine_49 : decode cX5_ofNine 49 = .ok (.aload_n 0, 1) := by decide +kernel
theorem dX5_ofNine_50 : decode cX5_ofNine 50 = .ok (.iload_n 1, 1) := by decide +kernel
theorem dX5_ofNine_51 : decode cX5_ofNine 51 = .ok (.invokevirtual 160, 3) := by decide +kernel
theorem dX5_ofNine_54 : decode cX5_ofNine 54 = .ok (.goto 62, 3) := by decide +kernel
theorem dX5_ofNine_57 : decode cX5_ofNine 57 = .ok (.iload_n 1, 1) := by decide +kernel
theorem dX5_ofNine_58 : decode cX5_ofNine 58 = .ok (.ldc 163, 2) := by decide +kernel
theorem dX5_ofNine_60 : decode cX5_ofNine 60 = .ok (.if_icmp .ge 11, 3) := by decide +kernel
theorem dX5_ofNine_63 : decode cX5_ofNine 63 = .ok (.aload_n 0, 1) := by decide +kernel
theorem dX5_ofNine_64 : decode cX5_ofNine 64 = .ok (.iload_n 1, 1) := by decide +kernel
theorem dX5_ofNine_65 : decode cX5_ofNine 65 = .ok (.invokevirtual 164, 3) := by decide +kernel
theorem dX5_ofNine_68 : decode cX5_ofNine 68 = .ok (.goto 48, 3) := by decide +kernel
theorem dX5_ofNine_71 : decode cX5_ofNine 71 = .ok (.iload_n 1, 1) := by decide +kernel
theorem dX5_ofNine_72 : decode cX5_ofNine 72 = .ok (.ldc 167, 2) := by decide +kernel
theorem dX5_ofNine_74 : decode cX5_ofNine 74 = .ok (.if_icmp .ge 11, 3) := by decide +kernel
theorem dX5_ofNine_77 : decode cX5_ofNine 77 = .ok (.aload_n 0, 1) := by decide +kernel
theorem dX5_ofNine_78 : decode cX5_ofNine 78 = .ok (.iload_n 1, 1) := by decide +kernel
theorem dX5_ofNine_79 : decode cX5_ofNine 79 = .ok (.invokevirtual 168, 3) := by decide +kernel
theorem dX5_ofNine_82 : decode cX5_ofNine 82 = .ok (.goto 34, 3) := by decide +kernel
theorem dX5_ofNine_85 : decode cX5_ofNine 85 = .ok (.aload_n 0, 1) := by decide +kernel
theorem dX5_ofNine_86 : decode cX5_ofNine 86 = .ok (.aload_n 0, 1) := by decide +kernel
theorem dX5_ofNine_87 : decode cX5_ofNine 87 = .ok (.getfield 13, 3) := by decide +kernel
theorem dX5_ofNine_90 : decode cX5_ofNine 90 = .ok (.iload_n 1, 1) := by decide +kernel
theorem dX5_ofNine_91 : decode cX5_ofNine 91 = .ok (.invokestatic 53, 3) := by decide +kernel
theorem dX5_ofNine_94 : decode cX5_ofNine 94 = .ok (.iaload, 1) := by decide +kernel
theorem dX5_ofNine_95 : decode cX5_ofNine 95 = .ok (.aload_n 0, 1) := by decide +kernel
theorem dX5_ofNine_96 : decode cX5_ofNine 96 = .ok (.getfield 13, 3) := by decide +kernel
theorem dX5_ofNine_99 : decode cX5_ofNine 99 = .ok (.iload_n 1, 1) := by decide +kernel
theorem dX5_ofNine_100 : decode cX5_ofNine 100 = .ok (.iconst 5, 1) := by decide +kernel
theorem dX5_ofNine_101 : decode cX5_ofNine 101 = .ok (.ishr, 1) := by decide +kernel
theorem dX5_ofNine_102 : decode cX5_ofNine 102 = .ok (.bipush 16, 2) := by decide +kernel
theorem dX5_ofNine_104 : decode cX5_ofNine 104 = .ok (.iand, 1) := by decide +kernel
theorem dX5_ofNine_105 : decode cX5_ofNine 105 = .ok (.iload_n 1, 1) := by decide +kernel
theorem dX5_ofNine_106 : decode cX5_ofNine 106 = .ok (.bipush 15, 2) := by decide +kernel
theorem dX5_ofNine_108 : decode cX5_ofNine 108 = .ok (.iand, 1) := by decide +kernel
theorem dX5_ofNine_109 : decode cX5_ofNine 109 = .ok (.ior, 1) := by decide +kernel
theorem dX5_ofNine_110 : decode cX5_ofNine 110 = .ok (.iaload, 1) := by decide +kernel
theorem dX5_ofNine_111 : decode cX5_ofNine 111 = .ok (.imul, 1) := by decide +kernel
theorem dX5_ofNine_112 : decode cX5_ofNine 112 = .ok (.iconst 0, 1) := by decide +kernel
theorem dX5_ofNine_113 : decode cX5_ofNine 113 = .ok (.invokevirtual 113, 3) := by decide +kernel
theorem dX5_ofNine_116 : decode cX5_ofNine 116 = .ok (.iconst 0, 1) := by decide +kernel
theorem dX5_ofNine_117 : decode cX5_ofNine 117 = .ok (.ireturn, 1) := by decide +kernel
set_option maxRecDepth 20000 in
theorem ggX5_ofFifteen_X5_ofBit : GoodIn wsX5_ofFifteen wsX5_ofBit := goodIn_r _ [7, 8, 9, 10, 6, 11, 12, 13, 14, 15, 16, 17, 18, 19, 20, 21, 22, 23, 24, 2, 25, 26, 27, 28, 29, 30, 31, 32, 33, 34, 35, 36, 37, 38, 39, 40, 41, 42, 43, 44, 45, 46] (by decide +kernel) (by decide +kernel)
set_option maxRecDepth 20000 in
theorem gX5_ofFifteen_X5_ofBit : GoodIn wsX5_ofFifteen (wsV RX5 172 RX5 yX5_ofBit wsX5_ofBit) := goodIn_app (goodIn_of _ (by decide +kernel)) ggX5_ofFifteen_X5_ofBit
set_option maxRecDepth 20000 in
theorem ggX5_ofFifteen_X5_has : GoodIn wsX5_ofFifteen wsX5_has := goodIn_r _ [15, 8, 39, 40, 41, 42, 43, 44, 45, 46] (by decide +kernel) (by decide +kernel)
set_option maxRecDepth 20000 in
theorem gX5_ofFifteen_X5_has : GoodIn wsX5_ofFifteen (wsV RX5 81 RX5 yX5_has wsX5_has) := goodIn_app (goodIn_of _ (by decide +kernel)) ggX5_ofFifteen_X5_has
theorem dX5_ofFifteen_0 : decode cX5_ofFifteen 0 = .ok (.iload_n 1, 1) := by decide +kernel
theorem dX5_ofFifteen_1 : decode cX5_ofFifteen 1 = .ok (.ldc 171, 2) := by decide +kernel
theorem dX5_ofFifteen_3 : decode cX5_ofFifteen 3 = .ok (.if_icmp .lt 10, 3) := by decide +kernel
theorem dX5_ofFifteen_6 : decode cX5_ofFifteen 6 = .ok (.aload_n 0, 1) := by decide +kernel
theorem dX5_ofFifteen_7 : decode cX5_ofFifteen 7 = .ok (.iload_n 1, 1) := by decide +kernel
theorem dX5_ofFifteen_8 : decode cX5_ofFifteen 8 = .ok (.invokevirtual 172, 3) := by decide +kernel
theorem dX5_ofFifteen_11 : decode cX5_ofFifteen 11 = .ok (.iconst 0, 1) := by decide +kernel
theorem dX5_ofFifteen_12 : decode cX5_ofFifteen 12 = .ok (.ireturn, 1) := by decide +kernel
theorem dX5_ofFifteen_13 : decode cX5_ofFifteen 13 = .ok (.iload_n 1, 1) := by decide +kernel
theorem dX5_ofFifteen_14 : decode cX5_ofFifteen 14 = .ok (.iconst 3, 1) := by decide +kernel
theorem dX5_ofFifteen_15 : decode cX5_ofFifteen 15 = .ok (.ishr, 1) := by decide +kernel
theorem dX5_ofFifteen_16 : decode cX5_ofFifteen 16 = .ok (.bipush 127, 2) := by decide +kernel
theorem dX5_ofFifteen_18 : decode cX5_ofFifteen 18 = .ok (.iand, 1) := by decide +kernel
theorem dX5_ofFifteen_19 : decode cX5_ofFifteen 19 = .ok (.istore_n 2, 1) := by decide +kernel
theorem dX5_ofFifteen_20 : decode cX5_ofFifteen 20 = .ok (.iload_n 2, 1) := by decide +kernel
theorem dX5_ofFifteen_21 : decode cX5_ofFifteen 21 = .ok (.bipush 63, 2) := by decide +kernel
theorem dX5_ofFifteen_23 : decode cX5_ofFifteen 23 = .ok (.if_icmp .le 11, 3) := by decide +kernel
theorem dX5_ofFifteen_26 : decode cX5_ofFifteen 26 = .ok (.iload_n 2, 1) := by decide +kernel
theorem dX5_ofFifteen_27 : decode cX5_ofFifteen 27 = .ok (.sipush 128, 3) := by decide +kernel
theorem dX5_ofFifteen_30 : decode cX5_ofFifteen 30 = .ok (.isub, 1) := by decide +kernel
theorem dX5_ofFifteen_31 : decode cX5_ofFifteen 31 = .ok (.goto 4, 3) := by decide +kernel
theorem dX5_ofFifteen_34 : decode cX5_ofFifteen 34 = .ok (.iload_n 2, 1) := by decide +kernel
theorem dX5_ofFifteen_35 : decode cX5_ofFifteen 35 = .ok (.istore_n 2, 1) := by decide +kernel
theorem dX5_ofFifteen_36 : decode cX5_ofFifteen 36 = .ok (.aload_n 0, 1) := by decide +kernel
theorem dX5_ofFifteen_37 : decode cX5_ofFifteen 37 = .ok (.iconst 1, 1) := by decide +kernel
theorem dX5_ofFifteen_38 : decode cX5_ofFifteen 38 = .ok (.iload_n 1, 1) := by decide +kernel
theorem dX5_ofFifteen_39 : decode cX5_ofFifteen 39 = .ok (.bipush 7, 2) := by decide +kernel
theorem dX5_ofFifteen_41 : decode cX5_ofFifteen 41 = .ok (.iand, 1) := by decide +kernel
theorem dX5_ofFifteen_42 : decode cX5_ofFifteen 42 = .ok (.ishl, 1) := by decide +kernel
theorem dX5_ofFifteen_43 : decode cX5_ofFifteen 43 = .ok (.invokevirtual 81, 3) := by decide +kernel
theorem dX5_ofFifteen_46 : decode cX5_ofFifteen 46 = .ok (.istore_n 3, 1) := by decide +kernel
theorem dX5_ofFifteen_47 : decode cX5_ofFifteen 47 = .ok (.iload_n 3, 1) := by decide +kernel
theorem dX5_ofFifteen_48 : decode cX5_ofFifteen 48 = .ok (.iload_n 1, 1) := by decide +kernel
theorem dX5_ofFifteen_49 : decode cX5_ofFifteen 49 = .ok (.sipush 1024, 3) := by decide +kernel
theorem dX5_ofFifteen_52 : decode cX5_ofFifteen 52 = .ok (.iand, 1) := by decide +kernel
theorem dX5_ofFifteen_53 : decode cX5_ofFifteen 53 = .ok (.iconst 1, 1) := by decide +kernel
theorem dX5_ofFifteen_54 : decode cX5_ofFifteen 54 = .ok (.if_icmp .ge 7, 3) := by decide +kernel
theorem dX5_ofFifteen_57 : decode cX5_ofFifteen 57 = .ok (.iconst 1, 1) := by decide +kernel
theorem dX5_ofFifteen_58 : decode cX5_ofFifteen 58 = .ok (.goto 4, 3) := by decide +kernel
theorem dX5_ofFifteen_61 : decode cX5_ofFifteen 61 = .ok (.iconst 0, 1) := by decide +kernel
theorem dX5_ofFifteen_62 : decode cX5_ofFifteen 62 = .ok (.if_icmp .ne 17, 3) := by decide +kernel
theorem dX5_ofFifteen_65 : decode cX5_ofFifteen 65 = .ok (.aload_n 0, 1) := by decide +kernel
theorem dX5_ofFifteen_66 : decode cX5_ofFifteen 66 = .ok (.aload_n 0, 1) := by decide +kernel
theorem dX5_ofFifteen_67 : decode cX5_ofFifteen 67 = .ok (.getfield 84, 3) := by decide +kernel
theorem dX5_ofFifteen_70 : decode cX5_ofFifteen 70 = .ok (.iload_n 2, 1) := by decide +kernel
theorem dX5_ofFifteen_71 : decode cX5_ofFifteen 71 = .ok (.iadd, 1) := by decide +kernel
theorem dX5_ofFifteen_72 : decode cX5_ofFifteen 72 = .ok (.sipush 1023, 3) := by decide +kernel
theorem dX5_ofFifteen_75 : decode cX5_ofFifteen 75 = .ok (.iand, 1) := by decide +kernel
theorem dX5_ofFifteen_76 : decode cX5_ofFifteen 76 = .ok (.putfield 84, 3) := by decide +kernel
theorem dX5_ofFifteen_79 : decode cX5_ofFifteen 79 = .ok (.iconst 0, 1) := by decide +kernel
theorem dX5_ofFifteen_80 : decode cX5_ofFifteen 80 = .ok (.ireturn, 1) := by decide +kernel
set_option maxRecDepth 20000 in
theorem ggX5_does_X5_ofPlaces : GoodIn wsX5_does wsX5_ofPlaces := goodIn_r _ [8, 9, 10, 11, 12, 7, 13, 14, 15, 16, 17, 18, 19, 20, 21, 22, 23, 24, 177, 178, 179, 180, 181, 182, 183, 184] (by decide +kernel) (by decide +kernel)
set_option maxRecDepth 20000 in
theorem gX5_does_X5_ofPlaces : GoodIn wsX5_does (wsV RX5 176 RX5 yX5_ofPlaces wsX5_ofPlaces) := goodIn_app (goodIn_of _ (by decide +kernel)) ggX5_does_X5_ofPlaces
set_option maxRecDepth 20000 in
theorem ggX5_does_X5_ofTwo : GoodIn wsX5_does wsX5_ofTwo := goodIn_r _ [28, 14, 15, 16, 7, 17, 29, 30, 31, 32, 33, 34, 35, 36, 37, 38, 39, 40, 41, 42, 43, 44, 45, 46, 47, 48, 49, 50, 51, 52, 53, 54, 55, 56, 57, 3, 58, 59, 60, 61, 62, 63, 64, 65, 66, 67, 68, 69, 70, 71, 72, 73, 74, 75, 177, 178, 179, 180, 181, 182, 183, 184] (by decide +kernel) (by decide +kernel)
set_option maxRecDepth 20000 in
theorem gX5_does_X5_ofTwo : GoodIn wsX5_does (wsV RX5 179 RX5 yX5_ofTwo wsX5_ofTwo) := goodIn_app (goodIn_of _ (by decide +kernel)) ggX5_does_X5_ofTwo
set_option maxRecDepth 20000 in
theorem ggX5_does_X5_products : GoodIn wsX5_does wsX5_products := goodIn_r _ [79, 14, 80, 81, 7, 82, 83, 84, 85, 86, 9, 41, 42, 43, 44, 87, 88, 89, 90, 177, 178, 179, 180, 181, 182, 183, 184] (by decide +kernel) (by decide +kernel)
set_option maxRecDepth 20000 in
theorem gX5_does_X5_products : GoodIn wsX5_does (wsV RX5 182 RX5 yX5_products wsX5_products) := goodIn_app (goodIn_of _ (by decide +kernel)) ggX5_does_X5_products
set_option maxRecDepth 20000 in
theorem ggX5_does_X5_pair : GoodIn wsX5_does wsX5_pair := goodIn_r _ [13, 14, 177, 178, 179, 180, 181, 182, 183, 184] (by decide +kernel) (by decide +kernel)
set_option maxRecDepth 20000 in
theorem gX5_does_X5_pair : GoodIn wsX5_does (wsV RX5 28 RX5 yX5_pair wsX5_pair) := goodIn_app (goodIn_of _ (by decide +kernel)) ggX5_does_X5_pair
set_option maxRecDepth 20000 in
theorem ggX5_does_X5_setPair : GoodIn wsX5_does wsX5_setPair := goodIn_r _ [90, 14, 177, 178, 179, 180, 181, 182, 183, 184] (by decide +kernel) (by decide +kernel)
set_option maxRecDepth 20000 in
theorem gX5_does_X5_setPair : GoodIn wsX5_does (wsV RX5 106 RX5 yX5_setPair wsX5_setPair) := goodIn_app (goodIn_of _ (by decide +kernel)) ggX5_does_X5_setPair
set_option maxRecDepth 20000 in
theorem ggX5_does_X5_ofNine : GoodIn wsX5_does wsX5_ofNine := goodIn_r _ [94, 95, 96, 14, 62, 63, 7, 64, 65, 66, 97, 98, 99, 100, 57, 3, 9, 15, 16, 17, 101, 102, 103, 104, 10, 11, 12, 13, 22, 23, 24, 105, 106, 107, 108, 87, 88, 89, 90, 109, 110, 111, 112, 18, 19, 20, 21, 113, 114, 115, 116, 117, 118, 119, 67, 68, 69, 70, 71, 120, 121, 122, 123, 124, 125, 126, 127, 128, 129, 130, 131, 58, 132, 133, 134, 135, 136, 137, 138, 139, 140, 141, 142, 143, 41, 42, 43, 44, 144, 145, 146, 147, 72, 73, 74, 75, 45, 46, 47, 48, 37, 38, 39, 40, 33, 34, 35, 36, 148, 149, 150, 151, 29, 30, 31, 32, 152, 153, 154, 155, 2, 156, 157, 158, 159, 53, 54, 55, 56, 59, 60, 61, 83, 84, 85, 86, 177, 178, 179, 180, 181, 182, 183, 184] (by decide +kernel) (by decide +kernel)
set_option maxRecDepth 20000 in
theorem gX5_does_X5_ofNine : GoodIn wsX5_does (wsV RX5 185 RX5 yX5_ofNine wsX5_ofNine) := goodIn_app (goodIn_of _ (by decide +kernel)) ggX5_does_X5_ofNine
set_option maxRecDepth 20000 in
theorem ggX5_does_X5_ofPort : GoodIn wsX5_does wsX5_ofPort := goodIn_r _ [163, 14, 15, 16, 7, 17, 177, 178, 179, 180, 181, 182, 183, 184] (by decide +kernel) (by decide +kernel)
set_option maxRecDepth 20000 in
theorem gX5_does_X5_ofPort : GoodIn wsX5_does (wsV RX5 188 RX5 yX5_ofPort wsX5_ofPort) := goodIn_app (goodIn_of _ (by decide +kernel)) ggX5_does_X5_ofPort
set_option maxRecDepth 20000 in
theorem ggX5_does_X5_jumps : GoodIn wsX5_does wsX5_jumps := goodIn_r _ [131, 3, 58, 132, 133, 134, 7, 135, 9, 10, 11, 12, 13, 14, 22, 23, 24, 136, 137, 138, 139, 105, 106, 107, 108, 87, 88, 89, 90, 177, 178, 179, 180, 181, 182, 183, 184] (by decide +kernel) (by decide +kernel)
set_option maxRecDepth 20000 in
theorem gX5_does_X5_jumps : GoodIn wsX5_does (wsV RX5 148 RX5 yX5_jumps wsX5_jumps) := goodIn_app (goodIn_of _ (by decide +kernel)) ggX5_does_X5_jumps
set_option maxRecDepth 20000 in
theorem ggX5_does_X5_ofFifteen : GoodIn wsX5_does wsX5_ofFifteen := goodIn_r _ [167, 168, 3, 169, 170, 171, 7, 172, 14, 15, 16, 17, 33, 34, 35, 36, 41, 42, 43, 44, 53, 54, 55, 56, 57, 58, 59, 60, 61, 62, 63, 64, 65, 66, 67, 68, 69, 70, 71, 177, 178, 179, 180, 181, 182, 183, 184] (by decide +kernel) (by decide +kernel)
set_option maxRecDepth 20000 in
theorem gX5_does_X5_ofFifteen : GoodIn wsX5_does (wsV RX5 191 RX5 yX5_ofFifteen wsX5_ofFifteen) := goodIn_app (goodIn_of _ (by decide +kernel)) ggX5_does_X5_ofFifteen
set_option maxRecDepth 20000 in
theorem ggX5_does_X5_ofNumber : GoodIn wsX5_does wsX5_ofNumber := goodIn_r _ [176, 14, 37, 38, 39, 7, 40, 33, 34, 35, 36, 41, 42, 43, 44, 45, 46, 47, 48, 29, 30, 31, 32, 72, 73, 74, 75, 177, 178, 179, 180, 181, 182, 183, 184] (by decide +kernel) (by decide +kernel)
set_option maxRecDepth 20000 in
theorem gX5_does_X5_ofNumber : GoodIn wsX5_does (wsV RX5 194 RX5 yX5_ofNumber wsX5_ofNumber) := goodIn_app (goodIn_of _ (by decide +kernel)) ggX5_does_X5_ofNumber
theorem dX5_does_0 : decode cX5_does 0 = .ok (.iload_n 1, 1) := by decide +kernel
theorem dX5_does_1 : decode cX5_does 1 = .ok (.bipush 12, 2) := by decide +kernel
theorem dX5_does_3 : decode cX5_does 3 = .ok (.ishr, 1) := by decide +kernel
theorem dX5_does_4 : decode cX5_does 4 = .ok (.istore_n 2, 1) := by decide +kernel
theorem dX5_does_5 : decode cX5_does 5 = .ok (.iload_n 1, 1) := by decide +kernel
theorem dX5_does_6 : decode cX5_does 6 = .ok (.ldc 175, 2) := by decide +kernel
theorem dX5_does_8 : decode cX5_does 8 = .ok (.iand, 1) := by decide +kernel
theorem dX5_does_9 : decode cX5_does 9 = .ok (.ldc 120, 2) := by decide +kernel
theorem dX5_does_11 : decode cX5_does 11 = .ok (.if_icmp .ne 9, 3) := by decide +kernel
theorem dX5_does_14 : decode cX5_does 14 = .ok (.aload_n 0, 1) := by decide +kernel
theorem dX5_does_15 : decode cX5_does 15 = .ok (.iload_n 1, 1) := by decide +kernel
theorem dX5_does_16 : decode cX5_does 16 = .ok (.invokevirtual 176, 3) := by decide +kernel
theorem dX5_does_19 : decode cX5_does 19 = .ok (.ireturn, 1) := by decide +kernel
theorem dX5_does_20 : decode cX5_does 20 = .ok (.iload_n 2, 1) := by decide +kernel
theorem dX5_does_21 : decode cX5_does 21 = .ok (.tableswitch 213 0 15 #[79, 140, 140, 213, 213, 213, 213, 213, 213, 147, 213, 153, 160, 160, 213, 207], 79) := by decide +kernel
theorem dX5_does_100 : decode cX5_does 100 = .ok (.iload_n 1, 1) := by decide +kernel
theorem dX5_does_101 : decode cX5_does 101 = .ok (.sipush 1023, 3) := by decide +kernel
theorem dX5_does_104 : decode cX5_does 104 = .ok (.if_icmp .le 11, 3) := by decide +kernel
theorem dX5_does_107 : decode cX5_does 107 = .ok (.aload_n 0, 1) := by decide +kernel
theorem dX5_does_108 : decode cX5_does 108 = .ok (.iload_n 1, 1) := by decide +kernel
theorem dX5_does_109 : decode cX5_does 109 = .ok (.invokevirtual 179, 3) := by decide +kernel
theorem dX5_does_112 : decode cX5_does 112 = .ok (.goto 47, 3) := by decide +kernel
theorem dX5_does_115 : decode cX5_does 115 = .ok (.iload_n 1, 1) := by decide +kernel
theorem dX5_does_116 : decode cX5_does 116 = .ok (.sipush 511, 3) := by decide +kernel
theorem dX5_does_119 : decode cX5_does 119 = .ok (.if_icmp .le 11, 3) := by decide +kernel
theorem dX5_does_122 : decode cX5_does 122 = .ok (.aload_n 0, 1) := by decide +kernel
theorem dX5_does_123 : decode cX5_does 123 = .ok (.iload_n 1, 1) := by decide +kernel
theorem dX5_does_124 : decode cX5_does 124 = .ok (.invokevirtual 182, 3) := by decide +kernel
theorem dX5_does_127 : decode cX5_does 127 = .ok (.goto 32, 3) := by decide +kernel
theorem dX5_does_130 : decode cX5_does 130 = .ok (.iload_n 1, 1) := by decide +kernel
theorem dX5_does_131 : decode cX5_does 131 = .ok (.sipush 255, 3) := by decide +kernel
theorem dX5_does_134 : decode cX5_does 134 = .ok (.if_icmp .le 25, 3) := by decide +kernel
theorem dX5_does_137 : decode cX5_does 137 = .ok (.aload_n 0, 1) := by decide +kernel
theorem dX5_does_138 : decode cX5_does 138 = .ok (.iconst 2, 1) := by decide +kernel
theorem dX5_does_139 : decode cX5_does 139 = .ok (.iload_n 1, 1) := by decide +kernel
theorem dX5_does_140 : decode cX5_does 140 = .ok (.iconst 4, 1) := by decide +kernel
theorem dX5_does_141 : decode cX5_does 141 = .ok (.ishr, 1) := by decide +kernel
theorem dX5_does_142 : decode cX5_does 142 = .ok (.bipush 15, 2) := by decide +kernel
theorem dX5_does_144 : decode cX5_does 144 = .ok (.iand, 1) := by decide +kernel
theorem dX5_does_145 : decode cX5_does 145 = .ok (.imul, 1) := by decide +kernel
theorem dX5_does_146 : decode cX5_does 146 = .ok (.aload_n 0, 1) := by decide +kernel
theorem dX5_does_147 : decode cX5_does 147 = .ok (.iconst 2, 1) := by decide +kernel
theorem dX5_does_148 : decode cX5_does 148 = .ok (.iload_n 1, 1) := by decide +kernel
theorem dX5_does_149 : decode cX5_does 149 = .ok (.bipush 15, 2) := by decide +kernel
theorem dX5_does_151 : decode cX5_does 151 = .ok (.iand, 1) := by decide +kernel
theorem dX5_does_152 : decode cX5_does 152 = .ok (.imul, 1) := by decide +kernel
theorem dX5_does_153 : decode cX5_does 153 = .ok (.invokevirtual 28, 3) := by decide +kernel
theorem dX5_does_156 : decode cX5_does 156 = .ok (.invokevirtual 106, 3) := by decide +kernel
theorem dX5_does_159 : decode cX5_does 159 = .ok (.iconst 0, 1) := by decide +kernel
theorem dX5_does_160 : decode cX5_does 160 = .ok (.ireturn, 1) := by decide +kernel
theorem dX5_does_161 : decode cX5_does 161 = .ok (.aload_n 0, 1) := by decide +kernel
theorem dX5_does_162 : decode cX5_does 162 = .ok (.iload_n 1, 1) := by decide +kernel
theorem dX5_does_163 : decode cX5_does 163 = .ok (.invokevirtual 179, 3) := by decide +kernel
theorem dX5_does_166 : decode cX5_does 166 = .ok (.iconst 0, 1) := by decide +kernel
theorem dX5_does_167 : decode cX5_does 167 = .ok (.ireturn, 1) := by decide +kernel
theorem dX5_does_168 : decode cX5_does 168 = .ok (.aload_n 0, 1) := by decide +kernel
theorem dX5_does_169 : decode cX5_does 169 = .ok (.iload_n 1, 1) := by decide +kernel
theorem dX5_does_170 : decode cX5_does 170 = .ok (.invokevirtual 185, 3) := by decide +kernel
theorem dX5_does_173 : decode cX5_does 173 = .ok (.ireturn, 1) := by decide +kernel
theorem dX5_does_174 : decode cX5_does 174 = .ok (.aload_n 0, 1) := by decide +kernel
theorem dX5_does_175 : decode cX5_does 175 = .ok (.iload_n 1, 1) := by decide +kernel
theorem dX5_does_176 : decode cX5_does 176 = .ok (.invokevirtual 188, 3) := by decide +kernel
theorem dX5_does_179 : decode cX5_does 179 = .ok (.iconst 0, 1) := by decide +kernel
theorem dX5_does_180 : decode cX5_does 180 = .ok (.ireturn, 1) := by decide +kernel
theorem dX5_does_181 : decode cX5_does 181 = .ok (.iload_n 1, 1) := by decide +kernel
theorem dX5_does_182 : decode cX5_does 182 = .ok (.sipush 4095, 3) := by decide +kernel
theorem dX5_does_185 : decode cX5_does 185 = .ok (.iand, 1) := by decide +kernel
theorem dX5_does_186 : decode cX5_does 186 = .ok (.istore_n 3, 1) := by decide +kernel
theorem dX5_does_187 : decode cX5_does 187 = .ok (.aload_n 0, 1) := by decide +kernel
theorem dX5_does_188 : decode cX5_does 188 = .ok (.aload_n 0, 1) := by decide +kernel
theorem dX5_does_189 : decode cX5_does 189 = .ok (.getfield 84, 3) := by decide +kernel
theorem dX5_does_192 : decode cX5_does 192 = .ok (.aload_n 0, 1) := by decide +kernel
theorem dX5_does_193 : decode cX5_does 193 = .ok (.getfield 84, 3) := by decide +kernel
theorem dX5_does_196 : decode cX5_does 196 = .ok (.iload_n 3, 1) := by decide +kernel
theorem dX5_does_197 : decode cX5_does 197 = .ok (.sipush 2047, 3) := by decide +kernel
theorem dX5_does_200 : decode cX5_does 200 = .ok (.if_icmp .le 11, 3) := by decide +kernel
theorem dX5_does_203 : decode cX5_does 203 = .ok (.iload_n 3, 1) := by decide +kernel
theorem dX5_does_204 : decode cX5_does 204 = .ok (.sipush 4096, 3) := by decide +kernel
theorem dX5_does_207 : decode cX5_does 207 = .ok (.isub, 1) := by decide +kernel
theorem dX5_does_208 : decode cX5_does 208 = .ok (.goto 4, 3) := by decide +kernel
theorem dX5_does_211 : decode cX5_does 211 = .ok (.iload_n 3, 1) := by decide +kernel
theorem dX5_does_212 : decode cX5_does 212 = .ok (.iadd, 1) := by decide +kernel
theorem dX5_does_213 : decode cX5_does 213 = .ok (.iload_n 2, 1) := by decide +kernel
theorem dX5_does_214 : decode cX5_does 214 = .ok (.bipush 13, 2) := by decide +kernel
theorem dX5_does_216 : decode cX5_does 216 = .ok (.if_icmp .ne 7, 3) := by decide +kernel
theorem dX5_does_219 : decode cX5_does 219 = .ok (.iconst 1, 1) := by decide +kernel
theorem dX5_does_220 : decode cX5_does 220 = .ok (.goto 4, 3) := by decide +kernel
theorem dX5_does_223 : decode cX5_does 223 = .ok (.iconst 0, 1) := by decide +kernel
theorem dX5_does_224 : decode cX5_does 224 = .ok (.invokevirtual 148, 3) := by decide +kernel
theorem dX5_does_227 : decode cX5_does 227 = .ok (.ireturn, 1) := by decide +kernel
theorem dX5_does_228 : decode cX5_does 228 = .ok (.aload_n 0, 1) := by decide +kernel
theorem dX5_does_229 : decode cX5_does 229 = .ok (.iload_n 1, 1) := by decide +kernel
theorem dX5_does_230 : decode cX5_does 230 = .ok (.invokevirtual 191, 3) := by decide +kernel
theorem dX5_does_233 : decode cX5_does 233 = .ok (.ireturn, 1) := by decide +kernel
theorem dX5_does_234 : decode cX5_does 234 = .ok (.aload_n 0, 1) := by decide +kernel
theorem dX5_does_235 : decode cX5_does 235 = .ok (.iload_n 1, 1) := by decide +kernel
theorem dX5_does_236 : decode cX5_does 236 = .ok (.invokevirtual 194, 3) := by decide +kernel
theorem dX5_does_239 : decode cX5_does 239 = .ok (.iconst 0, 1) := by decide +kernel
theorem dX5_does_240 : decode cX5_does 240 = .ok (.ireturn, 1) := by decide +kernel
set_option maxRecDepth 20000 in
theorem ggX5_enters_X5_canCall : GoodIn wsX5_enters wsX5_canCall := goodIn_r _ [8, 9, 10, 11, 12, 7, 13, 14, 15, 16, 17, 34, 35, 36, 37, 38, 39, 40, 41] (by decide +kernel) (by decide +kernel)
set_option maxRecDepth 20000 in
theorem gX5_enters_X5_canCall : GoodIn wsX5_enters (wsV RX5 141 RX5 yX5_canCall wsX5_canCall) := goodIn_app (goodIn_of _ (by decide +kernel)) ggX5_enters_X5_canCall
set_option maxRecDepth 20000 in
theorem ggX5_enters_X5_calls : GoodIn wsX5_enters wsX5_calls := goodIn_r _ [21, 3, 22, 23, 24, 7, 25, 14, 9, 10, 11, 12, 13, 26, 27, 28, 29, 34, 35, 36, 37, 38, 39, 40, 41] (by decide +kernel) (by decide +kernel)
set_option maxRecDepth 20000 in
theorem gX5_enters_X5_calls : GoodIn wsX5_enters (wsV RX5 145 RX5 yX5_calls wsX5_calls) := goodIn_app (goodIn_of _ (by decide +kernel)) ggX5_enters_X5_calls
set_option maxRecDepth 20000 in
theorem ggX5_enters_X5_flag : GoodIn wsX5_enters wsX5_flag := goodIn_r _ [33, 14, 34, 35, 36, 37, 38, 39, 40, 41] (by decide +kernel) (by decide +kernel)
set_option maxRecDepth 20000 in
theorem gX5_enters_X5_flag : GoodIn wsX5_enters (wsV RX5 74 RX5 yX5_flag wsX5_flag) := goodIn_app (goodIn_of _ (by decide +kernel)) ggX5_enters_X5_flag
theorem dX5_enters_0 : decode cX5_enters 0 = .ok (.aload_n 0, 1) := by decide +kernel
theorem dX5_enters_1 : decode cX5_enters 1 = .ok (.invokevirtual 141, 3) := by decide +kernel
theorem dX5_enters_4 : decode cX5_enters 4 = .ok (.ifCond .ne 5, 3) := by decide +kernel
theorem dX5_enters_7 : decode cX5_enters 7 = .ok (.iconst 3, 1) := by decide +kernel
theorem dX5_enters_8 : decode cX5_enters 8 = .ok (.ireturn, 1) := by decide +kernel
theorem dX5_enters_9 : decode cX5_enters 9 = .ok (.iconst 1, 1) := by decide +kernel
theorem dX5_enters_10 : decode cX5_enters 10 = .ok (.istore_n 1, 1) := by decide +kernel
theorem dX5_enters_11 : decode cX5_enters 11 = .ok (.aload_n 0, 1) := by decide +kernel
theorem dX5_enters_12 : decode cX5_enters 12 = .ok (.getfield 36, 3) := by decide +kernel
theorem dX5_enters_15 : decode cX5_enters 15 = .ok (.iload_n 1, 1) := by decide +kernel
theorem dX5_enters_16 : decode cX5_enters 16 = .ok (.ishr, 1) := by decide +kernel
theorem dX5_enters_17 : decode cX5_enters 17 = .ok (.iconst 1, 1) := by decide +kernel
theorem dX5_enters_18 : decode cX5_enters 18 = .ok (.iand, 1) := by decide +kernel
theorem dX5_enters_19 : decode cX5_enters 19 = .ok (.ifCond .ne 9, 3) := by decide +kernel
theorem dX5_enters_22 : decode cX5_enters 22 = .ok (.iinc 1 1, 3) := by decide +kernel
theorem dX5_enters_25 : decode cX5_enters 25 = .ok (.goto (-14), 3) := by decide +kernel
theorem dX5_enters_28 : decode cX5_enters 28 = .ok (.aload_n 0, 1) := by decide +kernel
theorem dX5_enters_29 : decode cX5_enters 29 = .ok (.dup, 1) := by decide +kernel
theorem dX5_enters_30 : decode cX5_enters 30 = .ok (.getfield 36, 3) := by decide +kernel
theorem dX5_enters_33 : decode cX5_enters 33 = .ok (.iconst 1, 1) := by decide +kernel
theorem dX5_enters_34 : decode cX5_enters 34 = .ok (.iload_n 1, 1) := by decide +kernel
theorem dX5_enters_35 : decode cX5_enters 35 = .ok (.ishl, 1) := by decide +kernel
theorem dX5_enters_36 : decode cX5_enters 36 = .ok (.iconst (-1), 1) := by decide +kernel
theorem dX5_enters_37 : decode cX5_enters 37 = .ok (.ixor, 1) := by decide +kernel
theorem dX5_enters_38 : decode cX5_enters 38 = .ok (.iand, 1) := by decide +kernel
theorem dX5_enters_39 : decode cX5_enters 39 = .ok (.putfield 36, 3) := by decide +kernel
theorem dX5_enters_42 : decode cX5_enters 42 = .ok (.aload_n 0, 1) := by decide +kernel
theorem dX5_enters_43 : decode cX5_enters 43 = .ok (.aload_n 0, 1) := by decide +kernel
theorem dX5_enters_44 : decode cX5_enters 44 = .ok (.getfield 19, 3) := by decide +kernel
theorem dX5_enters_47 : decode cX5_enters 47 = .ok (.iconst 2, 1) := by decide +kernel
theorem dX5_enters_48 : decode cX5_enters 48 = .ok (.iload_n 1, 1) := by decide +kernel
theorem dX5_enters_49 : decode cX5_enters 49 = .ok (.imul, 1) := by decide +kernel
theorem dX5_enters_50 : decode cX5_enters 50 = .ok (.invokevirtual 145, 3) := by decide +kernel
theorem dX5_enters_53 : decode cX5_enters 53 = .ok (.aload_n 0, 1) := by decide +kernel
theorem dX5_enters_54 : decode cX5_enters 54 = .ok (.aload_n 0, 1) := by decide +kernel
theorem dX5_enters_55 : decode cX5_enters 55 = .ok (.getfield 84, 3) := by decide +kernel
theorem dX5_enters_58 : decode cX5_enters 58 = .ok (.putfield 19, 3) := by decide +kernel
theorem dX5_enters_61 : decode cX5_enters 61 = .ok (.aload_n 0, 1) := by decide +kernel
theorem dX5_enters_62 : decode cX5_enters 62 = .ok (.sipush 128, 3) := by decide +kernel
theorem dX5_enters_65 : decode cX5_enters 65 = .ok (.iconst 0, 1) := by decide +kernel
theorem dX5_enters_66 : decode cX5_enters 66 = .ok (.invokevirtual 74, 3) := by decide +kernel
theorem dX5_enters_69 : decode cX5_enters 69 = .ok (.iconst 1, 1) := by decide +kernel
theorem dX5_enters_70 : decode cX5_enters 70 = .ok (.ireturn, 1) := by decide +kernel
set_option maxRecDepth 20000 in
theorem ggX5_stepOnce_X5_has : GoodIn wsX5_stepOnce wsX5_has := goodIn_r _ [12, 13, 200, 201, 202, 203, 204, 205, 206, 207] (by decide +kernel) (by decide +kernel)
set_option maxRecDepth 20000 in
theorem gX5_stepOnce_X5_has : GoodIn wsX5_stepOnce (wsV RX5 81 RX5 yX5_has wsX5_has) := goodIn_app (goodIn_of _ (by decide +kernel)) ggX5_stepOnce_X5_has
set_option maxRecDepth 20000 in
theorem ggX5_stepOnce_X5_enters : GoodIn wsX5_stepOnce wsX5_enters := goodIn_r _ [17, 1, 4, 5, 18, 19, 20, 11, 21, 22, 23, 24, 25, 26, 13, 27, 28, 29, 30, 31, 32, 33, 34, 35, 36, 37, 38, 39, 40, 41, 42, 43, 44, 45, 200, 201, 202, 203, 204, 205, 206, 207] (by decide +kernel) (by decide +kernel)
set_option maxRecDepth 20000 in
theorem gX5_stepOnce_X5_enters : GoodIn wsX5_stepOnce (wsV RX5 197 RX5 yX5_enters wsX5_enters) := goodIn_app (goodIn_of _ (by decide +kernel)) ggX5_stepOnce_X5_enters
set_option maxRecDepth 20000 in
theorem ggX5_stepOnce_X5_isIllegal : GoodIn wsX5_stepOnce wsX5_isIllegal := goodIn_r _ [48, 49, 50, 51, 11, 52, 53, 54, 55, 56, 57, 58, 59, 60, 61, 62, 63, 64, 65, 66, 67, 68, 69, 70, 71, 72, 7, 73, 74, 75] (by decide +kernel) (by decide +kernel)
set_option maxRecDepth 20000 in
theorem gX5_stepOnce_X5_isIllegal : GoodIn wsX5_stepOnce (va_wsS RX5 68 yX5_isIllegal wsX5_isIllegal) := goodIn_app (goodIn_of _ (by decide +kernel)) ggX5_stepOnce_X5_isIllegal
set_option maxRecDepth 20000 in
theorem ggX5_stepOnce_X5_does : GoodIn wsX5_stepOnce wsX5_does := goodIn_r _ [79, 80, 81, 5, 82, 83, 84, 11, 85, 22, 23, 24, 25, 26, 13, 61, 62, 63, 86, 87, 88, 89, 27, 28, 29, 90, 91, 92, 93, 94, 95, 96, 97, 8, 9, 10, 12, 98, 99, 100, 101, 42, 43, 44, 45, 102, 103, 104, 105, 106, 107, 108, 109, 110, 111, 112, 113, 3, 114, 115, 116, 117, 50, 51, 52, 53, 54, 64, 65, 66, 67, 68, 118, 119, 120, 121, 122, 123, 124, 125, 126, 127, 128, 129, 130, 131, 132, 38, 39, 40, 41, 133, 134, 135, 136, 137, 138, 139, 140, 141, 142, 143, 144, 145, 146, 34, 35, 36, 37, 147, 148, 149, 150, 151, 152, 153, 154, 58, 59, 60, 155, 156, 157, 158, 75, 72, 7, 73, 159, 160, 161, 162, 18, 19, 20, 21, 30, 31, 32, 33, 163, 164, 165, 166, 167, 168, 169, 170, 171, 172, 173, 174, 175, 176, 177, 178, 179, 180, 181, 182, 183, 184, 185, 186, 187, 188, 189, 190, 191, 192, 193, 194, 195, 196, 197, 198, 199, 200, 201, 202, 203, 204, 205, 206, 207] (by decide +kernel) (by decide +kernel)
set_option maxRecDepth 20000 in
theorem gX5_stepOnce_X5_does : GoodIn wsX5_stepOnce (wsV RX5 200 RX5 yX5_does wsX5_does) := goodIn_app (goodIn_of _ (by decide +kernel)) ggX5_stepOnce_X5_does
theorem dX5_stepOnce_0 : decode cX5_stepOnce 0 = .ok (.aload_n 0, 1) := by decide +kernel
theorem dX5_stepOnce_1 : decode cX5_stepOnce 1 = .ok (.sipush 128, 3) := by decide +kernel
theorem dX5_stepOnce_4 : decode cX5_stepOnce 4 = .ok (.invokevirtual 81, 3) := by decide +kernel
theorem dX5_stepOnce_7 : decode cX5_stepOnce 7 = .ok (.ifCond .eq 22, 3) := by decide +kernel
theorem dX5_stepOnce_10 : decode cX5_stepOnce 10 = .ok (.aload_n 0, 1) := by decide +kernel
theorem dX5_stepOnce_11 : decode cX5_stepOnce 11 = .ok (.getfield 36, 3) := by decide +kernel
theorem dX5_stepOnce_14 : decode cX5_stepOnce 14 = .ok (.ifCond .eq 15, 3) := by decide +kernel
theorem dX5_stepOnce_17 : decode cX5_stepOnce 17 = .ok (.aload_n 0, 1) := by decide +kernel
theorem dX5_stepOnce_18 : decode cX5_stepOnce 18 = .ok (.getfield 32, 3) := by decide +kernel
theorem dX5_stepOnce_21 : decode cX5_stepOnce 21 = .ok (.ifCond .ne 8, 3) := by decide +kernel
theorem dX5_stepOnce_24 : decode cX5_stepOnce 24 = .ok (.aload_n 0, 1) := by decide +kernel
theorem dX5_stepOnce_25 : decode cX5_stepOnce 25 = .ok (.invokevirtual 197, 3) := by decide +kernel
theorem dX5_stepOnce_28 : decode cX5_stepOnce 28 = .ok (.ireturn, 1) := by decide +kernel
theorem dX5_stepOnce_29 : decode cX5_stepOnce 29 = .ok (.aload_n 0, 1) := by decide +kernel
theorem dX5_stepOnce_30 : decode cX5_stepOnce 30 = .ok (.getfield 7, 3) := by decide +kernel
theorem dX5_stepOnce_33 : decode cX5_stepOnce 33 = .ok (.aload_n 0, 1) := by decide +kernel
theorem dX5_stepOnce_34 : decode cX5_stepOnce 34 = .ok (.getfield 19, 3) := by decide +kernel
theorem dX5_stepOnce_37 : decode cX5_stepOnce 37 = .ok (.iaload, 1) := by decide +kernel
theorem dX5_stepOnce_38 : decode cX5_stepOnce 38 = .ok (.istore_n 1, 1) := by decide +kernel
theorem dX5_stepOnce_39 : decode cX5_stepOnce 39 = .ok (.iload_n 1, 1) := by decide +kernel
theorem dX5_stepOnce_40 : decode cX5_stepOnce 40 = .ok (.invokestatic 68, 3) := by decide +kernel
theorem dX5_stepOnce_43 : decode cX5_stepOnce 43 = .ok (.ifCond .eq 5, 3) := by decide +kernel
theorem dX5_stepOnce_46 : decode cX5_stepOnce 46 = .ok (.iconst 2, 1) := by decide +kernel
theorem dX5_stepOnce_47 : decode cX5_stepOnce 47 = .ok (.ireturn, 1) := by decide +kernel
theorem dX5_stepOnce_48 : decode cX5_stepOnce 48 = .ok (.aload_n 0, 1) := by decide +kernel
theorem dX5_stepOnce_49 : decode cX5_stepOnce 49 = .ok (.aload_n 0, 1) := by decide +kernel
theorem dX5_stepOnce_50 : decode cX5_stepOnce 50 = .ok (.getfield 19, 3) := by decide +kernel
theorem dX5_stepOnce_53 : decode cX5_stepOnce 53 = .ok (.iconst 1, 1) := by decide +kernel
theorem dX5_stepOnce_54 : decode cX5_stepOnce 54 = .ok (.iadd, 1) := by decide +kernel
theorem dX5_stepOnce_55 : decode cX5_stepOnce 55 = .ok (.sipush 1023, 3) := by decide +kernel
theorem dX5_stepOnce_58 : decode cX5_stepOnce 58 = .ok (.iand, 1) := by decide +kernel
theorem dX5_stepOnce_59 : decode cX5_stepOnce 59 = .ok (.putfield 84, 3) := by decide +kernel
theorem dX5_stepOnce_62 : decode cX5_stepOnce 62 = .ok (.aload_n 0, 1) := by decide +kernel
theorem dX5_stepOnce_63 : decode cX5_stepOnce 63 = .ok (.iload_n 1, 1) := by decide +kernel
theorem dX5_stepOnce_64 : decode cX5_stepOnce 64 = .ok (.invokevirtual 200, 3) := by decide +kernel
theorem dX5_stepOnce_67 : decode cX5_stepOnce 67 = .ok (.istore_n 2, 1) := by decide +kernel
theorem dX5_stepOnce_68 : decode cX5_stepOnce 68 = .ok (.iload_n 2, 1) := by decide +kernel
theorem dX5_stepOnce_69 : decode cX5_stepOnce 69 = .ok (.ifCond .ne 32, 3) := by decide +kernel
theorem dX5_stepOnce_72 : decode cX5_stepOnce 72 = .ok (.aload_n 0, 1) := by decide +kernel
theorem dX5_stepOnce_73 : decode cX5_stepOnce 73 = .ok (.aload_n 0, 1) := by decide +kernel
theorem dX5_stepOnce_74 : decode cX5_stepOnce 74 = .ok (.getfield 84, 3) := by decide +kernel
theorem dX5_stepOnce_77 : decode cX5_stepOnce 77 = .ok (.putfield 19, 3) := by decide +kernel
theorem dX5_stepOnce_80 : decode cX5_stepOnce 80 = .ok (.aload_n 0, 1) := by decide +kernel
theorem dX5_stepOnce_81 : decode cX5_stepOnce 81 = .ok (.iload_n 1, 1) := by decide +kernel
theorem dX5_stepOnce_82 : decode cX5_stepOnce 82 = .ok (.ldc 203, 2) := by decide +kernel
theorem dX5_stepOnce_84 : decode cX5_stepOnce 84 = .ok (.if_icmp .eq 9, 3) := by decide +kernel
theorem dX5_stepOnce_87 : decode cX5_stepOnce 87 = .ok (.iload_n 1, 1) := by decide +kernel
theorem dX5_stepOnce_88 : decode cX5_stepOnce 88 = .ok (.ldc 57, 2) := by decide +kernel
theorem dX5_stepOnce_90 : decode cX5_stepOnce 90 = .ok (.if_icmp .ne 7, 3) := by decide +kernel
theorem dX5_stepOnce_93 : decode cX5_stepOnce 93 = .ok (.iconst 1, 1) := by decide +kernel
theorem dX5_stepOnce_94 : decode cX5_stepOnce 94 = .ok (.goto 4, 3) := by decide +kernel
theorem dX5_stepOnce_97 : decode cX5_stepOnce 97 = .ok (.iconst 0, 1) := by decide +kernel
theorem dX5_stepOnce_98 : decode cX5_stepOnce 98 = .ok (.putfield 32, 3) := by decide +kernel
theorem dX5_stepOnce_101 : decode cX5_stepOnce 101 = .ok (.iload_n 2, 1) := by decide +kernel
theorem dX5_stepOnce_102 : decode cX5_stepOnce 102 = .ok (.ireturn, 1) := by decide +kernel
set_option maxRecDepth 20000 in
theorem ggX5_step_X5_stepOnce : GoodIn wsX5_step wsX5_stepOnce := goodIn_r _ [7, 8, 9, 10, 11, 12, 13, 14, 15, 16, 17, 6, 18, 19, 20, 21, 22, 23, 24, 25, 26, 27, 28, 29, 30, 31, 32, 33, 34, 35, 36, 37, 38, 39, 40, 41, 42, 43, 44, 45, 46, 47, 48, 49, 50, 51, 52, 53, 54, 55, 56, 57, 58, 59, 60, 61, 62, 63, 64, 65, 66, 67, 68, 69, 70, 71, 72, 73, 74, 75, 76, 77, 78, 79, 80, 81, 82, 83, 84, 85, 86, 87, 88, 89, 90, 91, 92, 93, 94, 95, 96, 97, 98, 99, 100, 101, 102, 103, 104, 105, 106, 107, 108, 109, 110, 111, 112, 113, 114, 115, 116, 117, 118, 119, 2, 120, 121, 122, 123, 124, 125, 126, 127, 128, 129, 130, 131, 132, 133, 134, 135, 136, 137, 138, 139, 140, 141, 142, 143, 144, 145, 146, 147, 148, 149, 150, 151, 152, 153, 154, 155, 156, 157, 158, 159, 160, 161, 162, 163, 164, 165, 166, 167, 168, 169, 170, 171, 172, 173, 174, 175, 176, 177, 178, 179, 180, 181, 182, 183, 184, 185, 186, 187, 188, 189, 190, 191, 192, 193, 194, 195, 196, 197, 198, 199, 200, 201, 202, 203, 204, 205, 206, 207, 208, 209, 210, 211, 212] (by decide +kernel) (by decide +kernel)
set_option maxRecDepth 20000 in
theorem gX5_step_X5_stepOnce : GoodIn wsX5_step (wsV RX5 204 RX5 yX5_stepOnce wsX5_stepOnce) := goodIn_app (goodIn_of _ (by decide +kernel)) ggX5_step_X5_stepOnce
theorem dX5_step_0 : decode cX5_step 0 = .ok (.aload_n 0, 1) := by decide +kernel
theorem dX5_step_1 : decode cX5_step 1 = .ok (.aload_n 0, 1) := by decide +kernel
theorem dX5_step_2 : decode cX5_step 2 = .ok (.invokevirtual 204, 3) := by decide +kernel
theorem dX5_step_5 : decode cX5_step 5 = .ok (.putfield 207, 3) := by decide +kernel
theorem dX5_step_8 : decode cX5_step 8 = .ok (.aload_n 0, 1) := by decide +kernel
theorem dX5_step_9 : decode cX5_step 9 = .ok (.getfield 16, 3) := by decide +kernel
theorem dX5_step_12 : decode cX5_step 12 = .ok (.aload_n 0, 1) := by decide +kernel
theorem dX5_step_13 : decode cX5_step 13 = .ok (.getfield 207, 3) := by decide +kernel
theorem dX5_step_16 : decode cX5_step 16 = .ok (.dup2, 1) := by decide +kernel
theorem dX5_step_17 : decode cX5_step 17 = .ok (.iaload, 1) := by decide +kernel
theorem dX5_step_18 : decode cX5_step 18 = .ok (.iconst 1, 1) := by decide +kernel
theorem dX5_step_19 : decode cX5_step 19 = .ok (.iadd, 1) := by decide +kernel
theorem dX5_step_20 : decode cX5_step 20 = .ok (.iastore, 1) := by decide +kernel
theorem dX5_step_21 : decode cX5_step 21 = .ok (.aload_n 0, 1) := by decide +kernel
theorem dX5_step_22 : decode cX5_step 22 = .ok (.getfield 207, 3) := by decide +kernel
theorem dX5_step_25 : decode cX5_step 25 = .ok (.ireturn, 1) := by decide +kernel
set_option maxRecDepth 20000 in
theorem ggX5_run_X5_in : GoodIn wsX5_run wsX5_in := goodIn_r _ [4] (by decide +kernel) (by decide +kernel)
set_option maxRecDepth 20000 in
theorem gX5_run_X5_in : GoodIn wsX5_run (va_wsS RX5 23 yX5_in wsX5_in) := goodIn_app (goodIn_of _ (by decide +kernel)) ggX5_run_X5_in
set_option maxRecDepth 20000 in
theorem ggX5_run_X5_step : GoodIn wsX5_run wsX5_step := goodIn_r _ [8, 9, 10, 11, 12, 13, 3, 14, 15, 16, 17, 18, 19, 20, 21, 22, 23, 24, 25, 26, 27, 28, 29, 30, 31, 32, 33, 34, 35, 36, 37, 38, 39, 40, 41, 42, 43, 44, 45, 46, 47, 48, 49, 50, 51, 52, 53, 54, 55, 56, 57, 58, 59, 60, 61, 62, 63, 64, 65, 66, 67, 68, 69, 70, 71, 72, 73, 74, 75, 76, 77, 78, 79, 80, 81, 82, 83, 84, 85, 86, 87, 88, 89, 90, 91, 92, 93, 94, 95, 96, 97, 98, 99, 100, 101, 102, 103, 104, 105, 106, 107, 108, 109, 110, 111, 112, 113, 114, 115, 116, 117, 118, 119, 120, 121, 122, 123, 124, 125, 126, 127, 128, 129, 130, 131, 132, 133, 134, 135, 136, 137, 138, 139, 140, 141, 142, 143, 144, 145, 146, 147, 148, 149, 150, 151, 152, 153, 154, 155, 156, 157, 158, 159, 160, 161, 162, 163, 164, 165, 166, 167, 168, 169, 170, 171, 172, 173, 174, 175, 176, 177, 178, 179, 180, 181, 182, 183, 184, 185, 186, 187, 188, 189, 190, 191, 192, 193, 194, 195, 196, 197, 198, 199, 200, 201, 202, 203, 204, 205, 206, 207, 208, 209, 210, 211, 212, 213, 214, 215, 216, 217, 218, 219] (by decide +kernel) (by decide +kernel)
set_option maxRecDepth 20000 in
theorem gX5_run_X5_step : GoodIn wsX5_run (wsV RX5 210 RX5 yX5_step wsX5_step) := goodIn_app (goodIn_of _ (by decide +kernel)) ggX5_run_X5_step
theorem dX5_run_0 : decode cX5_run 0 = .ok (.iload_n 1, 1) := by decide +kernel
theorem dX5_run_1 : decode cX5_run 1 = .ok (.iconst 1, 1) := by decide +kernel
theorem dX5_run_2 : decode cX5_run 2 = .ok (.sipush 3000, 3) := by decide +kernel
theorem dX5_run_5 : decode cX5_run 5 = .ok (.invokestatic 23, 3) := by decide +kernel
theorem dX5_run_8 : decode cX5_run 8 = .ok (.ifCond .ne 5, 3) := by decide +kernel
theorem dX5_run_11 : decode cX5_run 11 = .ok (.iconst (-1), 1) := by decide +kernel
theorem dX5_run_12 : decode cX5_run 12 = .ok (.ireturn, 1) := by decide +kernel
theorem dX5_run_13 : decode cX5_run 13 = .ok (.iconst 0, 1) := by decide +kernel
theorem dX5_run_14 : decode cX5_run 14 = .ok (.istore_n 2, 1) := by decide +kernel
theorem dX5_run_15 : decode cX5_run 15 = .ok (.iconst 1, 1) := by decide +kernel
theorem dX5_run_16 : decode cX5_run 16 = .ok (.istore_n 3, 1) := by decide +kernel
theorem dX5_run_17 : decode cX5_run 17 = .ok (.iload_n 3, 1) := by decide +kernel
theorem dX5_run_18 : decode cX5_run 18 = .ok (.ifCond .eq 37, 3) := by decide +kernel
theorem dX5_run_21 : decode cX5_run 21 = .ok (.iload_n 2, 1) := by decide +kernel
theorem dX5_run_22 : decode cX5_run 22 = .ok (.iload_n 1, 1) := by decide +kernel
theorem dX5_run_23 : decode cX5_run 23 = .ok (.if_icmp .ge 32, 3) := by decide +kernel
theorem dX5_run_26 : decode cX5_run 26 = .ok (.aload_n 0, 1) := by decide +kernel
theorem dX5_run_27 : decode cX5_run 27 = .ok (.invokevirtual 210, 3) := by decide +kernel
theorem dX5_run_30 : decode cX5_run 30 = .ok (.iconst 2, 1) := by decide +kernel
theorem dX5_run_31 : decode cX5_run 31 = .ok (.if_icmp .ge 7, 3) := by decide +kernel
theorem dX5_run_34 : decode cX5_run 34 = .ok (.iconst 1, 1) := by decide +kernel
theorem dX5_run_35 : decode cX5_run 35 = .ok (.goto 4, 3) := by decide +kernel
theorem dX5_run_38 : decode cX5_run 38 = .ok (.iconst 0, 1) := by decide +kernel
theorem dX5_run_39 : decode cX5_run 39 = .ok (.istore_n 3, 1) := by decide +kernel
theorem dX5_run_40 : decode cX5_run 40 = .ok (.iload_n 2, 1) := by decide +kernel
theorem dX5_run_41 : decode cX5_run 41 = .ok (.iload_n 3, 1) := by decide +kernel
theorem dX5_run_42 : decode cX5_run 42 = .ok (.ifCond .eq 7, 3) := by decide +kernel
theorem dX5_run_45 : decode cX5_run 45 = .ok (.iconst 1, 1) := by decide +kernel
theorem dX5_run_46 : decode cX5_run 46 = .ok (.goto 4, 3) := by decide +kernel
theorem dX5_run_49 : decode cX5_run 49 = .ok (.iconst 0, 1) := by decide +kernel
theorem dX5_run_50 : decode cX5_run 50 = .ok (.iadd, 1) := by decide +kernel
theorem dX5_run_51 : decode cX5_run 51 = .ok (.istore_n 2, 1) := by decide +kernel
theorem dX5_run_52 : decode cX5_run 52 = .ok (.goto (-35), 3) := by decide +kernel
theorem dX5_run_55 : decode cX5_run 55 = .ok (.iload_n 2, 1) := by decide +kernel
theorem dX5_run_56 : decode cX5_run 56 = .ok (.ireturn, 1) := by decide +kernel
theorem dX5_ended_0 : decode cX5_ended 0 = .ok (.aload_n 0, 1) := by decide +kernel
theorem dX5_ended_1 : decode cX5_ended 1 = .ok (.getfield 207, 3) := by decide +kernel
theorem dX5_ended_4 : decode cX5_ended 4 = .ok (.ireturn, 1) := by decide +kernel
theorem dX5_digest_0 : decode cX5_digest 0 = .ok (.bipush 7, 2) := by decide +kernel
theorem dX5_digest_2 : decode cX5_digest 2 = .ok (.istore_n 1, 1) := by decide +kernel
theorem dX5_digest_3 : decode cX5_digest 3 = .ok (.iconst 0, 1) := by decide +kernel
theorem dX5_digest_4 : decode cX5_digest 4 = .ok (.istore_n 2, 1) := by decide +kernel
theorem dX5_digest_5 : decode cX5_digest 5 = .ok (.iload_n 2, 1) := by decide +kernel
theorem dX5_digest_6 : decode cX5_digest 6 = .ok (.sipush 1024, 3) := by decide +kernel
theorem dX5_digest_9 : decode cX5_digest 9 = .ok (.if_icmp .ge 21, 3) := by decide +kernel
theorem dX5_digest_12 : decode cX5_digest 12 = .ok (.bipush 31, 2) := by decide +kernel
theorem dX5_digest_14 : decode cX5_digest 14 = .ok (.iload_n 1, 1) := by decide +kernel
theorem dX5_digest_15 : decode cX5_digest 15 = .ok (.imul, 1) := by decide +kernel
theorem dX5_digest_16 : decode cX5_digest 16 = .ok (.aload_n 0, 1) := by decide +kernel
theorem dX5_digest_17 : decode cX5_digest 17 = .ok (.getfield 13, 3) := by decide +kernel
theorem dX5_digest_20 : decode cX5_digest 20 = .ok (.iload_n 2, 1) := by decide +kernel
theorem dX5_digest_21 : decode cX5_digest 21 = .ok (.iaload, 1) := by decide +kernel
theorem dX5_digest_22 : decode cX5_digest 22 = .ok (.iadd, 1) := by decide +kernel
theorem dX5_digest_23 : decode cX5_digest 23 = .ok (.istore_n 1, 1) := by decide +kernel
theorem dX5_digest_24 : decode cX5_digest 24 = .ok (.iinc 2 1, 3) := by decide +kernel
theorem dX5_digest_27 : decode cX5_digest 27 = .ok (.goto (-22), 3) := by decide +kernel
theorem dX5_digest_30 : decode cX5_digest 30 = .ok (.bipush 31, 2) := by decide +kernel
theorem dX5_digest_32 : decode cX5_digest 32 = .ok (.iload_n 1, 1) := by decide +kernel
theorem dX5_digest_33 : decode cX5_digest 33 = .ok (.imul, 1) := by decide +kernel
theorem dX5_digest_34 : decode cX5_digest 34 = .ok (.aload_n 0, 1) := by decide +kernel
theorem dX5_digest_35 : decode cX5_digest 35 = .ok (.getfield 19, 3) := by decide +kernel
theorem dX5_digest_38 : decode cX5_digest 38 = .ok (.iadd, 1) := by decide +kernel
theorem dX5_digest_39 : decode cX5_digest 39 = .ok (.ireturn, 1) := by decide +kernel
set_option maxRecDepth 20000 in
theorem ggX5_count_X5_in : GoodIn wsX5_count wsX5_in := goodIn_r _ [5] (by decide +kernel) (by decide +kernel)
set_option maxRecDepth 20000 in
theorem gX5_count_X5_in : GoodIn wsX5_count (va_wsS RX5 23 yX5_in wsX5_in) := goodIn_app (goodIn_of _ (by decide +kernel)) ggX5_count_X5_in
theorem dX5_count_0 : decode cX5_count 0 = .ok (.iload_n 1, 1) := by decide +kernel
theorem dX5_count_1 : decode cX5_count 1 = .ok (.iconst 0, 1) := by decide +kernel
theorem dX5_count_2 : decode cX5_count 2 = .ok (.bipush 6, 2) := by decide +kernel
theorem dX5_count_4 : decode cX5_count 4 = .ok (.invokestatic 23, 3) := by decide +kernel
theorem dX5_count_7 : decode cX5_count 7 = .ok (.ifCond .eq 12, 3) := by decide +kernel
theorem dX5_count_10 : decode cX5_count 10 = .ok (.aload_n 0, 1) := by decide +kernel
theorem dX5_count_11 : decode cX5_count 11 = .ok (.getfield 16, 3) := by decide +kernel
theorem dX5_count_14 : decode cX5_count 14 = .ok (.iload_n 1, 1) := by decide +kernel
theorem dX5_count_15 : decode cX5_count 15 = .ok (.iaload, 1) := by decide +kernel
theorem dX5_count_16 : decode cX5_count 16 = .ok (.goto 4, 3) := by decide +kernel
theorem dX5_count_19 : decode cX5_count 19 = .ok (.iconst (-1), 1) := by decide +kernel
theorem dX5_count_20 : decode cX5_count 20 = .ok (.ireturn, 1) := by decide +kernel
theorem dJ6_numberOfTrailingZeros_0f7a4_0 : decode cJ6_numberOfTrailingZeros_0f7a4 0 = .ok (.iload_n 0, 1) := by decide +kernel
theorem dJ6_numberOfTrailingZeros_0f7a4_1 : decode cJ6_numberOfTrailingZeros_0f7a4 1 = .ok (.iconst (-1), 1) := by decide +kernel
theorem dJ6_numberOfTrailingZeros_0f7a4_2 : decode cJ6_numberOfTrailingZeros_0f7a4 2 = .ok (.ixor, 1) := by decide +kernel
theorem dJ6_numberOfTrailingZeros_0f7a4_3 : decode cJ6_numberOfTrailingZeros_0f7a4 3 = .ok (.iload_n 0, 1) := by decide +kernel
theorem dJ6_numberOfTrailingZeros_0f7a4_4 : decode cJ6_numberOfTrailingZeros_0f7a4 4 = .ok (.iconst 1, 1) := by decide +kernel
theorem dJ6_numberOfTrailingZeros_0f7a4_5 : decode cJ6_numberOfTrailingZeros_0f7a4 5 = .ok (.isub, 1) := by decide +kernel
theorem dJ6_numberOfTrailingZeros_0f7a4_6 : decode cJ6_numberOfTrailingZeros_0f7a4 6 = .ok (.iand, 1) := by decide +kernel
theorem dJ6_numberOfTrailingZeros_0f7a4_7 : decode cJ6_numberOfTrailingZeros_0f7a4 7 = .ok (.istore_n 0, 1) := by decide +kernel
theorem dJ6_numberOfTrailingZeros_0f7a4_8 : decode cJ6_numberOfTrailingZeros_0f7a4 8 = .ok (.iload_n 0, 1) := by decide +kernel
theorem dJ6_numberOfTrailingZeros_0f7a4_9 : decode cJ6_numberOfTrailingZeros_0f7a4 9 = .ok (.ifCond .gt 8, 3) := by decide +kernel
theorem dJ6_numberOfTrailingZeros_0f7a4_12 : decode cJ6_numberOfTrailingZeros_0f7a4 12 = .ok (.iload_n 0, 1) := by decide +kernel
theorem dJ6_numberOfTrailingZeros_0f7a4_13 : decode cJ6_numberOfTrailingZeros_0f7a4 13 = .ok (.bipush 32, 2) := by decide +kernel
theorem dJ6_numberOfTrailingZeros_0f7a4_15 : decode cJ6_numberOfTrailingZeros_0f7a4 15 = .ok (.iand, 1) := by decide +kernel
theorem dJ6_numberOfTrailingZeros_0f7a4_16 : decode cJ6_numberOfTrailingZeros_0f7a4 16 = .ok (.ireturn, 1) := by decide +kernel
theorem dJ6_numberOfTrailingZeros_0f7a4_17 : decode cJ6_numberOfTrailingZeros_0f7a4 17 = .ok (.iconst 1, 1) := by decide +kernel
theorem dJ6_numberOfTrailingZeros_0f7a4_18 : decode cJ6_numberOfTrailingZeros_0f7a4 18 = .ok (.istore_n 1, 1) := by decide +kernel
theorem dJ6_numberOfTrailingZeros_0f7a4_19 : decode cJ6_numberOfTrailingZeros_0f7a4 19 = .ok (.iload_n 0, 1) := by decide +kernel
theorem dJ6_numberOfTrailingZeros_0f7a4_20 : decode cJ6_numberOfTrailingZeros_0f7a4 20 = .ok (.ldc_w 264, 3) := by decide +kernel
theorem dJ6_numberOfTrailingZeros_0f7a4_23 : decode cJ6_numberOfTrailingZeros_0f7a4 23 = .ok (.if_icmp .le 11, 3) := by decide +kernel
theorem dJ6_numberOfTrailingZeros_0f7a4_26 : decode cJ6_numberOfTrailingZeros_0f7a4 26 = .ok (.iinc 1 16, 3) := by decide +kernel
theorem dJ6_numberOfTrailingZeros_0f7a4_29 : decode cJ6_numberOfTrailingZeros_0f7a4 29 = .ok (.iload_n 0, 1) := by decide +kernel
theorem dJ6_numberOfTrailingZeros_0f7a4_30 : decode cJ6_numberOfTrailingZeros_0f7a4 30 = .ok (.bipush 16, 2) := by decide +kernel
theorem dJ6_numberOfTrailingZeros_0f7a4_32 : decode cJ6_numberOfTrailingZeros_0f7a4 32 = .ok (.iushr, 1) := by decide +kernel
theorem dJ6_numberOfTrailingZeros_0f7a4_33 : decode cJ6_numberOfTrailingZeros_0f7a4 33 = .ok (.istore_n 0, 1) := by decide +kernel
theorem dJ6_numberOfTrailingZeros_0f7a4_34 : decode cJ6_numberOfTrailingZeros_0f7a4 34 = .ok (.iload_n 0, 1) := by decide +kernel
theorem dJ6_numberOfTrailingZeros_0f7a4_35 : decode cJ6_numberOfTrailingZeros_0f7a4 35 = .ok (.sipush 256, 3) := by decide +kernel
theorem dJ6_numberOfTrailingZeros_0f7a4_38 : decode cJ6_numberOfTrailingZeros_0f7a4 38 = .ok (.if_icmp .le 11, 3) := by decide +kernel
theorem dJ6_numberOfTrailingZeros_0f7a4_41 : decode cJ6_numberOfTrailingZeros_0f7a4 41 = .ok (.iinc 1 8, 3) := by decide +kernel
theorem dJ6_numberOfTrailingZeros_0f7a4_44 : decode cJ6_numberOfTrailingZeros_0f7a4 44 = .ok (.iload_n 0, 1) := by decide +kernel
theorem dJ6_numberOfTrailingZeros_0f7a4_45 : decode cJ6_numberOfTrailingZeros_0f7a4 45 = .ok (.bipush 8, 2) := by decide +kernel
theorem dJ6_numberOfTrailingZeros_0f7a4_47 : decode cJ6_numberOfTrailingZeros_0f7a4 47 = .ok (.iushr, 1) := by decide +kernel
theorem dJ6_numberOfTrailingZeros_0f7a4_48 : decode cJ6_numberOfTrailingZeros_0f7a4 48 = .ok (.istore_n 0, 1) := by decide +kernel
theorem dJ6_numberOfTrailingZeros_0f7a4_49 : decode cJ6_numberOfTrailingZeros_0f7a4 49 = .ok (.iload_n 0, 1) := by decide +kernel
theorem dJ6_numberOfTrailingZeros_0f7a4_50 : decode cJ6_numberOfTrailingZeros_0f7a4 50 = .ok (.bipush 16, 2) := by decide +kernel
theorem dJ6_numberOfTrailingZeros_0f7a4_52 : decode cJ6_numberOfTrailingZeros_0f7a4 52 = .ok (.if_icmp .le 10, 3) := by decide +kernel
theorem dJ6_numberOfTrailingZeros_0f7a4_55 : decode cJ6_numberOfTrailingZeros_0f7a4 55 = .ok (.iinc 1 4, 3) := by decide +kernel
theorem dJ6_numberOfTrailingZeros_0f7a4_58 : decode cJ6_numberOfTrailingZeros_0f7a4 58 = .ok (.iload_n 0, 1) := by decide +kernel
theorem dJ6_numberOfTrailingZeros_0f7a4_59 : decode cJ6_numberOfTrailingZeros_0f7a4 59 = .ok (.iconst 4, 1) := by decide +kernel
theorem dJ6_numberOfTrailingZeros_0f7a4_60 : decode cJ6_numberOfTrailingZeros_0f7a4 60 = .ok (.iushr, 1) := by decide +kernel
theorem dJ6_numberOfTrailingZeros_0f7a4_61 : decode cJ6_numberOfTrailingZeros_0f7a4 61 = .ok (.istore_n 0, 1) := by decide +kernel
theorem dJ6_numberOfTrailingZeros_0f7a4_62 : decode cJ6_numberOfTrailingZeros_0f7a4 62 = .ok (.iload_n 0, 1) := by decide +kernel
theorem dJ6_numberOfTrailingZeros_0f7a4_63 : decode cJ6_numberOfTrailingZeros_0f7a4 63 = .ok (.iconst 4, 1) := by decide +kernel
theorem dJ6_numberOfTrailingZeros_0f7a4_64 : decode cJ6_numberOfTrailingZeros_0f7a4 64 = .ok (.if_icmp .le 10, 3) := by decide +kernel
theorem dJ6_numberOfTrailingZeros_0f7a4_67 : decode cJ6_numberOfTrailingZeros_0f7a4 67 = .ok (.iinc 1 2, 3) := by decide +kernel
theorem dJ6_numberOfTrailingZeros_0f7a4_70 : decode cJ6_numberOfTrailingZeros_0f7a4 70 = .ok (.iload_n 0, 1) := by decide +kernel
theorem dJ6_numberOfTrailingZeros_0f7a4_71 : decode cJ6_numberOfTrailingZeros_0f7a4 71 = .ok (.iconst 2, 1) := by decide +kernel
theorem dJ6_numberOfTrailingZeros_0f7a4_72 : decode cJ6_numberOfTrailingZeros_0f7a4 72 = .ok (.iushr, 1) := by decide +kernel
theorem dJ6_numberOfTrailingZeros_0f7a4_73 : decode cJ6_numberOfTrailingZeros_0f7a4 73 = .ok (.istore_n 0, 1) := by decide +kernel
theorem dJ6_numberOfTrailingZeros_0f7a4_74 : decode cJ6_numberOfTrailingZeros_0f7a4 74 = .ok (.iload_n 1, 1) := by decide +kernel
theorem dJ6_numberOfTrailingZeros_0f7a4_75 : decode cJ6_numberOfTrailingZeros_0f7a4 75 = .ok (.iload_n 0, 1) := by decide +kernel
theorem dJ6_numberOfTrailingZeros_0f7a4_76 : decode cJ6_numberOfTrailingZeros_0f7a4 76 = .ok (.iconst 1, 1) := by decide +kernel
theorem dJ6_numberOfTrailingZeros_0f7a4_77 : decode cJ6_numberOfTrailingZeros_0f7a4 77 = .ok (.iushr, 1) := by decide +kernel
theorem dJ6_numberOfTrailingZeros_0f7a4_78 : decode cJ6_numberOfTrailingZeros_0f7a4 78 = .ok (.iadd, 1) := by decide +kernel
theorem dJ6_numberOfTrailingZeros_0f7a4_79 : decode cJ6_numberOfTrailingZeros_0f7a4 79 = .ok (.ireturn, 1) := by decide +kernel
set_option maxRecDepth 20000 in
theorem ggL_law_X4_init : GoodIn wsL_law wsX4_init := goodIn_r _ [9, 10, 11, 12, 13, 14, 15, 16, 17, 18, 19, 20, 21, 22, 23, 24, 25, 26, 27, 28, 29, 30, 31, 32, 33, 34, 35, 36, 37, 668, 669, 670, 671, 672, 673, 674, 675, 684, 685] (by decide +kernel) (by decide +kernel)
set_option maxRecDepth 20000 in
theorem gL_law_X4_init : GoodIn wsL_law (wsX4_init) := ggL_law_X4_init
set_option maxRecDepth 20000 in
theorem ggL_law_X5_init : GoodIn wsL_law wsX5_init := goodIn_r _ [40, 41, 11, 12, 13, 42, 43, 44, 45, 676, 677, 678, 679, 680, 681, 682, 683] (by decide +kernel) (by decide +kernel)
set_option maxRecDepth 20000 in
theorem gL_law_X5_init : GoodIn wsL_law (wsX5_init) := ggL_law_X5_init
set_option maxRecDepth 20000 in
theorem ggL_law_X4_code : GoodIn wsL_law wsX4_code := goodIn_r _ [49, 50, 14, 51, 52, 2, 53, 54, 55, 56, 57, 668, 669, 670, 671, 672, 673, 674, 675] (by decide +kernel) (by decide +kernel)
set_option maxRecDepth 20000 in
theorem gL_law_X4_code : GoodIn wsL_law (wsV RL 13 RX4 yX4_code wsX4_code) := goodIn_app (goodIn_of _ (by decide +kernel)) ggL_law_X4_code
set_option maxRecDepth 20000 in
theorem ggL_law_X5_code : GoodIn wsL_law wsX5_code := goodIn_r _ [61, 62, 42, 63, 64, 5, 65, 676, 677, 678, 679, 680, 681, 682, 683] (by decide +kernel) (by decide +kernel)
set_option maxRecDepth 20000 in
theorem gL_law_X5_code : GoodIn wsL_law (wsV RL 17 RX5 yX5_code wsX5_code) := goodIn_app (goodIn_of _ (by decide +kernel)) ggL_law_X5_code
set_option maxRecDepth 20000 in
theorem ggL_law_X4_load : GoodIn wsL_law wsX4_load := goodIn_r _ [69, 14, 50, 51, 52, 2, 53, 668, 669, 670, 671, 672, 673, 674, 675] (by decide +kernel) (by decide +kernel)
set_option maxRecDepth 20000 in
theorem gL_law_X4_load : GoodIn wsL_law (wsV RL 20 RX4 yX4_load wsX4_load) := goodIn_app (goodIn_of _ (by decide +kernel)) ggL_law_X4_load
set_option maxRecDepth 20000 in
theorem ggL_law_X5_load : GoodIn wsL_law wsX5_load := goodIn_r _ [73, 42, 62, 63, 64, 5, 65, 676, 677, 678, 679, 680, 681, 682, 683] (by decide +kernel) (by decide +kernel)
set_option maxRecDepth 20000 in
theorem gL_law_X5_load : GoodIn wsL_law (wsV RL 24 RX5 yX5_load wsX5_load) := goodIn_app (goodIn_of _ (by decide +kernel)) ggL_law_X5_load
set_option maxRecDepth 20000 in
theorem ggL_law_X4_word : GoodIn wsL_law wsX4_word := goodIn_r _ [77, 51, 52, 2, 53, 54, 55, 56, 57, 14, 668, 669, 670, 671, 672, 673, 674, 675] (by decide +kernel) (by decide +kernel)
set_option maxRecDepth 20000 in
theorem gL_law_X4_word : GoodIn wsL_law (wsV RL 25 RX4 yX4_word wsX4_word) := goodIn_app (goodIn_of _ (by decide +kernel)) ggL_law_X4_word
set_option maxRecDepth 20000 in
theorem ggL_law_X5_word : GoodIn wsL_law wsX5_word := goodIn_r _ [81, 42, 63, 64, 5, 65, 676, 677, 678, 679, 680, 681, 682, 683] (by decide +kernel) (by decide +kernel)
set_option maxRecDepth 20000 in
theorem gL_law_X5_word : GoodIn wsL_law (wsV RL 29 RX5 yX5_word wsX5_word) := goodIn_app (goodIn_of _ (by decide +kernel)) ggL_law_X5_word
set_option maxRecDepth 20000 in
theorem ggL_law_X4_put : GoodIn wsL_law wsX4_put := goodIn_r _ [85, 18, 51, 52, 2, 53, 86, 87, 88, 17, 89, 32, 90, 91, 92, 93, 668, 669, 670, 671, 672, 673, 674, 675, 684] (by decide +kernel) (by decide +kernel)
set_option maxRecDepth 20000 in
theorem gL_law_X4_put : GoodIn wsL_law (wsV RL 30 RX4 yX4_put wsX4_put) := goodIn_app (goodIn_of _ (by decide +kernel)) ggL_law_X4_put
set_option maxRecDepth 20000 in
theorem ggL_law_X5_put : GoodIn wsL_law wsX5_put := goodIn_r _ [97, 43, 63, 64, 5, 65, 676, 677, 678, 679, 680, 681, 682, 683] (by decide +kernel) (by decide +kernel)
set_option maxRecDepth 20000 in
theorem gL_law_X5_put : GoodIn wsL_law (wsV RL 33 RX5 yX5_put wsX5_put) := goodIn_app (goodIn_of _ (by decide +kernel)) ggL_law_X5_put
set_option maxRecDepth 20000 in
theorem ggL_law_X4_data : GoodIn wsL_law wsX4_data := goodIn_r _ [101, 18, 51, 52, 2, 53, 86, 87, 88, 17, 89, 32, 668, 669, 670, 671, 672, 673, 674, 675, 684] (by decide +kernel) (by decide +kernel)
set_option maxRecDepth 20000 in
theorem gL_law_X4_data : GoodIn wsL_law (wsV RL 34 RX4 yX4_data wsX4_data) := goodIn_app (goodIn_of _ (by decide +kernel)) ggL_law_X4_data
set_option maxRecDepth 20000 in
theorem ggL_law_X5_data : GoodIn wsL_law wsX5_data := goodIn_r _ [105, 43, 63, 64, 5, 65, 676, 677, 678, 679, 680, 681, 682, 683] (by decide +kernel) (by decide +kernel)
set_option maxRecDepth 20000 in
theorem gL_law_X5_data : GoodIn wsL_law (wsV RL 37 RX5 yX5_data wsX5_data) := goodIn_app (goodIn_of _ (by decide +kernel)) ggL_law_X5_data
set_option maxRecDepth 20000 in
theorem ggL_law_X4_told : GoodIn wsL_law wsX4_told := goodIn_r _ [109, 24, 18, 27, 25, 110, 111, 112, 17, 113, 32, 86, 87, 88, 89, 668, 669, 670, 671, 672, 673, 674, 675, 684] (by decide +kernel) (by decide +kernel)
set_option maxRecDepth 20000 in
theorem gL_law_X4_told : GoodIn wsL_law (wsV RL 38 RX4 yX4_told wsX4_told) := goodIn_app (goodIn_of _ (by decide +kernel)) ggL_law_X4_told
set_option maxRecDepth 20000 in
theorem ggL_law_X5_told : GoodIn wsL_law wsX5_told := goodIn_r _ [117, 45, 43, 118, 119, 120, 121, 122, 5, 123, 676, 677, 678, 679, 680, 681, 682, 683] (by decide +kernel) (by decide +kernel)
set_option maxRecDepth 20000 in
theorem gL_law_X5_told : GoodIn wsL_law (wsV RL 41 RX5 yX5_told wsX5_told) := goodIn_app (goodIn_of _ (by decide +kernel)) ggL_law_X5_told
set_option maxRecDepth 20000 in
theorem ggL_law_X4_go : GoodIn wsL_law wsX4_go := goodIn_r _ [127, 24, 51, 52, 2, 53, 668, 669, 670, 671, 672, 673, 674, 675] (by decide +kernel) (by decide +kernel)
set_option maxRecDepth 20000 in
theorem gL_law_X4_go : GoodIn wsL_law (wsV RL 42 RX4 yX4_go wsX4_go) := goodIn_app (goodIn_of _ (by decide +kernel)) ggL_law_X4_go
set_option maxRecDepth 20000 in
theorem ggL_law_X5_go : GoodIn wsL_law wsX5_go := goodIn_r _ [131, 45, 63, 64, 5, 65, 676, 677, 678, 679, 680, 681, 682, 683] (by decide +kernel) (by decide +kernel)
set_option maxRecDepth 20000 in
theorem gL_law_X5_go : GoodIn wsL_law (wsV RL 45 RX5 yX5_go wsX5_go) := goodIn_app (goodIn_of _ (by decide +kernel)) ggL_law_X5_go
set_option maxRecDepth 20000 in
theorem ggL_law_X4_ask : GoodIn wsL_law wsX4_ask := goodIn_r _ [135, 25, 668, 669, 670, 671, 672, 673, 674, 675] (by decide +kernel) (by decide +kernel)
set_option maxRecDepth 20000 in
theorem gL_law_X4_ask : GoodIn wsL_law (wsV RL 46 RX4 yX4_ask wsX4_ask) := goodIn_app (goodIn_of _ (by decide +kernel)) ggL_law_X4_ask
set_option maxRecDepth 20000 in
theorem ggL_law_X5_ask : GoodIn wsL_law wsX5_ask := goodIn_r _ [139, 119, 63, 64, 5, 65, 676, 677, 678, 679, 680, 681, 682, 683] (by decide +kernel) (by decide +kernel)
set_option maxRecDepth 20000 in
theorem gL_law_X5_ask : GoodIn wsL_law (wsV RL 49 RX5 yX5_ask wsX5_ask) := goodIn_app (goodIn_of _ (by decide +kernel)) ggL_law_X5_ask
set_option maxRecDepth 20000 in
theorem ggL_law_X4_step : GoodIn wsL_law wsX4_step := goodIn_r _ [143, 144, 145, 146, 2, 147, 25, 27, 18, 26, 24, 148, 149, 23, 150, 151, 152, 17, 153, 32, 154, 155, 156, 157, 158, 159, 160, 161, 162, 111, 112, 113, 163, 91, 92, 93, 164, 165, 166, 167, 168, 169, 170, 171, 172, 173, 174, 175, 176, 177, 178, 179, 180, 181, 87, 88, 89, 54, 55, 56, 57, 14, 182, 183, 184, 185, 186, 187, 188, 189, 190, 191, 192, 193, 194, 195, 196, 197, 198, 199, 200, 201, 202, 203, 204, 205, 206, 207, 208, 209, 210, 211, 212, 213, 214, 215, 216, 217, 218, 219, 220, 221, 222, 223, 224, 110, 225, 226, 227, 228, 229, 22, 230, 86, 231, 232, 233, 234, 235, 236, 21, 237, 238, 239, 240, 241, 37, 242, 243, 244, 245, 246, 247, 248, 249, 250, 251, 252, 253, 254, 255, 256, 257, 258, 259, 260, 261, 262, 263, 264, 265, 266, 267, 268, 269, 270, 271, 272, 273, 274, 275, 276, 90, 277, 278, 279, 280, 281, 282, 283, 284, 285, 286, 287, 288, 289, 290, 291, 292, 293, 294, 295, 296, 297, 298, 299, 300, 301, 302, 303, 304, 305, 306, 307, 308, 309, 310, 311, 312, 313, 314, 315, 316, 317, 318, 319, 320, 321, 322, 323, 324, 325, 326, 327, 328, 329, 330, 331, 332, 333, 334, 335, 336, 337, 338, 339, 340, 341, 342, 343, 344, 345, 346, 347, 348, 349, 350, 351, 352, 353, 354, 355, 50, 356, 357, 358, 359, 360, 361, 362, 363, 364, 365, 366, 367, 368, 369, 370, 371, 372, 373, 374, 375, 376, 377, 378, 379, 380, 381, 382, 383, 384, 385, 386, 387, 388, 389, 390, 391, 392, 393, 394, 395, 396, 397, 398, 399, 400, 401, 402, 403, 404, 405, 406, 407, 408, 409, 410, 411, 412, 413, 414, 415, 416, 417, 418, 419, 420, 421, 422, 423, 424, 425, 426, 427, 428, 429, 430, 668, 669, 670, 671, 672, 673, 674, 675, 684, 685] (by decide +kernel) (by decide +kernel)
set_option maxRecDepth 20000 in
theorem gL_law_X4_step : GoodIn wsL_law (wsV RL 50 RX4 yX4_step wsX4_step) := goodIn_app (goodIn_of _ (by decide +kernel)) ggL_law_X4_step
set_option maxRecDepth 20000 in
theorem ggL_law_X5_step : GoodIn wsL_law wsX5_step := goodIn_r _ [434, 435, 44, 436, 437, 438, 5, 439, 119, 118, 42, 45, 440, 441, 442, 443, 444, 445, 446, 43, 447, 448, 449, 450, 451, 452, 453, 454, 62, 120, 121, 122, 123, 455, 456, 457, 458, 459, 460, 461, 462, 463, 464, 465, 466, 467, 468, 469, 470, 471, 472, 473, 474, 475, 476, 477, 478, 479, 480, 481, 482, 483, 484, 485, 486, 487, 488, 489, 490, 491, 492, 493, 494, 495, 496, 497, 498, 499, 500, 501, 502, 503, 504, 505, 506, 507, 508, 509, 510, 511, 512, 513, 514, 515, 516, 517, 518, 519, 520, 521, 522, 523, 524, 525, 526, 527, 528, 529, 530, 531, 532, 533, 534, 535, 536, 537, 538, 539, 540, 541, 542, 543, 544, 545, 546, 547, 548, 549, 550, 551, 552, 553, 554, 555, 556, 557, 558, 559, 560, 561, 562, 563, 564, 565, 566, 567, 568, 569, 570, 571, 572, 573, 574, 575, 576, 577, 578, 579, 580, 581, 582, 583, 584, 585, 586, 587, 588, 589, 590, 591, 592, 593, 594, 595, 596, 597, 598, 599, 600, 601, 602, 603, 604, 605, 606, 607, 608, 609, 610, 611, 612, 613, 614, 615, 616, 617, 618, 619, 620, 621, 622, 623, 624, 625, 626, 676, 677, 678, 679, 680, 681, 682, 683] (by decide +kernel) (by decide +kernel)
set_option maxRecDepth 20000 in
theorem gL_law_X5_step : GoodIn wsL_law (wsV RL 54 RX5 yX5_step wsX5_step) := goodIn_app (goodIn_of _ (by decide +kernel)) ggL_law_X5_step
set_option maxRecDepth 20000 in
theorem ggL_law_X4_run : GoodIn wsL_law wsX4_run := goodIn_r _ [630, 144, 145, 146, 2, 147, 25, 27, 18, 26, 24, 148, 149, 23, 150, 151, 152, 17, 153, 32, 154, 155, 156, 157, 158, 159, 160, 161, 162, 111, 112, 113, 163, 91, 92, 93, 164, 165, 166, 167, 168, 169, 170, 171, 172, 173, 174, 175, 176, 177, 178, 179, 180, 181, 87, 88, 89, 54, 55, 56, 57, 14, 182, 183, 184, 185, 186, 187, 188, 189, 190, 191, 192, 193, 194, 195, 196, 197, 198, 199, 200, 201, 202, 203, 204, 205, 206, 207, 208, 209, 210, 211, 212, 213, 214, 215, 216, 217, 218, 219, 220, 221, 222, 223, 224, 110, 225, 226, 227, 228, 229, 22, 230, 86, 231, 232, 233, 234, 235, 236, 21, 237, 238, 239, 240, 241, 37, 242, 243, 244, 245, 246, 247, 248, 249, 250, 251, 252, 253, 254, 255, 256, 257, 258, 259, 260, 261, 262, 263, 264, 265, 266, 267, 268, 269, 270, 271, 272, 273, 274, 275, 276, 90, 277, 278, 279, 280, 281, 282, 283, 284, 285, 286, 287, 288, 289, 290, 291, 292, 293, 294, 295, 296, 297, 298, 299, 300, 301, 302, 303, 304, 305, 306, 307, 308, 309, 310, 311, 312, 313, 314, 315, 316, 317, 318, 319, 320, 321, 322, 323, 324, 325, 326, 327, 328, 329, 330, 331, 332, 333, 334, 335, 336, 337, 338, 339, 340, 341, 342, 343, 344, 345, 346, 347, 348, 349, 350, 351, 352, 353, 354, 355, 50, 356, 357, 358, 359, 360, 361, 362, 363, 364, 365, 366, 367, 368, 369, 370, 371, 372, 373, 374, 375, 376, 377, 378, 379, 380, 381, 382, 383, 384, 385, 386, 387, 388, 389, 390, 391, 392, 393, 394, 395, 396, 397, 398, 399, 400, 401, 402, 403, 404, 405, 406, 407, 408, 409, 410, 411, 412, 413, 414, 415, 416, 417, 418, 419, 420, 421, 422, 423, 424, 425, 426, 427, 428, 429, 430, 668, 669, 670, 671, 672, 673, 674, 675, 684, 685] (by decide +kernel) (by decide +kernel)
set_option maxRecDepth 20000 in
theorem gL_law_X4_run : GoodIn wsL_law (wsV RL 55 RX4 yX4_run wsX4_run) := goodIn_app (goodIn_of _ (by decide +kernel)) ggL_law_X4_run
set_option maxRecDepth 20000 in
theorem ggL_law_X5_run : GoodIn wsL_law wsX5_run := goodIn_r _ [634, 63, 64, 5, 65, 635, 432, 433, 434, 435, 44, 436, 437, 438, 439, 119, 118, 42, 45, 440, 441, 442, 443, 444, 445, 446, 43, 447, 448, 449, 450, 451, 452, 453, 454, 62, 120, 121, 122, 123, 455, 456, 457, 458, 459, 460, 461, 462, 463, 464, 465, 466, 467, 468, 469, 470, 471, 472, 473, 474, 475, 476, 477, 478, 479, 480, 481, 482, 483, 484, 485, 486, 487, 488, 489, 490, 491, 492, 493, 494, 495, 496, 497, 498, 499, 500, 501, 502, 503, 504, 505, 506, 507, 508, 509, 510, 511, 512, 513, 514, 515, 516, 517, 518, 519, 520, 521, 522, 523, 524, 525, 526, 527, 528, 529, 530, 531, 532, 533, 534, 535, 536, 537, 538, 539, 540, 541, 542, 543, 544, 545, 546, 547, 548, 549, 550, 551, 552, 553, 554, 555, 556, 557, 558, 559, 560, 561, 562, 563, 564, 565, 566, 567, 568, 569, 570, 571, 572, 573, 574, 575, 576, 577, 578, 579, 580, 581, 582, 583, 584, 585, 586, 587, 588, 589, 590, 591, 592, 593, 594, 595, 596, 597, 598, 599, 600, 601, 602, 603, 604, 605, 606, 607, 608, 609, 610, 611, 612, 613, 614, 615, 616, 617, 618, 619, 620, 621, 622, 623, 624, 625, 626, 676, 677, 678, 679, 680, 681, 682, 683] (by decide +kernel) (by decide +kernel)
set_option maxRecDepth 20000 in
theorem gL_law_X5_run : GoodIn wsL_law (wsV RL 58 RX5 yX5_run wsX5_run) := goodIn_app (goodIn_of _ (by decide +kernel)) ggL_law_X5_run
set_option maxRecDepth 20000 in
theorem ggL_law_X4_ended : GoodIn wsL_law wsX4_ended := goodIn_r _ [639, 26, 668, 669, 670, 671, 672, 673, 674, 675] (by decide +kernel) (by decide +kernel)
set_option maxRecDepth 20000 in
theorem gL_law_X4_ended : GoodIn wsL_law (wsV RL 59 RX4 yX4_ended wsX4_ended) := goodIn_app (goodIn_of _ (by decide +kernel)) ggL_law_X4_ended
set_option maxRecDepth 20000 in
theorem ggL_law_X5_ended : GoodIn wsL_law wsX5_ended := goodIn_r _ [643, 435, 676, 677, 678, 679, 680, 681, 682, 683] (by decide +kernel) (by decide +kernel)
set_option maxRecDepth 20000 in
theorem gL_law_X5_ended : GoodIn wsL_law (wsV RL 62 RX5 yX5_ended wsX5_ended) := goodIn_app (goodIn_of _ (by decide +kernel)) ggL_law_X5_ended
set_option maxRecDepth 20000 in
theorem ggL_law_X4_reads : GoodIn wsL_law wsX4_reads := goodIn_r _ [647, 50, 51, 52, 2, 53, 186, 187, 188, 189, 190, 191, 192, 193, 194, 195, 196, 197, 198, 199, 200, 201, 202, 203, 204, 205, 206, 207, 208, 209, 210, 211, 212, 213, 214, 215, 216, 285, 286, 287, 288, 289, 290, 291] (by decide +kernel) (by decide +kernel)
set_option maxRecDepth 20000 in
theorem gL_law_X4_reads : GoodIn wsL_law (wsV RL 63 RX4 yX4_reads wsX4_reads) := goodIn_app (goodIn_of _ (by decide +kernel)) ggL_law_X4_reads
set_option maxRecDepth 20000 in
theorem ggL_law_X5_reads : GoodIn wsL_law wsX5_reads := goodIn_r _ [651, 62, 63, 64, 5, 65, 474, 475, 476, 477, 478, 479, 480, 481, 482, 483, 484, 485, 486, 487, 488, 489, 490, 491, 492, 493, 494, 495, 496, 497, 498, 499, 500, 442, 501, 502, 503, 542, 543, 544] (by decide +kernel) (by decide +kernel)
set_option maxRecDepth 20000 in
theorem gL_law_X5_reads : GoodIn wsL_law (wsV RL 66 RX5 yX5_reads wsX5_reads) := goodIn_app (goodIn_of _ (by decide +kernel)) ggL_law_X5_reads
set_option maxRecDepth 20000 in
theorem ggL_law_X4_digest : GoodIn wsL_law wsX4_digest := goodIn_r _ [655, 18, 24, 86, 87, 88, 17, 89, 32, 668, 669, 670, 671, 672, 673, 674, 675, 684] (by decide +kernel) (by decide +kernel)
set_option maxRecDepth 20000 in
theorem gL_law_X4_digest : GoodIn wsL_law (wsV RL 67 RX4 yX4_digest wsX4_digest) := goodIn_app (goodIn_of _ (by decide +kernel)) ggL_law_X4_digest
set_option maxRecDepth 20000 in
theorem ggL_law_X5_digest : GoodIn wsL_law wsX5_digest := goodIn_r _ [659, 43, 45, 676, 677, 678, 679, 680, 681, 682, 683] (by decide +kernel) (by decide +kernel)
set_option maxRecDepth 20000 in
theorem gL_law_X5_digest : GoodIn wsL_law (wsV RL 70 RX5 yX5_digest wsX5_digest) := goodIn_app (goodIn_of _ (by decide +kernel)) ggL_law_X5_digest
set_option maxRecDepth 20000 in
theorem ggL_law_X4_count : GoodIn wsL_law wsX4_count := goodIn_r _ [663, 23, 668, 669, 670, 671, 672, 673, 674, 675] (by decide +kernel) (by decide +kernel)
set_option maxRecDepth 20000 in
theorem gL_law_X4_count : GoodIn wsL_law (wsV RL 71 RX4 yX4_count wsX4_count) := goodIn_app (goodIn_of _ (by decide +kernel)) ggL_law_X4_count
set_option maxRecDepth 20000 in
theorem ggL_law_X5_count : GoodIn wsL_law wsX5_count := goodIn_r _ [667, 44, 63, 64, 5, 65, 676, 677, 678, 679, 680, 681, 682, 683] (by decide +kernel) (by decide +kernel)
set_option maxRecDepth 20000 in
theorem gL_law_X5_count : GoodIn wsL_law (wsV RL 74 RX5 yX5_count wsX5_count) := goodIn_app (goodIn_of _ (by decide +kernel)) ggL_law_X5_count
theorem dL_law_0 : decode cL_law 0 = .ok (.new 7, 3) := by decide +kernel
theorem dL_law_3 : decode cL_law 3 = .ok (.dup, 1) := by decide +kernel
theorem dL_law_4 : decode cL_law 4 = .ok (.invokespecial 9, 3) := by decide +kernel
theorem dL_law_7 : decode cL_law 7 = .ok (.astore_n 1, 1) := by decide +kernel
theorem dL_law_8 : decode cL_law 8 = .ok (.new 10, 3) := by decide +kernel
theorem dL_law_11 : decode cL_law 11 = .ok (.dup, 1) := by decide +kernel
theorem dL_law_12 : decode cL_law 12 = .ok (.invokespecial 12, 3) := by decide +kernel
theorem dL_law_15 : decode cL_law 15 = .ok (.astore_n 2, 1) := by decide +kernel
theorem dL_law_16 : decode cL_law 16 = .ok (.iconst 0, 1) := by decide +kernel
theorem dL_law_17 : decode cL_law 17 = .ok (.istore_n 3, 1) := by decide +kernel
theorem dL_law_18 : decode cL_law 18 = .ok (.iload_n 3, 1) := by decide +kernel
theorem dL_law_19 : decode cL_law 19 = .ok (.aload_n 0, 1) := by decide +kernel
theorem dL_law_20 : decode cL_law 20 = .ok (.arraylength, 1) := by decide +kernel
theorem dL_law_21 : decode cL_law 21 = .ok (.iconst 4, 1) := by decide +kernel
theorem dL_law_22 : decode cL_law 22 = .ok (.isub, 1) := by decide +kernel
theorem dL_law_23 : decode cL_law 23 = .ok (.if_icmp .gt 449, 3) := by decide +kernel
theorem dL_law_26 : decode cL_law 26 = .ok (.aload_n 0, 1) := by decide +kernel
theorem dL_law_27 : decode cL_law 27 = .ok (.iload_n 3, 1) := by decide +kernel
theorem dL_law_28 : decode cL_law 28 = .ok (.iaload, 1) := by decide +kernel
theorem dL_law_29 : decode cL_law 29 = .ok (.bipush 15, 2) := by decide +kernel
theorem dL_law_31 : decode cL_law 31 = .ok (.iand, 1) := by decide +kernel
theorem dL_law_32 : decode cL_law 32 = .ok (.tableswitch 434 0 13 #[72, 105, 168, 191, 224, 247, 270, 293, 316, 329, 352, 365, 398, 411], 72) := by decide +kernel
theorem dL_law_104 : decode cL_law 104 = .ok (.aload_n 1, 1) := by decide +kernel
theorem dL_law_105 : decode cL_law 105 = .ok (.aload_n 0, 1) := by decide +kernel
theorem dL_law_106 : decode cL_law 106 = .ok (.iload_n 3, 1) := by decide +kernel
theorem dL_law_107 : decode cL_law 107 = .ok (.iconst 1, 1) := by decide +kernel
theorem dL_law_108 : decode cL_law 108 = .ok (.iadd, 1) := by decide +kernel
theorem dL_law_109 : decode cL_law 109 = .ok (.iaload, 1) := by decide +kernel
theorem dL_law_110 : decode cL_law 110 = .ok (.aload_n 0, 1) := by decide +kernel
theorem dL_law_111 : decode cL_law 111 = .ok (.iload_n 3, 1) := by decide +kernel
theorem dL_law_112 : decode cL_law 112 = .ok (.iconst 2, 1) := by decide +kernel
theorem dL_law_113 : decode cL_law 113 = .ok (.iadd, 1) := by decide +kernel
theorem dL_law_114 : decode cL_law 114 = .ok (.iaload, 1) := by decide +kernel
theorem dL_law_115 : decode cL_law 115 = .ok (.invokevirtual 13, 3) := by decide +kernel
theorem dL_law_118 : decode cL_law 118 = .ok (.aload_n 2, 1) := by decide +kernel
theorem dL_law_119 : decode cL_law 119 = .ok (.aload_n 0, 1) := by decide +kernel
theorem dL_law_120 : decode cL_law 120 = .ok (.iload_n 3, 1) := by decide +kernel
theorem dL_law_121 : decode cL_law 121 = .ok (.iconst 1, 1) := by decide +kernel
theorem dL_law_122 : decode cL_law 122 = .ok (.iadd, 1) := by decide +kernel
theorem dL_law_123 : decode cL_law 123 = .ok (.iaload, 1) := by decide +kernel
theorem dL_law_124 : decode cL_law 124 = .ok (.aload_n 0, 1) := by decide +kernel
theorem dL_law_125 : decode cL_law 125 = .ok (.iload_n 3, 1) := by decide +kernel
theorem dL_law_126 : decode cL_law 126 = .ok (.iconst 2, 1) := by decide +kernel
theorem dL_law_127 : decode cL_law 127 = .ok (.iadd, 1) := by decide +kernel
theorem dL_law_128 : decode cL_law 128 = .ok (.iaload, 1) := by decide +kernel
theorem dL_law_129 : decode cL_law 129 = .ok (.invokevirtual 17, 3) := by decide +kernel
theorem dL_law_132 : decode cL_law 132 = .ok (.if_icmp .eq 334, 3) := by decide +kernel
theorem dL_law_135 : decode cL_law 135 = .ok (.iconst 0, 1) := by decide +kernel
theorem dL_law_136 : decode cL_law 136 = .ok (.ireturn, 1) := by decide +kernel
theorem dL_law_137 : decode cL_law 137 = .ok (.aload_n 1, 1) := by decide +kernel
theorem dL_law_138 : decode cL_law 138 = .ok (.aload_n 0, 1) := by decide +kernel
theorem dL_law_139 : decode cL_law 139 = .ok (.iload_n 3, 1) := by decide +kernel
theorem dL_law_140 : decode cL_law 140 = .ok (.iconst 1, 1) := by decide +kernel
theorem dL_law_141 : decode cL_law 141 = .ok (.iadd, 1) := by decide +kernel
theorem dL_law_142 : decode cL_law 142 = .ok (.iaload, 1) := by decide +kernel
theorem dL_law_143 : decode cL_law 143 = .ok (.aload_n 0, 1) := by decide +kernel
theorem dL_law_144 : decode cL_law 144 = .ok (.iload_n 3, 1) := by decide +kernel
theorem dL_law_145 : decode cL_law 145 = .ok (.iconst 2, 1) := by decide +kernel
theorem dL_law_146 : decode cL_law 146 = .ok (.iadd, 1) := by decide +kernel
theorem dL_law_147 : decode cL_law 147 = .ok (.iaload, 1) := by decide +kernel
theorem dL_law_148 : decode cL_law 148 = .ok (.i2l, 1) := by decide +kernel
theorem dL_law_149 : decode cL_law 149 = .ok (.bipush 32, 2) := by decide +kernel
theorem dL_law_151 : decode cL_law 151 = .ok (.lshl, 1) := by decide +kernel
theorem dL_law_152 : decode cL_law 152 = .ok (.aload_n 0, 1) := by decide +kernel
theorem dL_law_153 : decode cL_law 153 = .ok (.iload_n 3, 1) := by decide +kernel
theorem dL_law_154 : decode cL_law 154 = .ok (.iconst 3, 1) := by decide +kernel
theorem dL_law_155 : decode cL_law 155 = .ok (.iadd, 1) := by decide +kernel
theorem dL_law_156 : decode cL_law 156 = .ok (.iaload, 1) := by decide +kernel
theorem dL_law_157 : decode cL_law 157 = .ok (.i2l, 1) := by decide +kernel
theorem dL_law_158 : decode cL_law 158 = .ok (.ldc2_w 18, 3) := by decide +kernel
theorem dL_law_161 : decode cL_law 161 = .ok (.land, 1) := by decide +kernel
theorem dL_law_162 : decode cL_law 162 = .ok (.lor, 1) := by decide +kernel
theorem dL_law_163 : decode cL_law 163 = .ok (.invokevirtual 20, 3) := by decide +kernel
theorem dL_law_166 : decode cL_law 166 = .ok (.aload_n 2, 1) := by decide +kernel
theorem dL_law_167 : decode cL_law 167 = .ok (.aload_n 0, 1) := by decide +kernel
theorem dL_law_168 : decode cL_law 168 = .ok (.iload_n 3, 1) := by decide +kernel
theorem dL_law_169 : decode cL_law 169 = .ok (.iconst 1, 1) := by decide +kernel
theorem dL_law_170 : decode cL_law 170 = .ok (.iadd, 1) := by decide +kernel
theorem dL_law_171 : decode cL_law 171 = .ok (.iaload, 1) := by decide +kernel
theorem dL_law_172 : decode cL_law 172 = .ok (.aload_n 0, 1) := by decide +kernel
theorem dL_law_173 : decode cL_law 173 = .ok (.iload_n 3, 1) := by decide +kernel
theorem dL_law_174 : decode cL_law 174 = .ok (.iconst 2, 1) := by decide +kernel
theorem dL_law_175 : decode cL_law 175 = .ok (.iadd, 1) := by decide +kernel
theorem dL_law_176 : decode cL_law 176 = .ok (.iaload, 1) := by decide +kernel
theorem dL_law_177 : decode cL_law 177 = .ok (.i2l, 1) := by decide +kernel
theorem dL_law_178 : decode cL_law 178 = .ok (.bipush 32, 2) := by decide +kernel
theorem dL_law_180 : decode cL_law 180 = .ok (.lshl, 1) := by decide +kernel
theorem dL_law_181 : decode cL_law 181 = .ok (.aload_n 0, 1) := by decide +kernel
theorem dL_law_182 : decode cL_law 182 = .ok (.iload_n 3, 1) := by decide +kernel
theorem dL_law_183 : decode cL_law 183 = .ok (.iconst 3, 1) := by decide +kernel
theorem dL_law_184 : decode cL_law 184 = .ok (.iadd, 1) := by decide +kernel
theorem dL_law_185 : decode cL_law 185 = .ok (.iaload, 1) := by decide +kernel
theorem dL_law_186 : decode cL_law 186 = .ok (.i2l, 1) := by decide +kernel
theorem dL_law_187 : decode cL_law 187 = .ok (.ldc2_w 18, 3) := by decide +kernel
theorem dL_law_190 : decode cL_law 190 = .ok (.land, 1) := by decide +kernel
theorem dL_law_191 : decode cL_law 191 = .ok (.lor, 1) := by decide +kernel
theorem dL_law_192 : decode cL_law 192 = .ok (.invokevirtual 24, 3) := by decide +kernel
theorem dL_law_195 : decode cL_law 195 = .ok (.if_icmp .eq 271, 3) := by decide +kernel
theorem dL_law_198 : decode cL_law 198 = .ok (.iconst 0, 1) := by decide +kernel
theorem dL_law_199 : decode cL_law 199 = .ok (.ireturn, 1) := by decide +kernel
theorem dL_law_200 : decode cL_law 200 = .ok (.aload_n 1, 1) := by decide +kernel
theorem dL_law_201 : decode cL_law 201 = .ok (.aload_n 0, 1) := by decide +kernel
theorem dL_law_202 : decode cL_law 202 = .ok (.iload_n 3, 1) := by decide +kernel
theorem dL_law_203 : decode cL_law 203 = .ok (.iconst 1, 1) := by decide +kernel
theorem dL_law_204 : decode cL_law 204 = .ok (.iadd, 1) := by decide +kernel
theorem dL_law_205 : decode cL_law 205 = .ok (.iaload, 1) := by decide +kernel
theorem dL_law_206 : decode cL_law 206 = .ok (.invokevirtual 25, 3) := by decide +kernel
theorem dL_law_209 : decode cL_law 209 = .ok (.aload_n 2, 1) := by decide +kernel
theorem dL_law_210 : decode cL_law 210 = .ok (.aload_n 0, 1) := by decide +kernel
theorem dL_law_211 : decode cL_law 211 = .ok (.iload_n 3, 1) := by decide +kernel
theorem dL_law_212 : decode cL_law 212 = .ok (.iconst 1, 1) := by decide +kernel
theorem dL_law_213 : decode cL_law 213 = .ok (.iadd, 1) := by decide +kernel
theorem dL_law_214 : decode cL_law 214 = .ok (.iaload, 1) := by decide +kernel
theorem dL_law_215 : decode cL_law 215 = .ok (.invokevirtual 29, 3) := by decide +kernel
theorem dL_law_218 : decode cL_law 218 = .ok (.if_icmp .eq 248, 3) := by decide +kernel
theorem dL_law_221 : decode cL_law 221 = .ok (.iconst 0, 1) := by decide +kernel
theorem dL_law_222 : decode cL_law 222 = .ok (.ireturn, 1) := by decide +kernel
theorem dL_law_223 : decode cL_law 223 = .ok (.aload_n 1, 1) := by decide +kernel
theorem dL_law_224 : decode cL_law 224 = .ok (.aload_n 0, 1) := by decide +kernel
theorem dL_law_225 : decode cL_law 225 = .ok (.iload_n 3, 1) := by decide +kernel
theorem dL_law_226 : decode cL_law 226 = .ok (.iconst 1, 1) := by decide +kernel
theorem dL_law_227 : decode cL_law 227 = .ok (.iadd, 1) := by decide +kernel
theorem dL_law_228 : decode cL_law 228 = .ok (.iaload, 1) := by decide +kernel
theorem dL_law_229 : decode cL_law 229 = .ok (.aload_n 0, 1) := by decide +kernel
theorem dL_law_230 : decode cL_law 230 = .ok (.iload_n 3, 1) := by decide +kernel
theorem dL_law_231 : decode cL_law 231 = .ok (.iconst 2, 1) := by decide +kernel
theorem dL_law_232 : decode cL_law 232 = .ok (.iadd, 1) := by decide +kernel
theorem dL_law_233 : decode cL_law 233 = .ok (.iaload, 1) := by decide +kernel
theorem dL_law_234 : decode cL_law 234 = .ok (.invokevirtual 30, 3) := by decide +kernel
theorem dL_law_237 : decode cL_law 237 = .ok (.aload_n 2, 1) := by decide +kernel
theorem dL_law_238 : decode cL_law 238 = .ok (.aload_n 0, 1) := by decide +kernel
theorem dL_law_239 : decode cL_law 239 = .ok (.iload_n 3, 1) := by decide +kernel
theorem dL_law_240 : decode cL_law 240 = .ok (.iconst 1, 1) := by decide +kernel
theorem dL_law_241 : decode cL_law 241 = .ok (.iadd, 1) := by decide +kernel
theorem dL_law_242 : decode cL_law 242 = .ok (.iaload, 1) := by decide +kernel
theorem dL_law_243 : decode cL_law 243 = .ok (.aload_n 0, 1) := by decide +kernel
theorem dL_law_244 : decode cL_law 244 = .ok (.iload_n 3, 1) := by decide +kernel
theorem dL_law_245 : decode cL_law 245 = .ok (.iconst 2, 1) := by decide +kernel
theorem dL_law_246 : decode cL_law 246 = .ok (.iadd, 1) := by decide +kernel
theorem dL_law_247 : decode cL_law 247 = .ok (.iaload, 1) := by decide +kernel
theorem dL_law_248 : decode cL_law 248 = .ok (.invokevirtual 33, 3) := by decide +kernel
theorem dL_law_251 : decode cL_law 251 = .ok (.if_icmp .eq 215, 3) := by decide +kernel
theorem dL_law_254 : decode cL_law 254 = .ok (.iconst 0, 1) := by decide +kernel
theorem dL_law_255 : decode cL_law 255 = .ok (.ireturn, 1) := by decide +kernel
theorem dL_law_256 : decode cL_law 256 = .ok (.aload_n 1, 1) := by decide +kernel
theorem dL_law_257 : decode cL_law 257 = .ok (.aload_n 0, 1) := by decide +kernel
theorem dL_law_258 : decode cL_law 258 = .ok (.iload_n 3, 1) := by decide +kernel
theorem dL_law_259 : decode cL_law 259 = .ok (.iconst 1, 1) := by decide +kernel
theorem dL_law_260 : decode cL_law 260 = .ok (.iadd, 1) := by decide +kernel
theorem dL_law_261 : decode cL_law 261 = .ok (.iaload, 1) := by decide +kernel
theorem dL_law_262 : decode cL_law 262 = .ok (.invokevirtual 34, 3) := by decide +kernel
theorem dL_law_265 : decode cL_law 265 = .ok (.aload_n 2, 1) := by decide +kernel
theorem dL_law_266 : decode cL_law 266 = .ok (.aload_n 0, 1) := by decide +kernel
theorem dL_law_267 : decode cL_law 267 = .ok (.iload_n 3, 1) := by decide +kernel
theorem dL_law_268 : decode cL_law 268 = .ok (.iconst 1, 1) := by decide +kernel
theorem dL_law_269 : decode cL_law 269 = .ok (.iadd, 1) := by decide +kernel
theorem dL_law_270 : decode cL_law 270 = .ok (.iaload, 1) := by decide +kernel
theorem dL_law_271 : decode cL_law 271 = .ok (.invokevirtual 37, 3) := by decide +kernel
theorem dL_law_274 : decode cL_law 274 = .ok (.if_icmp .eq 192, 3) := by decide +kernel
theorem dL_law_277 : decode cL_law 277 = .ok (.iconst 0, 1) := by decide +kernel
theorem dL_law_278 : decode cL_law 278 = .ok (.ireturn, 1) := by decide +kernel
theorem dL_law_279 : decode cL_law 279 = .ok (.aload_n 1, 1) := by decide +kernel
theorem dL_law_280 : decode cL_law 280 = .ok (.aload_n 0, 1) := by decide +kernel
theorem dL_law_281 : decode cL_law 281 = .ok (.iload_n 3, 1) := by decide +kernel
theorem dL_law_282 : decode cL_law 282 = .ok (.iconst 1, 1) := by decide +kernel
theorem dL_law_283 : decode cL_law 283 = .ok (.iadd, 1) := by decide +kernel
theorem dL_law_284 : decode cL_law 284 = .ok (.iaload, 1) := by decide +kernel
theorem dL_law_285 : decode cL_law 285 = .ok (.invokevirtual 38, 3) := by decide +kernel
theorem dL_law_288 : decode cL_law 288 = .ok (.aload_n 2, 1) := by decide +kernel
theorem dL_law_289 : decode cL_law 289 = .ok (.aload_n 0, 1) := by decide +kernel
theorem dL_law_290 : decode cL_law 290 = .ok (.iload_n 3, 1) := by decide +kernel
theorem dL_law_291 : decode cL_law 291 = .ok (.iconst 1, 1) := by decide +kernel
theorem dL_law_292 : decode cL_law 292 = .ok (.iadd, 1) := by decide +kernel
theorem dL_law_293 : decode cL_law 293 = .ok (.iaload, 1) := by decide +kernel
theorem dL_law_294 : decode cL_law 294 = .ok (.invokevirtual 41, 3) := by decide +kernel
theorem dL_law_297 : decode cL_law 297 = .ok (.if_icmp .eq 169, 3) := by decide +kernel
theorem dL_law_300 : decode cL_law 300 = .ok (.iconst 0, 1) := by decide +kernel
theorem dL_law_301 : decode cL_law 301 = .ok (.ireturn, 1) := by decide +kernel
theorem dL_law_302 : decode cL_law 302 = .ok (.aload_n 1, 1) := by decide +kernel
theorem dL_law_303 : decode cL_law 303 = .ok (.aload_n 0, 1) := by decide +kernel
theorem dL_law_304 : decode cL_law 304 = .ok (.iload_n 3, 1) := by decide +kernel
theorem dL_law_305 : decode cL_law 305 = .ok (.iconst 1, 1) := by decide +kernel
theorem dL_law_306 : decode cL_law 306 = .ok (.iadd, 1) := by decide +kernel
theorem dL_law_307 : decode cL_law 307 = .ok (.iaload, 1) := by decide +kernel
theorem dL_law_308 : decode cL_law 308 = .ok (.invokevirtual 42, 3) := by decide +kernel
theorem dL_law_311 : decode cL_law 311 = .ok (.aload_n 2, 1) := by decide +kernel
theorem dL_law_312 : decode cL_law 312 = .ok (.aload_n 0, 1) := by decide +kernel
theorem dL_law_313 : decode cL_law 313 = .ok (.iload_n 3, 1) := by decide +kernel
theorem dL_law_314 : decode cL_law 314 = .ok (.iconst 1, 1) := by decide +kernel
theorem dL_law_315 : decode cL_law 315 = .ok (.iadd, 1) := by decide +kernel
theorem dL_law_316 : decode cL_law 316 = .ok (.iaload, 1) := by decide +kernel
theorem dL_law_317 : decode cL_law 317 = .ok (.invokevirtual 45, 3) := by decide +kernel
theorem dL_law_320 : decode cL_law 320 = .ok (.if_icmp .eq 146, 3) := by decide +kernel
theorem dL_law_323 : decode cL_law 323 = .ok (.iconst 0, 1) := by decide +kernel
theorem dL_law_324 : decode cL_law 324 = .ok (.ireturn, 1) := by decide +kernel
theorem dL_law_325 : decode cL_law 325 = .ok (.aload_n 1, 1) := by decide +kernel
theorem dL_law_326 : decode cL_law 326 = .ok (.aload_n 0, 1) := by decide +kernel
theorem dL_law_327 : decode cL_law 327 = .ok (.iload_n 3, 1) := by decide +kernel
theorem dL_law_328 : decode cL_law 328 = .ok (.iconst 1, 1) := by decide +kernel
theorem dL_law_329 : decode cL_law 329 = .ok (.iadd, 1) := by decide +kernel
theorem dL_law_330 : decode cL_law 330 = .ok (.iaload, 1) := by decide +kernel
theorem dL_law_331 : decode cL_law 331 = .ok (.invokevirtual 46, 3) := by decide +kernel
theorem dL_law_334 : decode cL_law 334 = .ok (.aload_n 2, 1) := by decide +kernel
theorem dL_law_335 : decode cL_law 335 = .ok (.aload_n 0, 1) := by decide +kernel
theorem dL_law_336 : decode cL_law 336 = .ok (.iload_n 3, 1) := by decide +kernel
theorem dL_law_337 : decode cL_law 337 = .ok (.iconst 1, 1) := by decide +kernel
theorem dL_law_338 : decode cL_law 338 = .ok (.iadd, 1) := by decide +kernel
theorem dL_law_339 : decode cL_law 339 = .ok (.iaload, 1) := by decide +kernel
theorem dL_law_340 : decode cL_law 340 = .ok (.invokevirtual 49, 3) := by decide +kernel
theorem dL_law_343 : decode cL_law 343 = .ok (.if_icmp .eq 123, 3) := by decide +kernel
theorem dL_law_346 : decode cL_law 346 = .ok (.iconst 0, 1) := by decide +kernel
theorem dL_law_347 : decode cL_law 347 = .ok (.ireturn, 1) := by decide +kernel
theorem dL_law_348 : decode cL_law 348 = .ok (.aload_n 1, 1) := by decide +kernel
theorem dL_law_349 : decode cL_law 349 = .ok (.invokevirtual 50, 3) := by decide +kernel
theorem dL_law_352 : decode cL_law 352 = .ok (.aload_n 2, 1) := by decide +kernel
theorem dL_law_353 : decode cL_law 353 = .ok (.invokevirtual 54, 3) := by decide +kernel
theorem dL_law_356 : decode cL_law 356 = .ok (.if_icmp .eq 110, 3) := by decide +kernel
theorem dL_law_359 : decode cL_law 359 = .ok (.iconst 0, 1) := by decide +kernel
theorem dL_law_360 : decode cL_law 360 = .ok (.ireturn, 1) := by decide +kernel
theorem dL_law_361 : decode cL_law 361 = .ok (.aload_n 1, 1) := by decide +kernel
theorem dL_law_362 : decode cL_law 362 = .ok (.aload_n 0, 1) := by decide +kernel
theorem dL_law_363 : decode cL_law 363 = .ok (.iload_n 3, 1) := by decide +kernel
theorem dL_law_364 : decode cL_law 364 = .ok (.iconst 1, 1) := by decide +kernel
theorem dL_law_365 : decode cL_law 365 = .ok (.iadd, 1) := by decide +kernel
theorem dL_law_366 : decode cL_law 366 = .ok (.iaload, 1) := by decide +kernel
theorem dL_law_367 : decode cL_law 367 = .ok (.invokevirtual 55, 3) := by decide +kernel
theorem dL_law_370 : decode cL_law 370 = .ok (.aload_n 2, 1) := by decide +kernel
theorem dL_law_371 : decode cL_law 371 = .ok (.aload_n 0, 1) := by decide +kernel
theorem dL_law_372 : decode cL_law 372 = .ok (.iload_n 3, 1) := by decide +kernel
theorem dL_law_373 : decode cL_law 373 = .ok (.iconst 1, 1) := by decide +kernel
theorem dL_law_374 : decode cL_law 374 = .ok (.iadd, 1) := by decide +kernel
theorem dL_law_375 : decode cL_law 375 = .ok (.iaload, 1) := by decide +kernel
theorem dL_law_376 : decode cL_law 376 = .ok (.invokevirtual 58, 3) := by decide +kernel
theorem dL_law_379 : decode cL_law 379 = .ok (.if_icmp .eq 87, 3) := by decide +kernel
theorem dL_law_382 : decode cL_law 382 = .ok (.iconst 0, 1) := by decide +kernel
theorem dL_law_383 : decode cL_law 383 = .ok (.ireturn, 1) := by decide +kernel
theorem dL_law_384 : decode cL_law 384 = .ok (.aload_n 1, 1) := by decide +kernel
theorem dL_law_385 : decode cL_law 385 = .ok (.invokevirtual 59, 3) := by decide +kernel
theorem dL_law_388 : decode cL_law 388 = .ok (.aload_n 2, 1) := by decide +kernel
theorem dL_law_389 : decode cL_law 389 = .ok (.invokevirtual 62, 3) := by decide +kernel
theorem dL_law_392 : decode cL_law 392 = .ok (.if_icmp .eq 74, 3) := by decide +kernel
theorem dL_law_395 : decode cL_law 395 = .ok (.iconst 0, 1) := by decide +kernel
theorem dL_law_396 : decode cL_law 396 = .ok (.ireturn, 1) := by decide +kernel
theorem dL_law_397 : decode cL_law 397 = .ok (.aload_n 1, 1) := by decide +kernel
theorem dL_law_398 : decode cL_law 398 = .ok (.aload_n 0, 1) := by decide +kernel
theorem dL_law_399 : decode cL_law 399 = .ok (.iload_n 3, 1) := by decide +kernel
theorem dL_law_400 : decode cL_law 400 = .ok (.iconst 1, 1) := by decide +kernel
theorem dL_law_401 : decode cL_law 401 = .ok (.iadd, 1) := by decide +kernel
theorem dL_law_402 : decode cL_law 402 = .ok (.iaload, 1) := by decide +kernel
theorem dL_law_403 : decode cL_law 403 = .ok (.aload_n 0, 1) := by decide +kernel
theorem dL_law_404 : decode cL_law 404 = .ok (.iload_n 3, 1) := by decide +kernel
theorem dL_law_405 : decode cL_law 405 = .ok (.iconst 2, 1) := by decide +kernel
theorem dL_law_406 : decode cL_law 406 = .ok (.iadd, 1) := by decide +kernel
theorem dL_law_407 : decode cL_law 407 = .ok (.iaload, 1) := by decide +kernel
theorem dL_law_408 : decode cL_law 408 = .ok (.invokevirtual 63, 3) := by decide +kernel
theorem dL_law_411 : decode cL_law 411 = .ok (.aload_n 2, 1) := by decide +kernel
theorem dL_law_412 : decode cL_law 412 = .ok (.aload_n 0, 1) := by decide +kernel
theorem dL_law_413 : decode cL_law 413 = .ok (.iload_n 3, 1) := by decide +kernel
theorem dL_law_414 : decode cL_law 414 = .ok (.iconst 1, 1) := by decide +kernel
theorem dL_law_415 : decode cL_law 415 = .ok (.iadd, 1) := by decide +kernel
theorem dL_law_416 : decode cL_law 416 = .ok (.iaload, 1) := by decide +kernel
theorem dL_law_417 : decode cL_law 417 = .ok (.aload_n 0, 1) := by decide +kernel
theorem dL_law_418 : decode cL_law 418 = .ok (.iload_n 3, 1) := by decide +kernel
theorem dL_law_419 : decode cL_law 419 = .ok (.iconst 2, 1) := by decide +kernel
theorem dL_law_420 : decode cL_law 420 = .ok (.iadd, 1) := by decide +kernel
theorem dL_law_421 : decode cL_law 421 = .ok (.iaload, 1) := by decide +kernel
theorem dL_law_422 : decode cL_law 422 = .ok (.invokevirtual 66, 3) := by decide +kernel
theorem dL_law_425 : decode cL_law 425 = .ok (.if_icmp .eq 41, 3) := by decide +kernel
theorem dL_law_428 : decode cL_law 428 = .ok (.iconst 0, 1) := by decide +kernel
theorem dL_law_429 : decode cL_law 429 = .ok (.ireturn, 1) := by decide +kernel
theorem dL_law_430 : decode cL_law 430 = .ok (.aload_n 1, 1) := by decide +kernel
theorem dL_law_431 : decode cL_law 431 = .ok (.invokevirtual 67, 3) := by decide +kernel
theorem dL_law_434 : decode cL_law 434 = .ok (.aload_n 2, 1) := by decide +kernel
theorem dL_law_435 : decode cL_law 435 = .ok (.invokevirtual 70, 3) := by decide +kernel
theorem dL_law_438 : decode cL_law 438 = .ok (.if_icmp .eq 28, 3) := by decide +kernel
theorem dL_law_441 : decode cL_law 441 = .ok (.iconst 0, 1) := by decide +kernel
theorem dL_law_442 : decode cL_law 442 = .ok (.ireturn, 1) := by decide +kernel
theorem dL_law_443 : decode cL_law 443 = .ok (.aload_n 1, 1) := by decide +kernel
theorem dL_law_444 : decode cL_law 444 = .ok (.aload_n 0, 1) := by decide +kernel
theorem dL_law_445 : decode cL_law 445 = .ok (.iload_n 3, 1) := by decide +kernel
theorem dL_law_446 : decode cL_law 446 = .ok (.iconst 1, 1) := by decide +kernel
theorem dL_law_447 : decode cL_law 447 = .ok (.iadd, 1) := by decide +kernel
theorem dL_law_448 : decode cL_law 448 = .ok (.iaload, 1) := by decide +kernel
theorem dL_law_449 : decode cL_law 449 = .ok (.invokevirtual 71, 3) := by decide +kernel
theorem dL_law_452 : decode cL_law 452 = .ok (.aload_n 2, 1) := by decide +kernel
theorem dL_law_453 : decode cL_law 453 = .ok (.aload_n 0, 1) := by decide +kernel
theorem dL_law_454 : decode cL_law 454 = .ok (.iload_n 3, 1) := by decide +kernel
theorem dL_law_455 : decode cL_law 455 = .ok (.iconst 1, 1) := by decide +kernel
theorem dL_law_456 : decode cL_law 456 = .ok (.iadd, 1) := by decide +kernel
theorem dL_law_457 : decode cL_law 457 = .ok (.iaload, 1) := by decide +kernel
theorem dL_law_458 : decode cL_law 458 = .ok (.invokevirtual 74, 3) := by decide +kernel
theorem dL_law_461 : decode cL_law 461 = .ok (.if_icmp .eq 5, 3) := by decide +kernel
theorem dL_law_464 : decode cL_law 464 = .ok (.iconst 0, 1) := by decide +kernel
theorem dL_law_465 : decode cL_law 465 = .ok (.ireturn, 1) := by decide +kernel
theorem dL_law_466 : decode cL_law 466 = .ok (.iinc 3 4, 3) := by decide +kernel
theorem dL_law_469 : decode cL_law 469 = .ok (.goto (-451), 3) := by decide +kernel
theorem dL_law_472 : decode cL_law 472 = .ok (.iconst 1, 1) := by decide +kernel
theorem dL_law_473 : decode cL_law 473 = .ok (.ireturn, 1) := by decide +kernel
abbrev vwCl : List vw_C := [(RX0, TX0, 1), (RX2, TX2, 1), (RX4, TX4, 8), (RX5, TX5, 8)]
end
section
/-! the layer: one state for the class and for the reference, one judgement for a walk, one form for a contract -/
abbrev ST : Type := (Nat → Int32) × (Nat → Int32) × (Nat → Int32) × Int32 × Int32 × Int32 × Int32 × Int32
def gC (u : ST) : Nat → Int32 := u.1
def gD (u : ST) : Nat → Int32 := u.2.1
def gN (u : ST) : Nat → Int32 := u.2.2.1
def gPc (u : ST) : Int32 := u.2.2.2.1
def gAs (u : ST) : Int32 := u.2.2.2.2.1
def gEn (u : ST) : Int32 := u.2.2.2.2.2.1
def gWa (u : ST) : Int32 := u.2.2.2.2.2.2.1
def gNx (u : ST) : Int32 := u.2.2.2.2.2.2.2
def sC (u : ST) (f : Nat → Int32) : ST := (f, gD u, gN u, gPc u, gAs u, gEn u, gWa u, gNx u)
def sD (u : ST) (f : Nat → Int32) : ST := (gC u, f, gN u, gPc u, gAs u, gEn u, gWa u, gNx u)
def sN (u : ST) (f : Nat → Int32) : ST := (gC u, gD u, f, gPc u, gAs u, gEn u, gWa u, gNx u)
def sPc (u : ST) (v : Int32) : ST := (gC u, gD u, gN u, v, gAs u, gEn u, gWa u, gNx u)
def sAs (u : ST) (v : Int32) : ST := (gC u, gD u, gN u, gPc u, v, gEn u, gWa u, gNx u)
def sEn (u : ST) (v : Int32) : ST := (gC u, gD u, gN u, gPc u, gAs u, v, gWa u, gNx u)
def sWa (u : ST) (v : Int32) : ST := (gC u, gD u, gN u, gPc u, gAs u, gEn u, v, gNx u)
def sNx (u : ST) (v : Int32) : ST := (gC u, gD u, gN u, gPc u, gAs u, gEn u, gWa u, v)
/-- places of the three rows -/
def rC (u : ST) (i : Int32) : Int32 := gC u i.toNatClampNeg
def rD (u : ST) (i : Int32) : Int32 := gD u i.toNatClampNeg
def rN (u : ST) (i : Int32) : Int32 := gN u i.toNatClampNeg
def wC (u : ST) (i x : Int32) : ST := sC u (upd (gC u) i.toNatClampNeg x)
def wD (u : ST) (i x : Int32) : ST := sD u (upd (gD u) i.toNatClampNeg x)
def wN (u : ST) (i x : Int32) : ST := sN u (upd (gN u) i.toNatClampNeg x)
/-- int shifts, as the machine does them -/
def jshl (x y : Int32) : Int32 := x <<< (y &&& 31)
def jshr (x y : Int32) : Int32 := x >>> (y &&& 31)
def jushr (x y : Int32) : Int32 := (x.toUInt32 >>> (y.toUInt32 &&& Int32.toUInt32 31)).toInt32
/-- an environment: class numbers, array classes, what may be written, the world of a state -/
abbrev EV : Type := va_G × List (ClassId × FieldType) × (Nat → Prop) × (ST → va_W)
def okE (E : EV) : Prop := ∀ u, va_D E.2.2.1 (E.2.2.2 u)
def Qx (E : EV) (u' : ST) (ov : Option Value) : Array Value → State → Outcome → State → Prop := fun _ st oc t => oc = .returned ov ∧ va_P E.1 vwCl (E.2.2.2 u') t.heap ∧ va_F E.2.2.1 st t
def Px (E : EV) (u : ST) (av : List Value) : Array Value → State → Prop := fun v U => v = av.toArray ∧ va_P E.1 vwCl (E.2.2.2 u) U.heap ∧ va_K E.1 vwCl E.2.1 U
/-- a contract: from the state u with the arguments av, the method answers r and leaves u' -/
def MX (E : EV) (y : MethodName) (ws : List Cond) (rm : Room) (av : List Value) (u : ST) (T : ST × Option Value) : Prop :=
  ∀ l : Launch, Met l y ws rm (Px E u av) (Qx E T.1 T.2) 0 0 E.2.2.1
abbrev KT : Type := Program × Launch × Env × Room × State × MethodId × Array Value × List Frame × Method × Code
def G (K : KT) (E : EV) (nL : Nat) (T : ST × Option Value) (u : ST) (pc : Nat) (lv : List (Nat × Value)) (st : List Value) : Prop :=
  match K with
  | (p, l, e, R, s, m, args, below, meth, c) => ∀ (H : Heap) (locs : List Loc) (ls : Array Slot), va_P E.1 vwCl (E.2.2.2 u) H → va_S E.2.2.1 s.heap H locs → lv_has ls nL lv →
      W p l e R s m args below meth c H locs 0 0 (MQ below (Qx E T.1 T.2) args s 0 0 E.2.2.1) (F0 m pc ls st)
def Cx (K : KT) (E : EV) (cc : ByteArray) (nL : Nat) (own : String) (Ts : List Cond) (rm : Room) (ret : Option FieldType) : Prop :=
  match K with
  | (p, _, _, R, s, m, args, _, meth, c) => CallFix p m c cc nL s args Ts own ∧ R = rm ∧ meth.sig.returnType = ret ∧ va_K E.1 vwCl E.2.1 s ∧ okE E ∧ meth.locks = false
/-- the three kinds of end: an answer alone, a new state and an answer, a new state -/
abbrev tR (u : ST) (x : Int32) : ST × Option Value := (u, some (.int x))
abbrev tW (q : ST × Int32) : ST × Option Value := (q.1, some (.int q.2))
abbrev tS (u : ST) : ST × Option Value := (u, none)
theorem MX.of {E : EV} {y : MethodName} {ws ws' : List Cond} {rm : Room} {av : List Value} {u : ST} {T : ST × Option Value} {cc : ByteArray} {maxL : Nat} {ret : Option FieldType} {lv : List (Nat × Value)} (hE : okE E) (hy : plainName y.cls = true) (hw : ws = Cond.code y cc maxL ret :: ws') (hrm : ∀ w, (headSpec w rm).room = rm) (hlen : (lg_sl av).length ≤ maxL) (hlv : lv_args 0 av = lv)
    (h : ∀ K : KT, Cx K E cc maxL y.cls ws rm ret → G K E maxL T u 0 lv []) : MX E y ws rm av u T := by
  intro l
  refine Met.ofW (cc := cc) (maxL := maxL) (ret := ret) hy hw ?_
  intro p e s m args below meth c s₁ B hml hv
  obtain ⟨rfl, hP, hK⟩ := hv
  have h1 := h (p, l, e, (headSpec ws rm).room, s, m, av.toArray, below, meth, c) ⟨⟨B.exec, B.bytes, hml, findClass_of_methodNamed B.named, atoms_spec (ws := ws) B.pre⟩, hrm _, B.returns, hK, hE, B.notSynchronized⟩
  rw [lg_entry_eq]
  exact h1 s.heap [] _ hP va_S.rf (hlv ▸ lv_entry av hlen)
section GR
variable {K : KT} {E : EV} {cc : ByteArray} {nL : Nat} {own : String} {Ts : List Cond} {rm : Room} {ret : Option FieldType} {T : ST × Option Value} {u : ST} {lv : List (Nat × Value)} {rest : List Value}
theorem g_iconst (pc : Nat) (hC : Cx K E cc nL own Ts rm ret) {n : Int} (v : Int32) (hdg : decode cc pc = .ok (.iconst n, 1)) (hv : Int32.ofInt n = v) (k : G K E nL T u (pc + 1) lv (.int v :: rest)) : G K E nL T u pc lv rest := by
  obtain ⟨p, l, e, R, s, m, args, below, meth, c⟩ := K
  obtain ⟨⟨hx, hb, hml, hown, hts⟩, hR, hr, hK, hE, hlk⟩ := hC
  exact fun H locs ls hP hS hl => lv_iconst hx hb hdg hv (k H locs ls hP hS hl)
theorem g_bipush (pc : Nat) (hC : Cx K E cc nL own Ts rm ret) {n : Int} (v : Int32) (hdg : decode cc pc = .ok (.bipush n, 2)) (hv : (Int8.ofInt n).toInt32 = v) (k : G K E nL T u (pc + 2) lv (.int v :: rest)) : G K E nL T u pc lv rest := by
  obtain ⟨p, l, e, R, s, m, args, below, meth, c⟩ := K
  obtain ⟨⟨hx, hb, hml, hown, hts⟩, hR, hr, hK, hE, hlk⟩ := hC
  exact fun H locs ls hP hS hl => lv_bipush hx hb hdg hv (k H locs ls hP hS hl)
theorem g_sipush (pc : Nat) (hC : Cx K E cc nL own Ts rm ret) {n : Int} (v : Int32) (hdg : decode cc pc = .ok (.sipush n, 3)) (hv : (Int16.ofInt n).toInt32 = v) (k : G K E nL T u (pc + 3) lv (.int v :: rest)) : G K E nL T u pc lv rest := by
  obtain ⟨p, l, e, R, s, m, args, below, meth, c⟩ := K
  obtain ⟨⟨hx, hb, hml, hown, hts⟩, hR, hr, hK, hE, hlk⟩ := hC
  exact fun H locs ls hP hS hl => lv_sipush hx hb hdg hv (k H locs ls hP hS hl)
theorem g_ldc (pc : Nat) (hC : Cx K E cc nL own Ts rm ret) {idx : Nat} (v : Int32) (hdg : decode cc pc = .ok (.ldc idx, 2)) (hm : Jvm.Cond.constant own idx v ∈ Ts) (k : G K E nL T u (pc + 2) lv (.int v :: rest)) : G K E nL T u pc lv rest := by
  obtain ⟨p, l, e, R, s, m, args, below, meth, c⟩ := K
  obtain ⟨⟨hx, hb, hml, hown, hts⟩, hR, hr, hK, hE, hlk⟩ := hC
  exact fun H locs ls hP hS hl => lv_ldc hx hb hown (hts _ hm) hdg (k H locs ls hP hS hl)
theorem g_iload_n (pc : Nat) (hC : Cx K E cc nL own Ts rm ret) {q : Fin 4} {x : Int32} (hdg : decode cc pc = .ok (.iload_n q, 1)) (j : Nat) (hk : lv[j]? = some ((q : Nat), .int x)) (k : G K E nL T u (pc + 1) lv (.int x :: rest)) : G K E nL T u pc lv rest := by
  obtain ⟨p, l, e, R, s, m, args, below, meth, c⟩ := K
  obtain ⟨⟨hx, hb, hml, hown, hts⟩, hR, hr, hK, hE, hlk⟩ := hC
  exact fun H locs ls hP hS hl => lv_iload_n hx hb hdg rfl (lv_at hl j hk) (k H locs ls hP hS hl)
theorem g_iload (pc : Nat) (hC : Cx K E cc nL own Ts rm ret) {q : Nat} {x : Int32} (hdg : decode cc pc = .ok (.iload q, 2)) (j : Nat) (hk : lv[j]? = some (q, .int x)) (k : G K E nL T u (pc + 2) lv (.int x :: rest)) : G K E nL T u pc lv rest := by
  obtain ⟨p, l, e, R, s, m, args, below, meth, c⟩ := K
  obtain ⟨⟨hx, hb, hml, hown, hts⟩, hR, hr, hK, hE, hlk⟩ := hC
  exact fun H locs ls hP hS hl => lv_iload hx hb hdg (lv_at hl j hk) (k H locs ls hP hS hl)
theorem g_aload_n (pc : Nat) (hC : Cx K E cc nL own Ts rm ret) {q : Fin 4} {x : Nat} (hdg : decode cc pc = .ok (.aload_n q, 1)) (j : Nat) (hk : lv[j]? = some ((q : Nat), .ref x)) (k : G K E nL T u (pc + 1) lv (.ref x :: rest)) : G K E nL T u pc lv rest := by
  obtain ⟨p, l, e, R, s, m, args, below, meth, c⟩ := K
  obtain ⟨⟨hx, hb, hml, hown, hts⟩, hR, hr, hK, hE, hlk⟩ := hC
  exact fun H locs ls hP hS hl => lv_aload_n hx hb hdg rfl (lv_at hl j hk) (k H locs ls hP hS hl)
theorem g_istore_n (pc : Nat) (hC : Cx K E cc nL own Ts rm ret) {q : Fin 4} {x : Int32} (hdg : decode cc pc = .ok (.istore_n q, 1)) (hn : (q : Nat) < nL) (lv' : List (Nat × Value)) (hl' : ((q : Nat), Value.int x) :: lv.filter (fun z => !(z.1 == (q : Nat)) && !(z.1 + 1 == (q : Nat) && z.2.category == 2)) = lv') (k : G K E nL T u (pc + 1) lv' rest) : G K E nL T u pc lv (.int x :: rest) := by
  obtain ⟨p, l, e, R, s, m, args, below, meth, c⟩ := K
  obtain ⟨⟨hx, hb, hml, hown, hts⟩, hR, hr, hK, hE, hlk⟩ := hC
  exact fun H locs ls hP hS hl => lv_istore_n hx hb hdg rfl hl hn hl' (fun ls hl => k H locs ls hP hS hl)
theorem g_istore (pc : Nat) (hC : Cx K E cc nL own Ts rm ret) {q : Nat} {x : Int32} (hdg : decode cc pc = .ok (.istore q, 2)) (hn : q < nL) (lv' : List (Nat × Value)) (hl' : (q, Value.int x) :: lv.filter (fun z => !(z.1 == q) && !(z.1 + 1 == q && z.2.category == 2)) = lv') (k : G K E nL T u (pc + 2) lv' rest) : G K E nL T u pc lv (.int x :: rest) := by
  obtain ⟨p, l, e, R, s, m, args, below, meth, c⟩ := K
  obtain ⟨⟨hx, hb, hml, hown, hts⟩, hR, hr, hK, hE, hlk⟩ := hC
  exact fun H locs ls hP hS hl => lv_istore hx hb hdg hl hn hl' (fun ls hl => k H locs ls hP hS hl)
theorem g_iinc (pc : Nat) (hC : Cx K E cc nL own Ts rm ret) {q : Nat} {n : Int} {x : Int32} (v : Int32) (hdg : decode cc pc = .ok (.iinc q n, 3)) (hn : q < nL) (j : Nat) (hk : lv[j]? = some (q, .int x)) (hv : x + Int32.ofInt n = v) (lv' : List (Nat × Value)) (hl' : (q, Value.int v) :: lv.filter (fun z => !(z.1 == q) && !(z.1 + 1 == q && z.2.category == 2)) = lv') (k : G K E nL T u (pc + 3) lv' rest) : G K E nL T u pc lv rest := by
  obtain ⟨p, l, e, R, s, m, args, below, meth, c⟩ := K
  obtain ⟨⟨hx, hb, hml, hown, hts⟩, hR, hr, hK, hE, hlk⟩ := hC
  exact fun H locs ls hP hS hl => lv_iinc hx hb hdg hl hk hv hn hl' (fun ls hl => k H locs ls hP hS hl)
theorem g_iadd (pc : Nat) (hC : Cx K E cc nL own Ts rm ret) {x y : Int32} (hdg : decode cc pc = .ok (.iadd, 1)) (k : G K E nL T u (pc + 1) lv (.int (x + y) :: rest)) : G K E nL T u pc lv (.int y :: .int x :: rest) := by
  obtain ⟨p, l, e, R, s, m, args, below, meth, c⟩ := K
  obtain ⟨⟨hx, hb, hml, hown, hts⟩, hR, hr, hK, hE, hlk⟩ := hC
  exact fun H locs ls hP hS hl => lv_iadd hx hb hdg (k H locs ls hP hS hl)
theorem g_isub (pc : Nat) (hC : Cx K E cc nL own Ts rm ret) {x y : Int32} (hdg : decode cc pc = .ok (.isub, 1)) (k : G K E nL T u (pc + 1) lv (.int (x - y) :: rest)) : G K E nL T u pc lv (.int y :: .int x :: rest) := by
  obtain ⟨p, l, e, R, s, m, args, below, meth, c⟩ := K
  obtain ⟨⟨hx, hb, hml, hown, hts⟩, hR, hr, hK, hE, hlk⟩ := hC
  exact fun H locs ls hP hS hl => lv_isub hx hb hdg (k H locs ls hP hS hl)
theorem g_imul (pc : Nat) (hC : Cx K E cc nL own Ts rm ret) {x y : Int32} (hdg : decode cc pc = .ok (.imul, 1)) (k : G K E nL T u (pc + 1) lv (.int (x * y) :: rest)) : G K E nL T u pc lv (.int y :: .int x :: rest) := by
  obtain ⟨p, l, e, R, s, m, args, below, meth, c⟩ := K
  obtain ⟨⟨hx, hb, hml, hown, hts⟩, hR, hr, hK, hE, hlk⟩ := hC
  exact fun H locs ls hP hS hl => lv_imul hx hb hdg (k H locs ls hP hS hl)
theorem g_iand (pc : Nat) (hC : Cx K E cc nL own Ts rm ret) {x y : Int32} (hdg : decode cc pc = .ok (.iand, 1)) (k : G K E nL T u (pc + 1) lv (.int (x &&& y) :: rest)) : G K E nL T u pc lv (.int y :: .int x :: rest) := by
  obtain ⟨p, l, e, R, s, m, args, below, meth, c⟩ := K
  obtain ⟨⟨hx, hb, hml, hown, hts⟩, hR, hr, hK, hE, hlk⟩ := hC
  exact fun H locs ls hP hS hl => lv_iand hx hb hdg (k H locs ls hP hS hl)
theorem g_ior (pc : Nat) (hC : Cx K E cc nL own Ts rm ret) {x y : Int32} (hdg : decode cc pc = .ok (.ior, 1)) (k : G K E nL T u (pc + 1) lv (.int (x ||| y) :: rest)) : G K E nL T u pc lv (.int y :: .int x :: rest) := by
  obtain ⟨p, l, e, R, s, m, args, below, meth, c⟩ := K
  obtain ⟨⟨hx, hb, hml, hown, hts⟩, hR, hr, hK, hE, hlk⟩ := hC
  exact fun H locs ls hP hS hl => lv_ior hx hb hdg (k H locs ls hP hS hl)
theorem g_ixor (pc : Nat) (hC : Cx K E cc nL own Ts rm ret) {x y : Int32} (hdg : decode cc pc = .ok (.ixor, 1)) (k : G K E nL T u (pc + 1) lv (.int (x ^^^ y) :: rest)) : G K E nL T u pc lv (.int y :: .int x :: rest) := by
  obtain ⟨p, l, e, R, s, m, args, below, meth, c⟩ := K
  obtain ⟨⟨hx, hb, hml, hown, hts⟩, hR, hr, hK, hE, hlk⟩ := hC
  exact fun H locs ls hP hS hl => lv_ixor hx hb hdg (k H locs ls hP hS hl)
theorem g_ishl (pc : Nat) (hC : Cx K E cc nL own Ts rm ret) {x y : Int32} (hdg : decode cc pc = .ok (.ishl, 1)) (k : G K E nL T u (pc + 1) lv (.int (jshl x y) :: rest)) : G K E nL T u pc lv (.int y :: .int x :: rest) := by
  obtain ⟨p, l, e, R, s, m, args, below, meth, c⟩ := K
  obtain ⟨⟨hx, hb, hml, hown, hts⟩, hR, hr, hK, hE, hlk⟩ := hC
  exact fun H locs ls hP hS hl => lv_ishl hx hb hdg (k H locs ls hP hS hl)
theorem g_ishr (pc : Nat) (hC : Cx K E cc nL own Ts rm ret) {x y : Int32} (hdg : decode cc pc = .ok (.ishr, 1)) (k : G K E nL T u (pc + 1) lv (.int (jshr x y) :: rest)) : G K E nL T u pc lv (.int y :: .int x :: rest) := by
  obtain ⟨p, l, e, R, s, m, args, below, meth, c⟩ := K
  obtain ⟨⟨hx, hb, hml, hown, hts⟩, hR, hr, hK, hE, hlk⟩ := hC
  exact fun H locs ls hP hS hl => lv_ishr hx hb hdg (k H locs ls hP hS hl)
theorem g_iushr (pc : Nat) (hC : Cx K E cc nL own Ts rm ret) {x y : Int32} (hdg : decode cc pc = .ok (.iushr, 1)) (k : G K E nL T u (pc + 1) lv (.int (jushr x y) :: rest)) : G K E nL T u pc lv (.int y :: .int x :: rest) := by
  obtain ⟨p, l, e, R, s, m, args, below, meth, c⟩ := K
  obtain ⟨⟨hx, hb, hml, hown, hts⟩, hR, hr, hK, hE, hlk⟩ := hC
  exact fun H locs ls hP hS hl => lv_iushr hx hb hdg rfl (k H locs ls hP hS hl)
theorem g_i2b (pc : Nat) (hC : Cx K E cc nL own Ts rm ret) {x : Int32} (hdg : decode cc pc = .ok (.i2b, 1)) (k : G K E nL T u (pc + 1) lv (.int x.toInt8.toInt32 :: rest)) : G K E nL T u pc lv (.int x :: rest) := by
  obtain ⟨p, l, e, R, s, m, args, below, meth, c⟩ := K
  obtain ⟨⟨hx, hb, hml, hown, hts⟩, hR, hr, hK, hE, hlk⟩ := hC
  exact fun H locs ls hP hS hl => lv_i2b hx hb hdg rfl (k H locs ls hP hS hl)
theorem g_dup (pc : Nat) (hC : Cx K E cc nL own Ts rm ret) {v : Value} (hdg : decode cc pc = .ok (.dup, 1)) (hv : v.category = 1) (k : G K E nL T u (pc + 1) lv (v :: v :: rest)) : G K E nL T u pc lv (v :: rest) := by
  obtain ⟨p, l, e, R, s, m, args, below, meth, c⟩ := K
  obtain ⟨⟨hx, hb, hml, hown, hts⟩, hR, hr, hK, hE, hlk⟩ := hC
  exact fun H locs ls hP hS hl => lv_dup hx hb hdg hv (k H locs ls hP hS hl)
theorem g_dup2 (pc : Nat) (hC : Cx K E cc nL own Ts rm ret) {v w : Value} (hdg : decode cc pc = .ok (.dup2, 1)) (hv : v.category = 1) (hw : w.category = 1) (k : G K E nL T u (pc + 1) lv (v :: w :: v :: w :: rest)) : G K E nL T u pc lv (v :: w :: rest) := by
  obtain ⟨p, l, e, R, s, m, args, below, meth, c⟩ := K
  obtain ⟨⟨hx, hb, hml, hown, hts⟩, hR, hr, hK, hE, hlk⟩ := hC
  exact fun H locs ls hP hS hl => lv_dup2_11 hx hb hdg hv hw (k H locs ls hP hS hl)
theorem g_pop (pc : Nat) (hC : Cx K E cc nL own Ts rm ret) {v : Value} (hdg : decode cc pc = .ok (.pop, 1)) (hv : v.category = 1) (k : G K E nL T u (pc + 1) lv rest) : G K E nL T u pc lv (v :: rest) := by
  obtain ⟨p, l, e, R, s, m, args, below, meth, c⟩ := K
  obtain ⟨⟨hx, hb, hml, hown, hts⟩, hR, hr, hK, hE, hlk⟩ := hC
  exact fun H locs ls hP hS hl => lv_pop hx hb hdg hv (k H locs ls hP hS hl)
theorem g_goto (pc : Nat) (hC : Cx K E cc nL own Ts rm ret) {off : Int} (tgt : Nat) (hdg : decode cc pc = .ok (.goto off, 3)) (ht : (pc : Int) + off = (tgt : Int)) (k : G K E nL T u tgt lv rest) : G K E nL T u pc lv rest := by
  obtain ⟨p, l, e, R, s, m, args, below, meth, c⟩ := K
  obtain ⟨⟨hx, hb, hml, hown, hts⟩, hR, hr, hK, hE, hlk⟩ := hC
  exact fun H locs ls hP hS hl => lv_goto hx hb hdg ht (k H locs ls hP hS hl)
theorem g_if_eq (pc : Nat) (hC : Cx K E cc nL own Ts rm ret) {x : Int32} {off : Int} (tgt : Nat) (hdg : decode cc pc = .ok (.ifCond .eq off, 3)) (ht : (pc : Int) + off = (tgt : Int)) (kt : x = 0 → G K E nL T u tgt lv rest) (kf : ¬ x = 0 → G K E nL T u (pc + 3) lv rest) : G K E nL T u pc lv (.int x :: rest) := by
  obtain ⟨p, l, e, R, s, m, args, below, meth, c⟩ := K
  obtain ⟨⟨hx, hb, hml, hown, hts⟩, hR, hr, hK, hE, hlk⟩ := hC
  exact fun H locs ls hP hS hl => lv_if_eq hx hb hdg ht (fun h => kt h H locs ls hP hS hl) (fun h => kf h H locs ls hP hS hl)
theorem g_if_eqT {α : Type} (F : α → ST × Option Value) (pc : Nat) (hC : Cx K E cc nL own Ts rm ret) {x : Int32} {off : Int} {A B : α} (tgt : Nat) (hdg : decode cc pc = .ok (.ifCond .eq off, 3)) (ht : (pc : Int) + off = (tgt : Int)) (kt : x = 0 → G K E nL (F A) u tgt lv rest) (kf : ¬ x = 0 → G K E nL (F B) u (pc + 3) lv rest) : G K E nL (F (if x = 0 then A else B)) u pc lv (.int x :: rest) := by
  refine g_if_eq pc hC tgt hdg ht (fun h => ?_) (fun h => ?_)
  · rw [if_pos h]; exact kt h
  · rw [if_neg h]; exact kf h
theorem g_icmp_eq (pc : Nat) (hC : Cx K E cc nL own Ts rm ret) {x y : Int32} {off : Int} (tgt : Nat) (hdg : decode cc pc = .ok (.if_icmp .eq off, 3)) (ht : (pc : Int) + off = (tgt : Int)) (kt : x = y → G K E nL T u tgt lv rest) (kf : ¬ x = y → G K E nL T u (pc + 3) lv rest) : G K E nL T u pc lv (.int y :: .int x :: rest) := by
  obtain ⟨p, l, e, R, s, m, args, below, meth, c⟩ := K
  obtain ⟨⟨hx, hb, hml, hown, hts⟩, hR, hr, hK, hE, hlk⟩ := hC
  exact fun H locs ls hP hS hl => lv_icmp_eq hx hb hdg ht (fun h => kt h H locs ls hP hS hl) (fun h => kf h H locs ls hP hS hl)
theorem g_icmp_eqT {α : Type} (F : α → ST × Option Value) (pc : Nat) (hC : Cx K E cc nL own Ts rm ret) {x y : Int32} {off : Int} {A B : α} (tgt : Nat) (hdg : decode cc pc = .ok (.if_icmp .eq off, 3)) (ht : (pc : Int) + off = (tgt : Int)) (kt : x = y → G K E nL (F A) u tgt lv rest) (kf : ¬ x = y → G K E nL (F B) u (pc + 3) lv rest) : G K E nL (F (if x = y then A else B)) u pc lv (.int y :: .int x :: rest) := by
  refine g_icmp_eq pc hC tgt hdg ht (fun h => ?_) (fun h => ?_)
  · rw [if_pos h]; exact kt h
  · rw [if_neg h]; exact kf h
theorem g_if_ne (pc : Nat) (hC : Cx K E cc nL own Ts rm ret) {x : Int32} {off : Int} (tgt : Nat) (hdg : decode cc pc = .ok (.ifCond .ne off, 3)) (ht : (pc : Int) + off = (tgt : Int)) (kt : ¬ x = 0 → G K E nL T u tgt lv rest) (kf : x = 0 → G K E nL T u (pc + 3) lv rest) : G K E nL T u pc lv (.int x :: rest) := by
  obtain ⟨p, l, e, R, s, m, args, below, meth, c⟩ := K
  obtain ⟨⟨hx, hb, hml, hown, hts⟩, hR, hr, hK, hE, hlk⟩ := hC
  exact fun H locs ls hP hS hl => lv_if_ne hx hb hdg ht (fun h => kt h H locs ls hP hS hl) (fun h => kf h H locs ls hP hS hl)
theorem g_if_neT {α : Type} (F : α → ST × Option Value) (pc : Nat) (hC : Cx K E cc nL own Ts rm ret) {x : Int32} {off : Int} {A B : α} (tgt : Nat) (hdg : decode cc pc = .ok (.ifCond .ne off, 3)) (ht : (pc : Int) + off = (tgt : Int)) (kt : ¬ x = 0 → G K E nL (F B) u tgt lv rest) (kf : x = 0 → G K E nL (F A) u (pc + 3) lv rest) : G K E nL (F (if x = 0 then A else B)) u pc lv (.int x :: rest) := by
  refine g_if_ne pc hC tgt hdg ht (fun h => ?_) (fun h => ?_)
  · rw [if_neg h]; exact kt h
  · rw [if_pos h]; exact kf h
theorem g_icmp_ne (pc : Nat) (hC : Cx K E cc nL own Ts rm ret) {x y : Int32} {off : Int} (tgt : Nat) (hdg : decode cc pc = .ok (.if_icmp .ne off, 3)) (ht : (pc : Int) + off = (tgt : Int)) (kt : ¬ x = y → G K E nL T u tgt lv rest) (kf : x = y → G K E nL T u (pc + 3) lv rest) : G K E nL T u pc lv (.int y :: .int x :: rest) := by
  obtain ⟨p, l, e, R, s, m, args, below, meth, c⟩ := K
  obtain ⟨⟨hx, hb, hml, hown, hts⟩, hR, hr, hK, hE, hlk⟩ := hC
  exact fun H locs ls hP hS hl => lv_icmp_ne hx hb hdg ht (fun h => kt h H locs ls hP hS hl) (fun h => kf h H locs ls hP hS hl)
theorem g_icmp_neT {α : Type} (F : α → ST × Option Value) (pc : Nat) (hC : Cx K E cc nL own Ts rm ret) {x y : Int32} {off : Int} {A B : α} (tgt : Nat) (hdg : decode cc pc = .ok (.if_icmp .ne off, 3)) (ht : (pc : Int) + off = (tgt : Int)) (kt : ¬ x = y → G K E nL (F B) u tgt lv rest) (kf : x = y → G K E nL (F A) u (pc + 3) lv rest) : G K E nL (F (if x = y then A else B)) u pc lv (.int y :: .int x :: rest) := by
  refine g_icmp_ne pc hC tgt hdg ht (fun h => ?_) (fun h => ?_)
  · rw [if_neg h]; exact kt h
  · rw [if_pos h]; exact kf h
theorem g_if_lt (pc : Nat) (hC : Cx K E cc nL own Ts rm ret) {x : Int32} {off : Int} (tgt : Nat) (hdg : decode cc pc = .ok (.ifCond .lt off, 3)) (ht : (pc : Int) + off = (tgt : Int)) (kt : x < 0 → G K E nL T u tgt lv rest) (kf : ¬ x < 0 → G K E nL T u (pc + 3) lv rest) : G K E nL T u pc lv (.int x :: rest) := by
  obtain ⟨p, l, e, R, s, m, args, below, meth, c⟩ := K
  obtain ⟨⟨hx, hb, hml, hown, hts⟩, hR, hr, hK, hE, hlk⟩ := hC
  exact fun H locs ls hP hS hl => lv_if_lt hx hb hdg ht (fun h => kt h H locs ls hP hS hl) (fun h => kf h H locs ls hP hS hl)
theorem g_if_ltT {α : Type} (F : α → ST × Option Value) (pc : Nat) (hC : Cx K E cc nL own Ts rm ret) {x : Int32} {off : Int} {A B : α} (tgt : Nat) (hdg : decode cc pc = .ok (.ifCond .lt off, 3)) (ht : (pc : Int) + off = (tgt : Int)) (kt : x < 0 → G K E nL (F A) u tgt lv rest) (kf : ¬ x < 0 → G K E nL (F B) u (pc + 3) lv rest) : G K E nL (F (if x < 0 then A else B)) u pc lv (.int x :: rest) := by
  refine g_if_lt pc hC tgt hdg ht (fun h => ?_) (fun h => ?_)
  · rw [if_pos h]; exact kt h
  · rw [if_neg h]; exact kf h
theorem g_icmp_lt (pc : Nat) (hC : Cx K E cc nL own Ts rm ret) {x y : Int32} {off : Int} (tgt : Nat) (hdg : decode cc pc = .ok (.if_icmp .lt off, 3)) (ht : (pc : Int) + off = (tgt : Int)) (kt : x < y → G K E nL T u tgt lv rest) (kf : ¬ x < y → G K E nL T u (pc + 3) lv rest) : G K E nL T u pc lv (.int y :: .int x :: rest) := by
  obtain ⟨p, l, e, R, s, m, args, below, meth, c⟩ := K
  obtain ⟨⟨hx, hb, hml, hown, hts⟩, hR, hr, hK, hE, hlk⟩ := hC
  exact fun H locs ls hP hS hl => lv_icmp_lt hx hb hdg ht (fun h => kt h H locs ls hP hS hl) (fun h => kf h H locs ls hP hS hl)
theorem g_icmp_ltT {α : Type} (F : α → ST × Option Value) (pc : Nat) (hC : Cx K E cc nL own Ts rm ret) {x y : Int32} {off : Int} {A B : α} (tgt : Nat) (hdg : decode cc pc = .ok (.if_icmp .lt off, 3)) (ht : (pc : Int) + off = (tgt : Int)) (kt : x < y → G K E nL (F A) u tgt lv rest) (kf : ¬ x < y → G K E nL (F B) u (pc + 3) lv rest) : G K E nL (F (if x < y then A else B)) u pc lv (.int y :: .int x :: rest) := by
  refine g_icmp_lt pc hC tgt hdg ht (fun h => ?_) (fun h => ?_)
  · rw [if_pos h]; exact kt h
  · rw [if_neg h]; exact kf h
theorem g_if_ge (pc : Nat) (hC : Cx K E cc nL own Ts rm ret) {x : Int32} {off : Int} (tgt : Nat) (hdg : decode cc pc = .ok (.ifCond .ge off, 3)) (ht : (pc : Int) + off = (tgt : Int)) (kt : 0 ≤ x → G K E nL T u tgt lv rest) (kf : ¬ 0 ≤ x → G K E nL T u (pc + 3) lv rest) : G K E nL T u pc lv (.int x :: rest) := by
  obtain ⟨p, l, e, R, s, m, args, below, meth, c⟩ := K
  obtain ⟨⟨hx, hb, hml, hown, hts⟩, hR, hr, hK, hE, hlk⟩ := hC
  exact fun H locs ls hP hS hl => lv_if_ge hx hb hdg ht (fun h => kt h H locs ls hP hS hl) (fun h => kf h H locs ls hP hS hl)
theorem g_if_geT {α : Type} (F : α → ST × Option Value) (pc : Nat) (hC : Cx K E cc nL own Ts rm ret) {x : Int32} {off : Int} {A B : α} (tgt : Nat) (hdg : decode cc pc = .ok (.ifCond .ge off, 3)) (ht : (pc : Int) + off = (tgt : Int)) (kt : 0 ≤ x → G K E nL (F A) u tgt lv rest) (kf : ¬ 0 ≤ x → G K E nL (F B) u (pc + 3) lv rest) : G K E nL (F (if 0 ≤ x then A else B)) u pc lv (.int x :: rest) := by
  refine g_if_ge pc hC tgt hdg ht (fun h => ?_) (fun h => ?_)
  · rw [if_pos h]; exact kt h
  · rw [if_neg h]; exact kf h
theorem g_icmp_ge (pc : Nat) (hC : Cx K E cc nL own Ts rm ret) {x y : Int32} {off : Int} (tgt : Nat) (hdg : decode cc pc = .ok (.if_icmp .ge off, 3)) (ht : (pc : Int) + off = (tgt : Int)) (kt : y ≤ x → G K E nL T u tgt lv rest) (kf : ¬ y ≤ x → G K E nL T u (pc + 3) lv rest) : G K E nL T u pc lv (.int y :: .int x :: rest) := by
  obtain ⟨p, l, e, R, s, m, args, below, meth, c⟩ := K
  obtain ⟨⟨hx, hb, hml, hown, hts⟩, hR, hr, hK, hE, hlk⟩ := hC
  exact fun H locs ls hP hS hl => lv_icmp_ge hx hb hdg ht (fun h => kt h H locs ls hP hS hl) (fun h => kf h H locs ls hP hS hl)
theorem g_icmp_geT {α : Type} (F : α → ST × Option Value) (pc : Nat) (hC : Cx K E cc nL own Ts rm ret) {x y : Int32} {off : Int} {A B : α} (tgt : Nat) (hdg : decode cc pc = .ok (.if_icmp .ge off, 3)) (ht : (pc : Int) + off = (tgt : Int)) (kt : y ≤ x → G K E nL (F A) u tgt lv rest) (kf : ¬ y ≤ x → G K E nL (F B) u (pc + 3) lv rest) : G K E nL (F (if y ≤ x then A else B)) u pc lv (.int y :: .int x :: rest) := by
  refine g_icmp_ge pc hC tgt hdg ht (fun h => ?_) (fun h => ?_)
  · rw [if_pos h]; exact kt h
  · rw [if_neg h]; exact kf h
theorem g_if_gt (pc : Nat) (hC : Cx K E cc nL own Ts rm ret) {x : Int32} {off : Int} (tgt : Nat) (hdg : decode cc pc = .ok (.ifCond .gt off, 3)) (ht : (pc : Int) + off = (tgt : Int)) (kt : 0 < x → G K E nL T u tgt lv rest) (kf : ¬ 0 < x → G K E nL T u (pc + 3) lv rest) : G K E nL T u pc lv (.int x :: rest) := by
  obtain ⟨p, l, e, R, s, m, args, below, meth, c⟩ := K
  obtain ⟨⟨hx, hb, hml, hown, hts⟩, hR, hr, hK, hE, hlk⟩ := hC
  exact fun H locs ls hP hS hl => lv_if_gt hx hb hdg ht (fun h => kt h H locs ls hP hS hl) (fun h => kf h H locs ls hP hS hl)
theorem g_if_gtT {α : Type} (F : α → ST × Option Value) (pc : Nat) (hC : Cx K E cc nL own Ts rm ret) {x : Int32} {off : Int} {A B : α} (tgt : Nat) (hdg : decode cc pc = .ok (.ifCond .gt off, 3)) (ht : (pc : Int) + off = (tgt : Int)) (kt : 0 < x → G K E nL (F A) u tgt lv rest) (kf : ¬ 0 < x → G K E nL (F B) u (pc + 3) lv rest) : G K E nL (F (if 0 < x then A else B)) u pc lv (.int x :: rest) := by
  refine g_if_gt pc hC tgt hdg ht (fun h => ?_) (fun h => ?_)
  · rw [if_pos h]; exact kt h
  · rw [if_neg h]; exact kf h
theorem g_icmp_gt (pc : Nat) (hC : Cx K E cc nL own Ts rm ret) {x y : Int32} {off : Int} (tgt : Nat) (hdg : decode cc pc = .ok (.if_icmp .gt off, 3)) (ht : (pc : Int) + off = (tgt : Int)) (kt : y < x → G K E nL T u tgt lv rest) (kf : ¬ y < x → G K E nL T u (pc + 3) lv rest) : G K E nL T u pc lv (.int y :: .int x :: rest) := by
  obtain ⟨p, l, e, R, s, m, args, below, meth, c⟩ := K
  obtain ⟨⟨hx, hb, hml, hown, hts⟩, hR, hr, hK, hE, hlk⟩ := hC
  exact fun H locs ls hP hS hl => lv_icmp_gt hx hb hdg ht (fun h => kt h H locs ls hP hS hl) (fun h => kf h H locs ls hP hS hl)
theorem g_icmp_gtT {α : Type} (F : α → ST × Option Value) (pc : Nat) (hC : Cx K E cc nL own Ts rm ret) {x y : Int32} {off : Int} {A B : α} (tgt : Nat) (hdg : decode cc pc = .ok (.if_icmp .gt off, 3)) (ht : (pc : Int) + off = (tgt : Int)) (kt : y < x → G K E nL (F A) u tgt lv rest) (kf : ¬ y < x → G K E nL (F B) u (pc + 3) lv rest) : G K E nL (F (if y < x then A else B)) u pc lv (.int y :: .int x :: rest) := by
  refine g_icmp_gt pc hC tgt hdg ht (fun h => ?_) (fun h => ?_)
  · rw [if_pos h]; exact kt h
  · rw [if_neg h]; exact kf h
theorem g_if_le (pc : Nat) (hC : Cx K E cc nL own Ts rm ret) {x : Int32} {off : Int} (tgt : Nat) (hdg : decode cc pc = .ok (.ifCond .le off, 3)) (ht : (pc : Int) + off = (tgt : Int)) (kt : x ≤ 0 → G K E nL T u tgt lv rest) (kf : ¬ x ≤ 0 → G K E nL T u (pc + 3) lv rest) : G K E nL T u pc lv (.int x :: rest) := by
  obtain ⟨p, l, e, R, s, m, args, below, meth, c⟩ := K
  obtain ⟨⟨hx, hb, hml, hown, hts⟩, hR, hr, hK, hE, hlk⟩ := hC
  exact fun H locs ls hP hS hl => lv_if_le hx hb hdg ht (fun h => kt h H locs ls hP hS hl) (fun h => kf h H locs ls hP hS hl)
theorem g_if_leT {α : Type} (F : α → ST × Option Value) (pc : Nat) (hC : Cx K E cc nL own Ts rm ret) {x : Int32} {off : Int} {A B : α} (tgt : Nat) (hdg : decode cc pc = .ok (.ifCond .le off, 3)) (ht : (pc : Int) + off = (tgt : Int)) (kt : x ≤ 0 → G K E nL (F A) u tgt lv rest) (kf : ¬ x ≤ 0 → G K E nL (F B) u (pc + 3) lv rest) : G K E nL (F (if x ≤ 0 then A else B)) u pc lv (.int x :: rest) := by
  refine g_if_le pc hC tgt hdg ht (fun h => ?_) (fun h => ?_)
  · rw [if_pos h]; exact kt h
  · rw [if_neg h]; exact kf h
theorem g_icmp_le (pc : Nat) (hC : Cx K E cc nL own Ts rm ret) {x y : Int32} {off : Int} (tgt : Nat) (hdg : decode cc pc = .ok (.if_icmp .le off, 3)) (ht : (pc : Int) + off = (tgt : Int)) (kt : x ≤ y → G K E nL T u tgt lv rest) (kf : ¬ x ≤ y → G K E nL T u (pc + 3) lv rest) : G K E nL T u pc lv (.int y :: .int x :: rest) := by
  obtain ⟨p, l, e, R, s, m, args, below, meth, c⟩ := K
  obtain ⟨⟨hx, hb, hml, hown, hts⟩, hR, hr, hK, hE, hlk⟩ := hC
  exact fun H locs ls hP hS hl => lv_icmp_le hx hb hdg ht (fun h => kt h H locs ls hP hS hl) (fun h => kf h H locs ls hP hS hl)
theorem g_icmp_leT {α : Type} (F : α → ST × Option Value) (pc : Nat) (hC : Cx K E cc nL own Ts rm ret) {x y : Int32} {off : Int} {A B : α} (tgt : Nat) (hdg : decode cc pc = .ok (.if_icmp .le off, 3)) (ht : (pc : Int) + off = (tgt : Int)) (kt : x ≤ y → G K E nL (F A) u tgt lv rest) (kf : ¬ x ≤ y → G K E nL (F B) u (pc + 3) lv rest) : G K E nL (F (if x ≤ y then A else B)) u pc lv (.int y :: .int x :: rest) := by
  refine g_icmp_le pc hC tgt hdg ht (fun h => ?_) (fun h => ?_)
  · rw [if_pos h]; exact kt h
  · rw [if_neg h]; exact kf h
end GR
end
