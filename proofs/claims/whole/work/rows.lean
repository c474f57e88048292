section
-- ===== PART A: goes FIRST, ahead of the names: the tables' words, and 'selects' of the private methods out of them =====
/-- a private method of a class that the tables say can be made, by its rows of tables_1 -/
def lw_okq (q : MethodName × Nat) : Prop := (q.1.cls ≠ "java/lang/invoke/MethodHandle" ∧ q.1.cls ≠ "java/lang/invoke/VarHandle") ∧ Cond.instantiable q.1.cls q.2 ∈ tables_1 ∧ Cond.privateMethod q.1 ∈ tables_1 ∧ Cond.instanceMethod q.1 ∈ tables_1
theorem lw_p0 : lw_okq (⟨"FlagCore", "cellAt", "(I)I"⟩, 8) := ⟨⟨by decide +kernel, by decide +kernel⟩, List.mem_of_getElem? (i := 8) (by decide +kernel), List.mem_of_getElem? (i := 70) (by decide +kernel), List.mem_of_getElem? (i := 71) (by decide +kernel)⟩
theorem lw_p1 : lw_okq (⟨"FlagCore", "advance", "()I"⟩, 8) := ⟨⟨by decide +kernel, by decide +kernel⟩, List.mem_of_getElem? (i := 8) (by decide +kernel), List.mem_of_getElem? (i := 118) (by decide +kernel), List.mem_of_getElem? (i := 119) (by decide +kernel)⟩
theorem lw_p2 : lw_okq (⟨"FlagCore", "enterLeast", "()I"⟩, 8) := ⟨⟨by decide +kernel, by decide +kernel⟩, List.mem_of_getElem? (i := 8) (by decide +kernel), List.mem_of_getElem? (i := 126) (by decide +kernel), List.mem_of_getElem? (i := 127) (by decide +kernel)⟩
theorem lw_p3 : lw_okq (⟨"FlagCore", "perform", "(I)I"⟩, 8) := ⟨⟨by decide +kernel, by decide +kernel⟩, List.mem_of_getElem? (i := 8) (by decide +kernel), List.mem_of_getElem? (i := 153) (by decide +kernel), List.mem_of_getElem? (i := 154) (by decide +kernel)⟩
theorem lw_p4 : lw_okq (⟨"FlagCore", "onward", "(I)I"⟩, 8) := ⟨⟨by decide +kernel, by decide +kernel⟩, List.mem_of_getElem? (i := 8) (by decide +kernel), List.mem_of_getElem? (i := 187) (by decide +kernel), List.mem_of_getElem? (i := 188) (by decide +kernel)⟩
theorem lw_p5 : lw_okq (⟨"FlagCore", "movePai\x72", "(I)I"⟩, 8) := ⟨⟨by decide +kernel, by decide +kernel⟩, List.mem_of_getElem? (i := 8) (by decide +kernel), List.mem_of_getElem? (i := 191) (by decide +kernel), List.mem_of_getElem? (i := 192) (by decide +kernel)⟩
theorem lw_p6 : lw_okq (⟨"FlagCore", "multiply", "(I)I"⟩, 8) := ⟨⟨by decide +kernel, by decide +kernel⟩, List.mem_of_getElem? (i := 8) (by decide +kernel), List.mem_of_getElem? (i := 196) (by decide +kernel), List.mem_of_getElem? (i := 197) (by decide +kernel)⟩
theorem lw_p7 : lw_okq (⟨"FlagCore$Sums", "keepProduct", "(II)V"⟩, 1) := ⟨⟨by decide +kernel, by decide +kernel⟩, List.mem_of_getElem? (i := 27) (by decide +kernel), List.mem_of_getElem? (i := 208) (by decide +kernel), List.mem_of_getElem? (i := 209) (by decide +kernel)⟩
theorem lw_p8 : lw_okq (⟨"FlagCore", "multiplyFew", "(III)V"⟩, 8) := ⟨⟨by decide +kernel, by decide +kernel⟩, List.mem_of_getElem? (i := 8) (by decide +kernel), List.mem_of_getElem? (i := 223) (by decide +kernel), List.mem_of_getElem? (i := 224) (by decide +kernel)⟩
theorem lw_p9 : lw_okq (⟨"FlagCore", "combine", "(I)I"⟩, 8) := ⟨⟨by decide +kernel, by decide +kernel⟩, List.mem_of_getElem? (i := 8) (by decide +kernel), List.mem_of_getElem? (i := 231) (by decide +kernel), List.mem_of_getElem? (i := 232) (by decide +kernel)⟩
theorem lw_p10 : lw_okq (⟨"FlagCore$Sums", "subtract", "(IIII)I"⟩, 1) := ⟨⟨by decide +kernel, by decide +kernel⟩, List.mem_of_getElem? (i := 27) (by decide +kernel), List.mem_of_getElem? (i := 240) (by decide +kernel), List.mem_of_getElem? (i := 241) (by decide +kernel)⟩
theorem lw_p11 : lw_okq (⟨"FlagCore", "skip", "(Z)I"⟩, 8) := ⟨⟨by decide +kernel, by decide +kernel⟩, List.mem_of_getElem? (i := 8) (by decide +kernel), List.mem_of_getElem? (i := 251) (by decide +kernel), List.mem_of_getElem? (i := 252) (by decide +kernel)⟩
theorem lw_p12 : lw_okq (⟨"FlagCore", "combineWithNumbe\x72", "(I)I"⟩, 8) := ⟨⟨by decide +kernel, by decide +kernel⟩, List.mem_of_getElem? (i := 8) (by decide +kernel), List.mem_of_getElem? (i := 270) (by decide +kernel), List.mem_of_getElem? (i := 271) (by decide +kernel)⟩
theorem lw_p13 : lw_okq (⟨"FlagCore", "change", "(I)I"⟩, 8) := ⟨⟨by decide +kernel, by decide +kernel⟩, List.mem_of_getElem? (i := 8) (by decide +kernel), List.mem_of_getElem? (i := 274) (by decide +kernel), List.mem_of_getElem? (i := 275) (by decide +kernel)⟩
theorem lw_p14 : lw_okq (⟨"FlagCore", "setFlag", "(I)I"⟩, 8) := ⟨⟨by decide +kernel, by decide +kernel⟩, List.mem_of_getElem? (i := 8) (by decide +kernel), List.mem_of_getElem? (i := 294) (by decide +kernel), List.mem_of_getElem? (i := 295) (by decide +kernel)⟩
theorem lw_p15 : lw_okq (⟨"FlagCore", "changePai\x72", "(I)I"⟩, 8) := ⟨⟨by decide +kernel, by decide +kernel⟩, List.mem_of_getElem? (i := 8) (by decide +kernel), List.mem_of_getElem? (i := 298) (by decide +kernel), List.mem_of_getElem? (i := 299) (by decide +kernel)⟩
def lw_privs_1 : List (MethodName × Nat) := [(⟨"FlagCore", "cellAt", "(I)I"⟩, 8), (⟨"FlagCore", "advance", "()I"⟩, 8), (⟨"FlagCore", "enterLeast", "()I"⟩, 8), (⟨"FlagCore", "perform", "(I)I"⟩, 8), (⟨"FlagCore", "onward", "(I)I"⟩, 8), (⟨"FlagCore", "movePai\x72", "(I)I"⟩, 8), (⟨"FlagCore", "multiply", "(I)I"⟩, 8), (⟨"FlagCore$Sums", "keepProduct", "(II)V"⟩, 1), (⟨"FlagCore", "multiplyFew", "(III)V"⟩, 8), (⟨"FlagCore", "combine", "(I)I"⟩, 8), (⟨"FlagCore$Sums", "subtract", "(IIII)I"⟩, 1), (⟨"FlagCore", "skip", "(Z)I"⟩, 8), (⟨"FlagCore", "combineWithNumbe\x72", "(I)I"⟩, 8), (⟨"FlagCore", "change", "(I)I"⟩, 8), (⟨"FlagCore", "setFlag", "(I)I"⟩, 8), (⟨"FlagCore", "changePai\x72", "(I)I"⟩, 8)]
theorem lw_r1 : ∀ q ∈ lw_privs_1, lw_okq q := List.forall_mem_cons.mpr ⟨lw_p0, List.forall_mem_cons.mpr ⟨lw_p1, List.forall_mem_cons.mpr ⟨lw_p2, List.forall_mem_cons.mpr ⟨lw_p3, List.forall_mem_cons.mpr ⟨lw_p4, List.forall_mem_cons.mpr ⟨lw_p5, List.forall_mem_cons.mpr ⟨lw_p6, List.forall_mem_cons.mpr ⟨lw_p7, List.forall_mem_cons.mpr ⟨lw_p8, List.forall_mem_cons.mpr ⟨lw_p9, List.forall_mem_cons.mpr ⟨lw_p10, List.forall_mem_cons.mpr ⟨lw_p11, List.forall_mem_cons.mpr ⟨lw_p12, List.forall_mem_cons.mpr ⟨lw_p13, List.forall_mem_cons.mpr ⟨lw_p14, List.forall_mem_cons.mpr ⟨lw_p15, fun _ h => absurd h List.not_mem_nil⟩⟩⟩⟩⟩⟩⟩⟩⟩⟩⟩⟩⟩⟩⟩⟩
theorem lw_p16 : lw_okq (⟨"FlagCore$Sums", "pairFlags", "(III)V"⟩, 1) := ⟨⟨by decide +kernel, by decide +kernel⟩, List.mem_of_getElem? (i := 27) (by decide +kernel), List.mem_of_getElem? (i := 306) (by decide +kernel), List.mem_of_getElem? (i := 307) (by decide +kernel)⟩
theorem lw_p17 : lw_okq (⟨"FlagCore", "moveAtNext", "(I)I"⟩, 8) := ⟨⟨by decide +kernel, by decide +kernel⟩, List.mem_of_getElem? (i := 8) (by decide +kernel), List.mem_of_getElem? (i := 314) (by decide +kernel), List.mem_of_getElem? (i := 315) (by decide +kernel)⟩
theorem lw_p18 : lw_okq (⟨"FlagCore", "transfe\x72", "(II)V"⟩, 8) := ⟨⟨by decide +kernel, by decide +kernel⟩, List.mem_of_getElem? (i := 8) (by decide +kernel), List.mem_of_getElem? (i := 318) (by decide +kernel), List.mem_of_getElem? (i := 319) (by decide +kernel)⟩
theorem lw_p19 : lw_okq (⟨"FlagCore", "movePointed", "(I)I"⟩, 8) := ⟨⟨by decide +kernel, by decide +kernel⟩, List.mem_of_getElem? (i := 8) (by decide +kernel), List.mem_of_getElem? (i := 322) (by decide +kernel), List.mem_of_getElem? (i := 323) (by decide +kernel)⟩
theorem lw_p20 : lw_okq (⟨"FlagCore", "moveStacked", "(I)I"⟩, 8) := ⟨⟨by decide +kernel, by decide +kernel⟩, List.mem_of_getElem? (i := 8) (by decide +kernel), List.mem_of_getElem? (i := 327) (by decide +kernel), List.mem_of_getElem? (i := 328) (by decide +kernel)⟩
theorem lw_p21 : lw_okq (⟨"FlagCore", "moveBeside", "(I)I"⟩, 8) := ⟨⟨by decide +kernel, by decide +kernel⟩, List.mem_of_getElem? (i := 8) (by decide +kernel), List.mem_of_getElem? (i := 339) (by decide +kernel), List.mem_of_getElem? (i := 340) (by decide +kernel)⟩
theorem lw_p22 : lw_okq (⟨"FlagCore", "moveFromCode", "(I)I"⟩, 8) := ⟨⟨by decide +kernel, by decide +kernel⟩, List.mem_of_getElem? (i := 8) (by decide +kernel), List.mem_of_getElem? (i := 343) (by decide +kernel), List.mem_of_getElem? (i := 344) (by decide +kernel)⟩
theorem lw_p23 : lw_okq (⟨"FlagCore", "movePort", "(I)I"⟩, 8) := ⟨⟨by decide +kernel, by decide +kernel⟩, List.mem_of_getElem? (i := 8) (by decide +kernel), List.mem_of_getElem? (i := 348) (by decide +kernel), List.mem_of_getElem? (i := 349) (by decide +kernel)⟩
theorem lw_p24 : lw_okq (⟨"FlagCore", "setPortBit", "(I)I"⟩, 8) := ⟨⟨by decide +kernel, by decide +kernel⟩, List.mem_of_getElem? (i := 8) (by decide +kernel), List.mem_of_getElem? (i := 352) (by decide +kernel), List.mem_of_getElem? (i := 353) (by decide +kernel)⟩
theorem lw_p25 : lw_okq (⟨"FlagCore", "skipByPort", "(I)I"⟩, 8) := ⟨⟨by decide +kernel, by decide +kernel⟩, List.mem_of_getElem? (i := 8) (by decide +kernel), List.mem_of_getElem? (i := 357) (by decide +kernel), List.mem_of_getElem? (i := 358) (by decide +kernel)⟩
theorem lw_p26 : lw_okq (⟨"FlagCore", "skipByBit", "(I)I"⟩, 8) := ⟨⟨by decide +kernel, by decide +kernel⟩, List.mem_of_getElem? (i := 8) (by decide +kernel), List.mem_of_getElem? (i := 365) (by decide +kernel), List.mem_of_getElem? (i := 366) (by decide +kernel)⟩
theorem lw_p27 : lw_okq (⟨"FlagCore", "moveBit", "(I)I"⟩, 8) := ⟨⟨by decide +kernel, by decide +kernel⟩, List.mem_of_getElem? (i := 8) (by decide +kernel), List.mem_of_getElem? (i := 369) (by decide +kernel), List.mem_of_getElem? (i := 370) (by decide +kernel)⟩
theorem lw_p28 : lw_okq (⟨"FlagCore", "jumpNea\x72", "(I)I"⟩, 8) := ⟨⟨by decide +kernel, by decide +kernel⟩, List.mem_of_getElem? (i := 8) (by decide +kernel), List.mem_of_getElem? (i := 373) (by decide +kernel), List.mem_of_getElem? (i := 374) (by decide +kernel)⟩
theorem lw_p29 : lw_okq (⟨"FlagCore", "jumpTo", "(I)I"⟩, 8) := ⟨⟨by decide +kernel, by decide +kernel⟩, List.mem_of_getElem? (i := 8) (by decide +kernel), List.mem_of_getElem? (i := 377) (by decide +kernel), List.mem_of_getElem? (i := 378) (by decide +kernel)⟩
theorem lw_p30 : lw_okq (⟨"FlagCore", "callTo", "(II)I"⟩, 8) := ⟨⟨by decide +kernel, by decide +kernel⟩, List.mem_of_getElem? (i := 8) (by decide +kernel), List.mem_of_getElem? (i := 381) (by decide +kernel), List.mem_of_getElem? (i := 382) (by decide +kernel)⟩
theorem lw_p31 : lw_okq (⟨"FlagCore", "branch", "(I)I"⟩, 8) := ⟨⟨by decide +kernel, by decide +kernel⟩, List.mem_of_getElem? (i := 8) (by decide +kernel), List.mem_of_getElem? (i := 385) (by decide +kernel), List.mem_of_getElem? (i := 386) (by decide +kernel)⟩
def lw_privs_2 : List (MethodName × Nat) := [(⟨"FlagCore$Sums", "pairFlags", "(III)V"⟩, 1), (⟨"FlagCore", "moveAtNext", "(I)I"⟩, 8), (⟨"FlagCore", "transfe\x72", "(II)V"⟩, 8), (⟨"FlagCore", "movePointed", "(I)I"⟩, 8), (⟨"FlagCore", "moveStacked", "(I)I"⟩, 8), (⟨"FlagCore", "moveBeside", "(I)I"⟩, 8), (⟨"FlagCore", "moveFromCode", "(I)I"⟩, 8), (⟨"FlagCore", "movePort", "(I)I"⟩, 8), (⟨"FlagCore", "setPortBit", "(I)I"⟩, 8), (⟨"FlagCore", "skipByPort", "(I)I"⟩, 8), (⟨"FlagCore", "skipByBit", "(I)I"⟩, 8), (⟨"FlagCore", "moveBit", "(I)I"⟩, 8), (⟨"FlagCore", "jumpNea\x72", "(I)I"⟩, 8), (⟨"FlagCore", "jumpTo", "(I)I"⟩, 8), (⟨"FlagCore", "callTo", "(II)I"⟩, 8), (⟨"FlagCore", "branch", "(I)I"⟩, 8)]
theorem lw_r2 : ∀ q ∈ lw_privs_2, lw_okq q := List.forall_mem_cons.mpr ⟨lw_p16, List.forall_mem_cons.mpr ⟨lw_p17, List.forall_mem_cons.mpr ⟨lw_p18, List.forall_mem_cons.mpr ⟨lw_p19, List.forall_mem_cons.mpr ⟨lw_p20, List.forall_mem_cons.mpr ⟨lw_p21, List.forall_mem_cons.mpr ⟨lw_p22, List.forall_mem_cons.mpr ⟨lw_p23, List.forall_mem_cons.mpr ⟨lw_p24, List.forall_mem_cons.mpr ⟨lw_p25, List.forall_mem_cons.mpr ⟨lw_p26, List.forall_mem_cons.mpr ⟨lw_p27, List.forall_mem_cons.mpr ⟨lw_p28, List.forall_mem_cons.mpr ⟨lw_p29, List.forall_mem_cons.mpr ⟨lw_p30, List.forall_mem_cons.mpr ⟨lw_p31, fun _ h => absurd h List.not_mem_nil⟩⟩⟩⟩⟩⟩⟩⟩⟩⟩⟩⟩⟩⟩⟩⟩
theorem lw_p32 : lw_okq (⟨"FlagCore", "jumpFa\x72", "(I)I"⟩, 8) := ⟨⟨by decide +kernel, by decide +kernel⟩, List.mem_of_getElem? (i := 8) (by decide +kernel), List.mem_of_getElem? (i := 389) (by decide +kernel), List.mem_of_getElem? (i := 390) (by decide +kernel)⟩
theorem lw_p33 : lw_okq (⟨"FlagCore", "jumpToZ", "(I)I"⟩, 8) := ⟨⟨by decide +kernel, by decide +kernel⟩, List.mem_of_getElem? (i := 8) (by decide +kernel), List.mem_of_getElem? (i := 393) (by decide +kernel), List.mem_of_getElem? (i := 394) (by decide +kernel)⟩
theorem lw_p34 : lw_okq (⟨"FlagCore", "comeBack", "(I)I"⟩, 8) := ⟨⟨by decide +kernel, by decide +kernel⟩, List.mem_of_getElem? (i := 8) (by decide +kernel), List.mem_of_getElem? (i := 397) (by decide +kernel), List.mem_of_getElem? (i := 398) (by decide +kernel)⟩
theorem lw_p35 : lw_okq (⟨"FlagCoreModel", "pai\x72", "(I)I"⟩, 8) := ⟨⟨by decide +kernel, by decide +kernel⟩, List.mem_of_getElem? (i := 423) (by decide +kernel), List.mem_of_getElem? (i := 482) (by decide +kernel), List.mem_of_getElem? (i := 483) (by decide +kernel)⟩
theorem lw_p36 : lw_okq (⟨"FlagCoreModel", "stepOnce", "()I"⟩, 8) := ⟨⟨by decide +kernel, by decide +kernel⟩, List.mem_of_getElem? (i := 423) (by decide +kernel), List.mem_of_getElem? (i := 536) (by decide +kernel), List.mem_of_getElem? (i := 537) (by decide +kernel)⟩
theorem lw_p37 : lw_okq (⟨"FlagCoreModel", "has", "(I)Z"⟩, 8) := ⟨⟨by decide +kernel, by decide +kernel⟩, List.mem_of_getElem? (i := 423) (by decide +kernel), List.mem_of_getElem? (i := 540) (by decide +kernel), List.mem_of_getElem? (i := 541) (by decide +kernel)⟩
theorem lw_p38 : lw_okq (⟨"FlagCoreModel", "enters", "()I"⟩, 8) := ⟨⟨by decide +kernel, by decide +kernel⟩, List.mem_of_getElem? (i := 423) (by decide +kernel), List.mem_of_getElem? (i := 544) (by decide +kernel), List.mem_of_getElem? (i := 545) (by decide +kernel)⟩
theorem lw_p39 : lw_okq (⟨"FlagCoreModel", "canCall", "()Z"⟩, 8) := ⟨⟨by decide +kernel, by decide +kernel⟩, List.mem_of_getElem? (i := 423) (by decide +kernel), List.mem_of_getElem? (i := 548) (by decide +kernel), List.mem_of_getElem? (i := 549) (by decide +kernel)⟩
theorem lw_p40 : lw_okq (⟨"FlagCoreModel", "calls", "(II)V"⟩, 8) := ⟨⟨by decide +kernel, by decide +kernel⟩, List.mem_of_getElem? (i := 423) (by decide +kernel), List.mem_of_getElem? (i := 555) (by decide +kernel), List.mem_of_getElem? (i := 556) (by decide +kernel)⟩
theorem lw_p41 : lw_okq (⟨"FlagCoreModel", "pushes", "(I)V"⟩, 8) := ⟨⟨by decide +kernel, by decide +kernel⟩, List.mem_of_getElem? (i := 423) (by decide +kernel), List.mem_of_getElem? (i := 559) (by decide +kernel), List.mem_of_getElem? (i := 560) (by decide +kernel)⟩
theorem lw_p42 : lw_okq (⟨"FlagCoreModel", "setPai\x72", "(II)V"⟩, 8) := ⟨⟨by decide +kernel, by decide +kernel⟩, List.mem_of_getElem? (i := 423) (by decide +kernel), List.mem_of_getElem? (i := 563) (by decide +kernel), List.mem_of_getElem? (i := 564) (by decide +kernel)⟩
theorem lw_p43 : lw_okq (⟨"FlagCoreModel", "flag", "(IZ)V"⟩, 8) := ⟨⟨by decide +kernel, by decide +kernel⟩, List.mem_of_getElem? (i := 423) (by decide +kernel), List.mem_of_getElem? (i := 567) (by decide +kernel), List.mem_of_getElem? (i := 568) (by decide +kernel)⟩
theorem lw_p44 : lw_okq (⟨"FlagCoreModel", "does", "(I)I"⟩, 8) := ⟨⟨by decide +kernel, by decide +kernel⟩, List.mem_of_getElem? (i := 423) (by decide +kernel), List.mem_of_getElem? (i := 571) (by decide +kernel), List.mem_of_getElem? (i := 572) (by decide +kernel)⟩
theorem lw_p45 : lw_okq (⟨"FlagCoreModel", "ofPlaces", "(I)I"⟩, 8) := ⟨⟨by decide +kernel, by decide +kernel⟩, List.mem_of_getElem? (i := 423) (by decide +kernel), List.mem_of_getElem? (i := 577) (by decide +kernel), List.mem_of_getElem? (i := 578) (by decide +kernel)⟩
theorem lw_p46 : lw_okq (⟨"FlagCoreModel", "moves", "(IIZ)I"⟩, 8) := ⟨⟨by decide +kernel, by decide +kernel⟩, List.mem_of_getElem? (i := 423) (by decide +kernel), List.mem_of_getElem? (i := 581) (by decide +kernel), List.mem_of_getElem? (i := 582) (by decide +kernel)⟩
theorem lw_p47 : lw_okq (⟨"FlagCoreModel", "ofTwo", "(I)V"⟩, 8) := ⟨⟨by decide +kernel, by decide +kernel⟩, List.mem_of_getElem? (i := 423) (by decide +kernel), List.mem_of_getElem? (i := 585) (by decide +kernel), List.mem_of_getElem? (i := 586) (by decide +kernel)⟩
def lw_privs_3 : List (MethodName × Nat) := [(⟨"FlagCore", "jumpFa\x72", "(I)I"⟩, 8), (⟨"FlagCore", "jumpToZ", "(I)I"⟩, 8), (⟨"FlagCore", "comeBack", "(I)I"⟩, 8), (⟨"FlagCoreModel", "pai\x72", "(I)I"⟩, 8), (⟨"FlagCoreModel", "stepOnce", "()I"⟩, 8), (⟨"FlagCoreModel", "has", "(I)Z"⟩, 8), (⟨"FlagCoreModel", "enters", "()I"⟩, 8), (⟨"FlagCoreModel", "canCall", "()Z"⟩, 8), (⟨"FlagCoreModel", "calls", "(II)V"⟩, 8), (⟨"FlagCoreModel", "pushes", "(I)V"⟩, 8), (⟨"FlagCoreModel", "setPai\x72", "(II)V"⟩, 8), (⟨"FlagCoreModel", "flag", "(IZ)V"⟩, 8), (⟨"FlagCoreModel", "does", "(I)I"⟩, 8), (⟨"FlagCoreModel", "ofPlaces", "(I)I"⟩, 8), (⟨"FlagCoreModel", "moves", "(IIZ)I"⟩, 8), (⟨"FlagCoreModel", "ofTwo", "(I)V"⟩, 8)]
theorem lw_r3 : ∀ q ∈ lw_privs_3, lw_okq q := List.forall_mem_cons.mpr ⟨lw_p32, List.forall_mem_cons.mpr ⟨lw_p33, List.forall_mem_cons.mpr ⟨lw_p34, List.forall_mem_cons.mpr ⟨lw_p35, List.forall_mem_cons.mpr ⟨lw_p36, List.forall_mem_cons.mpr ⟨lw_p37, List.forall_mem_cons.mpr ⟨lw_p38, List.forall_mem_cons.mpr ⟨lw_p39, List.forall_mem_cons.mpr ⟨lw_p40, List.forall_mem_cons.mpr ⟨lw_p41, List.forall_mem_cons.mpr ⟨lw_p42, List.forall_mem_cons.mpr ⟨lw_p43, List.forall_mem_cons.mpr ⟨lw_p44, List.forall_mem_cons.mpr ⟨lw_p45, List.forall_mem_cons.mpr ⟨lw_p46, List.forall_mem_cons.mpr ⟨lw_p47, fun _ h => absurd h List.not_mem_nil⟩⟩⟩⟩⟩⟩⟩⟩⟩⟩⟩⟩⟩⟩⟩⟩
theorem lw_p48 : lw_okq (⟨"FlagCoreModel", "carry", "()I"⟩, 8) := ⟨⟨by decide +kernel, by decide +kernel⟩, List.mem_of_getElem? (i := 423) (by decide +kernel), List.mem_of_getElem? (i := 589) (by decide +kernel), List.mem_of_getElem? (i := 590) (by decide +kernel)⟩
theorem lw_p49 : lw_okq (⟨"FlagCoreModel", "subtract", "(IIIZ)I"⟩, 8) := ⟨⟨by decide +kernel, by decide +kernel⟩, List.mem_of_getElem? (i := 423) (by decide +kernel), List.mem_of_getElem? (i := 593) (by decide +kernel), List.mem_of_getElem? (i := 594) (by decide +kernel)⟩
theorem lw_p50 : lw_okq (⟨"FlagCoreModel", "signs", "(IZ)V"⟩, 8) := ⟨⟨by decide +kernel, by decide +kernel⟩, List.mem_of_getElem? (i := 423) (by decide +kernel), List.mem_of_getElem? (i := 597) (by decide +kernel), List.mem_of_getElem? (i := 598) (by decide +kernel)⟩
theorem lw_p51 : lw_okq (⟨"FlagCoreModel", "add", "(III)I"⟩, 8) := ⟨⟨by decide +kernel, by decide +kernel⟩, List.mem_of_getElem? (i := 423) (by decide +kernel), List.mem_of_getElem? (i := 601) (by decide +kernel), List.mem_of_getElem? (i := 602) (by decide +kernel)⟩
theorem lw_p52 : lw_okq (⟨"FlagCoreModel", "skips", "(Z)V"⟩, 8) := ⟨⟨by decide +kernel, by decide +kernel⟩, List.mem_of_getElem? (i := 423) (by decide +kernel), List.mem_of_getElem? (i := 605) (by decide +kernel), List.mem_of_getElem? (i := 606) (by decide +kernel)⟩
theorem lw_p53 : lw_okq (⟨"FlagCoreModel", "logic", "(I)I"⟩, 8) := ⟨⟨by decide +kernel, by decide +kernel⟩, List.mem_of_getElem? (i := 423) (by decide +kernel), List.mem_of_getElem? (i := 609) (by decide +kernel), List.mem_of_getElem? (i := 610) (by decide +kernel)⟩
theorem lw_p54 : lw_okq (⟨"FlagCoreModel", "products", "(I)V"⟩, 8) := ⟨⟨by decide +kernel, by decide +kernel⟩, List.mem_of_getElem? (i := 423) (by decide +kernel), List.mem_of_getElem? (i := 613) (by decide +kernel), List.mem_of_getElem? (i := 614) (by decide +kernel)⟩
theorem lw_p55 : lw_okq (⟨"FlagCoreModel", "product", "(IZ)V"⟩, 8) := ⟨⟨by decide +kernel, by decide +kernel⟩, List.mem_of_getElem? (i := 423) (by decide +kernel), List.mem_of_getElem? (i := 620) (by decide +kernel), List.mem_of_getElem? (i := 621) (by decide +kernel)⟩
theorem lw_p56 : lw_okq (⟨"FlagCoreModel", "ofNine", "(I)I"⟩, 8) := ⟨⟨by decide +kernel, by decide +kernel⟩, List.mem_of_getElem? (i := 423) (by decide +kernel), List.mem_of_getElem? (i := 624) (by decide +kernel), List.mem_of_getElem? (i := 625) (by decide +kernel)⟩
theorem lw_p57 : lw_okq (⟨"FlagCoreModel", "ofMemory", "(I)I"⟩, 8) := ⟨⟨by decide +kernel, by decide +kernel⟩, List.mem_of_getElem? (i := 423) (by decide +kernel), List.mem_of_getElem? (i := 628) (by decide +kernel), List.mem_of_getElem? (i := 629) (by decide +kernel)⟩
theorem lw_p58 : lw_okq (⟨"FlagCoreModel", "ofStack", "(I)I"⟩, 8) := ⟨⟨by decide +kernel, by decide +kernel⟩, List.mem_of_getElem? (i := 423) (by decide +kernel), List.mem_of_getElem? (i := 632) (by decide +kernel), List.mem_of_getElem? (i := 633) (by decide +kernel)⟩
theorem lw_p59 : lw_okq (⟨"FlagCoreModel", "pops", "()I"⟩, 8) := ⟨⟨by decide +kernel, by decide +kernel⟩, List.mem_of_getElem? (i := 423) (by decide +kernel), List.mem_of_getElem? (i := 636) (by decide +kernel), List.mem_of_getElem? (i := 637) (by decide +kernel)⟩
theorem lw_p60 : lw_okq (⟨"FlagCoreModel", "codeByte", "(I)I"⟩, 8) := ⟨⟨by decide +kernel, by decide +kernel⟩, List.mem_of_getElem? (i := 423) (by decide +kernel), List.mem_of_getElem? (i := 640) (by decide +kernel), List.mem_of_getElem? (i := 641) (by decide +kernel)⟩
theorem lw_p61 : lw_okq (⟨"FlagCoreModel", "ofOthers", "(I)I"⟩, 8) := ⟨⟨by decide +kernel, by decide +kernel⟩, List.mem_of_getElem? (i := 423) (by decide +kernel), List.mem_of_getElem? (i := 644) (by decide +kernel), List.mem_of_getElem? (i := 645) (by decide +kernel)⟩
theorem lw_p62 : lw_okq (⟨"FlagCoreModel", "jumps", "(IIZ)I"⟩, 8) := ⟨⟨by decide +kernel, by decide +kernel⟩, List.mem_of_getElem? (i := 423) (by decide +kernel), List.mem_of_getElem? (i := 648) (by decide +kernel), List.mem_of_getElem? (i := 649) (by decide +kernel)⟩
theorem lw_p63 : lw_okq (⟨"FlagCoreModel", "returns", "(I)I"⟩, 8) := ⟨⟨by decide +kernel, by decide +kernel⟩, List.mem_of_getElem? (i := 423) (by decide +kernel), List.mem_of_getElem? (i := 652) (by decide +kernel), List.mem_of_getElem? (i := 653) (by decide +kernel)⟩
def lw_privs_4 : List (MethodName × Nat) := [(⟨"FlagCoreModel", "carry", "()I"⟩, 8), (⟨"FlagCoreModel", "subtract", "(IIIZ)I"⟩, 8), (⟨"FlagCoreModel", "signs", "(IZ)V"⟩, 8), (⟨"FlagCoreModel", "add", "(III)I"⟩, 8), (⟨"FlagCoreModel", "skips", "(Z)V"⟩, 8), (⟨"FlagCoreModel", "logic", "(I)I"⟩, 8), (⟨"FlagCoreModel", "products", "(I)V"⟩, 8), (⟨"FlagCoreModel", "product", "(IZ)V"⟩, 8), (⟨"FlagCoreModel", "ofNine", "(I)I"⟩, 8), (⟨"FlagCoreModel", "ofMemory", "(I)I"⟩, 8), (⟨"FlagCoreModel", "ofStack", "(I)I"⟩, 8), (⟨"FlagCoreModel", "pops", "()I"⟩, 8), (⟨"FlagCoreModel", "codeByte", "(I)I"⟩, 8), (⟨"FlagCoreModel", "ofOthers", "(I)I"⟩, 8), (⟨"FlagCoreModel", "jumps", "(IIZ)I"⟩, 8), (⟨"FlagCoreModel", "returns", "(I)I"⟩, 8)]
theorem lw_r4 : ∀ q ∈ lw_privs_4, lw_okq q := List.forall_mem_cons.mpr ⟨lw_p48, List.forall_mem_cons.mpr ⟨lw_p49, List.forall_mem_cons.mpr ⟨lw_p50, List.forall_mem_cons.mpr ⟨lw_p51, List.forall_mem_cons.mpr ⟨lw_p52, List.forall_mem_cons.mpr ⟨lw_p53, List.forall_mem_cons.mpr ⟨lw_p54, List.forall_mem_cons.mpr ⟨lw_p55, List.forall_mem_cons.mpr ⟨lw_p56, List.forall_mem_cons.mpr ⟨lw_p57, List.forall_mem_cons.mpr ⟨lw_p58, List.forall_mem_cons.mpr ⟨lw_p59, List.forall_mem_cons.mpr ⟨lw_p60, List.forall_mem_cons.mpr ⟨lw_p61, List.forall_mem_cons.mpr ⟨lw_p62, List.forall_mem_cons.mpr ⟨lw_p63, fun _ h => absurd h List.not_mem_nil⟩⟩⟩⟩⟩⟩⟩⟩⟩⟩⟩⟩⟩⟩⟩⟩
theorem lw_p64 : lw_okq (⟨"FlagCoreModel", "ofOne", "(I)V"⟩, 8) := ⟨⟨by decide +kernel, by decide +kernel⟩, List.mem_of_getElem? (i := 423) (by decide +kernel), List.mem_of_getElem? (i := 656) (by decide +kernel), List.mem_of_getElem? (i := 657) (by decide +kernel)⟩
theorem lw_p65 : lw_okq (⟨"FlagCoreModel", "right", "(II)I"⟩, 8) := ⟨⟨by decide +kernel, by decide +kernel⟩, List.mem_of_getElem? (i := 423) (by decide +kernel), List.mem_of_getElem? (i := 660) (by decide +kernel), List.mem_of_getElem? (i := 661) (by decide +kernel)⟩
theorem lw_p66 : lw_okq (⟨"FlagCoreModel", "ofPai\x72", "(I)V"⟩, 8) := ⟨⟨by decide +kernel, by decide +kernel⟩, List.mem_of_getElem? (i := 423) (by decide +kernel), List.mem_of_getElem? (i := 665) (by decide +kernel), List.mem_of_getElem? (i := 666) (by decide +kernel)⟩
theorem lw_p67 : lw_okq (⟨"FlagCoreModel", "ofPortBit", "(I)V"⟩, 8) := ⟨⟨by decide +kernel, by decide +kernel⟩, List.mem_of_getElem? (i := 423) (by decide +kernel), List.mem_of_getElem? (i := 670) (by decide +kernel), List.mem_of_getElem? (i := 671) (by decide +kernel)⟩
theorem lw_p68 : lw_okq (⟨"FlagCoreModel", "ofPort", "(I)V"⟩, 8) := ⟨⟨by decide +kernel, by decide +kernel⟩, List.mem_of_getElem? (i := 423) (by decide +kernel), List.mem_of_getElem? (i := 674) (by decide +kernel), List.mem_of_getElem? (i := 675) (by decide +kernel)⟩
theorem lw_p69 : lw_okq (⟨"FlagCoreModel", "ofFifteen", "(I)I"⟩, 8) := ⟨⟨by decide +kernel, by decide +kernel⟩, List.mem_of_getElem? (i := 423) (by decide +kernel), List.mem_of_getElem? (i := 678) (by decide +kernel), List.mem_of_getElem? (i := 679) (by decide +kernel)⟩
theorem lw_p70 : lw_okq (⟨"FlagCoreModel", "ofBit", "(I)V"⟩, 8) := ⟨⟨by decide +kernel, by decide +kernel⟩, List.mem_of_getElem? (i := 423) (by decide +kernel), List.mem_of_getElem? (i := 683) (by decide +kernel), List.mem_of_getElem? (i := 684) (by decide +kernel)⟩
theorem lw_p71 : lw_okq (⟨"FlagCoreModel", "ofNumbe\x72", "(I)V"⟩, 8) := ⟨⟨by decide +kernel, by decide +kernel⟩, List.mem_of_getElem? (i := 423) (by decide +kernel), List.mem_of_getElem? (i := 687) (by decide +kernel), List.mem_of_getElem? (i := 688) (by decide +kernel)⟩
def lw_privs_5 : List (MethodName × Nat) := [(⟨"FlagCoreModel", "ofOne", "(I)V"⟩, 8), (⟨"FlagCoreModel", "right", "(II)I"⟩, 8), (⟨"FlagCoreModel", "ofPai\x72", "(I)V"⟩, 8), (⟨"FlagCoreModel", "ofPortBit", "(I)V"⟩, 8), (⟨"FlagCoreModel", "ofPort", "(I)V"⟩, 8), (⟨"FlagCoreModel", "ofFifteen", "(I)I"⟩, 8), (⟨"FlagCoreModel", "ofBit", "(I)V"⟩, 8), (⟨"FlagCoreModel", "ofNumbe\x72", "(I)V"⟩, 8)]
theorem lw_r5 : ∀ q ∈ lw_privs_5, lw_okq q := List.forall_mem_cons.mpr ⟨lw_p64, List.forall_mem_cons.mpr ⟨lw_p65, List.forall_mem_cons.mpr ⟨lw_p66, List.forall_mem_cons.mpr ⟨lw_p67, List.forall_mem_cons.mpr ⟨lw_p68, List.forall_mem_cons.mpr ⟨lw_p69, List.forall_mem_cons.mpr ⟨lw_p70, List.forall_mem_cons.mpr ⟨lw_p71, fun _ h => absurd h List.not_mem_nil⟩⟩⟩⟩⟩⟩⟩⟩
def lw_privs : List (MethodName × Nat) := lw_privs_1 ++ (lw_privs_2 ++ (lw_privs_3 ++ (lw_privs_4 ++ (lw_privs_5))))
def lw_tbl : List Cond := k2_sels lw_privs ++ tables_1
theorem lw_privs_ok : ∀ q ∈ lw_privs, lw_okq q := by
  show ∀ q ∈ lw_privs_1 ++ (lw_privs_2 ++ (lw_privs_3 ++ (lw_privs_4 ++ (lw_privs_5)))), lw_okq q
  exact List.forall_mem_append.mpr ⟨lw_r1, List.forall_mem_append.mpr ⟨lw_r2, List.forall_mem_append.mpr ⟨lw_r3, List.forall_mem_append.mpr ⟨lw_r4, lw_r5⟩⟩⟩⟩
end
section
/-! ===== BEGIN words of one list among another's, by their places ===== -/
theorem goodIn_r {big : List Cond} (ws : List Cond) (ps : List Nat) (hp : ws = ps.filterMap (fun i => big[i]?)) (h : ws.all goodWord = true) : GoodIn big ws := by
  intro w hw
  have h1 := List.all_eq_true.mp h w hw
  rw [hp] at hw
  obtain ⟨i, -, hi⟩ := List.mem_filterMap.mp hw
  have hm : w ∈ big := by first | exact List.mem_of_getElem? hi | exact List.getElem?_mem hi
  exact ⟨hm, good_of_word h1⟩
theorem goodIn_app {big a b : List Cond} (ha : GoodIn big a) (hb : GoodIn big b) : GoodIn big (a ++ b) := fun w h => (List.mem_append.mp h).elim (ha w) (hb w)
theorem goodIn_ca {big a b : List Cond} {c : Cond} (ha : GoodIn big (c :: a)) (hb : GoodIn big b) : GoodIn big (c :: (a ++ b)) := fun w h => (List.mem_cons.mp h).elim (fun e => ha w (List.mem_cons.mpr (Or.inl e))) (fun h => (List.mem_append.mp h).elim (fun h => ha w (List.mem_cons.mpr (Or.inr h))) (hb w))
theorem goodIn_sub {big ws : List Cond} (hm : ∀ w ∈ ws, w ∈ big) (h : ws.all goodWord = true) : GoodIn big ws := fun w hw => ⟨hm w hw, good_of_word (List.all_eq_true.mp h w hw)⟩
/-! ===== END ===== -/

/-! ===== BEGIN printed: names, fields, word lists, decode rows ===== -/
def RX0 : String := "FlagCore$Bytes"
def TX0 : u_T := fun k => match k with
  | _ => ("FlagCore$Bytes", "row", "[I", true)
def tyX0 : Nat → FieldType := fun k => match k with
  | _ => .array .int
abbrev wsX00 : List Cond := u_ws RX0 TX0 1
theorem nmX0 : ∀ a, a < 1 → ∀ b, b < 1 → a ≠ b → (TX0 a).2.1 ≠ (TX0 b).2.1 := by decide +kernel
theorem tyX0_ok : ∀ k, k < 1 → parseFieldDescriptor (TX0 k).2.2.1 = some (tyX0 k) := by decide +kernel
abbrev cX0_init : ByteArray := prog_2_method_1_code
def yX0_init : MethodName := ⟨RX0, "<init>", "()V"⟩
abbrev cX0_get : ByteArray := prog_2_method_2_code
def yX0_get : MethodName := ⟨RX0, "get", "(I)I"⟩
abbrev cX0_set : ByteArray := prog_2_method_3_code
def yX0_set : MethodName := ⟨RX0, "set", "(II)V"⟩
abbrev cX0_signed : ByteArray := prog_2_method_4_code
def yX0_signed : MethodName := ⟨RX0, "signed", "(I)I"⟩
abbrev cX0_pair : ByteArray := prog_2_method_5_code
def yX0_pair : MethodName := ⟨RX0, "pai\x72", "(I)I"⟩
abbrev cX0_setPair : ByteArray := prog_2_method_6_code
def yX0_setPair : MethodName := ⟨RX0, "setPai\x72", "(II)V"⟩
abbrev cX0_bit : ByteArray := prog_2_method_7_code
def yX0_bit : MethodName := ⟨RX0, "bit", "(II)I"⟩
abbrev cX0_setBit : ByteArray := prog_2_method_8_code
def yX0_setBit : MethodName := ⟨RX0, "setBit", "(III)V"⟩
abbrev cX0_flag : ByteArray := prog_2_method_9_code
def yX0_flag : MethodName := ⟨RX0, "flag", "(I)I"⟩
abbrev cX0_setFlag : ByteArray := prog_2_method_10_code
def yX0_setFlag : MethodName := ⟨RX0, "setFlag", "(II)V"⟩
abbrev cX0_setFlags : ByteArray := prog_2_method_11_code
def yX0_setFlags : MethodName := ⟨RX0, "setFlags", "(II)V"⟩
abbrev cX0_push : ByteArray := prog_2_method_12_code
def yX0_push : MethodName := ⟨RX0, "push", "(I)V"⟩
abbrev cX0_stacks : ByteArray := prog_2_method_13_code
def yX0_stacks : MethodName := ⟨RX0, "stacks", "(I)Z"⟩
abbrev cX0_pull : ByteArray := prog_2_method_14_code
def yX0_pull : MethodName := ⟨RX0, "pull", "()I"⟩
def RX1 : String := "FlagCore$Flags"
def TX1 : u_T := fun k => match k with
  | _ => ("", "", "", false)
def tyX1 : Nat → FieldType := fun k => match k with
  | _ => .int
abbrev wsX10 : List Cond := u_ws RX1 TX1 0
theorem nmX1 : ∀ a, a < 0 → ∀ b, b < 0 → a ≠ b → (TX1 a).2.1 ≠ (TX1 b).2.1 := by decide +kernel
theorem tyX1_ok : ∀ k, k < 0 → parseFieldDescriptor (TX1 k).2.2.1 = some (tyX1 k) := by decide +kernel
def RX2 : String := "FlagCore$Sums"
def TX2 : u_T := fun k => match k with
  | _ => ("FlagCore$Sums", "bytes", "LFlagCore$Bytes;", true)
def tyX2 : Nat → FieldType := fun k => match k with
  | _ => .object "FlagCore$Bytes"
abbrev wsX20 : List Cond := u_ws RX2 TX2 1
theorem nmX2 : ∀ a, a < 1 → ∀ b, b < 1 → a ≠ b → (TX2 a).2.1 ≠ (TX2 b).2.1 := by decide +kernel
theorem tyX2_ok : ∀ k, k < 1 → parseFieldDescriptor (TX2 k).2.2.1 = some (tyX2 k) := by decide +kernel
abbrev cX2_init : ByteArray := prog_4_method_1_code
def yX2_init : MethodName := ⟨RX2, "<init>", "(LFlagCore$Bytes;)V"⟩
abbrev cX2_sum : ByteArray := prog_4_method_2_code
def yX2_sum : MethodName := ⟨RX2, "sum", "(III)I"⟩
abbrev cX2_difference : ByteArray := prog_4_method_3_code
def yX2_difference : MethodName := ⟨RX2, "difference", "(II)I"⟩
abbrev cX2_differenceOn : ByteArray := prog_4_method_4_code
def yX2_differenceOn : MethodName := ⟨RX2, "differenceOn", "(III)I"⟩
abbrev cX2_subtract : ByteArray := prog_4_method_5_code
def yX2_subtract : MethodName := ⟨RX2, "subtract", "(IIII)I"⟩
abbrev cX2_logic : ByteArray := prog_4_method_6_code
def yX2_logic : MethodName := ⟨RX2, "logic", "(I)I"⟩
abbrev cX2_inverse : ByteArray := prog_4_method_7_code
def yX2_inverse : MethodName := ⟨RX2, "inverse", "(I)I"⟩
abbrev cX2_more : ByteArray := prog_4_method_8_code
def yX2_more : MethodName := ⟨RX2, "more", "(I)I"⟩
abbrev cX2_less : ByteArray := prog_4_method_9_code
def yX2_less : MethodName := ⟨RX2, "less", "(I)I"⟩
abbrev cX2_right : ByteArray := prog_4_method_10_code
def yX2_right : MethodName := ⟨RX2, "right", "(II)I"⟩
abbrev cX2_pairMore : ByteArray := prog_4_method_11_code
def yX2_pairMore : MethodName := ⟨RX2, "pairMore", "(II)I"⟩
abbrev cX2_pairLess : ByteArray := prog_4_method_12_code
def yX2_pairLess : MethodName := ⟨RX2, "pairLess", "(II)I"⟩
abbrev cX2_pairFlags : ByteArray := prog_4_method_13_code
def yX2_pairFlags : MethodName := ⟨RX2, "pairFlags", "(III)V"⟩
abbrev cX2_product : ByteArray := prog_4_method_14_code
def yX2_product : MethodName := ⟨RX2, "product", "(I)V"⟩
abbrev cX2_fraction : ByteArray := prog_4_method_15_code
def yX2_fraction : MethodName := ⟨RX2, "fraction", "(I)V"⟩
abbrev cX2_keepProduct : ByteArray := prog_4_method_16_code
def yX2_keepProduct : MethodName := ⟨RX2, "keepProduct", "(II)V"⟩
abbrev cX2_signs : ByteArray := prog_4_method_17_code
def yX2_signs : MethodName := ⟨RX2, "signs", "(IZ)I"⟩
def RX3 : String := "FlagCore$Words"
def TX3 : u_T := fun k => match k with
  | _ => ("", "", "", false)
def tyX3 : Nat → FieldType := fun k => match k with
  | _ => .int
abbrev wsX30 : List Cond := u_ws RX3 TX3 0
theorem nmX3 : ∀ a, a < 0 → ∀ b, b < 0 → a ≠ b → (TX3 a).2.1 ≠ (TX3 b).2.1 := by decide +kernel
theorem tyX3_ok : ∀ k, k < 0 → parseFieldDescriptor (TX3 k).2.2.1 = some (tyX3 k) := by decide +kernel
abbrev cX3_d : ByteArray := prog_5_method_2_code
def yX3_d : MethodName := ⟨RX3, "d", "(I)I"⟩
abbrev cX3_r : ByteArray := prog_5_method_3_code
def yX3_r : MethodName := ⟨RX3, "\x72", "(I)I"⟩
abbrev cX3_pointer : ByteArray := prog_5_method_4_code
def yX3_pointer : MethodName := ⟨RX3, "pointe\x72", "(I)I"⟩
abbrev cX3_hasNext : ByteArray := prog_5_method_5_code
def yX3_hasNext : MethodName := ⟨RX3, "hasNext", "(I)Z"⟩
abbrev cX3_groupOf : ByteArray := prog_5_method_6_code
def yX3_groupOf : MethodName := ⟨RX3, "groupOf", "(I)I"⟩
abbrev cX3_lowGroupOf : ByteArray := prog_5_method_7_code
def yX3_lowGroupOf : MethodName := ⟨RX3, "lowGroupOf", "(I)I"⟩
abbrev cX3_mixedGroupOf : ByteArray := prog_5_method_8_code
def yX3_mixedGroupOf : MethodName := ⟨RX3, "mixedGroupOf", "(I)I"⟩
abbrev cX3_memoryGroupOf : ByteArray := prog_5_method_9_code
def yX3_memoryGroupOf : MethodName := ⟨RX3, "memoryGroupOf", "(I)I"⟩
abbrev cX3_isOneOf : ByteArray := prog_5_method_10_code
def yX3_isOneOf : MethodName := ⟨RX3, "isOneOf", "(II)Z"⟩
abbrev cX3_singleGroupOf : ByteArray := prog_5_method_11_code
def yX3_singleGroupOf : MethodName := ⟨RX3, "singleGroupOf", "(I)I"⟩
abbrev cX3_flagGroupOf : ByteArray := prog_5_method_12_code
def yX3_flagGroupOf : MethodName := ⟨RX3, "flagGroupOf", "(I)I"⟩
abbrev cX3_highGroupOf : ByteArray := prog_5_method_13_code
def yX3_highGroupOf : MethodName := ⟨RX3, "highGroupOf", "(I)I"⟩
def RX4 : String := "FlagCore"
def TX4 : u_T := fun k => match k with
  | 0 => ("FlagCore", "cells", "[I", true)
  | 1 => ("FlagCore", "bytes", "LFlagCore$Bytes;", true)
  | 2 => ("FlagCore", "sums", "LFlagCore$Sums;", true)
  | 3 => ("FlagCore", "tallies", "[I", true)
  | 4 => ("FlagCore", "pc", "I", false)
  | 5 => ("FlagCore", "asked", "I", false)
  | 6 => ("FlagCore", "latest", "I", false)
  | _ => ("FlagCore", "waiting", "Z", false)
def tyX4 : Nat → FieldType := fun k => match k with
  | 0 => .array .int
  | 1 => .object "FlagCore$Bytes"
  | 2 => .object "FlagCore$Sums"
  | 3 => .array .int
  | 4 => .int
  | 5 => .int
  | 6 => .int
  | _ => .boolean
abbrev wsX40 : List Cond := u_ws RX4 TX4 8
theorem nmX4 : ∀ a, a < 8 → ∀ b, b < 8 → a ≠ b → (TX4 a).2.1 ≠ (TX4 b).2.1 := by decide +kernel
theorem tyX4_ok : ∀ k, k < 8 → parseFieldDescriptor (TX4 k).2.2.1 = some (tyX4 k) := by decide +kernel
abbrev cX4_init : ByteArray := prog_1_method_1_code
def yX4_init : MethodName := ⟨RX4, "<init>", "()V"⟩
abbrev cX4_code : ByteArray := prog_1_method_2_code
def yX4_code : MethodName := ⟨RX4, "code", "(II)I"⟩
abbrev cX4_load : ByteArray := prog_1_method_3_code
def yX4_load : MethodName := ⟨RX4, "load", "(IJ)I"⟩
abbrev cX4_word : ByteArray := prog_1_method_4_code
def yX4_word : MethodName := ⟨RX4, "word", "(I)I"⟩
abbrev cX4_put : ByteArray := prog_1_method_5_code
def yX4_put : MethodName := ⟨RX4, "put", "(II)I"⟩
abbrev cX4_data : ByteArray := prog_1_method_6_code
def yX4_data : MethodName := ⟨RX4, "data", "(I)I"⟩
abbrev cX4_told : ByteArray := prog_1_method_7_code
def yX4_told : MethodName := ⟨RX4, "told", "(I)I"⟩
abbrev cX4_go : ByteArray := prog_1_method_8_code
def yX4_go : MethodName := ⟨RX4, "go", "(I)I"⟩
abbrev cX4_ask : ByteArray := prog_1_method_9_code
def yX4_ask : MethodName := ⟨RX4, "ask", "(I)I"⟩
abbrev cX4_step : ByteArray := prog_1_method_10_code
def yX4_step : MethodName := ⟨RX4, "step", "()I"⟩
abbrev cX4_run : ByteArray := prog_1_method_11_code
def yX4_run : MethodName := ⟨RX4, "run", "(I)I"⟩
abbrev cX4_ended : ByteArray := prog_1_method_12_code
def yX4_ended : MethodName := ⟨RX4, "ended", "()I"⟩
abbrev cX4_reads : ByteArray := prog_1_method_13_code
def yX4_reads : MethodName := ⟨RX4, "reads", "(II)I"⟩
abbrev cX4_digest : ByteArray := prog_1_method_14_code
def yX4_digest : MethodName := ⟨RX4, "digest", "()I"⟩
abbrev cX4_count : ByteArray := prog_1_method_15_code
def yX4_count : MethodName := ⟨RX4, "count", "(I)I"⟩
abbrev cX4_within : ByteArray := prog_1_method_16_code
def yX4_within : MethodName := ⟨RX4, "within", "(II)Z"⟩
abbrev cX4_cellAt : ByteArray := prog_1_method_17_code
def yX4_cellAt : MethodName := ⟨RX4, "cellAt", "(I)I"⟩
abbrev cX4_advance : ByteArray := prog_1_method_18_code
def yX4_advance : MethodName := ⟨RX4, "advance", "()I"⟩
abbrev cX4_enterLeast : ByteArray := prog_1_method_19_code
def yX4_enterLeast : MethodName := ⟨RX4, "enterLeast", "()I"⟩
abbrev cX4_perform : ByteArray := prog_1_method_20_code
def yX4_perform : MethodName := ⟨RX4, "perform", "(I)I"⟩
abbrev cX4_onward : ByteArray := prog_1_method_21_code
def yX4_onward : MethodName := ⟨RX4, "onward", "(I)I"⟩
abbrev cX4_jumpTo : ByteArray := prog_1_method_22_code
def yX4_jumpTo : MethodName := ⟨RX4, "jumpTo", "(I)I"⟩
abbrev cX4_callTo : ByteArray := prog_1_method_23_code
def yX4_callTo : MethodName := ⟨RX4, "callTo", "(II)I"⟩
abbrev cX4_skip : ByteArray := prog_1_method_24_code
def yX4_skip : MethodName := ⟨RX4, "skip", "(Z)I"⟩
abbrev cX4_movePair : ByteArray := prog_1_method_25_code
def yX4_movePair : MethodName := ⟨RX4, "movePai\x72", "(I)I"⟩
abbrev cX4_multiply : ByteArray := prog_1_method_26_code
def yX4_multiply : MethodName := ⟨RX4, "multiply", "(I)I"⟩
abbrev cX4_multiplyFew : ByteArray := prog_1_method_27_code
def yX4_multiplyFew : MethodName := ⟨RX4, "multiplyFew", "(III)V"⟩
abbrev cX4_combine : ByteArray := prog_1_method_28_code
def yX4_combine : MethodName := ⟨RX4, "combine", "(I)I"⟩
abbrev cX4_combineWithNumber : ByteArray := prog_1_method_29_code
def yX4_combineWithNumber : MethodName := ⟨RX4, "combineWithNumbe\x72", "(I)I"⟩
abbrev cX4_change : ByteArray := prog_1_method_30_code
def yX4_change : MethodName := ⟨RX4, "change", "(I)I"⟩
abbrev cX4_setFlag : ByteArray := prog_1_method_31_code
def yX4_setFlag : MethodName := ⟨RX4, "setFlag", "(I)I"⟩
abbrev cX4_changePair : ByteArray := prog_1_method_32_code
def yX4_changePair : MethodName := ⟨RX4, "changePai\x72", "(I)I"⟩
abbrev cX4_transfer : ByteArray := prog_1_method_33_code
def yX4_transfer : MethodName := ⟨RX4, "transfe\x72", "(II)V"⟩
abbrev cX4_moveAtNext : ByteArray := prog_1_method_34_code
def yX4_moveAtNext : MethodName := ⟨RX4, "moveAtNext", "(I)I"⟩
abbrev cX4_movePointed : ByteArray := prog_1_method_35_code
def yX4_movePointed : MethodName := ⟨RX4, "movePointed", "(I)I"⟩
abbrev cX4_moveStacked : ByteArray := prog_1_method_36_code
def yX4_moveStacked : MethodName := ⟨RX4, "moveStacked", "(I)I"⟩
abbrev cX4_moveBeside : ByteArray := prog_1_method_37_code
def yX4_moveBeside : MethodName := ⟨RX4, "moveBeside", "(I)I"⟩
abbrev cX4_moveFromCode : ByteArray := prog_1_method_38_code
def yX4_moveFromCode : MethodName := ⟨RX4, "moveFromCode", "(I)I"⟩
abbrev cX4_movePort : ByteArray := prog_1_method_39_code
def yX4_movePort : MethodName := ⟨RX4, "movePort", "(I)I"⟩
abbrev cX4_setPortBit : ByteArray := prog_1_method_40_code
def yX4_setPortBit : MethodName := ⟨RX4, "setPortBit", "(I)I"⟩
abbrev cX4_skipByPort : ByteArray := prog_1_method_41_code
def yX4_skipByPort : MethodName := ⟨RX4, "skipByPort", "(I)I"⟩
abbrev cX4_skipByBit : ByteArray := prog_1_method_42_code
def yX4_skipByBit : MethodName := ⟨RX4, "skipByBit", "(I)I"⟩
abbrev cX4_moveBit : ByteArray := prog_1_method_43_code
def yX4_moveBit : MethodName := ⟨RX4, "moveBit", "(I)I"⟩
abbrev cX4_jumpNear : ByteArray := prog_1_method_44_code
def yX4_jumpNear : MethodName := ⟨RX4, "jumpNea\x72", "(I)I"⟩
abbrev cX4_branch : ByteArray := prog_1_method_45_code
def yX4_branch : MethodName := ⟨RX4, "branch", "(I)I"⟩
abbrev cX4_jumpFar : ByteArray := prog_1_method_46_code
def yX4_jumpFar : MethodName := ⟨RX4, "jumpFa\x72", "(I)I"⟩
abbrev cX4_jumpToZ : ByteArray := prog_1_method_47_code
def yX4_jumpToZ : MethodName := ⟨RX4, "jumpToZ", "(I)I"⟩
abbrev cX4_comeBack : ByteArray := prog_1_method_48_code
def yX4_comeBack : MethodName := ⟨RX4, "comeBack", "(I)I"⟩
def RX5 : String := "FlagCoreModel"
def TX5 : u_T := fun k => match k with
  | 0 => ("FlagCoreModel", "code", "[I", true)
  | 1 => ("FlagCoreModel", "data", "[I", true)
  | 2 => ("FlagCoreModel", "pc", "I", false)
  | 3 => ("FlagCoreModel", "isWaited", "Z", false)
  | 4 => ("FlagCoreModel", "asked", "I", false)
  | 5 => ("FlagCoreModel", "ended", "I", false)
  | 6 => ("FlagCoreModel", "count", "[I", true)
  | _ => ("FlagCoreModel", "next", "I", false)
def tyX5 : Nat → FieldType := fun k => match k with
  | 0 => .array .int
  | 1 => .array .int
  | 2 => .int
  | 3 => .boolean
  | 4 => .int
  | 5 => .int
  | 6 => .array .int
  | _ => .int
abbrev wsX50 : List Cond := u_ws RX5 TX5 8
theorem nmX5 : ∀ a, a < 8 → ∀ b, b < 8 → a ≠ b → (TX5 a).2.1 ≠ (TX5 b).2.1 := by decide +kernel
theorem tyX5_ok : ∀ k, k < 8 → parseFieldDescriptor (TX5 k).2.2.1 = some (tyX5 k) := by decide +kernel
abbrev cX5_init : ByteArray := prog_7_method_1_code
def yX5_init : MethodName := ⟨RX5, "<init>", "()V"⟩
abbrev cX5_in : ByteArray := prog_7_method_3_code
def yX5_in : MethodName := ⟨RX5, "in", "(III)Z"⟩
abbrev cX5_code : ByteArray := prog_7_method_4_code
def yX5_code : MethodName := ⟨RX5, "code", "(II)I"⟩
abbrev cX5_load : ByteArray := prog_7_method_5_code
def yX5_load : MethodName := ⟨RX5, "load", "(IJ)I"⟩
abbrev cX5_word : ByteArray := prog_7_method_6_code
def yX5_word : MethodName := ⟨RX5, "word", "(I)I"⟩
abbrev cX5_put : ByteArray := prog_7_method_7_code
def yX5_put : MethodName := ⟨RX5, "put", "(II)I"⟩
abbrev cX5_data : ByteArray := prog_7_method_8_code
def yX5_data : MethodName := ⟨RX5, "data", "(I)I"⟩
abbrev cX5_pair : ByteArray := prog_7_method_9_code
def yX5_pair : MethodName := ⟨RX5, "pai\x72", "(I)I"⟩
abbrev cX5_setPair : ByteArray := prog_7_method_10_code
def yX5_setPair : MethodName := ⟨RX5, "setPai\x72", "(II)V"⟩
abbrev cX5_told : ByteArray := prog_7_method_11_code
def yX5_told : MethodName := ⟨RX5, "told", "(I)I"⟩
abbrev cX5_go : ByteArray := prog_7_method_12_code
def yX5_go : MethodName := ⟨RX5, "go", "(I)I"⟩
abbrev cX5_ask : ByteArray := prog_7_method_13_code
def yX5_ask : MethodName := ⟨RX5, "ask", "(I)I"⟩
abbrev cX5_isMemory : ByteArray := prog_7_method_14_code
def yX5_isMemory : MethodName := ⟨RX5, "isMemory", "(I)Z"⟩
abbrev cX5_isOne : ByteArray := prog_7_method_15_code
def yX5_isOne : MethodName := ⟨RX5, "isOne", "(I)Z"⟩
abbrev cX5_hasNext : ByteArray := prog_7_method_16_code
def yX5_hasNext : MethodName := ⟨RX5, "hasNext", "(I)Z"⟩
abbrev cX5_dOf : ByteArray := prog_7_method_17_code
def yX5_dOf : MethodName := ⟨RX5, "dOf", "(I)I"⟩
abbrev cX5_changes : ByteArray := prog_7_method_18_code
def yX5_changes : MethodName := ⟨RX5, "changes", "(I)I"⟩
abbrev cX5_isBadMemory : ByteArray := prog_7_method_19_code
def yX5_isBadMemory : MethodName := ⟨RX5, "isBadMemory", "(I)Z"⟩
abbrev cX5_isBadOne : ByteArray := prog_7_method_20_code
def yX5_isBadOne : MethodName := ⟨RX5, "isBadOne", "(I)Z"⟩
abbrev cX5_isIllegal : ByteArray := prog_7_method_21_code
def yX5_isIllegal : MethodName := ⟨RX5, "isIllegal", "(I)Z"⟩
abbrev cX5_reads : ByteArray := prog_7_method_22_code
def yX5_reads : MethodName := ⟨RX5, "reads", "(II)I"⟩
abbrev cX5_has : ByteArray := prog_7_method_23_code
def yX5_has : MethodName := ⟨RX5, "has", "(I)Z"⟩
abbrev cX5_flag : ByteArray := prog_7_method_24_code
def yX5_flag : MethodName := ⟨RX5, "flag", "(IZ)V"⟩
abbrev cX5_signs : ByteArray := prog_7_method_25_code
def yX5_signs : MethodName := ⟨RX5, "signs", "(IZ)V"⟩
abbrev cX5_add : ByteArray := prog_7_method_26_code
def yX5_add : MethodName := ⟨RX5, "add", "(III)I"⟩
abbrev cX5_subtract : ByteArray := prog_7_method_27_code
def yX5_subtract : MethodName := ⟨RX5, "subtract", "(IIIZ)I"⟩
abbrev cX5_logic : ByteArray := prog_7_method_28_code
def yX5_logic : MethodName := ⟨RX5, "logic", "(I)I"⟩
abbrev cX5_carry : ByteArray := prog_7_method_29_code
def yX5_carry : MethodName := ⟨RX5, "carry", "()I"⟩
abbrev cX5_skips : ByteArray := prog_7_method_30_code
def yX5_skips : MethodName := ⟨RX5, "skips", "(Z)V"⟩
abbrev cX5_ofTwo : ByteArray := prog_7_method_31_code
def yX5_ofTwo : MethodName := ⟨RX5, "ofTwo", "(I)V"⟩
abbrev cX5_ofNumber : ByteArray := prog_7_method_32_code
def yX5_ofNumber : MethodName := ⟨RX5, "ofNumbe\x72", "(I)V"⟩
abbrev cX5_signed : ByteArray := prog_7_method_33_code
def yX5_signed : MethodName := ⟨RX5, "signed", "(I)I"⟩
abbrev cX5_product : ByteArray := prog_7_method_34_code
def yX5_product : MethodName := ⟨RX5, "product", "(IZ)V"⟩
abbrev cX5_products : ByteArray := prog_7_method_35_code
def yX5_products : MethodName := ⟨RX5, "products", "(I)V"⟩
abbrev cX5_right : ByteArray := prog_7_method_36_code
def yX5_right : MethodName := ⟨RX5, "right", "(II)I"⟩
abbrev cX5_ofOne : ByteArray := prog_7_method_37_code
def yX5_ofOne : MethodName := ⟨RX5, "ofOne", "(I)V"⟩
abbrev cX5_ofPair : ByteArray := prog_7_method_38_code
def yX5_ofPair : MethodName := ⟨RX5, "ofPai\x72", "(I)V"⟩
abbrev cX5_isFar : ByteArray := prog_7_method_39_code
def yX5_isFar : MethodName := ⟨RX5, "isFa\x72", "(I)Z"⟩
abbrev cX5_pushes : ByteArray := prog_7_method_40_code
def yX5_pushes : MethodName := ⟨RX5, "pushes", "(I)V"⟩
abbrev cX5_pops : ByteArray := prog_7_method_41_code
def yX5_pops : MethodName := ⟨RX5, "pops", "()I"⟩
abbrev cX5_canCall : ByteArray := prog_7_method_42_code
def yX5_canCall : MethodName := ⟨RX5, "canCall", "()Z"⟩
abbrev cX5_calls : ByteArray := prog_7_method_43_code
def yX5_calls : MethodName := ⟨RX5, "calls", "(II)V"⟩
abbrev cX5_codeByte : ByteArray := prog_7_method_44_code
def yX5_codeByte : MethodName := ⟨RX5, "codeByte", "(I)I"⟩
abbrev cX5_ofStack : ByteArray := prog_7_method_45_code
def yX5_ofStack : MethodName := ⟨RX5, "ofStack", "(I)I"⟩
abbrev cX5_moves : ByteArray := prog_7_method_46_code
def yX5_moves : MethodName := ⟨RX5, "moves", "(IIZ)I"⟩
abbrev cX5_ofMemory : ByteArray := prog_7_method_47_code
def yX5_ofMemory : MethodName := ⟨RX5, "ofMemory", "(I)I"⟩
abbrev cX5_ofPlaces : ByteArray := prog_7_method_48_code
def yX5_ofPlaces : MethodName := ⟨RX5, "ofPlaces", "(I)I"⟩
abbrev cX5_ofPort : ByteArray := prog_7_method_49_code
def yX5_ofPort : MethodName := ⟨RX5, "ofPort", "(I)V"⟩
abbrev cX5_ofPortBit : ByteArray := prog_7_method_50_code
def yX5_ofPortBit : MethodName := ⟨RX5, "ofPortBit", "(I)V"⟩
abbrev cX5_ofBit : ByteArray := prog_7_method_51_code
def yX5_ofBit : MethodName := ⟨RX5, "ofBit", "(I)V"⟩
abbrev cX5_jumps : ByteArray := prog_7_method_52_code
def yX5_jumps : MethodName := ⟨RX5, "jumps", "(IIZ)I"⟩
abbrev cX5_returns : ByteArray := prog_7_method_53_code
def yX5_returns : MethodName := ⟨RX5, "returns", "(I)I"⟩
abbrev cX5_ofOthers : ByteArray := prog_7_method_54_code
def yX5_ofOthers : MethodName := ⟨RX5, "ofOthers", "(I)I"⟩
abbrev cX5_ofNine : ByteArray := prog_7_method_55_code
def yX5_ofNine : MethodName := ⟨RX5, "ofNine", "(I)I"⟩
abbrev cX5_ofFifteen : ByteArray := prog_7_method_56_code
def yX5_ofFifteen : MethodName := ⟨RX5, "ofFifteen", "(I)I"⟩
abbrev cX5_does : ByteArray := prog_7_method_57_code
def yX5_does : MethodName := ⟨RX5, "does", "(I)I"⟩
abbrev cX5_enters : ByteArray := prog_7_method_58_code
def yX5_enters : MethodName := ⟨RX5, "enters", "()I"⟩
abbrev cX5_stepOnce : ByteArray := prog_7_method_59_code
def yX5_stepOnce : MethodName := ⟨RX5, "stepOnce", "()I"⟩
abbrev cX5_step : ByteArray := prog_7_method_60_code
def yX5_step : MethodName := ⟨RX5, "step", "()I"⟩
abbrev cX5_run : ByteArray := prog_7_method_61_code
def yX5_run : MethodName := ⟨RX5, "run", "(I)I"⟩
abbrev cX5_ended : ByteArray := prog_7_method_62_code
def yX5_ended : MethodName := ⟨RX5, "ended", "()I"⟩
abbrev cX5_digest : ByteArray := prog_7_method_63_code
def yX5_digest : MethodName := ⟨RX5, "digest", "()I"⟩
abbrev cX5_count : ByteArray := prog_7_method_64_code
def yX5_count : MethodName := ⟨RX5, "count", "(I)I"⟩
def RJ6 : String := "java/lang/Intege\x72"
def TJ6 : u_T := fun k => match k with
  | _ => ("", "", "", false)
def tyJ6 : Nat → FieldType := fun k => match k with
  | _ => .int
abbrev wsJ60 : List Cond := u_ws RJ6 TJ6 0
theorem nmJ6 : ∀ a, a < 0 → ∀ b, b < 0 → a ≠ b → (TJ6 a).2.1 ≠ (TJ6 b).2.1 := by decide +kernel
theorem tyJ6_ok : ∀ k, k < 0 → parseFieldDescriptor (TJ6 k).2.2.1 = some (tyJ6 k) := by decide +kernel
abbrev cJ6_numberOfTrailingZeros_0f7a4 : ByteArray := prog_8_method_48_code
def yJ6_numberOfTrailingZeros_0f7a4 : MethodName := ⟨RJ6, "numberOfTrailingZeros", "(I)I"⟩
def RL : String := "FlagCoreLaw"
abbrev cL_law : ByteArray := code
def yL_law : MethodName := ⟨RL, "law", "([I)Z"⟩
def wsX0_init : List Cond := .code yX0_init cX0_init 1 none :: ([.methodLink RX0 3 objectInit, .instanceMethod objectInit, .code objectInit ⟨#[0xb1]⟩ 1 none, .arrayClass .int, .fieldLink RX0 9 "FlagCore$Bytes" "row" "[I"] ++ wsX00)
def wsX0_get : List Cond := .code yX0_get cX0_get 2 (some .int) :: ([.fieldLink RX0 9 "FlagCore$Bytes" "row" "[I"] ++ wsX00)
def wsX0_set : List Cond := .code yX0_set cX0_set 3 none :: ([.fieldLink RX0 9 "FlagCore$Bytes" "row" "[I"] ++ wsX00)
def wsX0_signed : List Cond := .code yX0_signed cX0_signed 2 (some .int) :: ([.fieldLink RX0 9 "FlagCore$Bytes" "row" "[I"] ++ wsX00)
def wsX0_pair : List Cond := .code yX0_pair cX0_pair 2 (some .int) :: ([.fieldLink RX0 9 "FlagCore$Bytes" "row" "[I"] ++ wsX00)
def wsX0_setPair : List Cond := .code yX0_setPair cX0_setPair 3 none :: ([.fieldLink RX0 9 "FlagCore$Bytes" "row" "[I"] ++ wsX00)
def wsX0_bit : List Cond := .code yX0_bit cX0_bit 3 (some .int) :: ([.fieldLink RX0 9 "FlagCore$Bytes" "row" "[I"] ++ wsX00)
def wsX0_setBit : List Cond := .code yX0_setBit cX0_setBit 4 none :: ([.methodLink RX0 15 yX0_get, .instanceMethod yX0_get, .selects RX0 yX0_get yX0_get, .initialized RX0, .code yX0_get cX0_get 2 (some .int), .fieldLink RX0 9 "FlagCore$Bytes" "row" "[I", .methodLink RX0 19 yX0_set, .instanceMethod yX0_set, .selects RX0 yX0_set yX0_set, .code yX0_set cX0_set 3 none] ++ wsX00)
def wsX0_flag : List Cond := .code yX0_flag cX0_flag 2 (some .int) :: ([.fieldLink RX0 9 "FlagCore$Bytes" "row" "[I"] ++ wsX00)
def wsX0_setFlag : List Cond := .code yX0_setFlag cX0_setFlag 3 none :: ([.methodLink RX0 23 yX0_setBit, .instanceMethod yX0_setBit, .selects RX0 yX0_setBit yX0_setBit, .initialized RX0, .code yX0_setBit cX0_setBit 4 none, .methodLink RX0 15 yX0_get, .instanceMethod yX0_get, .selects RX0 yX0_get yX0_get, .code yX0_get cX0_get 2 (some .int), .fieldLink RX0 9 "FlagCore$Bytes" "row" "[I", .methodLink RX0 19 yX0_set, .instanceMethod yX0_set, .selects RX0 yX0_set yX0_set, .code yX0_set cX0_set 3 none] ++ wsX00)
def wsX0_setFlags : List Cond := .code yX0_setFlags cX0_setFlags 3 none :: ([.fieldLink RX0 9 "FlagCore$Bytes" "row" "[I"] ++ wsX00)
def wsX0_push : List Cond := .code yX0_push cX0_push 3 none :: ([.methodLink RX0 27 yX0_pair, .instanceMethod yX0_pair, .selects RX0 yX0_pair yX0_pair, .initialized RX0, .code yX0_pair cX0_pair 2 (some .int), .fieldLink RX0 9 "FlagCore$Bytes" "row" "[I", .methodLink RX0 19 yX0_set, .instanceMethod yX0_set, .selects RX0 yX0_set yX0_set, .code yX0_set cX0_set 3 none, .methodLink RX0 30 yX0_setPair, .instanceMethod yX0_setPair, .selects RX0 yX0_setPair yX0_setPair, .code yX0_setPair cX0_setPair 3 none] ++ wsX00)
def wsX0_stacks : List Cond := .code yX0_stacks cX0_stacks 3 (some .boolean) :: ([.methodLink RX0 27 yX0_pair, .instanceMethod yX0_pair, .selects RX0 yX0_pair yX0_pair, .initialized RX0, .code yX0_pair cX0_pair 2 (some .int), .fieldLink RX0 9 "FlagCore$Bytes" "row" "[I", .methodLink RX0 19 yX0_set, .instanceMethod yX0_set, .selects RX0 yX0_set yX0_set, .code yX0_set cX0_set 3 none, .methodLink RX0 30 yX0_setPair, .instanceMethod yX0_setPair, .selects RX0 yX0_setPair yX0_setPair, .code yX0_setPair cX0_setPair 3 none] ++ wsX00)
def wsX0_pull : List Cond := .code yX0_pull cX0_pull 2 (some .int) :: ([.methodLink RX0 27 yX0_pair, .instanceMethod yX0_pair, .selects RX0 yX0_pair yX0_pair, .initialized RX0, .code yX0_pair cX0_pair 2 (some .int), .fieldLink RX0 9 "FlagCore$Bytes" "row" "[I", .methodLink RX0 30 yX0_setPair, .instanceMethod yX0_setPair, .selects RX0 yX0_setPair yX0_setPair, .code yX0_setPair cX0_setPair 3 none, .methodLink RX0 15 yX0_get, .instanceMethod yX0_get, .selects RX0 yX0_get yX0_get, .code yX0_get cX0_get 2 (some .int)] ++ wsX00)
def wsX2_init : List Cond := .code yX2_init cX2_init 2 none :: ([.methodLink RX2 7 objectInit, .instanceMethod objectInit, .code objectInit ⟨#[0xb1]⟩ 1 none, .fieldLink RX2 13 "FlagCore$Sums" "bytes" "LFlagCore$Bytes;"] ++ wsX20)
def wsX2_signs : List Cond := .code yX2_signs cX2_signs 4 (some .int) :: ([])
def wsX2_sum : List Cond := .code yX2_sum cX2_sum 8 (some .int) :: ([.fieldLink RX2 13 "FlagCore$Sums" "bytes" "LFlagCore$Bytes;", .methodLink RX2 17 yX2_signs, .static yX2_signs, .initialized RX2, .code yX2_signs cX2_signs 4 (some .int), .methodLink RX2 21 yX0_setFlags, .instanceMethod yX0_setFlags, .selects RX0 yX0_setFlags yX0_setFlags, .initialized RX0, .code yX0_setFlags cX0_setFlags 3 none, .fieldLink RX0 9 "FlagCore$Bytes" "row" "[I"] ++ wsX20 ++ wsX00)
def wsX2_subtract : List Cond := .code yX2_subtract cX2_subtract 9 (some .int) :: ([.fieldLink RX2 13 "FlagCore$Sums" "bytes" "LFlagCore$Bytes;", .methodLink RX2 17 yX2_signs, .static yX2_signs, .initialized RX2, .code yX2_signs cX2_signs 4 (some .int), .methodLink RX2 21 yX0_setFlags, .instanceMethod yX0_setFlags, .selects RX0 yX0_setFlags yX0_setFlags, .initialized RX0, .code yX0_setFlags cX0_setFlags 3 none, .fieldLink RX0 9 "FlagCore$Bytes" "row" "[I"] ++ wsX20 ++ wsX00)
def wsX2_difference : List Cond := .code yX2_difference cX2_difference 3 (some .int) :: ([.methodLink RX2 27 yX2_subtract, .instanceMethod yX2_subtract, .selects RX2 yX2_subtract yX2_subtract, .initialized RX2, .code yX2_subtract cX2_subtract 9 (some .int), .fieldLink RX2 13 "FlagCore$Sums" "bytes" "LFlagCore$Bytes;", .methodLink RX2 17 yX2_signs, .static yX2_signs, .code yX2_signs cX2_signs 4 (some .int), .methodLink RX2 21 yX0_setFlags, .instanceMethod yX0_setFlags, .selects RX0 yX0_setFlags yX0_setFlags, .initialized RX0, .code yX0_setFlags cX0_setFlags 3 none, .fieldLink RX0 9 "FlagCore$Bytes" "row" "[I"] ++ wsX20 ++ wsX00)
def wsX2_differenceOn : List Cond := .code yX2_differenceOn cX2_differenceOn 5 (some .int) :: ([.fieldLink RX2 13 "FlagCore$Sums" "bytes" "LFlagCore$Bytes;", .methodLink RX2 31 yX0_flag, .instanceMethod yX0_flag, .selects RX0 yX0_flag yX0_flag, .initialized RX0, .code yX0_flag cX0_flag 2 (some .int), .fieldLink RX0 9 "FlagCore$Bytes" "row" "[I", .methodLink RX2 27 yX2_subtract, .instanceMethod yX2_subtract, .selects RX2 yX2_subtract yX2_subtract, .initialized RX2, .code yX2_subtract cX2_subtract 9 (some .int), .methodLink RX2 17 yX2_signs, .static yX2_signs, .code yX2_signs cX2_signs 4 (some .int), .methodLink RX2 21 yX0_setFlags, .instanceMethod yX0_setFlags, .selects RX0 yX0_setFlags yX0_setFlags, .code yX0_setFlags cX0_setFlags 3 none] ++ wsX20 ++ wsX00)
def wsX2_logic : List Cond := .code yX2_logic cX2_logic 2 (some .int) :: ([.fieldLink RX2 13 "FlagCore$Sums" "bytes" "LFlagCore$Bytes;", .methodLink RX2 17 yX2_signs, .static yX2_signs, .initialized RX2, .code yX2_signs cX2_signs 4 (some .int), .methodLink RX2 21 yX0_setFlags, .instanceMethod yX0_setFlags, .selects RX0 yX0_setFlags yX0_setFlags, .initialized RX0, .code yX0_setFlags cX0_setFlags 3 none, .fieldLink RX0 9 "FlagCore$Bytes" "row" "[I"] ++ wsX20 ++ wsX00)
def wsX2_inverse : List Cond := .code yX2_inverse cX2_inverse 3 (some .int) :: ([.fieldLink RX2 13 "FlagCore$Sums" "bytes" "LFlagCore$Bytes;", .methodLink RX2 17 yX2_signs, .static yX2_signs, .initialized RX2, .code yX2_signs cX2_signs 4 (some .int), .methodLink RX2 21 yX0_setFlags, .instanceMethod yX0_setFlags, .selects RX0 yX0_setFlags yX0_setFlags, .initialized RX0, .code yX0_setFlags cX0_setFlags 3 none, .fieldLink RX0 9 "FlagCore$Bytes" "row" "[I"] ++ wsX20 ++ wsX00)
def wsX2_more : List Cond := .code yX2_more cX2_more 3 (some .int) :: ([.fieldLink RX2 13 "FlagCore$Sums" "bytes" "LFlagCore$Bytes;", .methodLink RX2 17 yX2_signs, .static yX2_signs, .initialized RX2, .code yX2_signs cX2_signs 4 (some .int), .methodLink RX2 21 yX0_setFlags, .instanceMethod yX0_setFlags, .selects RX0 yX0_setFlags yX0_setFlags, .initialized RX0, .code yX0_setFlags cX0_setFlags 3 none, .fieldLink RX0 9 "FlagCore$Bytes" "row" "[I"] ++ wsX20 ++ wsX00)
def wsX2_less : List Cond := .code yX2_less cX2_less 3 (some .int) :: ([.fieldLink RX2 13 "FlagCore$Sums" "bytes" "LFlagCore$Bytes;", .methodLink RX2 17 yX2_signs, .static yX2_signs, .initialized RX2, .code yX2_signs cX2_signs 4 (some .int), .methodLink RX2 21 yX0_setFlags, .instanceMethod yX0_setFlags, .selects RX0 yX0_setFlags yX0_setFlags, .initialized RX0, .code yX0_setFlags cX0_setFlags 3 none, .fieldLink RX0 9 "FlagCore$Bytes" "row" "[I"] ++ wsX20 ++ wsX00)
def wsX2_right : List Cond := .code yX2_right cX2_right 5 (some .int) :: ([.fieldLink RX2 13 "FlagCore$Sums" "bytes" "LFlagCore$Bytes;", .methodLink RX2 17 yX2_signs, .static yX2_signs, .initialized RX2, .code yX2_signs cX2_signs 4 (some .int), .methodLink RX2 21 yX0_setFlags, .instanceMethod yX0_setFlags, .selects RX0 yX0_setFlags yX0_setFlags, .initialized RX0, .code yX0_setFlags cX0_setFlags 3 none, .fieldLink RX0 9 "FlagCore$Bytes" "row" "[I"] ++ wsX20 ++ wsX00)
def wsX2_pairFlags : List Cond := .code yX2_pairFlags cX2_pairFlags 5 none :: ([.constant RX2 40 (32768), .fieldLink RX2 13 "FlagCore$Sums" "bytes" "LFlagCore$Bytes;", .methodLink RX2 17 yX2_signs, .static yX2_signs, .initialized RX2, .code yX2_signs cX2_signs 4 (some .int), .methodLink RX2 21 yX0_setFlags, .instanceMethod yX0_setFlags, .selects RX0 yX0_setFlags yX0_setFlags, .initialized RX0, .code yX0_setFlags cX0_setFlags 3 none, .fieldLink RX0 9 "FlagCore$Bytes" "row" "[I"] ++ wsX20 ++ wsX00)
def wsX2_pairMore : List Cond := .code yX2_pairMore cX2_pairMore 4 (some .int) :: ([.constant RX2 35 (65535), .methodLink RX2 36 yX2_pairFlags, .instanceMethod yX2_pairFlags, .selects RX2 yX2_pairFlags yX2_pairFlags, .initialized RX2, .code yX2_pairFlags cX2_pairFlags 5 none, .constant RX2 40 (32768), .fieldLink RX2 13 "FlagCore$Sums" "bytes" "LFlagCore$Bytes;", .methodLink RX2 17 yX2_signs, .static yX2_signs, .code yX2_signs cX2_signs 4 (some .int), .methodLink RX2 21 yX0_setFlags, .instanceMethod yX0_setFlags, .selects RX0 yX0_setFlags yX0_setFlags, .initialized RX0, .code yX0_setFlags cX0_setFlags 3 none, .fieldLink RX0 9 "FlagCore$Bytes" "row" "[I"] ++ wsX20 ++ wsX00)
def wsX2_pairLess : List Cond := .code yX2_pairLess cX2_pairLess 4 (some .int) :: ([.constant RX2 35 (65535), .methodLink RX2 36 yX2_pairFlags, .instanceMethod yX2_pairFlags, .selects RX2 yX2_pairFlags yX2_pairFlags, .initialized RX2, .code yX2_pairFlags cX2_pairFlags 5 none, .constant RX2 40 (32768), .fieldLink RX2 13 "FlagCore$Sums" "bytes" "LFlagCore$Bytes;", .methodLink RX2 17 yX2_signs, .static yX2_signs, .code yX2_signs cX2_signs 4 (some .int), .methodLink RX2 21 yX0_setFlags, .instanceMethod yX0_setFlags, .selects RX0 yX0_setFlags yX0_setFlags, .initialized RX0, .code yX0_setFlags cX0_setFlags 3 none, .fieldLink RX0 9 "FlagCore$Bytes" "row" "[I"] ++ wsX20 ++ wsX00)
def wsX2_keepProduct : List Cond := .code yX2_keepProduct cX2_keepProduct 3 none :: ([.fieldLink RX2 13 "FlagCore$Sums" "bytes" "LFlagCore$Bytes;", .constant RX2 40 (32768), .constant RX2 35 (65535), .methodLink RX2 44 yX0_setPair, .instanceMethod yX0_setPair, .selects RX0 yX0_setPair yX0_setPair, .initialized RX0, .code yX0_setPair cX0_setPair 3 none, .fieldLink RX0 9 "FlagCore$Bytes" "row" "[I", .methodLink RX2 21 yX0_setFlags, .instanceMethod yX0_setFlags, .selects RX0 yX0_setFlags yX0_setFlags, .code yX0_setFlags cX0_setFlags 3 none] ++ wsX20 ++ wsX00)
def wsX2_product : List Cond := .code yX2_product cX2_product 2 none :: ([.methodLink RX2 41 yX2_keepProduct, .instanceMethod yX2_keepProduct, .selects RX2 yX2_keepProduct yX2_keepProduct, .initialized RX2, .code yX2_keepProduct cX2_keepProduct 3 none, .fieldLink RX2 13 "FlagCore$Sums" "bytes" "LFlagCore$Bytes;", .constant RX2 40 (32768), .constant RX2 35 (65535), .methodLink RX2 44 yX0_setPair, .instanceMethod yX0_setPair, .selects RX0 yX0_setPair yX0_setPair, .initialized RX0, .code yX0_setPair cX0_setPair 3 none, .fieldLink RX0 9 "FlagCore$Bytes" "row" "[I", .methodLink RX2 21 yX0_setFlags, .instanceMethod yX0_setFlags, .selects RX0 yX0_setFlags yX0_setFlags, .code yX0_setFlags cX0_setFlags 3 none] ++ wsX20 ++ wsX00)
def wsX2_fraction : List Cond := .code yX2_fraction cX2_fraction 2 none :: ([.methodLink RX2 41 yX2_keepProduct, .instanceMethod yX2_keepProduct, .selects RX2 yX2_keepProduct yX2_keepProduct, .initialized RX2, .code yX2_keepProduct cX2_keepProduct 3 none, .fieldLink RX2 13 "FlagCore$Sums" "bytes" "LFlagCore$Bytes;", .constant RX2 40 (32768), .constant RX2 35 (65535), .methodLink RX2 44 yX0_setPair, .instanceMethod yX0_setPair, .selects RX0 yX0_setPair yX0_setPair, .initialized RX0, .code yX0_setPair cX0_setPair 3 none, .fieldLink RX0 9 "FlagCore$Bytes" "row" "[I", .methodLink RX2 21 yX0_setFlags, .instanceMethod yX0_setFlags, .selects RX0 yX0_setFlags yX0_setFlags, .code yX0_setFlags cX0_setFlags 3 none] ++ wsX20 ++ wsX00)
def wsX3_d : List Cond := .code yX3_d cX3_d 1 (some .int) :: ([])
def wsX3_r : List Cond := .code yX3_r cX3_r 1 (some .int) :: ([])
def wsX3_pointer : List Cond := .code yX3_pointer cX3_pointer 1 (some .int) :: ([])
def wsX3_hasNext : List Cond := .code yX3_hasNext cX3_hasNext 1 (some .boolean) :: ([.constant RX3 9 (64527), .constant RX3 10 (36864), .constant RX3 11 (65036), .constant RX3 12 (37900)])
def wsX3_lowGroupOf : List Cond := .code yX3_lowGroupOf cX3_lowGroupOf 1 (some .int) :: ([])
def wsX3_isOneOf : List Cond := .code yX3_isOneOf cX3_isOneOf 2 (some .boolean) :: ([])
def wsX3_memoryGroupOf : List Cond := .code yX3_memoryGroupOf cX3_memoryGroupOf 1 (some .int) :: ([.methodLink RX3 31 yX3_d, .static yX3_d, .initialized RX3, .code yX3_d cX3_d 1 (some .int), .methodLink RX3 34 yX3_pointer, .static yX3_pointer, .code yX3_pointer cX3_pointer 1 (some .int), .methodLink RX3 37 yX3_isOneOf, .static yX3_isOneOf, .code yX3_isOneOf cX3_isOneOf 2 (some .boolean)])
def wsX3_flagGroupOf : List Cond := .code yX3_flagGroupOf cX3_flagGroupOf 1 (some .int) :: ([])
def wsX3_singleGroupOf : List Cond := .code yX3_singleGroupOf cX3_singleGroupOf 1 (some .int) :: ([.methodLink RX3 41 yX3_flagGroupOf, .static yX3_flagGroupOf, .initialized RX3, .code yX3_flagGroupOf cX3_flagGroupOf 1 (some .int)])
def wsX3_mixedGroupOf : List Cond := .code yX3_mixedGroupOf cX3_mixedGroupOf 1 (some .int) :: ([.methodLink RX3 25 yX3_memoryGroupOf, .static yX3_memoryGroupOf, .initialized RX3, .code yX3_memoryGroupOf cX3_memoryGroupOf 1 (some .int), .methodLink RX3 31 yX3_d, .static yX3_d, .code yX3_d cX3_d 1 (some .int), .methodLink RX3 34 yX3_pointer, .static yX3_pointer, .code yX3_pointer cX3_pointer 1 (some .int), .methodLink RX3 37 yX3_isOneOf, .static yX3_isOneOf, .code yX3_isOneOf cX3_isOneOf 2 (some .boolean), .methodLink RX3 28 yX3_singleGroupOf, .static yX3_singleGroupOf, .code yX3_singleGroupOf cX3_singleGroupOf 1 (some .int), .methodLink RX3 41 yX3_flagGroupOf, .static yX3_flagGroupOf, .code yX3_flagGroupOf cX3_flagGroupOf 1 (some .int)])
def wsX3_highGroupOf : List Cond := .code yX3_highGroupOf cX3_highGroupOf 1 (some .int) :: ([])
def wsX3_groupOf_r1 : List Cond := [Cond.methodLink RX3 13 yX3_lowGroupOf, Cond.static yX3_lowGroupOf, Cond.initialized RX3, Cond.code yX3_lowGroupOf cX3_lowGroupOf 1 (some .int), Cond.methodLink RX3 19 yX3_mixedGroupOf, Cond.static yX3_mixedGroupOf, Cond.code yX3_mixedGroupOf cX3_mixedGroupOf 1 (some .int), Cond.methodLink RX3 25 yX3_memoryGroupOf, Cond.static yX3_memoryGroupOf, Cond.code yX3_memoryGroupOf cX3_memoryGroupOf 1 (some .int), Cond.methodLink RX3 31 yX3_d, Cond.static yX3_d, Cond.code yX3_d cX3_d 1 (some .int), Cond.methodLink RX3 34 yX3_pointer, Cond.static yX3_pointer, Cond.code yX3_pointer cX3_pointer 1 (some .int), Cond.methodLink RX3 37 yX3_isOneOf, Cond.static yX3_isOneOf, Cond.code yX3_isOneOf cX3_isOneOf 2 (some .boolean), Cond.methodLink RX3 28 yX3_singleGroupOf, Cond.static yX3_singleGroupOf, Cond.code yX3_singleGroupOf cX3_singleGroupOf 1 (some .int), Cond.methodLink RX3 41 yX3_flagGroupOf, Cond.static yX3_flagGroupOf]
def wsX3_groupOf_r2 : List Cond := [Cond.code yX3_flagGroupOf cX3_flagGroupOf 1 (some .int), Cond.methodLink RX3 22 yX3_highGroupOf, Cond.static yX3_highGroupOf, Cond.code yX3_highGroupOf cX3_highGroupOf 1 (some .int)]
def wsX3_groupOf : List Cond := .code yX3_groupOf cX3_groupOf 1 (some .int) :: ((wsX3_groupOf_r1 ++ wsX3_groupOf_r2))
def wsX4_init_r1 : List Cond := [Cond.methodLink RX4 1 objectInit, Cond.instanceMethod objectInit, Cond.code objectInit ⟨#[0xb1]⟩ 1 none, Cond.arrayClass .int, Cond.fieldLink RX4 9 "FlagCore" "cells" "[I", Cond.classLink RX4 13 RX0, Cond.instantiable RX0 1, Cond.initialized RX0, Cond.fieldLink RX4 16 "FlagCore" "bytes" "LFlagCore$Bytes;", Cond.classLink RX4 20 RX2, Cond.instantiable RX2 1, Cond.initialized RX2, Cond.fieldLink RX4 25 "FlagCore" "sums" "LFlagCore$Sums;", Cond.fieldLink RX4 29 "FlagCore" "tallies" "[I", Cond.fieldLink RX4 32 "FlagCore" "pc" "I", Cond.fieldLink RX4 36 "FlagCore" "asked" "I", Cond.fieldLink RX4 39 "FlagCore" "latest" "I", Cond.fieldLink RX4 42 "FlagCore" "waiting" "Z", Cond.methodLink RX4 15 yX0_init, Cond.instanceMethod yX0_init, Cond.code yX0_init cX0_init 1 none, Cond.methodLink RX0 3 objectInit, Cond.fieldLink RX0 9 "FlagCore$Bytes" "row" "[I", Cond.methodLink RX4 22 yX2_init]
def wsX4_init_r2 : List Cond := [Cond.instanceMethod yX2_init, Cond.code yX2_init cX2_init 2 none, Cond.methodLink RX2 7 objectInit, Cond.fieldLink RX2 13 "FlagCore$Sums" "bytes" "LFlagCore$Bytes;"]
def wsX4_init : List Cond := .code yX4_init cX4_init 1 none :: ((wsX4_init_r1 ++ wsX4_init_r2) ++ wsX40 ++ wsX00 ++ wsX20)
def wsX4_within : List Cond := .code yX4_within cX4_within 2 (some .boolean) :: ([])
def wsX4_cellAt : List Cond := .code yX4_cellAt cX4_cellAt 2 (some .int) :: ([.fieldLink RX4 9 "FlagCore" "cells" "[I"] ++ wsX40)
def wsX4_code : List Cond := .code yX4_code cX4_code 4 (some .int) :: ([.constant RX4 50 (65535), .fieldLink RX4 9 "FlagCore" "cells" "[I", .methodLink RX4 46 yX4_within, .static yX4_within, .initialized RX4, .code yX4_within cX4_within 2 (some .boolean), .methodLink RX4 51 yX4_cellAt, .instanceMethod yX4_cellAt, .selects RX4 yX4_cellAt yX4_cellAt, .code yX4_cellAt cX4_cellAt 2 (some .int)] ++ wsX40)
def wsX4_load : List Cond := .code yX4_load cX4_load 5 (some .int) :: ([.fieldLink RX4 9 "FlagCore" "cells" "[I", .constant RX4 50 (65535), .methodLink RX4 46 yX4_within, .static yX4_within, .initialized RX4, .code yX4_within cX4_within 2 (some .boolean)] ++ wsX40)
def wsX4_word : List Cond := .code yX4_word cX4_word 2 (some .int) :: ([.methodLink RX4 46 yX4_within, .static yX4_within, .initialized RX4, .code yX4_within cX4_within 2 (some .boolean), .methodLink RX4 51 yX4_cellAt, .instanceMethod yX4_cellAt, .selects RX4 yX4_cellAt yX4_cellAt, .code yX4_cellAt cX4_cellAt 2 (some .int), .fieldLink RX4 9 "FlagCore" "cells" "[I"] ++ wsX40)
def wsX4_put : List Cond := .code yX4_put cX4_put 4 (some .int) :: ([.fieldLink RX4 16 "FlagCore" "bytes" "LFlagCore$Bytes;", .methodLink RX4 46 yX4_within, .static yX4_within, .initialized RX4, .code yX4_within cX4_within 2 (some .boolean), .methodLink RX4 55 yX0_get, .instanceMethod yX0_get, .selects RX0 yX0_get yX0_get, .initialized RX0, .code yX0_get cX0_get 2 (some .int), .fieldLink RX0 9 "FlagCore$Bytes" "row" "[I", .methodLink RX4 58 yX0_set, .instanceMethod yX0_set, .selects RX0 yX0_set yX0_set, .code yX0_set cX0_set 3 none] ++ wsX40 ++ wsX00)
def wsX4_data : List Cond := .code yX4_data cX4_data 2 (some .int) :: ([.fieldLink RX4 16 "FlagCore" "bytes" "LFlagCore$Bytes;", .methodLink RX4 46 yX4_within, .static yX4_within, .initialized RX4, .code yX4_within cX4_within 2 (some .boolean), .methodLink RX4 55 yX0_get, .instanceMethod yX0_get, .selects RX0 yX0_get yX0_get, .initialized RX0, .code yX0_get cX0_get 2 (some .int), .fieldLink RX0 9 "FlagCore$Bytes" "row" "[I"] ++ wsX40 ++ wsX00)
def wsX4_told : List Cond := .code yX4_told cX4_told 2 (some .int) :: ([.fieldLink RX4 32 "FlagCore" "pc" "I", .fieldLink RX4 16 "FlagCore" "bytes" "LFlagCore$Bytes;", .fieldLink RX4 42 "FlagCore" "waiting" "Z", .fieldLink RX4 36 "FlagCore" "asked" "I", .methodLink RX4 62 yX0_pair, .instanceMethod yX0_pair, .selects RX0 yX0_pair yX0_pair, .initialized RX0, .code yX0_pair cX0_pair 2 (some .int), .fieldLink RX0 9 "FlagCore$Bytes" "row" "[I", .methodLink RX4 55 yX0_get, .instanceMethod yX0_get, .selects RX0 yX0_get yX0_get, .code yX0_get cX0_get 2 (some .int)] ++ wsX40 ++ wsX00)
def wsX4_go : List Cond := .code yX4_go cX4_go 3 (some .int) :: ([.fieldLink RX4 32 "FlagCore" "pc" "I", .methodLink RX4 46 yX4_within, .static yX4_within, .initialized RX4, .code yX4_within cX4_within 2 (some .boolean)] ++ wsX40)
def wsX4_ask : List Cond := .code yX4_ask cX4_ask 3 (some .int) :: ([.fieldLink RX4 36 "FlagCore" "asked" "I"] ++ wsX40)
def wsJ6_numberOfTrailingZeros_0f7a4 : List Cond := .code yJ6_numberOfTrailingZeros_0f7a4 cJ6_numberOfTrailingZeros_0f7a4 2 (some .int) :: ([.constant RJ6 264 (65536)])
def wsX4_enterLeast_r1 : List Cond := [Cond.fieldLink RX4 16 "FlagCore" "bytes" "LFlagCore$Bytes;", Cond.fieldLink RX4 32 "FlagCore" "pc" "I", Cond.fieldLink RX4 36 "FlagCore" "asked" "I", Cond.methodLink RX4 91 yX0_stacks, Cond.instanceMethod yX0_stacks, Cond.selects RX0 yX0_stacks yX0_stacks, Cond.initialized RX0, Cond.code yX0_stacks cX0_stacks 3 (some .boolean), Cond.methodLink RX0 27 yX0_pair, Cond.instanceMethod yX0_pair, Cond.selects RX0 yX0_pair yX0_pair, Cond.code yX0_pair cX0_pair 2 (some .int), Cond.fieldLink RX0 9 "FlagCore$Bytes" "row" "[I", Cond.methodLink RX0 19 yX0_set, Cond.instanceMethod yX0_set, Cond.selects RX0 yX0_set yX0_set, Cond.code yX0_set cX0_set 3 none, Cond.methodLink RX0 30 yX0_setPair, Cond.instanceMethod yX0_setPair, Cond.selects RX0 yX0_setPair yX0_setPair, Cond.code yX0_setPair cX0_setPair 3 none, Cond.methodLink RX4 94 yJ6_numberOfTrailingZeros_0f7a4, Cond.static yJ6_numberOfTrailingZeros_0f7a4, Cond.initialized RJ6]
def wsX4_enterLeast_r2 : List Cond := [Cond.code yJ6_numberOfTrailingZeros_0f7a4 cJ6_numberOfTrailingZeros_0f7a4 2 (some .int), Cond.constant RJ6 264 (65536), Cond.methodLink RX4 99 yX0_setFlag, Cond.instanceMethod yX0_setFlag, Cond.selects RX0 yX0_setFlag yX0_setFlag, Cond.code yX0_setFlag cX0_setFlag 3 none, Cond.methodLink RX0 23 yX0_setBit, Cond.instanceMethod yX0_setBit, Cond.selects RX0 yX0_setBit yX0_setBit, Cond.code yX0_setBit cX0_setBit 4 none, Cond.methodLink RX0 15 yX0_get, Cond.instanceMethod yX0_get, Cond.selects RX0 yX0_get yX0_get, Cond.code yX0_get cX0_get 2 (some .int)]
def wsX4_enterLeast : List Cond := .code yX4_enterLeast cX4_enterLeast 1 (some .int) :: ((wsX4_enterLeast_r1 ++ wsX4_enterLeast_r2) ++ wsX40 ++ wsX00)
def wsX4_onward : List Cond := .code yX4_onward cX4_onward 2 (some .int) :: ([.fieldLink RX4 32 "FlagCore" "pc" "I"] ++ wsX40)
def wsX4_movePair : List Cond := .code yX4_movePair cX4_movePair 2 (some .int) :: ([.fieldLink RX4 16 "FlagCore" "bytes" "LFlagCore$Bytes;", .methodLink RX4 62 yX0_pair, .instanceMethod yX0_pair, .selects RX0 yX0_pair yX0_pair, .initialized RX0, .code yX0_pair cX0_pair 2 (some .int), .fieldLink RX0 9 "FlagCore$Bytes" "row" "[I", .methodLink RX4 170 yX0_setPair, .instanceMethod yX0_setPair, .selects RX0 yX0_setPair yX0_setPair, .code yX0_setPair cX0_setPair 3 none, .methodLink RX4 102 yX4_onward, .instanceMethod yX4_onward, .selects RX4 yX4_onward yX4_onward, .initialized RX4, .code yX4_onward cX4_onward 2 (some .int), .fieldLink RX4 32 "FlagCore" "pc" "I"] ++ wsX40 ++ wsX00)
def wsX4_multiplyFew_r1 : List Cond := [Cond.fieldLink RX4 25 "FlagCore" "sums" "LFlagCore$Sums;", Cond.fieldLink RX4 16 "FlagCore" "bytes" "LFlagCore$Bytes;", Cond.methodLink RX4 183 yX0_signed, Cond.instanceMethod yX0_signed, Cond.selects RX0 yX0_signed yX0_signed, Cond.initialized RX0, Cond.code yX0_signed cX0_signed 2 (some .int), Cond.fieldLink RX0 9 "FlagCore$Bytes" "row" "[I", Cond.methodLink RX4 55 yX0_get, Cond.instanceMethod yX0_get, Cond.selects RX0 yX0_get yX0_get, Cond.code yX0_get cX0_get 2 (some .int), Cond.methodLink RX4 179 yX2_product, Cond.instanceMethod yX2_product, Cond.selects RX2 yX2_product yX2_product, Cond.initialized RX2, Cond.code yX2_product cX2_product 2 none, Cond.methodLink RX2 41 yX2_keepProduct, Cond.instanceMethod yX2_keepProduct, Cond.selects RX2 yX2_keepProduct yX2_keepProduct, Cond.code yX2_keepProduct cX2_keepProduct 3 none, Cond.fieldLink RX2 13 "FlagCore$Sums" "bytes" "LFlagCore$Bytes;", Cond.constant RX2 40 (32768), Cond.constant RX2 35 (65535)]
def wsX4_multiplyFew_r2 : List Cond := [Cond.methodLink RX2 44 yX0_setPair, Cond.instanceMethod yX0_setPair, Cond.selects RX0 yX0_setPair yX0_setPair, Cond.code yX0_setPair cX0_setPair 3 none, Cond.methodLink RX2 21 yX0_setFlags, Cond.instanceMethod yX0_setFlags, Cond.selects RX0 yX0_setFlags yX0_setFlags, Cond.code yX0_setFlags cX0_setFlags 3 none, Cond.methodLink RX4 190 yX2_fraction, Cond.instanceMethod yX2_fraction, Cond.selects RX2 yX2_fraction yX2_fraction, Cond.code yX2_fraction cX2_fraction 2 none]
def wsX4_multiplyFew : List Cond := .code yX4_multiplyFew cX4_multiplyFew 4 none :: ((wsX4_multiplyFew_r1 ++ wsX4_multiplyFew_r2) ++ wsX40 ++ wsX00 ++ wsX20)
def wsX4_multiply_r1 : List Cond := [Cond.fieldLink RX4 25 "FlagCore" "sums" "LFlagCore$Sums;", Cond.fieldLink RX4 16 "FlagCore" "bytes" "LFlagCore$Bytes;", Cond.methodLink RX4 173 yX3_d, Cond.static yX3_d, Cond.initialized RX3, Cond.code yX3_d cX3_d 1 (some .int), Cond.methodLink RX4 55 yX0_get, Cond.instanceMethod yX0_get, Cond.selects RX0 yX0_get yX0_get, Cond.initialized RX0, Cond.code yX0_get cX0_get 2 (some .int), Cond.fieldLink RX0 9 "FlagCore$Bytes" "row" "[I", Cond.methodLink RX4 176 yX3_r, Cond.static yX3_r, Cond.code yX3_r cX3_r 1 (some .int), Cond.methodLink RX4 179 yX2_product, Cond.instanceMethod yX2_product, Cond.selects RX2 yX2_product yX2_product, Cond.initialized RX2, Cond.code yX2_product cX2_product 2 none, Cond.methodLink RX2 41 yX2_keepProduct, Cond.instanceMethod yX2_keepProduct, Cond.selects RX2 yX2_keepProduct yX2_keepProduct, Cond.code yX2_keepProduct cX2_keepProduct 3 none]
def wsX4_multiply_r2 : List Cond := [Cond.fieldLink RX2 13 "FlagCore$Sums" "bytes" "LFlagCore$Bytes;", Cond.constant RX2 40 (32768), Cond.constant RX2 35 (65535), Cond.methodLink RX2 44 yX0_setPair, Cond.instanceMethod yX0_setPair, Cond.selects RX0 yX0_setPair yX0_setPair, Cond.code yX0_setPair cX0_setPair 3 none, Cond.methodLink RX2 21 yX0_setFlags, Cond.instanceMethod yX0_setFlags, Cond.selects RX0 yX0_setFlags yX0_setFlags, Cond.code yX0_setFlags cX0_setFlags 3 none, Cond.methodLink RX4 183 yX0_signed, Cond.instanceMethod yX0_signed, Cond.selects RX0 yX0_signed yX0_signed, Cond.code yX0_signed cX0_signed 2 (some .int), Cond.methodLink RX4 186 yX4_multiplyFew, Cond.instanceMethod yX4_multiplyFew, Cond.selects RX4 yX4_multiplyFew yX4_multiplyFew, Cond.initialized RX4, Cond.code yX4_multiplyFew cX4_multiplyFew 4 none, Cond.methodLink RX4 190 yX2_fraction, Cond.instanceMethod yX2_fraction, Cond.selects RX2 yX2_fraction yX2_fraction, Cond.code yX2_fraction cX2_fraction 2 none]
def wsX4_multiply_r3 : List Cond := [Cond.methodLink RX4 102 yX4_onward, Cond.instanceMethod yX4_onward, Cond.selects RX4 yX4_onward yX4_onward, Cond.code yX4_onward cX4_onward 2 (some .int), Cond.fieldLink RX4 32 "FlagCore" "pc" "I"]
def wsX4_multiply : List Cond := .code yX4_multiply cX4_multiply 2 (some .int) :: ((wsX4_multiply_r1 ++ (wsX4_multiply_r2 ++ wsX4_multiply_r3)) ++ wsX40 ++ wsX00 ++ wsX20)
def wsX4_skip : List Cond := .code yX4_skip cX4_skip 2 (some .int) :: ([.fieldLink RX4 32 "FlagCore" "pc" "I", .fieldLink RX4 29 "FlagCore" "tallies" "[I", .methodLink RX4 102 yX4_onward, .instanceMethod yX4_onward, .selects RX4 yX4_onward yX4_onward, .initialized RX4, .code yX4_onward cX4_onward 2 (some .int), .methodLink RX4 51 yX4_cellAt, .instanceMethod yX4_cellAt, .selects RX4 yX4_cellAt yX4_cellAt, .code yX4_cellAt cX4_cellAt 2 (some .int), .fieldLink RX4 9 "FlagCore" "cells" "[I", .methodLink RX4 74 yX3_hasNext, .static yX3_hasNext, .initialized RX3, .code yX3_hasNext cX3_hasNext 1 (some .boolean), .constant RX3 9 (64527), .constant RX3 10 (36864), .constant RX3 11 (65036), .constant RX3 12 (37900)] ++ wsX40)
def wsX4_combine_r1 : List Cond := [Cond.fieldLink RX4 16 "FlagCore" "bytes" "LFlagCore$Bytes;", Cond.fieldLink RX4 25 "FlagCore" "sums" "LFlagCore$Sums;", Cond.methodLink RX4 173 yX3_d, Cond.static yX3_d, Cond.initialized RX3, Cond.code yX3_d cX3_d 1 (some .int), Cond.methodLink RX4 55 yX0_get, Cond.instanceMethod yX0_get, Cond.selects RX0 yX0_get yX0_get, Cond.initialized RX0, Cond.code yX0_get cX0_get 2 (some .int), Cond.fieldLink RX0 9 "FlagCore$Bytes" "row" "[I", Cond.methodLink RX4 176 yX3_r, Cond.static yX3_r, Cond.code yX3_r cX3_r 1 (some .int), Cond.methodLink RX4 80 yX0_flag, Cond.instanceMethod yX0_flag, Cond.selects RX0 yX0_flag yX0_flag, Cond.code yX0_flag cX0_flag 2 (some .int), Cond.methodLink RX4 193 yX2_differenceOn, Cond.instanceMethod yX2_differenceOn, Cond.selects RX2 yX2_differenceOn yX2_differenceOn, Cond.initialized RX2, Cond.code yX2_differenceOn cX2_differenceOn 5 (some .int)]
def wsX4_combine_r2 : List Cond := [Cond.fieldLink RX2 13 "FlagCore$Sums" "bytes" "LFlagCore$Bytes;", Cond.methodLink RX2 31 yX0_flag, Cond.methodLink RX2 27 yX2_subtract, Cond.instanceMethod yX2_subtract, Cond.selects RX2 yX2_subtract yX2_subtract, Cond.code yX2_subtract cX2_subtract 9 (some .int), Cond.methodLink RX2 17 yX2_signs, Cond.static yX2_signs, Cond.code yX2_signs cX2_signs 4 (some .int), Cond.methodLink RX2 21 yX0_setFlags, Cond.instanceMethod yX0_setFlags, Cond.selects RX0 yX0_setFlags yX0_setFlags, Cond.code yX0_setFlags cX0_setFlags 3 none, Cond.methodLink RX4 58 yX0_set, Cond.instanceMethod yX0_set, Cond.selects RX0 yX0_set yX0_set, Cond.code yX0_set cX0_set 3 none, Cond.methodLink RX4 197 yX2_sum, Cond.instanceMethod yX2_sum, Cond.selects RX2 yX2_sum yX2_sum, Cond.code yX2_sum cX2_sum 8 (some .int), Cond.methodLink RX4 200 yX4_skip, Cond.instanceMethod yX4_skip, Cond.selects RX4 yX4_skip yX4_skip]
def wsX4_combine_r3 : List Cond := [Cond.initialized RX4, Cond.code yX4_skip cX4_skip 2 (some .int), Cond.fieldLink RX4 32 "FlagCore" "pc" "I", Cond.fieldLink RX4 29 "FlagCore" "tallies" "[I", Cond.methodLink RX4 102 yX4_onward, Cond.instanceMethod yX4_onward, Cond.selects RX4 yX4_onward yX4_onward, Cond.code yX4_onward cX4_onward 2 (some .int), Cond.methodLink RX4 51 yX4_cellAt, Cond.instanceMethod yX4_cellAt, Cond.selects RX4 yX4_cellAt yX4_cellAt, Cond.code yX4_cellAt cX4_cellAt 2 (some .int), Cond.fieldLink RX4 9 "FlagCore" "cells" "[I", Cond.methodLink RX4 74 yX3_hasNext, Cond.static yX3_hasNext, Cond.code yX3_hasNext cX3_hasNext 1 (some .boolean), Cond.constant RX3 9 (64527), Cond.constant RX3 10 (36864), Cond.constant RX3 11 (65036), Cond.constant RX3 12 (37900), Cond.methodLink RX4 204 yX2_difference, Cond.instanceMethod yX2_difference, Cond.selects RX2 yX2_difference yX2_difference, Cond.code yX2_difference cX2_difference 3 (some .int)]
def wsX4_combine_r4 : List Cond := [Cond.methodLink RX4 208 yX2_logic, Cond.instanceMethod yX2_logic, Cond.selects RX2 yX2_logic yX2_logic, Cond.code yX2_logic cX2_logic 2 (some .int)]
def wsX4_combine : List Cond := .code yX4_combine cX4_combine 6 (some .int) :: ((wsX4_combine_r1 ++ (wsX4_combine_r2 ++ (wsX4_combine_r3 ++ wsX4_combine_r4))) ++ wsX40 ++ wsX00 ++ wsX20)
def wsX4_combineWithNumber_r1 : List Cond := [Cond.fieldLink RX4 16 "FlagCore" "bytes" "LFlagCore$Bytes;", Cond.fieldLink RX4 25 "FlagCore" "sums" "LFlagCore$Sums;", Cond.methodLink RX4 55 yX0_get, Cond.instanceMethod yX0_get, Cond.selects RX0 yX0_get yX0_get, Cond.initialized RX0, Cond.code yX0_get cX0_get 2 (some .int), Cond.fieldLink RX0 9 "FlagCore$Bytes" "row" "[I", Cond.methodLink RX4 204 yX2_difference, Cond.instanceMethod yX2_difference, Cond.selects RX2 yX2_difference yX2_difference, Cond.initialized RX2, Cond.code yX2_difference cX2_difference 3 (some .int), Cond.methodLink RX2 27 yX2_subtract, Cond.instanceMethod yX2_subtract, Cond.selects RX2 yX2_subtract yX2_subtract, Cond.code yX2_subtract cX2_subtract 9 (some .int), Cond.fieldLink RX2 13 "FlagCore$Sums" "bytes" "LFlagCore$Bytes;", Cond.methodLink RX2 17 yX2_signs, Cond.static yX2_signs, Cond.code yX2_signs cX2_signs 4 (some .int), Cond.methodLink RX2 21 yX0_setFlags, Cond.instanceMethod yX0_setFlags, Cond.selects RX0 yX0_setFlags yX0_setFlags]
def wsX4_combineWithNumber_r2 : List Cond := [Cond.code yX0_setFlags cX0_setFlags 3 none, Cond.methodLink RX4 80 yX0_flag, Cond.instanceMethod yX0_flag, Cond.selects RX0 yX0_flag yX0_flag, Cond.code yX0_flag cX0_flag 2 (some .int), Cond.methodLink RX4 193 yX2_differenceOn, Cond.instanceMethod yX2_differenceOn, Cond.selects RX2 yX2_differenceOn yX2_differenceOn, Cond.code yX2_differenceOn cX2_differenceOn 5 (some .int), Cond.methodLink RX2 31 yX0_flag, Cond.methodLink RX4 58 yX0_set, Cond.instanceMethod yX0_set, Cond.selects RX0 yX0_set yX0_set, Cond.code yX0_set cX0_set 3 none, Cond.methodLink RX4 208 yX2_logic, Cond.instanceMethod yX2_logic, Cond.selects RX2 yX2_logic yX2_logic, Cond.code yX2_logic cX2_logic 2 (some .int), Cond.methodLink RX4 102 yX4_onward, Cond.instanceMethod yX4_onward, Cond.selects RX4 yX4_onward yX4_onward, Cond.initialized RX4, Cond.code yX4_onward cX4_onward 2 (some .int), Cond.fieldLink RX4 32 "FlagCore" "pc" "I"]
def wsX4_combineWithNumber : List Cond := .code yX4_combineWithNumber cX4_combineWithNumber 5 (some .int) :: ((wsX4_combineWithNumber_r1 ++ wsX4_combineWithNumber_r2) ++ wsX40 ++ wsX00 ++ wsX20)
def wsX4_change_r1 : List Cond := [Cond.fieldLink RX4 16 "FlagCore" "bytes" "LFlagCore$Bytes;", Cond.fieldLink RX4 25 "FlagCore" "sums" "LFlagCore$Sums;", Cond.methodLink RX4 173 yX3_d, Cond.static yX3_d, Cond.initialized RX3, Cond.code yX3_d cX3_d 1 (some .int), Cond.methodLink RX4 55 yX0_get, Cond.instanceMethod yX0_get, Cond.selects RX0 yX0_get yX0_get, Cond.initialized RX0, Cond.code yX0_get cX0_get 2 (some .int), Cond.fieldLink RX0 9 "FlagCore$Bytes" "row" "[I", Cond.methodLink RX4 211 yX2_inverse, Cond.instanceMethod yX2_inverse, Cond.selects RX2 yX2_inverse yX2_inverse, Cond.initialized RX2, Cond.code yX2_inverse cX2_inverse 3 (some .int), Cond.fieldLink RX2 13 "FlagCore$Sums" "bytes" "LFlagCore$Bytes;", Cond.methodLink RX2 17 yX2_signs, Cond.static yX2_signs, Cond.code yX2_signs cX2_signs 4 (some .int), Cond.methodLink RX2 21 yX0_setFlags, Cond.instanceMethod yX0_setFlags, Cond.selects RX0 yX0_setFlags yX0_setFlags]
def wsX4_change_r2 : List Cond := [Cond.code yX0_setFlags cX0_setFlags 3 none, Cond.methodLink RX4 58 yX0_set, Cond.instanceMethod yX0_set, Cond.selects RX0 yX0_set yX0_set, Cond.code yX0_set cX0_set 3 none, Cond.methodLink RX4 204 yX2_difference, Cond.instanceMethod yX2_difference, Cond.selects RX2 yX2_difference yX2_difference, Cond.code yX2_difference cX2_difference 3 (some .int), Cond.methodLink RX2 27 yX2_subtract, Cond.instanceMethod yX2_subtract, Cond.selects RX2 yX2_subtract yX2_subtract, Cond.code yX2_subtract cX2_subtract 9 (some .int), Cond.methodLink RX4 214 yX2_more, Cond.instanceMethod yX2_more, Cond.selects RX2 yX2_more yX2_more, Cond.code yX2_more cX2_more 3 (some .int), Cond.methodLink RX4 217 yX2_right, Cond.instanceMethod yX2_right, Cond.selects RX2 yX2_right yX2_right, Cond.code yX2_right cX2_right 5 (some .int), Cond.methodLink RX4 80 yX0_flag, Cond.instanceMethod yX0_flag, Cond.selects RX0 yX0_flag yX0_flag]
def wsX4_change_r3 : List Cond := [Cond.code yX0_flag cX0_flag 2 (some .int), Cond.methodLink RX4 220 yX2_less, Cond.instanceMethod yX2_less, Cond.selects RX2 yX2_less yX2_less, Cond.code yX2_less cX2_less 3 (some .int), Cond.methodLink RX4 102 yX4_onward, Cond.instanceMethod yX4_onward, Cond.selects RX4 yX4_onward yX4_onward, Cond.initialized RX4, Cond.code yX4_onward cX4_onward 2 (some .int), Cond.fieldLink RX4 32 "FlagCore" "pc" "I"]
def wsX4_change : List Cond := .code yX4_change cX4_change 4 (some .int) :: ((wsX4_change_r1 ++ (wsX4_change_r2 ++ wsX4_change_r3)) ++ wsX40 ++ wsX00 ++ wsX20)
def wsX4_setFlag_r1 : List Cond := [Cond.fieldLink RX4 16 "FlagCore" "bytes" "LFlagCore$Bytes;", Cond.methodLink RX4 99 yX0_setFlag, Cond.instanceMethod yX0_setFlag, Cond.selects RX0 yX0_setFlag yX0_setFlag, Cond.initialized RX0, Cond.code yX0_setFlag cX0_setFlag 3 none, Cond.methodLink RX0 23 yX0_setBit, Cond.instanceMethod yX0_setBit, Cond.selects RX0 yX0_setBit yX0_setBit, Cond.code yX0_setBit cX0_setBit 4 none, Cond.methodLink RX0 15 yX0_get, Cond.instanceMethod yX0_get, Cond.selects RX0 yX0_get yX0_get, Cond.code yX0_get cX0_get 2 (some .int), Cond.fieldLink RX0 9 "FlagCore$Bytes" "row" "[I", Cond.methodLink RX0 19 yX0_set, Cond.instanceMethod yX0_set, Cond.selects RX0 yX0_set yX0_set, Cond.code yX0_set cX0_set 3 none, Cond.methodLink RX4 102 yX4_onward, Cond.instanceMethod yX4_onward, Cond.selects RX4 yX4_onward yX4_onward, Cond.initialized RX4, Cond.code yX4_onward cX4_onward 2 (some .int)]
def wsX4_setFlag_r2 : List Cond := [Cond.fieldLink RX4 32 "FlagCore" "pc" "I"]
def wsX4_setFlag : List Cond := .code yX4_setFlag cX4_setFlag 2 (some .int) :: ((wsX4_setFlag_r1 ++ wsX4_setFlag_r2) ++ wsX40 ++ wsX00)
def wsX4_changePair_r1 : List Cond := [Cond.fieldLink RX4 16 "FlagCore" "bytes" "LFlagCore$Bytes;", Cond.fieldLink RX4 25 "FlagCore" "sums" "LFlagCore$Sums;", Cond.methodLink RX4 62 yX0_pair, Cond.instanceMethod yX0_pair, Cond.selects RX0 yX0_pair yX0_pair, Cond.initialized RX0, Cond.code yX0_pair cX0_pair 2 (some .int), Cond.fieldLink RX0 9 "FlagCore$Bytes" "row" "[I", Cond.methodLink RX4 223 yX2_pairMore, Cond.instanceMethod yX2_pairMore, Cond.selects RX2 yX2_pairMore yX2_pairMore, Cond.initialized RX2, Cond.code yX2_pairMore cX2_pairMore 4 (some .int), Cond.constant RX2 35 (65535), Cond.methodLink RX2 36 yX2_pairFlags, Cond.instanceMethod yX2_pairFlags, Cond.selects RX2 yX2_pairFlags yX2_pairFlags, Cond.code yX2_pairFlags cX2_pairFlags 5 none, Cond.constant RX2 40 (32768), Cond.fieldLink RX2 13 "FlagCore$Sums" "bytes" "LFlagCore$Bytes;", Cond.methodLink RX2 17 yX2_signs, Cond.static yX2_signs, Cond.code yX2_signs cX2_signs 4 (some .int), Cond.methodLink RX2 21 yX0_setFlags]
def wsX4_changePair_r2 : List Cond := [Cond.instanceMethod yX0_setFlags, Cond.selects RX0 yX0_setFlags yX0_setFlags, Cond.code yX0_setFlags cX0_setFlags 3 none, Cond.methodLink RX4 226 yX2_pairLess, Cond.instanceMethod yX2_pairLess, Cond.selects RX2 yX2_pairLess yX2_pairLess, Cond.code yX2_pairLess cX2_pairLess 4 (some .int), Cond.methodLink RX4 170 yX0_setPair, Cond.instanceMethod yX0_setPair, Cond.selects RX0 yX0_setPair yX0_setPair, Cond.code yX0_setPair cX0_setPair 3 none, Cond.methodLink RX4 102 yX4_onward, Cond.instanceMethod yX4_onward, Cond.selects RX4 yX4_onward yX4_onward, Cond.initialized RX4, Cond.code yX4_onward cX4_onward 2 (some .int), Cond.fieldLink RX4 32 "FlagCore" "pc" "I"]
def wsX4_changePair : List Cond := .code yX4_changePair cX4_changePair 5 (some .int) :: ((wsX4_changePair_r1 ++ wsX4_changePair_r2) ++ wsX40 ++ wsX00 ++ wsX20)
def wsX4_transfer : List Cond := .code yX4_transfer cX4_transfer 4 none :: ([.fieldLink RX4 16 "FlagCore" "bytes" "LFlagCore$Bytes;", .methodLink RX4 173 yX3_d, .static yX3_d, .initialized RX3, .code yX3_d cX3_d 1 (some .int), .methodLink RX4 55 yX0_get, .instanceMethod yX0_get, .selects RX0 yX0_get yX0_get, .initialized RX0, .code yX0_get cX0_get 2 (some .int), .fieldLink RX0 9 "FlagCore$Bytes" "row" "[I", .methodLink RX4 58 yX0_set, .instanceMethod yX0_set, .selects RX0 yX0_set yX0_set, .code yX0_set cX0_set 3 none] ++ wsX40 ++ wsX00)
def wsX4_moveAtNext_r1 : List Cond := [Cond.fieldLink RX4 32 "FlagCore" "pc" "I", Cond.methodLink RX4 51 yX4_cellAt, Cond.instanceMethod yX4_cellAt, Cond.selects RX4 yX4_cellAt yX4_cellAt, Cond.initialized RX4, Cond.code yX4_cellAt cX4_cellAt 2 (some .int), Cond.fieldLink RX4 9 "FlagCore" "cells" "[I", Cond.methodLink RX4 229 yX4_transfer, Cond.instanceMethod yX4_transfer, Cond.selects RX4 yX4_transfer yX4_transfer, Cond.code yX4_transfer cX4_transfer 4 none, Cond.fieldLink RX4 16 "FlagCore" "bytes" "LFlagCore$Bytes;", Cond.methodLink RX4 173 yX3_d, Cond.static yX3_d, Cond.initialized RX3, Cond.code yX3_d cX3_d 1 (some .int), Cond.methodLink RX4 55 yX0_get, Cond.instanceMethod yX0_get, Cond.selects RX0 yX0_get yX0_get, Cond.initialized RX0, Cond.code yX0_get cX0_get 2 (some .int), Cond.fieldLink RX0 9 "FlagCore$Bytes" "row" "[I", Cond.methodLink RX4 58 yX0_set, Cond.instanceMethod yX0_set]
def wsX4_moveAtNext_r2 : List Cond := [Cond.selects RX0 yX0_set yX0_set, Cond.code yX0_set cX0_set 3 none, Cond.methodLink RX4 102 yX4_onward, Cond.instanceMethod yX4_onward, Cond.selects RX4 yX4_onward yX4_onward, Cond.code yX4_onward cX4_onward 2 (some .int)]
def wsX4_moveAtNext : List Cond := .code yX4_moveAtNext cX4_moveAtNext 3 (some .int) :: ((wsX4_moveAtNext_r1 ++ wsX4_moveAtNext_r2) ++ wsX40 ++ wsX00)
def wsX4_movePointed_r1 : List Cond := [Cond.fieldLink RX4 16 "FlagCore" "bytes" "LFlagCore$Bytes;", Cond.constant RX4 50 (65535), Cond.methodLink RX4 232 yX3_pointer, Cond.static yX3_pointer, Cond.initialized RX3, Cond.code yX3_pointer cX3_pointer 1 (some .int), Cond.methodLink RX4 62 yX0_pair, Cond.instanceMethod yX0_pair, Cond.selects RX0 yX0_pair yX0_pair, Cond.initialized RX0, Cond.code yX0_pair cX0_pair 2 (some .int), Cond.fieldLink RX0 9 "FlagCore$Bytes" "row" "[I", Cond.methodLink RX4 170 yX0_setPair, Cond.instanceMethod yX0_setPair, Cond.selects RX0 yX0_setPair yX0_setPair, Cond.code yX0_setPair cX0_setPair 3 none, Cond.methodLink RX4 229 yX4_transfer, Cond.instanceMethod yX4_transfer, Cond.selects RX4 yX4_transfer yX4_transfer, Cond.initialized RX4, Cond.code yX4_transfer cX4_transfer 4 none, Cond.methodLink RX4 173 yX3_d, Cond.static yX3_d, Cond.code yX3_d cX3_d 1 (some .int)]
def wsX4_movePointed_r2 : List Cond := [Cond.methodLink RX4 55 yX0_get, Cond.instanceMethod yX0_get, Cond.selects RX0 yX0_get yX0_get, Cond.code yX0_get cX0_get 2 (some .int), Cond.methodLink RX4 58 yX0_set, Cond.instanceMethod yX0_set, Cond.selects RX0 yX0_set yX0_set, Cond.code yX0_set cX0_set 3 none, Cond.methodLink RX4 102 yX4_onward, Cond.instanceMethod yX4_onward, Cond.selects RX4 yX4_onward yX4_onward, Cond.code yX4_onward cX4_onward 2 (some .int), Cond.fieldLink RX4 32 "FlagCore" "pc" "I"]
def wsX4_movePointed : List Cond := .code yX4_movePointed cX4_movePointed 7 (some .int) :: ((wsX4_movePointed_r1 ++ wsX4_movePointed_r2) ++ wsX40 ++ wsX00)
def wsX4_moveStacked_r1 : List Cond := [Cond.fieldLink RX4 16 "FlagCore" "bytes" "LFlagCore$Bytes;", Cond.constant RX4 50 (65535), Cond.methodLink RX4 62 yX0_pair, Cond.instanceMethod yX0_pair, Cond.selects RX0 yX0_pair yX0_pair, Cond.initialized RX0, Cond.code yX0_pair cX0_pair 2 (some .int), Cond.fieldLink RX0 9 "FlagCore$Bytes" "row" "[I", Cond.methodLink RX4 173 yX3_d, Cond.static yX3_d, Cond.initialized RX3, Cond.code yX3_d cX3_d 1 (some .int), Cond.methodLink RX4 235 yX0_pull, Cond.instanceMethod yX0_pull, Cond.selects RX0 yX0_pull yX0_pull, Cond.code yX0_pull cX0_pull 2 (some .int), Cond.methodLink RX0 27 yX0_pair, Cond.methodLink RX0 30 yX0_setPair, Cond.instanceMethod yX0_setPair, Cond.selects RX0 yX0_setPair yX0_setPair, Cond.code yX0_setPair cX0_setPair 3 none, Cond.methodLink RX0 15 yX0_get, Cond.instanceMethod yX0_get, Cond.selects RX0 yX0_get yX0_get]
def wsX4_moveStacked_r2 : List Cond := [Cond.code yX0_get cX0_get 2 (some .int), Cond.methodLink RX4 58 yX0_set, Cond.instanceMethod yX0_set, Cond.selects RX0 yX0_set yX0_set, Cond.code yX0_set cX0_set 3 none, Cond.methodLink RX4 55 yX0_get, Cond.methodLink RX4 238 yX0_push, Cond.instanceMethod yX0_push, Cond.selects RX0 yX0_push yX0_push, Cond.code yX0_push cX0_push 3 none, Cond.methodLink RX0 19 yX0_set, Cond.methodLink RX4 102 yX4_onward, Cond.instanceMethod yX4_onward, Cond.selects RX4 yX4_onward yX4_onward, Cond.initialized RX4, Cond.code yX4_onward cX4_onward 2 (some .int), Cond.fieldLink RX4 32 "FlagCore" "pc" "I"]
def wsX4_moveStacked : List Cond := .code yX4_moveStacked cX4_moveStacked 5 (some .int) :: ((wsX4_moveStacked_r1 ++ wsX4_moveStacked_r2) ++ wsX40 ++ wsX00)
def wsX4_moveBeside_r1 : List Cond := [Cond.fieldLink RX4 16 "FlagCore" "bytes" "LFlagCore$Bytes;", Cond.constant RX4 50 (65535), Cond.methodLink RX4 62 yX0_pair, Cond.instanceMethod yX0_pair, Cond.selects RX0 yX0_pair yX0_pair, Cond.initialized RX0, Cond.code yX0_pair cX0_pair 2 (some .int), Cond.fieldLink RX0 9 "FlagCore$Bytes" "row" "[I", Cond.methodLink RX4 229 yX4_transfer, Cond.instanceMethod yX4_transfer, Cond.selects RX4 yX4_transfer yX4_transfer, Cond.initialized RX4, Cond.code yX4_transfer cX4_transfer 4 none, Cond.methodLink RX4 173 yX3_d, Cond.static yX3_d, Cond.initialized RX3, Cond.code yX3_d cX3_d 1 (some .int), Cond.methodLink RX4 55 yX0_get, Cond.instanceMethod yX0_get, Cond.selects RX0 yX0_get yX0_get, Cond.code yX0_get cX0_get 2 (some .int), Cond.methodLink RX4 58 yX0_set, Cond.instanceMethod yX0_set, Cond.selects RX0 yX0_set yX0_set]
def wsX4_moveBeside_r2 : List Cond := [Cond.code yX0_set cX0_set 3 none, Cond.methodLink RX4 102 yX4_onward, Cond.instanceMethod yX4_onward, Cond.selects RX4 yX4_onward yX4_onward, Cond.code yX4_onward cX4_onward 2 (some .int), Cond.fieldLink RX4 32 "FlagCore" "pc" "I"]
def wsX4_moveBeside : List Cond := .code yX4_moveBeside cX4_moveBeside 5 (some .int) :: ((wsX4_moveBeside_r1 ++ wsX4_moveBeside_r2) ++ wsX40 ++ wsX00)
def wsX4_moveFromCode_r1 : List Cond := [Cond.fieldLink RX4 16 "FlagCore" "bytes" "LFlagCore$Bytes;", Cond.constant RX4 241 (38344), Cond.methodLink RX4 62 yX0_pair, Cond.instanceMethod yX0_pair, Cond.selects RX0 yX0_pair yX0_pair, Cond.initialized RX0, Cond.code yX0_pair cX0_pair 2 (some .int), Cond.fieldLink RX0 9 "FlagCore$Bytes" "row" "[I", Cond.methodLink RX4 51 yX4_cellAt, Cond.instanceMethod yX4_cellAt, Cond.selects RX4 yX4_cellAt yX4_cellAt, Cond.initialized RX4, Cond.code yX4_cellAt cX4_cellAt 2 (some .int), Cond.fieldLink RX4 9 "FlagCore" "cells" "[I", Cond.methodLink RX4 173 yX3_d, Cond.static yX3_d, Cond.initialized RX3, Cond.code yX3_d cX3_d 1 (some .int), Cond.methodLink RX4 58 yX0_set, Cond.instanceMethod yX0_set, Cond.selects RX0 yX0_set yX0_set, Cond.code yX0_set cX0_set 3 none, Cond.methodLink RX4 170 yX0_setPair, Cond.instanceMethod yX0_setPair]
def wsX4_moveFromCode_r2 : List Cond := [Cond.selects RX0 yX0_setPair yX0_setPair, Cond.code yX0_setPair cX0_setPair 3 none, Cond.methodLink RX4 102 yX4_onward, Cond.instanceMethod yX4_onward, Cond.selects RX4 yX4_onward yX4_onward, Cond.code yX4_onward cX4_onward 2 (some .int), Cond.fieldLink RX4 32 "FlagCore" "pc" "I"]
def wsX4_moveFromCode : List Cond := .code yX4_moveFromCode cX4_moveFromCode 4 (some .int) :: ((wsX4_moveFromCode_r1 ++ wsX4_moveFromCode_r2) ++ wsX40 ++ wsX00)
def wsX4_movePort : List Cond := .code yX4_movePort cX4_movePort 4 (some .int) :: ([.fieldLink RX4 16 "FlagCore" "bytes" "LFlagCore$Bytes;", .methodLink RX4 173 yX3_d, .static yX3_d, .initialized RX3, .code yX3_d cX3_d 1 (some .int), .methodLink RX4 55 yX0_get, .instanceMethod yX0_get, .selects RX0 yX0_get yX0_get, .initialized RX0, .code yX0_get cX0_get 2 (some .int), .fieldLink RX0 9 "FlagCore$Bytes" "row" "[I", .methodLink RX4 58 yX0_set, .instanceMethod yX0_set, .selects RX0 yX0_set yX0_set, .code yX0_set cX0_set 3 none, .methodLink RX4 102 yX4_onward, .instanceMethod yX4_onward, .selects RX4 yX4_onward yX4_onward, .initialized RX4, .code yX4_onward cX4_onward 2 (some .int), .fieldLink RX4 32 "FlagCore" "pc" "I"] ++ wsX40 ++ wsX00)
def wsX4_setPortBit : List Cond := .code yX4_setPortBit cX4_setPortBit 2 (some .int) :: ([.fieldLink RX4 16 "FlagCore" "bytes" "LFlagCore$Bytes;", .methodLink RX4 242 yX0_setBit, .instanceMethod yX0_setBit, .selects RX0 yX0_setBit yX0_setBit, .initialized RX0, .code yX0_setBit cX0_setBit 4 none, .methodLink RX0 15 yX0_get, .instanceMethod yX0_get, .selects RX0 yX0_get yX0_get, .code yX0_get cX0_get 2 (some .int), .fieldLink RX0 9 "FlagCore$Bytes" "row" "[I", .methodLink RX0 19 yX0_set, .instanceMethod yX0_set, .selects RX0 yX0_set yX0_set, .code yX0_set cX0_set 3 none, .methodLink RX4 102 yX4_onward, .instanceMethod yX4_onward, .selects RX4 yX4_onward yX4_onward, .initialized RX4, .code yX4_onward cX4_onward 2 (some .int), .fieldLink RX4 32 "FlagCore" "pc" "I"] ++ wsX40 ++ wsX00)
def wsX4_skipByPort_r1 : List Cond := [Cond.fieldLink RX4 16 "FlagCore" "bytes" "LFlagCore$Bytes;", Cond.methodLink RX4 245 yX0_bit, Cond.instanceMethod yX0_bit, Cond.selects RX0 yX0_bit yX0_bit, Cond.initialized RX0, Cond.code yX0_bit cX0_bit 3 (some .int), Cond.fieldLink RX0 9 "FlagCore$Bytes" "row" "[I", Cond.methodLink RX4 200 yX4_skip, Cond.instanceMethod yX4_skip, Cond.selects RX4 yX4_skip yX4_skip, Cond.initialized RX4, Cond.code yX4_skip cX4_skip 2 (some .int), Cond.fieldLink RX4 32 "FlagCore" "pc" "I", Cond.fieldLink RX4 29 "FlagCore" "tallies" "[I", Cond.methodLink RX4 102 yX4_onward, Cond.instanceMethod yX4_onward, Cond.selects RX4 yX4_onward yX4_onward, Cond.code yX4_onward cX4_onward 2 (some .int), Cond.methodLink RX4 51 yX4_cellAt, Cond.instanceMethod yX4_cellAt, Cond.selects RX4 yX4_cellAt yX4_cellAt, Cond.code yX4_cellAt cX4_cellAt 2 (some .int), Cond.fieldLink RX4 9 "FlagCore" "cells" "[I", Cond.methodLink RX4 74 yX3_hasNext]
def wsX4_skipByPort_r2 : List Cond := [Cond.static yX3_hasNext, Cond.initialized RX3, Cond.code yX3_hasNext cX3_hasNext 1 (some .boolean), Cond.constant RX3 9 (64527), Cond.constant RX3 10 (36864), Cond.constant RX3 11 (65036), Cond.constant RX3 12 (37900)]
def wsX4_skipByPort : List Cond := .code yX4_skipByPort cX4_skipByPort 2 (some .int) :: ((wsX4_skipByPort_r1 ++ wsX4_skipByPort_r2) ++ wsX40 ++ wsX00)
def wsX4_skipByBit_r1 : List Cond := [Cond.fieldLink RX4 16 "FlagCore" "bytes" "LFlagCore$Bytes;", Cond.methodLink RX4 173 yX3_d, Cond.static yX3_d, Cond.initialized RX3, Cond.code yX3_d cX3_d 1 (some .int), Cond.methodLink RX4 245 yX0_bit, Cond.instanceMethod yX0_bit, Cond.selects RX0 yX0_bit yX0_bit, Cond.initialized RX0, Cond.code yX0_bit cX0_bit 3 (some .int), Cond.fieldLink RX0 9 "FlagCore$Bytes" "row" "[I", Cond.methodLink RX4 200 yX4_skip, Cond.instanceMethod yX4_skip, Cond.selects RX4 yX4_skip yX4_skip, Cond.initialized RX4, Cond.code yX4_skip cX4_skip 2 (some .int), Cond.fieldLink RX4 32 "FlagCore" "pc" "I", Cond.fieldLink RX4 29 "FlagCore" "tallies" "[I", Cond.methodLink RX4 102 yX4_onward, Cond.instanceMethod yX4_onward, Cond.selects RX4 yX4_onward yX4_onward, Cond.code yX4_onward cX4_onward 2 (some .int), Cond.methodLink RX4 51 yX4_cellAt, Cond.instanceMethod yX4_cellAt]
def wsX4_skipByBit_r2 : List Cond := [Cond.selects RX4 yX4_cellAt yX4_cellAt, Cond.code yX4_cellAt cX4_cellAt 2 (some .int), Cond.fieldLink RX4 9 "FlagCore" "cells" "[I", Cond.methodLink RX4 74 yX3_hasNext, Cond.static yX3_hasNext, Cond.code yX3_hasNext cX3_hasNext 1 (some .boolean), Cond.constant RX3 9 (64527), Cond.constant RX3 10 (36864), Cond.constant RX3 11 (65036), Cond.constant RX3 12 (37900)]
def wsX4_skipByBit : List Cond := .code yX4_skipByBit cX4_skipByBit 2 (some .int) :: ((wsX4_skipByBit_r1 ++ wsX4_skipByBit_r2) ++ wsX40 ++ wsX00)
def wsX4_moveBit_r1 : List Cond := [Cond.fieldLink RX4 16 "FlagCore" "bytes" "LFlagCore$Bytes;", Cond.methodLink RX4 173 yX3_d, Cond.static yX3_d, Cond.initialized RX3, Cond.code yX3_d cX3_d 1 (some .int), Cond.methodLink RX4 80 yX0_flag, Cond.instanceMethod yX0_flag, Cond.selects RX0 yX0_flag yX0_flag, Cond.initialized RX0, Cond.code yX0_flag cX0_flag 2 (some .int), Cond.fieldLink RX0 9 "FlagCore$Bytes" "row" "[I", Cond.methodLink RX4 242 yX0_setBit, Cond.instanceMethod yX0_setBit, Cond.selects RX0 yX0_setBit yX0_setBit, Cond.code yX0_setBit cX0_setBit 4 none, Cond.methodLink RX0 15 yX0_get, Cond.instanceMethod yX0_get, Cond.selects RX0 yX0_get yX0_get, Cond.code yX0_get cX0_get 2 (some .int), Cond.methodLink RX0 19 yX0_set, Cond.instanceMethod yX0_set, Cond.selects RX0 yX0_set yX0_set, Cond.code yX0_set cX0_set 3 none, Cond.methodLink RX4 245 yX0_bit]
def wsX4_moveBit_r2 : List Cond := [Cond.instanceMethod yX0_bit, Cond.selects RX0 yX0_bit yX0_bit, Cond.code yX0_bit cX0_bit 3 (some .int), Cond.methodLink RX4 99 yX0_setFlag, Cond.instanceMethod yX0_setFlag, Cond.selects RX0 yX0_setFlag yX0_setFlag, Cond.code yX0_setFlag cX0_setFlag 3 none, Cond.methodLink RX0 23 yX0_setBit, Cond.methodLink RX4 102 yX4_onward, Cond.instanceMethod yX4_onward, Cond.selects RX4 yX4_onward yX4_onward, Cond.initialized RX4, Cond.code yX4_onward cX4_onward 2 (some .int), Cond.fieldLink RX4 32 "FlagCore" "pc" "I"]
def wsX4_moveBit : List Cond := .code yX4_moveBit cX4_moveBit 3 (some .int) :: ((wsX4_moveBit_r1 ++ wsX4_moveBit_r2) ++ wsX40 ++ wsX00)
def wsX4_jumpTo : List Cond := .code yX4_jumpTo cX4_jumpTo 2 (some .int) :: ([.fieldLink RX4 32 "FlagCore" "pc" "I"] ++ wsX40)
def wsX4_callTo : List Cond := .code yX4_callTo cX4_callTo 3 (some .int) :: ([.fieldLink RX4 16 "FlagCore" "bytes" "LFlagCore$Bytes;", .fieldLink RX4 29 "FlagCore" "tallies" "[I", .fieldLink RX4 32 "FlagCore" "pc" "I", .methodLink RX4 91 yX0_stacks, .instanceMethod yX0_stacks, .selects RX0 yX0_stacks yX0_stacks, .initialized RX0, .code yX0_stacks cX0_stacks 3 (some .boolean), .methodLink RX0 27 yX0_pair, .instanceMethod yX0_pair, .selects RX0 yX0_pair yX0_pair, .code yX0_pair cX0_pair 2 (some .int), .fieldLink RX0 9 "FlagCore$Bytes" "row" "[I", .methodLink RX0 19 yX0_set, .instanceMethod yX0_set, .selects RX0 yX0_set yX0_set, .code yX0_set cX0_set 3 none, .methodLink RX0 30 yX0_setPair, .instanceMethod yX0_setPair, .selects RX0 yX0_setPair yX0_setPair, .code yX0_setPair cX0_setPair 3 none] ++ wsX40 ++ wsX00)
def wsX4_jumpNear_r1 : List Cond := [Cond.fieldLink RX4 32 "FlagCore" "pc" "I", Cond.methodLink RX4 248 yX4_jumpTo, Cond.instanceMethod yX4_jumpTo, Cond.selects RX4 yX4_jumpTo yX4_jumpTo, Cond.initialized RX4, Cond.code yX4_jumpTo cX4_jumpTo 2 (some .int), Cond.methodLink RX4 251 yX4_callTo, Cond.instanceMethod yX4_callTo, Cond.selects RX4 yX4_callTo yX4_callTo, Cond.code yX4_callTo cX4_callTo 3 (some .int), Cond.fieldLink RX4 16 "FlagCore" "bytes" "LFlagCore$Bytes;", Cond.fieldLink RX4 29 "FlagCore" "tallies" "[I", Cond.methodLink RX4 91 yX0_stacks, Cond.instanceMethod yX0_stacks, Cond.selects RX0 yX0_stacks yX0_stacks, Cond.initialized RX0, Cond.code yX0_stacks cX0_stacks 3 (some .boolean), Cond.methodLink RX0 27 yX0_pair, Cond.instanceMethod yX0_pair, Cond.selects RX0 yX0_pair yX0_pair, Cond.code yX0_pair cX0_pair 2 (some .int), Cond.fieldLink RX0 9 "FlagCore$Bytes" "row" "[I", Cond.methodLink RX0 19 yX0_set, Cond.instanceMethod yX0_set]
def wsX4_jumpNear_r2 : List Cond := [Cond.selects RX0 yX0_set yX0_set, Cond.code yX0_set cX0_set 3 none, Cond.methodLink RX0 30 yX0_setPair, Cond.instanceMethod yX0_setPair, Cond.selects RX0 yX0_setPair yX0_setPair, Cond.code yX0_setPair cX0_setPair 3 none]
def wsX4_jumpNear : List Cond := .code yX4_jumpNear cX4_jumpNear 4 (some .int) :: ((wsX4_jumpNear_r1 ++ wsX4_jumpNear_r2) ++ wsX40 ++ wsX00)
def wsX4_branch : List Cond := .code yX4_branch cX4_branch 4 (some .int) :: ([.fieldLink RX4 16 "FlagCore" "bytes" "LFlagCore$Bytes;", .methodLink RX4 80 yX0_flag, .instanceMethod yX0_flag, .selects RX0 yX0_flag yX0_flag, .initialized RX0, .code yX0_flag cX0_flag 2 (some .int), .fieldLink RX0 9 "FlagCore$Bytes" "row" "[I", .methodLink RX4 102 yX4_onward, .instanceMethod yX4_onward, .selects RX4 yX4_onward yX4_onward, .initialized RX4, .code yX4_onward cX4_onward 2 (some .int), .fieldLink RX4 32 "FlagCore" "pc" "I"] ++ wsX40 ++ wsX00)
def wsX4_jumpFar_r1 : List Cond := [Cond.fieldLink RX4 32 "FlagCore" "pc" "I", Cond.methodLink RX4 51 yX4_cellAt, Cond.instanceMethod yX4_cellAt, Cond.selects RX4 yX4_cellAt yX4_cellAt, Cond.initialized RX4, Cond.code yX4_cellAt cX4_cellAt 2 (some .int), Cond.fieldLink RX4 9 "FlagCore" "cells" "[I", Cond.methodLink RX4 248 yX4_jumpTo, Cond.instanceMethod yX4_jumpTo, Cond.selects RX4 yX4_jumpTo yX4_jumpTo, Cond.code yX4_jumpTo cX4_jumpTo 2 (some .int), Cond.methodLink RX4 251 yX4_callTo, Cond.instanceMethod yX4_callTo, Cond.selects RX4 yX4_callTo yX4_callTo, Cond.code yX4_callTo cX4_callTo 3 (some .int), Cond.fieldLink RX4 16 "FlagCore" "bytes" "LFlagCore$Bytes;", Cond.fieldLink RX4 29 "FlagCore" "tallies" "[I", Cond.methodLink RX4 91 yX0_stacks, Cond.instanceMethod yX0_stacks, Cond.selects RX0 yX0_stacks yX0_stacks, Cond.initialized RX0, Cond.code yX0_stacks cX0_stacks 3 (some .boolean), Cond.methodLink RX0 27 yX0_pair, Cond.instanceMethod yX0_pair]
def wsX4_jumpFar_r2 : List Cond := [Cond.selects RX0 yX0_pair yX0_pair, Cond.code yX0_pair cX0_pair 2 (some .int), Cond.fieldLink RX0 9 "FlagCore$Bytes" "row" "[I", Cond.methodLink RX0 19 yX0_set, Cond.instanceMethod yX0_set, Cond.selects RX0 yX0_set yX0_set, Cond.code yX0_set cX0_set 3 none, Cond.methodLink RX0 30 yX0_setPair, Cond.instanceMethod yX0_setPair, Cond.selects RX0 yX0_setPair yX0_setPair, Cond.code yX0_setPair cX0_setPair 3 none]
def wsX4_jumpFar : List Cond := .code yX4_jumpFar cX4_jumpFar 3 (some .int) :: ((wsX4_jumpFar_r1 ++ wsX4_jumpFar_r2) ++ wsX40 ++ wsX00)
def wsX4_jumpToZ_r1 : List Cond := [Cond.fieldLink RX4 16 "FlagCore" "bytes" "LFlagCore$Bytes;", Cond.fieldLink RX4 32 "FlagCore" "pc" "I", Cond.methodLink RX4 62 yX0_pair, Cond.instanceMethod yX0_pair, Cond.selects RX0 yX0_pair yX0_pair, Cond.initialized RX0, Cond.code yX0_pair cX0_pair 2 (some .int), Cond.fieldLink RX0 9 "FlagCore$Bytes" "row" "[I", Cond.methodLink RX4 248 yX4_jumpTo, Cond.instanceMethod yX4_jumpTo, Cond.selects RX4 yX4_jumpTo yX4_jumpTo, Cond.initialized RX4, Cond.code yX4_jumpTo cX4_jumpTo 2 (some .int), Cond.methodLink RX4 251 yX4_callTo, Cond.instanceMethod yX4_callTo, Cond.selects RX4 yX4_callTo yX4_callTo, Cond.code yX4_callTo cX4_callTo 3 (some .int), Cond.fieldLink RX4 29 "FlagCore" "tallies" "[I", Cond.methodLink RX4 91 yX0_stacks, Cond.instanceMethod yX0_stacks, Cond.selects RX0 yX0_stacks yX0_stacks, Cond.code yX0_stacks cX0_stacks 3 (some .boolean), Cond.methodLink RX0 27 yX0_pair, Cond.methodLink RX0 19 yX0_set]
def wsX4_jumpToZ_r2 : List Cond := [Cond.instanceMethod yX0_set, Cond.selects RX0 yX0_set yX0_set, Cond.code yX0_set cX0_set 3 none, Cond.methodLink RX0 30 yX0_setPair, Cond.instanceMethod yX0_setPair, Cond.selects RX0 yX0_setPair yX0_setPair, Cond.code yX0_setPair cX0_setPair 3 none]
def wsX4_jumpToZ : List Cond := .code yX4_jumpToZ cX4_jumpToZ 3 (some .int) :: ((wsX4_jumpToZ_r1 ++ wsX4_jumpToZ_r2) ++ wsX40 ++ wsX00)
def wsX4_comeBack_r1 : List Cond := [Cond.fieldLink RX4 16 "FlagCore" "bytes" "LFlagCore$Bytes;", Cond.constant RX4 50 (65535), Cond.constant RX4 90 (38168), Cond.methodLink RX4 62 yX0_pair, Cond.instanceMethod yX0_pair, Cond.selects RX0 yX0_pair yX0_pair, Cond.initialized RX0, Cond.code yX0_pair cX0_pair 2 (some .int), Cond.fieldLink RX0 9 "FlagCore$Bytes" "row" "[I", Cond.methodLink RX4 235 yX0_pull, Cond.instanceMethod yX0_pull, Cond.selects RX0 yX0_pull yX0_pull, Cond.code yX0_pull cX0_pull 2 (some .int), Cond.methodLink RX0 27 yX0_pair, Cond.methodLink RX0 30 yX0_setPair, Cond.instanceMethod yX0_setPair, Cond.selects RX0 yX0_setPair yX0_setPair, Cond.code yX0_setPair cX0_setPair 3 none, Cond.methodLink RX0 15 yX0_get, Cond.instanceMethod yX0_get, Cond.selects RX0 yX0_get yX0_get, Cond.code yX0_get cX0_get 2 (some .int), Cond.methodLink RX4 99 yX0_setFlag, Cond.instanceMethod yX0_setFlag]
def wsX4_comeBack_r2 : List Cond := [Cond.selects RX0 yX0_setFlag yX0_setFlag, Cond.code yX0_setFlag cX0_setFlag 3 none, Cond.methodLink RX0 23 yX0_setBit, Cond.instanceMethod yX0_setBit, Cond.selects RX0 yX0_setBit yX0_setBit, Cond.code yX0_setBit cX0_setBit 4 none, Cond.methodLink RX0 19 yX0_set, Cond.instanceMethod yX0_set, Cond.selects RX0 yX0_set yX0_set, Cond.code yX0_set cX0_set 3 none, Cond.methodLink RX4 248 yX4_jumpTo, Cond.instanceMethod yX4_jumpTo, Cond.selects RX4 yX4_jumpTo yX4_jumpTo, Cond.initialized RX4, Cond.code yX4_jumpTo cX4_jumpTo 2 (some .int), Cond.fieldLink RX4 32 "FlagCore" "pc" "I"]
def wsX4_comeBack : List Cond := .code yX4_comeBack cX4_comeBack 5 (some .int) :: ((wsX4_comeBack_r1 ++ wsX4_comeBack_r2) ++ wsX40 ++ wsX00)
def wsX4_perform_r1 : List Cond := [Cond.methodLink RX4 69 yX3_groupOf, Cond.static yX3_groupOf, Cond.initialized RX3, Cond.code yX3_groupOf cX3_groupOf 1 (some .int), Cond.methodLink RX3 13 yX3_lowGroupOf, Cond.static yX3_lowGroupOf, Cond.code yX3_lowGroupOf cX3_lowGroupOf 1 (some .int), Cond.methodLink RX3 19 yX3_mixedGroupOf, Cond.static yX3_mixedGroupOf, Cond.code yX3_mixedGroupOf cX3_mixedGroupOf 1 (some .int), Cond.methodLink RX3 25 yX3_memoryGroupOf, Cond.static yX3_memoryGroupOf, Cond.code yX3_memoryGroupOf cX3_memoryGroupOf 1 (some .int), Cond.methodLink RX3 31 yX3_d, Cond.static yX3_d, Cond.code yX3_d cX3_d 1 (some .int), Cond.methodLink RX3 34 yX3_pointer, Cond.static yX3_pointer, Cond.code yX3_pointer cX3_pointer 1 (some .int), Cond.methodLink RX3 37 yX3_isOneOf, Cond.static yX3_isOneOf, Cond.code yX3_isOneOf cX3_isOneOf 2 (some .boolean), Cond.methodLink RX3 28 yX3_singleGroupOf, Cond.static yX3_singleGroupOf]
def wsX4_perform_r2 : List Cond := [Cond.code yX3_singleGroupOf cX3_singleGroupOf 1 (some .int), Cond.methodLink RX3 41 yX3_flagGroupOf, Cond.static yX3_flagGroupOf, Cond.code yX3_flagGroupOf cX3_flagGroupOf 1 (some .int), Cond.methodLink RX3 22 yX3_highGroupOf, Cond.static yX3_highGroupOf, Cond.code yX3_highGroupOf cX3_highGroupOf 1 (some .int), Cond.methodLink RX4 102 yX4_onward, Cond.instanceMethod yX4_onward, Cond.selects RX4 yX4_onward yX4_onward, Cond.initialized RX4, Cond.code yX4_onward cX4_onward 2 (some .int), Cond.fieldLink RX4 32 "FlagCore" "pc" "I", Cond.methodLink RX4 105 yX4_movePair, Cond.instanceMethod yX4_movePair, Cond.selects RX4 yX4_movePair yX4_movePair, Cond.code yX4_movePair cX4_movePair 2 (some .int), Cond.fieldLink RX4 16 "FlagCore" "bytes" "LFlagCore$Bytes;", Cond.methodLink RX4 62 yX0_pair, Cond.instanceMethod yX0_pair, Cond.selects RX0 yX0_pair yX0_pair, Cond.initialized RX0, Cond.code yX0_pair cX0_pair 2 (some .int), Cond.fieldLink RX0 9 "FlagCore$Bytes" "row" "[I"]
def wsX4_perform_r3 : List Cond := [Cond.methodLink RX4 170 yX0_setPair, Cond.instanceMethod yX0_setPair, Cond.selects RX0 yX0_setPair yX0_setPair, Cond.code yX0_setPair cX0_setPair 3 none, Cond.methodLink RX4 108 yX4_multiply, Cond.instanceMethod yX4_multiply, Cond.selects RX4 yX4_multiply yX4_multiply, Cond.code yX4_multiply cX4_multiply 2 (some .int), Cond.fieldLink RX4 25 "FlagCore" "sums" "LFlagCore$Sums;", Cond.methodLink RX4 173 yX3_d, Cond.methodLink RX4 55 yX0_get, Cond.instanceMethod yX0_get, Cond.selects RX0 yX0_get yX0_get, Cond.code yX0_get cX0_get 2 (some .int), Cond.methodLink RX4 176 yX3_r, Cond.static yX3_r, Cond.code yX3_r cX3_r 1 (some .int), Cond.methodLink RX4 179 yX2_product, Cond.instanceMethod yX2_product, Cond.selects RX2 yX2_product yX2_product, Cond.initialized RX2, Cond.code yX2_product cX2_product 2 none, Cond.methodLink RX2 41 yX2_keepProduct, Cond.instanceMethod yX2_keepProduct]
def wsX4_perform_r4 : List Cond := [Cond.selects RX2 yX2_keepProduct yX2_keepProduct, Cond.code yX2_keepProduct cX2_keepProduct 3 none, Cond.fieldLink RX2 13 "FlagCore$Sums" "bytes" "LFlagCore$Bytes;", Cond.constant RX2 40 (32768), Cond.constant RX2 35 (65535), Cond.methodLink RX2 44 yX0_setPair, Cond.methodLink RX2 21 yX0_setFlags, Cond.instanceMethod yX0_setFlags, Cond.selects RX0 yX0_setFlags yX0_setFlags, Cond.code yX0_setFlags cX0_setFlags 3 none, Cond.methodLink RX4 183 yX0_signed, Cond.instanceMethod yX0_signed, Cond.selects RX0 yX0_signed yX0_signed, Cond.code yX0_signed cX0_signed 2 (some .int), Cond.methodLink RX4 186 yX4_multiplyFew, Cond.instanceMethod yX4_multiplyFew, Cond.selects RX4 yX4_multiplyFew yX4_multiplyFew, Cond.code yX4_multiplyFew cX4_multiplyFew 4 none, Cond.methodLink RX4 190 yX2_fraction, Cond.instanceMethod yX2_fraction, Cond.selects RX2 yX2_fraction yX2_fraction, Cond.code yX2_fraction cX2_fraction 2 none, Cond.methodLink RX4 111 yX4_combine, Cond.instanceMethod yX4_combine]
def wsX4_perform_r5 : List Cond := [Cond.selects RX4 yX4_combine yX4_combine, Cond.code yX4_combine cX4_combine 6 (some .int), Cond.methodLink RX4 80 yX0_flag, Cond.instanceMethod yX0_flag, Cond.selects RX0 yX0_flag yX0_flag, Cond.code yX0_flag cX0_flag 2 (some .int), Cond.methodLink RX4 193 yX2_differenceOn, Cond.instanceMethod yX2_differenceOn, Cond.selects RX2 yX2_differenceOn yX2_differenceOn, Cond.code yX2_differenceOn cX2_differenceOn 5 (some .int), Cond.methodLink RX2 31 yX0_flag, Cond.methodLink RX2 27 yX2_subtract, Cond.instanceMethod yX2_subtract, Cond.selects RX2 yX2_subtract yX2_subtract, Cond.code yX2_subtract cX2_subtract 9 (some .int), Cond.methodLink RX2 17 yX2_signs, Cond.static yX2_signs, Cond.code yX2_signs cX2_signs 4 (some .int), Cond.methodLink RX4 58 yX0_set, Cond.instanceMethod yX0_set, Cond.selects RX0 yX0_set yX0_set, Cond.code yX0_set cX0_set 3 none, Cond.methodLink RX4 197 yX2_sum, Cond.instanceMethod yX2_sum]
def wsX4_perform_r6 : List Cond := [Cond.selects RX2 yX2_sum yX2_sum, Cond.code yX2_sum cX2_sum 8 (some .int), Cond.methodLink RX4 200 yX4_skip, Cond.instanceMethod yX4_skip, Cond.selects RX4 yX4_skip yX4_skip, Cond.code yX4_skip cX4_skip 2 (some .int), Cond.fieldLink RX4 29 "FlagCore" "tallies" "[I", Cond.methodLink RX4 51 yX4_cellAt, Cond.instanceMethod yX4_cellAt, Cond.selects RX4 yX4_cellAt yX4_cellAt, Cond.code yX4_cellAt cX4_cellAt 2 (some .int), Cond.fieldLink RX4 9 "FlagCore" "cells" "[I", Cond.methodLink RX4 74 yX3_hasNext, Cond.static yX3_hasNext, Cond.code yX3_hasNext cX3_hasNext 1 (some .boolean), Cond.constant RX3 9 (64527), Cond.constant RX3 10 (36864), Cond.constant RX3 11 (65036), Cond.constant RX3 12 (37900), Cond.methodLink RX4 204 yX2_difference, Cond.instanceMethod yX2_difference, Cond.selects RX2 yX2_difference yX2_difference, Cond.code yX2_difference cX2_difference 3 (some .int), Cond.methodLink RX4 208 yX2_logic]
def wsX4_perform_r7 : List Cond := [Cond.instanceMethod yX2_logic, Cond.selects RX2 yX2_logic yX2_logic, Cond.code yX2_logic cX2_logic 2 (some .int), Cond.methodLink RX4 114 yX4_combineWithNumber, Cond.instanceMethod yX4_combineWithNumber, Cond.selects RX4 yX4_combineWithNumber yX4_combineWithNumber, Cond.code yX4_combineWithNumber cX4_combineWithNumber 5 (some .int), Cond.methodLink RX4 117 yX4_change, Cond.instanceMethod yX4_change, Cond.selects RX4 yX4_change yX4_change, Cond.code yX4_change cX4_change 4 (some .int), Cond.methodLink RX4 211 yX2_inverse, Cond.instanceMethod yX2_inverse, Cond.selects RX2 yX2_inverse yX2_inverse, Cond.code yX2_inverse cX2_inverse 3 (some .int), Cond.methodLink RX4 214 yX2_more, Cond.instanceMethod yX2_more, Cond.selects RX2 yX2_more yX2_more, Cond.code yX2_more cX2_more 3 (some .int), Cond.methodLink RX4 217 yX2_right, Cond.instanceMethod yX2_right, Cond.selects RX2 yX2_right yX2_right, Cond.code yX2_right cX2_right 5 (some .int), Cond.methodLink RX4 220 yX2_less]
def wsX4_perform_r8 : List Cond := [Cond.instanceMethod yX2_less, Cond.selects RX2 yX2_less yX2_less, Cond.code yX2_less cX2_less 3 (some .int), Cond.methodLink RX4 120 yX4_setFlag, Cond.instanceMethod yX4_setFlag, Cond.selects RX4 yX4_setFlag yX4_setFlag, Cond.code yX4_setFlag cX4_setFlag 2 (some .int), Cond.methodLink RX4 99 yX0_setFlag, Cond.instanceMethod yX0_setFlag, Cond.selects RX0 yX0_setFlag yX0_setFlag, Cond.code yX0_setFlag cX0_setFlag 3 none, Cond.methodLink RX0 23 yX0_setBit, Cond.instanceMethod yX0_setBit, Cond.selects RX0 yX0_setBit yX0_setBit, Cond.code yX0_setBit cX0_setBit 4 none, Cond.methodLink RX0 15 yX0_get, Cond.methodLink RX0 19 yX0_set, Cond.methodLink RX4 122 yX4_changePair, Cond.instanceMethod yX4_changePair, Cond.selects RX4 yX4_changePair yX4_changePair, Cond.code yX4_changePair cX4_changePair 5 (some .int), Cond.methodLink RX4 223 yX2_pairMore, Cond.instanceMethod yX2_pairMore, Cond.selects RX2 yX2_pairMore yX2_pairMore]
def wsX4_perform_r9 : List Cond := [Cond.code yX2_pairMore cX2_pairMore 4 (some .int), Cond.methodLink RX2 36 yX2_pairFlags, Cond.instanceMethod yX2_pairFlags, Cond.selects RX2 yX2_pairFlags yX2_pairFlags, Cond.code yX2_pairFlags cX2_pairFlags 5 none, Cond.methodLink RX4 226 yX2_pairLess, Cond.instanceMethod yX2_pairLess, Cond.selects RX2 yX2_pairLess yX2_pairLess, Cond.code yX2_pairLess cX2_pairLess 4 (some .int), Cond.methodLink RX4 125 yX4_moveAtNext, Cond.instanceMethod yX4_moveAtNext, Cond.selects RX4 yX4_moveAtNext yX4_moveAtNext, Cond.code yX4_moveAtNext cX4_moveAtNext 3 (some .int), Cond.methodLink RX4 229 yX4_transfer, Cond.instanceMethod yX4_transfer, Cond.selects RX4 yX4_transfer yX4_transfer, Cond.code yX4_transfer cX4_transfer 4 none, Cond.methodLink RX4 128 yX4_movePointed, Cond.instanceMethod yX4_movePointed, Cond.selects RX4 yX4_movePointed yX4_movePointed, Cond.code yX4_movePointed cX4_movePointed 7 (some .int), Cond.constant RX4 50 (65535), Cond.methodLink RX4 232 yX3_pointer, Cond.methodLink RX4 131 yX4_moveStacked]
def wsX4_perform_r10 : List Cond := [Cond.instanceMethod yX4_moveStacked, Cond.selects RX4 yX4_moveStacked yX4_moveStacked, Cond.code yX4_moveStacked cX4_moveStacked 5 (some .int), Cond.methodLink RX4 235 yX0_pull, Cond.instanceMethod yX0_pull, Cond.selects RX0 yX0_pull yX0_pull, Cond.code yX0_pull cX0_pull 2 (some .int), Cond.methodLink RX0 27 yX0_pair, Cond.methodLink RX0 30 yX0_setPair, Cond.methodLink RX4 238 yX0_push, Cond.instanceMethod yX0_push, Cond.selects RX0 yX0_push yX0_push, Cond.code yX0_push cX0_push 3 none, Cond.methodLink RX4 134 yX4_moveBeside, Cond.instanceMethod yX4_moveBeside, Cond.selects RX4 yX4_moveBeside yX4_moveBeside, Cond.code yX4_moveBeside cX4_moveBeside 5 (some .int), Cond.methodLink RX4 137 yX4_moveFromCode, Cond.instanceMethod yX4_moveFromCode, Cond.selects RX4 yX4_moveFromCode yX4_moveFromCode, Cond.code yX4_moveFromCode cX4_moveFromCode 4 (some .int), Cond.constant RX4 241 (38344), Cond.methodLink RX4 140 yX4_movePort, Cond.instanceMethod yX4_movePort]
def wsX4_perform_r11 : List Cond := [Cond.selects RX4 yX4_movePort yX4_movePort, Cond.code yX4_movePort cX4_movePort 4 (some .int), Cond.methodLink RX4 143 yX4_setPortBit, Cond.instanceMethod yX4_setPortBit, Cond.selects RX4 yX4_setPortBit yX4_setPortBit, Cond.code yX4_setPortBit cX4_setPortBit 2 (some .int), Cond.methodLink RX4 242 yX0_setBit, Cond.methodLink RX4 146 yX4_skipByPort, Cond.instanceMethod yX4_skipByPort, Cond.selects RX4 yX4_skipByPort yX4_skipByPort, Cond.code yX4_skipByPort cX4_skipByPort 2 (some .int), Cond.methodLink RX4 245 yX0_bit, Cond.instanceMethod yX0_bit, Cond.selects RX0 yX0_bit yX0_bit, Cond.code yX0_bit cX0_bit 3 (some .int), Cond.methodLink RX4 149 yX4_skipByBit, Cond.instanceMethod yX4_skipByBit, Cond.selects RX4 yX4_skipByBit yX4_skipByBit, Cond.code yX4_skipByBit cX4_skipByBit 2 (some .int), Cond.methodLink RX4 152 yX4_moveBit, Cond.instanceMethod yX4_moveBit, Cond.selects RX4 yX4_moveBit yX4_moveBit, Cond.code yX4_moveBit cX4_moveBit 3 (some .int), Cond.methodLink RX4 155 yX4_jumpNear]
def wsX4_perform_r12 : List Cond := [Cond.instanceMethod yX4_jumpNear, Cond.selects RX4 yX4_jumpNear yX4_jumpNear, Cond.code yX4_jumpNear cX4_jumpNear 4 (some .int), Cond.methodLink RX4 248 yX4_jumpTo, Cond.instanceMethod yX4_jumpTo, Cond.selects RX4 yX4_jumpTo yX4_jumpTo, Cond.code yX4_jumpTo cX4_jumpTo 2 (some .int), Cond.methodLink RX4 251 yX4_callTo, Cond.instanceMethod yX4_callTo, Cond.selects RX4 yX4_callTo yX4_callTo, Cond.code yX4_callTo cX4_callTo 3 (some .int), Cond.methodLink RX4 91 yX0_stacks, Cond.instanceMethod yX0_stacks, Cond.selects RX0 yX0_stacks yX0_stacks, Cond.code yX0_stacks cX0_stacks 3 (some .boolean), Cond.methodLink RX4 158 yX4_branch, Cond.instanceMethod yX4_branch, Cond.selects RX4 yX4_branch yX4_branch, Cond.code yX4_branch cX4_branch 4 (some .int), Cond.methodLink RX4 161 yX4_jumpFar, Cond.instanceMethod yX4_jumpFar, Cond.selects RX4 yX4_jumpFar yX4_jumpFar, Cond.code yX4_jumpFar cX4_jumpFar 3 (some .int), Cond.methodLink RX4 164 yX4_jumpToZ]
def wsX4_perform_r13 : List Cond := [Cond.instanceMethod yX4_jumpToZ, Cond.selects RX4 yX4_jumpToZ yX4_jumpToZ, Cond.code yX4_jumpToZ cX4_jumpToZ 3 (some .int), Cond.methodLink RX4 167 yX4_comeBack, Cond.instanceMethod yX4_comeBack, Cond.selects RX4 yX4_comeBack yX4_comeBack, Cond.code yX4_comeBack cX4_comeBack 5 (some .int), Cond.constant RX4 90 (38168)]
def wsX4_perform : List Cond := .code yX4_perform cX4_perform 2 (some .int) :: ((wsX4_perform_r1 ++ (wsX4_perform_r2 ++ (wsX4_perform_r3 ++ (wsX4_perform_r4 ++ (wsX4_perform_r5 ++ (wsX4_perform_r6 ++ (wsX4_perform_r7 ++ (wsX4_perform_r8 ++ (wsX4_perform_r9 ++ (wsX4_perform_r10 ++ (wsX4_perform_r11 ++ (wsX4_perform_r12 ++ wsX4_perform_r13)))))))))))) ++ wsX40 ++ wsX00 ++ wsX20)
def wsX4_advance_r1 : List Cond := [Cond.fieldLink RX4 36 "FlagCore" "asked" "I", Cond.fieldLink RX4 42 "FlagCore" "waiting" "Z", Cond.fieldLink RX4 16 "FlagCore" "bytes" "LFlagCore$Bytes;", Cond.fieldLink RX4 39 "FlagCore" "latest" "I", Cond.fieldLink RX4 32 "FlagCore" "pc" "I", Cond.constant RX4 89 (38008), Cond.constant RX4 90 (38168), Cond.fieldLink RX4 29 "FlagCore" "tallies" "[I", Cond.methodLink RX4 80 yX0_flag, Cond.instanceMethod yX0_flag, Cond.selects RX0 yX0_flag yX0_flag, Cond.initialized RX0, Cond.code yX0_flag cX0_flag 2 (some .int), Cond.fieldLink RX0 9 "FlagCore$Bytes" "row" "[I", Cond.methodLink RX4 83 yX4_enterLeast, Cond.instanceMethod yX4_enterLeast, Cond.selects RX4 yX4_enterLeast yX4_enterLeast, Cond.initialized RX4, Cond.code yX4_enterLeast cX4_enterLeast 1 (some .int), Cond.methodLink RX4 91 yX0_stacks, Cond.instanceMethod yX0_stacks, Cond.selects RX0 yX0_stacks yX0_stacks, Cond.code yX0_stacks cX0_stacks 3 (some .boolean), Cond.methodLink RX0 27 yX0_pair]
def wsX4_advance_r2 : List Cond := [Cond.instanceMethod yX0_pair, Cond.selects RX0 yX0_pair yX0_pair, Cond.code yX0_pair cX0_pair 2 (some .int), Cond.methodLink RX0 19 yX0_set, Cond.instanceMethod yX0_set, Cond.selects RX0 yX0_set yX0_set, Cond.code yX0_set cX0_set 3 none, Cond.methodLink RX0 30 yX0_setPair, Cond.instanceMethod yX0_setPair, Cond.selects RX0 yX0_setPair yX0_setPair, Cond.code yX0_setPair cX0_setPair 3 none, Cond.methodLink RX4 94 yJ6_numberOfTrailingZeros_0f7a4, Cond.static yJ6_numberOfTrailingZeros_0f7a4, Cond.initialized RJ6, Cond.code yJ6_numberOfTrailingZeros_0f7a4 cJ6_numberOfTrailingZeros_0f7a4 2 (some .int), Cond.constant RJ6 264 (65536), Cond.methodLink RX4 99 yX0_setFlag, Cond.instanceMethod yX0_setFlag, Cond.selects RX0 yX0_setFlag yX0_setFlag, Cond.code yX0_setFlag cX0_setFlag 3 none, Cond.methodLink RX0 23 yX0_setBit, Cond.instanceMethod yX0_setBit, Cond.selects RX0 yX0_setBit yX0_setBit, Cond.code yX0_setBit cX0_setBit 4 none]
def wsX4_advance_r3 : List Cond := [Cond.methodLink RX0 15 yX0_get, Cond.instanceMethod yX0_get, Cond.selects RX0 yX0_get yX0_get, Cond.code yX0_get cX0_get 2 (some .int), Cond.methodLink RX4 51 yX4_cellAt, Cond.instanceMethod yX4_cellAt, Cond.selects RX4 yX4_cellAt yX4_cellAt, Cond.code yX4_cellAt cX4_cellAt 2 (some .int), Cond.fieldLink RX4 9 "FlagCore" "cells" "[I", Cond.methodLink RX4 86 yX4_perform, Cond.instanceMethod yX4_perform, Cond.selects RX4 yX4_perform yX4_perform, Cond.code yX4_perform cX4_perform 2 (some .int), Cond.methodLink RX4 69 yX3_groupOf, Cond.static yX3_groupOf, Cond.initialized RX3, Cond.code yX3_groupOf cX3_groupOf 1 (some .int), Cond.methodLink RX3 13 yX3_lowGroupOf, Cond.static yX3_lowGroupOf, Cond.code yX3_lowGroupOf cX3_lowGroupOf 1 (some .int), Cond.methodLink RX3 19 yX3_mixedGroupOf, Cond.static yX3_mixedGroupOf, Cond.code yX3_mixedGroupOf cX3_mixedGroupOf 1 (some .int), Cond.methodLink RX3 25 yX3_memoryGroupOf]
def wsX4_advance_r4 : List Cond := [Cond.static yX3_memoryGroupOf, Cond.code yX3_memoryGroupOf cX3_memoryGroupOf 1 (some .int), Cond.methodLink RX3 31 yX3_d, Cond.static yX3_d, Cond.code yX3_d cX3_d 1 (some .int), Cond.methodLink RX3 34 yX3_pointer, Cond.static yX3_pointer, Cond.code yX3_pointer cX3_pointer 1 (some .int), Cond.methodLink RX3 37 yX3_isOneOf, Cond.static yX3_isOneOf, Cond.code yX3_isOneOf cX3_isOneOf 2 (some .boolean), Cond.methodLink RX3 28 yX3_singleGroupOf, Cond.static yX3_singleGroupOf, Cond.code yX3_singleGroupOf cX3_singleGroupOf 1 (some .int), Cond.methodLink RX3 41 yX3_flagGroupOf, Cond.static yX3_flagGroupOf, Cond.code yX3_flagGroupOf cX3_flagGroupOf 1 (some .int), Cond.methodLink RX3 22 yX3_highGroupOf, Cond.static yX3_highGroupOf, Cond.code yX3_highGroupOf cX3_highGroupOf 1 (some .int), Cond.methodLink RX4 102 yX4_onward, Cond.instanceMethod yX4_onward, Cond.selects RX4 yX4_onward yX4_onward, Cond.code yX4_onward cX4_onward 2 (some .int)]
def wsX4_advance_r5 : List Cond := [Cond.methodLink RX4 105 yX4_movePair, Cond.instanceMethod yX4_movePair, Cond.selects RX4 yX4_movePair yX4_movePair, Cond.code yX4_movePair cX4_movePair 2 (some .int), Cond.methodLink RX4 62 yX0_pair, Cond.methodLink RX4 170 yX0_setPair, Cond.methodLink RX4 108 yX4_multiply, Cond.instanceMethod yX4_multiply, Cond.selects RX4 yX4_multiply yX4_multiply, Cond.code yX4_multiply cX4_multiply 2 (some .int), Cond.fieldLink RX4 25 "FlagCore" "sums" "LFlagCore$Sums;", Cond.methodLink RX4 173 yX3_d, Cond.methodLink RX4 55 yX0_get, Cond.methodLink RX4 176 yX3_r, Cond.static yX3_r, Cond.code yX3_r cX3_r 1 (some .int), Cond.methodLink RX4 179 yX2_product, Cond.instanceMethod yX2_product, Cond.selects RX2 yX2_product yX2_product, Cond.initialized RX2, Cond.code yX2_product cX2_product 2 none, Cond.methodLink RX2 41 yX2_keepProduct, Cond.instanceMethod yX2_keepProduct, Cond.selects RX2 yX2_keepProduct yX2_keepProduct]
def wsX4_advance_r6 : List Cond := [Cond.code yX2_keepProduct cX2_keepProduct 3 none, Cond.fieldLink RX2 13 "FlagCore$Sums" "bytes" "LFlagCore$Bytes;", Cond.constant RX2 40 (32768), Cond.constant RX2 35 (65535), Cond.methodLink RX2 44 yX0_setPair, Cond.methodLink RX2 21 yX0_setFlags, Cond.instanceMethod yX0_setFlags, Cond.selects RX0 yX0_setFlags yX0_setFlags, Cond.code yX0_setFlags cX0_setFlags 3 none, Cond.methodLink RX4 183 yX0_signed, Cond.instanceMethod yX0_signed, Cond.selects RX0 yX0_signed yX0_signed, Cond.code yX0_signed cX0_signed 2 (some .int), Cond.methodLink RX4 186 yX4_multiplyFew, Cond.instanceMethod yX4_multiplyFew, Cond.selects RX4 yX4_multiplyFew yX4_multiplyFew, Cond.code yX4_multiplyFew cX4_multiplyFew 4 none, Cond.methodLink RX4 190 yX2_fraction, Cond.instanceMethod yX2_fraction, Cond.selects RX2 yX2_fraction yX2_fraction, Cond.code yX2_fraction cX2_fraction 2 none, Cond.methodLink RX4 111 yX4_combine, Cond.instanceMethod yX4_combine, Cond.selects RX4 yX4_combine yX4_combine]
def wsX4_advance_r7 : List Cond := [Cond.code yX4_combine cX4_combine 6 (some .int), Cond.methodLink RX4 193 yX2_differenceOn, Cond.instanceMethod yX2_differenceOn, Cond.selects RX2 yX2_differenceOn yX2_differenceOn, Cond.code yX2_differenceOn cX2_differenceOn 5 (some .int), Cond.methodLink RX2 31 yX0_flag, Cond.methodLink RX2 27 yX2_subtract, Cond.instanceMethod yX2_subtract, Cond.selects RX2 yX2_subtract yX2_subtract, Cond.code yX2_subtract cX2_subtract 9 (some .int), Cond.methodLink RX2 17 yX2_signs, Cond.static yX2_signs, Cond.code yX2_signs cX2_signs 4 (some .int), Cond.methodLink RX4 58 yX0_set, Cond.methodLink RX4 197 yX2_sum, Cond.instanceMethod yX2_sum, Cond.selects RX2 yX2_sum yX2_sum, Cond.code yX2_sum cX2_sum 8 (some .int), Cond.methodLink RX4 200 yX4_skip, Cond.instanceMethod yX4_skip, Cond.selects RX4 yX4_skip yX4_skip, Cond.code yX4_skip cX4_skip 2 (some .int), Cond.methodLink RX4 74 yX3_hasNext, Cond.static yX3_hasNext]
def wsX4_advance_r8 : List Cond := [Cond.code yX3_hasNext cX3_hasNext 1 (some .boolean), Cond.constant RX3 9 (64527), Cond.constant RX3 10 (36864), Cond.constant RX3 11 (65036), Cond.constant RX3 12 (37900), Cond.methodLink RX4 204 yX2_difference, Cond.instanceMethod yX2_difference, Cond.selects RX2 yX2_difference yX2_difference, Cond.code yX2_difference cX2_difference 3 (some .int), Cond.methodLink RX4 208 yX2_logic, Cond.instanceMethod yX2_logic, Cond.selects RX2 yX2_logic yX2_logic, Cond.code yX2_logic cX2_logic 2 (some .int), Cond.methodLink RX4 114 yX4_combineWithNumber, Cond.instanceMethod yX4_combineWithNumber, Cond.selects RX4 yX4_combineWithNumber yX4_combineWithNumber, Cond.code yX4_combineWithNumber cX4_combineWithNumber 5 (some .int), Cond.methodLink RX4 117 yX4_change, Cond.instanceMethod yX4_change, Cond.selects RX4 yX4_change yX4_change, Cond.code yX4_change cX4_change 4 (some .int), Cond.methodLink RX4 211 yX2_inverse, Cond.instanceMethod yX2_inverse, Cond.selects RX2 yX2_inverse yX2_inverse]
def wsX4_advance_r9 : List Cond := [Cond.code yX2_inverse cX2_inverse 3 (some .int), Cond.methodLink RX4 214 yX2_more, Cond.instanceMethod yX2_more, Cond.selects RX2 yX2_more yX2_more, Cond.code yX2_more cX2_more 3 (some .int), Cond.methodLink RX4 217 yX2_right, Cond.instanceMethod yX2_right, Cond.selects RX2 yX2_right yX2_right, Cond.code yX2_right cX2_right 5 (some .int), Cond.methodLink RX4 220 yX2_less, Cond.instanceMethod yX2_less, Cond.selects RX2 yX2_less yX2_less, Cond.code yX2_less cX2_less 3 (some .int), Cond.methodLink RX4 120 yX4_setFlag, Cond.instanceMethod yX4_setFlag, Cond.selects RX4 yX4_setFlag yX4_setFlag, Cond.code yX4_setFlag cX4_setFlag 2 (some .int), Cond.methodLink RX4 122 yX4_changePair, Cond.instanceMethod yX4_changePair, Cond.selects RX4 yX4_changePair yX4_changePair, Cond.code yX4_changePair cX4_changePair 5 (some .int), Cond.methodLink RX4 223 yX2_pairMore, Cond.instanceMethod yX2_pairMore, Cond.selects RX2 yX2_pairMore yX2_pairMore]
def wsX4_advance_r10 : List Cond := [Cond.code yX2_pairMore cX2_pairMore 4 (some .int), Cond.methodLink RX2 36 yX2_pairFlags, Cond.instanceMethod yX2_pairFlags, Cond.selects RX2 yX2_pairFlags yX2_pairFlags, Cond.code yX2_pairFlags cX2_pairFlags 5 none, Cond.methodLink RX4 226 yX2_pairLess, Cond.instanceMethod yX2_pairLess, Cond.selects RX2 yX2_pairLess yX2_pairLess, Cond.code yX2_pairLess cX2_pairLess 4 (some .int), Cond.methodLink RX4 125 yX4_moveAtNext, Cond.instanceMethod yX4_moveAtNext, Cond.selects RX4 yX4_moveAtNext yX4_moveAtNext, Cond.code yX4_moveAtNext cX4_moveAtNext 3 (some .int), Cond.methodLink RX4 229 yX4_transfer, Cond.instanceMethod yX4_transfer, Cond.selects RX4 yX4_transfer yX4_transfer, Cond.code yX4_transfer cX4_transfer 4 none, Cond.methodLink RX4 128 yX4_movePointed, Cond.instanceMethod yX4_movePointed, Cond.selects RX4 yX4_movePointed yX4_movePointed, Cond.code yX4_movePointed cX4_movePointed 7 (some .int), Cond.constant RX4 50 (65535), Cond.methodLink RX4 232 yX3_pointer, Cond.methodLink RX4 131 yX4_moveStacked]
def wsX4_advance_r11 : List Cond := [Cond.instanceMethod yX4_moveStacked, Cond.selects RX4 yX4_moveStacked yX4_moveStacked, Cond.code yX4_moveStacked cX4_moveStacked 5 (some .int), Cond.methodLink RX4 235 yX0_pull, Cond.instanceMethod yX0_pull, Cond.selects RX0 yX0_pull yX0_pull, Cond.code yX0_pull cX0_pull 2 (some .int), Cond.methodLink RX4 238 yX0_push, Cond.instanceMethod yX0_push, Cond.selects RX0 yX0_push yX0_push, Cond.code yX0_push cX0_push 3 none, Cond.methodLink RX4 134 yX4_moveBeside, Cond.instanceMethod yX4_moveBeside, Cond.selects RX4 yX4_moveBeside yX4_moveBeside, Cond.code yX4_moveBeside cX4_moveBeside 5 (some .int), Cond.methodLink RX4 137 yX4_moveFromCode, Cond.instanceMethod yX4_moveFromCode, Cond.selects RX4 yX4_moveFromCode yX4_moveFromCode, Cond.code yX4_moveFromCode cX4_moveFromCode 4 (some .int), Cond.constant RX4 241 (38344), Cond.methodLink RX4 140 yX4_movePort, Cond.instanceMethod yX4_movePort, Cond.selects RX4 yX4_movePort yX4_movePort, Cond.code yX4_movePort cX4_movePort 4 (some .int)]
def wsX4_advance_r12 : List Cond := [Cond.methodLink RX4 143 yX4_setPortBit, Cond.instanceMethod yX4_setPortBit, Cond.selects RX4 yX4_setPortBit yX4_setPortBit, Cond.code yX4_setPortBit cX4_setPortBit 2 (some .int), Cond.methodLink RX4 242 yX0_setBit, Cond.methodLink RX4 146 yX4_skipByPort, Cond.instanceMethod yX4_skipByPort, Cond.selects RX4 yX4_skipByPort yX4_skipByPort, Cond.code yX4_skipByPort cX4_skipByPort 2 (some .int), Cond.methodLink RX4 245 yX0_bit, Cond.instanceMethod yX0_bit, Cond.selects RX0 yX0_bit yX0_bit, Cond.code yX0_bit cX0_bit 3 (some .int), Cond.methodLink RX4 149 yX4_skipByBit, Cond.instanceMethod yX4_skipByBit, Cond.selects RX4 yX4_skipByBit yX4_skipByBit, Cond.code yX4_skipByBit cX4_skipByBit 2 (some .int), Cond.methodLink RX4 152 yX4_moveBit, Cond.instanceMethod yX4_moveBit, Cond.selects RX4 yX4_moveBit yX4_moveBit, Cond.code yX4_moveBit cX4_moveBit 3 (some .int), Cond.methodLink RX4 155 yX4_jumpNear, Cond.instanceMethod yX4_jumpNear, Cond.selects RX4 yX4_jumpNear yX4_jumpNear]
def wsX4_advance_r13 : List Cond := [Cond.code yX4_jumpNear cX4_jumpNear 4 (some .int), Cond.methodLink RX4 248 yX4_jumpTo, Cond.instanceMethod yX4_jumpTo, Cond.selects RX4 yX4_jumpTo yX4_jumpTo, Cond.code yX4_jumpTo cX4_jumpTo 2 (some .int), Cond.methodLink RX4 251 yX4_callTo, Cond.instanceMethod yX4_callTo, Cond.selects RX4 yX4_callTo yX4_callTo, Cond.code yX4_callTo cX4_callTo 3 (some .int), Cond.methodLink RX4 158 yX4_branch, Cond.instanceMethod yX4_branch, Cond.selects RX4 yX4_branch yX4_branch, Cond.code yX4_branch cX4_branch 4 (some .int), Cond.methodLink RX4 161 yX4_jumpFar, Cond.instanceMethod yX4_jumpFar, Cond.selects RX4 yX4_jumpFar yX4_jumpFar, Cond.code yX4_jumpFar cX4_jumpFar 3 (some .int), Cond.methodLink RX4 164 yX4_jumpToZ, Cond.instanceMethod yX4_jumpToZ, Cond.selects RX4 yX4_jumpToZ yX4_jumpToZ, Cond.code yX4_jumpToZ cX4_jumpToZ 3 (some .int), Cond.methodLink RX4 167 yX4_comeBack, Cond.instanceMethod yX4_comeBack, Cond.selects RX4 yX4_comeBack yX4_comeBack]
def wsX4_advance_r14 : List Cond := [Cond.code yX4_comeBack cX4_comeBack 5 (some .int)]
def wsX4_advance : List Cond := .code yX4_advance cX4_advance 2 (some .int) :: ((wsX4_advance_r1 ++ (wsX4_advance_r2 ++ (wsX4_advance_r3 ++ (wsX4_advance_r4 ++ (wsX4_advance_r5 ++ (wsX4_advance_r6 ++ (wsX4_advance_r7 ++ (wsX4_advance_r8 ++ (wsX4_advance_r9 ++ (wsX4_advance_r10 ++ (wsX4_advance_r11 ++ (wsX4_advance_r12 ++ (wsX4_advance_r13 ++ wsX4_advance_r14))))))))))))) ++ wsX40 ++ wsX00 ++ wsX20)
def wsX4_step_r1 : List Cond := [Cond.methodLink RX4 65 yX4_advance, Cond.instanceMethod yX4_advance, Cond.selects RX4 yX4_advance yX4_advance, Cond.initialized RX4, Cond.code yX4_advance cX4_advance 2 (some .int), Cond.fieldLink RX4 36 "FlagCore" "asked" "I", Cond.fieldLink RX4 42 "FlagCore" "waiting" "Z", Cond.fieldLink RX4 16 "FlagCore" "bytes" "LFlagCore$Bytes;", Cond.fieldLink RX4 39 "FlagCore" "latest" "I", Cond.fieldLink RX4 32 "FlagCore" "pc" "I", Cond.constant RX4 89 (38008), Cond.constant RX4 90 (38168), Cond.fieldLink RX4 29 "FlagCore" "tallies" "[I", Cond.methodLink RX4 80 yX0_flag, Cond.instanceMethod yX0_flag, Cond.selects RX0 yX0_flag yX0_flag, Cond.initialized RX0, Cond.code yX0_flag cX0_flag 2 (some .int), Cond.fieldLink RX0 9 "FlagCore$Bytes" "row" "[I", Cond.methodLink RX4 83 yX4_enterLeast, Cond.instanceMethod yX4_enterLeast, Cond.selects RX4 yX4_enterLeast yX4_enterLeast, Cond.code yX4_enterLeast cX4_enterLeast 1 (some .int), Cond.methodLink RX4 91 yX0_stacks]
def wsX4_step_r2 : List Cond := [Cond.instanceMethod yX0_stacks, Cond.selects RX0 yX0_stacks yX0_stacks, Cond.code yX0_stacks cX0_stacks 3 (some .boolean), Cond.methodLink RX0 27 yX0_pair, Cond.instanceMethod yX0_pair, Cond.selects RX0 yX0_pair yX0_pair, Cond.code yX0_pair cX0_pair 2 (some .int), Cond.methodLink RX0 19 yX0_set, Cond.instanceMethod yX0_set, Cond.selects RX0 yX0_set yX0_set, Cond.code yX0_set cX0_set 3 none, Cond.methodLink RX0 30 yX0_setPair, Cond.instanceMethod yX0_setPair, Cond.selects RX0 yX0_setPair yX0_setPair, Cond.code yX0_setPair cX0_setPair 3 none, Cond.methodLink RX4 94 yJ6_numberOfTrailingZeros_0f7a4, Cond.static yJ6_numberOfTrailingZeros_0f7a4, Cond.initialized RJ6, Cond.code yJ6_numberOfTrailingZeros_0f7a4 cJ6_numberOfTrailingZeros_0f7a4 2 (some .int), Cond.constant RJ6 264 (65536), Cond.methodLink RX4 99 yX0_setFlag, Cond.instanceMethod yX0_setFlag, Cond.selects RX0 yX0_setFlag yX0_setFlag, Cond.code yX0_setFlag cX0_setFlag 3 none]
def wsX4_step_r3 : List Cond := [Cond.methodLink RX0 23 yX0_setBit, Cond.instanceMethod yX0_setBit, Cond.selects RX0 yX0_setBit yX0_setBit, Cond.code yX0_setBit cX0_setBit 4 none, Cond.methodLink RX0 15 yX0_get, Cond.instanceMethod yX0_get, Cond.selects RX0 yX0_get yX0_get, Cond.code yX0_get cX0_get 2 (some .int), Cond.methodLink RX4 51 yX4_cellAt, Cond.instanceMethod yX4_cellAt, Cond.selects RX4 yX4_cellAt yX4_cellAt, Cond.code yX4_cellAt cX4_cellAt 2 (some .int), Cond.fieldLink RX4 9 "FlagCore" "cells" "[I", Cond.methodLink RX4 86 yX4_perform, Cond.instanceMethod yX4_perform, Cond.selects RX4 yX4_perform yX4_perform, Cond.code yX4_perform cX4_perform 2 (some .int), Cond.methodLink RX4 69 yX3_groupOf, Cond.static yX3_groupOf, Cond.initialized RX3, Cond.code yX3_groupOf cX3_groupOf 1 (some .int), Cond.methodLink RX3 13 yX3_lowGroupOf, Cond.static yX3_lowGroupOf, Cond.code yX3_lowGroupOf cX3_lowGroupOf 1 (some .int)]
def wsX4_step_r4 : List Cond := [Cond.methodLink RX3 19 yX3_mixedGroupOf, Cond.static yX3_mixedGroupOf, Cond.code yX3_mixedGroupOf cX3_mixedGroupOf 1 (some .int), Cond.methodLink RX3 25 yX3_memoryGroupOf, Cond.static yX3_memoryGroupOf, Cond.code yX3_memoryGroupOf cX3_memoryGroupOf 1 (some .int), Cond.methodLink RX3 31 yX3_d, Cond.static yX3_d, Cond.code yX3_d cX3_d 1 (some .int), Cond.methodLink RX3 34 yX3_pointer, Cond.static yX3_pointer, Cond.code yX3_pointer cX3_pointer 1 (some .int), Cond.methodLink RX3 37 yX3_isOneOf, Cond.static yX3_isOneOf, Cond.code yX3_isOneOf cX3_isOneOf 2 (some .boolean), Cond.methodLink RX3 28 yX3_singleGroupOf, Cond.static yX3_singleGroupOf, Cond.code yX3_singleGroupOf cX3_singleGroupOf 1 (some .int), Cond.methodLink RX3 41 yX3_flagGroupOf, Cond.static yX3_flagGroupOf, Cond.code yX3_flagGroupOf cX3_flagGroupOf 1 (some .int), Cond.methodLink RX3 22 yX3_highGroupOf, Cond.static yX3_highGroupOf, Cond.code yX3_highGroupOf cX3_highGroupOf 1 (some .int)]
def wsX4_step_r5 : List Cond := [Cond.methodLink RX4 102 yX4_onward, Cond.instanceMethod yX4_onward, Cond.selects RX4 yX4_onward yX4_onward, Cond.code yX4_onward cX4_onward 2 (some .int), Cond.methodLink RX4 105 yX4_movePair, Cond.instanceMethod yX4_movePair, Cond.selects RX4 yX4_movePair yX4_movePair, Cond.code yX4_movePair cX4_movePair 2 (some .int), Cond.methodLink RX4 62 yX0_pair, Cond.methodLink RX4 170 yX0_setPair, Cond.methodLink RX4 108 yX4_multiply, Cond.instanceMethod yX4_multiply, Cond.selects RX4 yX4_multiply yX4_multiply, Cond.code yX4_multiply cX4_multiply 2 (some .int), Cond.fieldLink RX4 25 "FlagCore" "sums" "LFlagCore$Sums;", Cond.methodLink RX4 173 yX3_d, Cond.methodLink RX4 55 yX0_get, Cond.methodLink RX4 176 yX3_r, Cond.static yX3_r, Cond.code yX3_r cX3_r 1 (some .int), Cond.methodLink RX4 179 yX2_product, Cond.instanceMethod yX2_product, Cond.selects RX2 yX2_product yX2_product, Cond.initialized RX2]
def wsX4_step_r6 : List Cond := [Cond.code yX2_product cX2_product 2 none, Cond.methodLink RX2 41 yX2_keepProduct, Cond.instanceMethod yX2_keepProduct, Cond.selects RX2 yX2_keepProduct yX2_keepProduct, Cond.code yX2_keepProduct cX2_keepProduct 3 none, Cond.fieldLink RX2 13 "FlagCore$Sums" "bytes" "LFlagCore$Bytes;", Cond.constant RX2 40 (32768), Cond.constant RX2 35 (65535), Cond.methodLink RX2 44 yX0_setPair, Cond.methodLink RX2 21 yX0_setFlags, Cond.instanceMethod yX0_setFlags, Cond.selects RX0 yX0_setFlags yX0_setFlags, Cond.code yX0_setFlags cX0_setFlags 3 none, Cond.methodLink RX4 183 yX0_signed, Cond.instanceMethod yX0_signed, Cond.selects RX0 yX0_signed yX0_signed, Cond.code yX0_signed cX0_signed 2 (some .int), Cond.methodLink RX4 186 yX4_multiplyFew, Cond.instanceMethod yX4_multiplyFew, Cond.selects RX4 yX4_multiplyFew yX4_multiplyFew, Cond.code yX4_multiplyFew cX4_multiplyFew 4 none, Cond.methodLink RX4 190 yX2_fraction, Cond.instanceMethod yX2_fraction, Cond.selects RX2 yX2_fraction yX2_fraction]
def wsX4_step_r7 : List Cond := [Cond.code yX2_fraction cX2_fraction 2 none, Cond.methodLink RX4 111 yX4_combine, Cond.instanceMethod yX4_combine, Cond.selects RX4 yX4_combine yX4_combine, Cond.code yX4_combine cX4_combine 6 (some .int), Cond.methodLink RX4 193 yX2_differenceOn, Cond.instanceMethod yX2_differenceOn, Cond.selects RX2 yX2_differenceOn yX2_differenceOn, Cond.code yX2_differenceOn cX2_differenceOn 5 (some .int), Cond.methodLink RX2 31 yX0_flag, Cond.methodLink RX2 27 yX2_subtract, Cond.instanceMethod yX2_subtract, Cond.selects RX2 yX2_subtract yX2_subtract, Cond.code yX2_subtract cX2_subtract 9 (some .int), Cond.methodLink RX2 17 yX2_signs, Cond.static yX2_signs, Cond.code yX2_signs cX2_signs 4 (some .int), Cond.methodLink RX4 58 yX0_set, Cond.methodLink RX4 197 yX2_sum, Cond.instanceMethod yX2_sum, Cond.selects RX2 yX2_sum yX2_sum, Cond.code yX2_sum cX2_sum 8 (some .int), Cond.methodLink RX4 200 yX4_skip, Cond.instanceMethod yX4_skip]
def wsX4_step_r8 : List Cond := [Cond.selects RX4 yX4_skip yX4_skip, Cond.code yX4_skip cX4_skip 2 (some .int), Cond.methodLink RX4 74 yX3_hasNext, Cond.static yX3_hasNext, Cond.code yX3_hasNext cX3_hasNext 1 (some .boolean), Cond.constant RX3 9 (64527), Cond.constant RX3 10 (36864), Cond.constant RX3 11 (65036), Cond.constant RX3 12 (37900), Cond.methodLink RX4 204 yX2_difference, Cond.instanceMethod yX2_difference, Cond.selects RX2 yX2_difference yX2_difference, Cond.code yX2_difference cX2_difference 3 (some .int), Cond.methodLink RX4 208 yX2_logic, Cond.instanceMethod yX2_logic, Cond.selects RX2 yX2_logic yX2_logic, Cond.code yX2_logic cX2_logic 2 (some .int), Cond.methodLink RX4 114 yX4_combineWithNumber, Cond.instanceMethod yX4_combineWithNumber, Cond.selects RX4 yX4_combineWithNumber yX4_combineWithNumber, Cond.code yX4_combineWithNumber cX4_combineWithNumber 5 (some .int), Cond.methodLink RX4 117 yX4_change, Cond.instanceMethod yX4_change, Cond.selects RX4 yX4_change yX4_change]
def wsX4_step_r9 : List Cond := [Cond.code yX4_change cX4_change 4 (some .int), Cond.methodLink RX4 211 yX2_inverse, Cond.instanceMethod yX2_inverse, Cond.selects RX2 yX2_inverse yX2_inverse, Cond.code yX2_inverse cX2_inverse 3 (some .int), Cond.methodLink RX4 214 yX2_more, Cond.instanceMethod yX2_more, Cond.selects RX2 yX2_more yX2_more, Cond.code yX2_more cX2_more 3 (some .int), Cond.methodLink RX4 217 yX2_right, Cond.instanceMethod yX2_right, Cond.selects RX2 yX2_right yX2_right, Cond.code yX2_right cX2_right 5 (some .int), Cond.methodLink RX4 220 yX2_less, Cond.instanceMethod yX2_less, Cond.selects RX2 yX2_less yX2_less, Cond.code yX2_less cX2_less 3 (some .int), Cond.methodLink RX4 120 yX4_setFlag, Cond.instanceMethod yX4_setFlag, Cond.selects RX4 yX4_setFlag yX4_setFlag, Cond.code yX4_setFlag cX4_setFlag 2 (some .int), Cond.methodLink RX4 122 yX4_changePair, Cond.instanceMethod yX4_changePair, Cond.selects RX4 yX4_changePair yX4_changePair]
def wsX4_step_r10 : List Cond := [Cond.code yX4_changePair cX4_changePair 5 (some .int), Cond.methodLink RX4 223 yX2_pairMore, Cond.instanceMethod yX2_pairMore, Cond.selects RX2 yX2_pairMore yX2_pairMore, Cond.code yX2_pairMore cX2_pairMore 4 (some .int), Cond.methodLink RX2 36 yX2_pairFlags, Cond.instanceMethod yX2_pairFlags, Cond.selects RX2 yX2_pairFlags yX2_pairFlags, Cond.code yX2_pairFlags cX2_pairFlags 5 none, Cond.methodLink RX4 226 yX2_pairLess, Cond.instanceMethod yX2_pairLess, Cond.selects RX2 yX2_pairLess yX2_pairLess, Cond.code yX2_pairLess cX2_pairLess 4 (some .int), Cond.methodLink RX4 125 yX4_moveAtNext, Cond.instanceMethod yX4_moveAtNext, Cond.selects RX4 yX4_moveAtNext yX4_moveAtNext, Cond.code yX4_moveAtNext cX4_moveAtNext 3 (some .int), Cond.methodLink RX4 229 yX4_transfer, Cond.instanceMethod yX4_transfer, Cond.selects RX4 yX4_transfer yX4_transfer, Cond.code yX4_transfer cX4_transfer 4 none, Cond.methodLink RX4 128 yX4_movePointed, Cond.instanceMethod yX4_movePointed, Cond.selects RX4 yX4_movePointed yX4_movePointed]
def wsX4_step_r11 : List Cond := [Cond.code yX4_movePointed cX4_movePointed 7 (some .int), Cond.constant RX4 50 (65535), Cond.methodLink RX4 232 yX3_pointer, Cond.methodLink RX4 131 yX4_moveStacked, Cond.instanceMethod yX4_moveStacked, Cond.selects RX4 yX4_moveStacked yX4_moveStacked, Cond.code yX4_moveStacked cX4_moveStacked 5 (some .int), Cond.methodLink RX4 235 yX0_pull, Cond.instanceMethod yX0_pull, Cond.selects RX0 yX0_pull yX0_pull, Cond.code yX0_pull cX0_pull 2 (some .int), Cond.methodLink RX4 238 yX0_push, Cond.instanceMethod yX0_push, Cond.selects RX0 yX0_push yX0_push, Cond.code yX0_push cX0_push 3 none, Cond.methodLink RX4 134 yX4_moveBeside, Cond.instanceMethod yX4_moveBeside, Cond.selects RX4 yX4_moveBeside yX4_moveBeside, Cond.code yX4_moveBeside cX4_moveBeside 5 (some .int), Cond.methodLink RX4 137 yX4_moveFromCode, Cond.instanceMethod yX4_moveFromCode, Cond.selects RX4 yX4_moveFromCode yX4_moveFromCode, Cond.code yX4_moveFromCode cX4_moveFromCode 4 (some .int), Cond.constant RX4 241 (38344)]
def wsX4_step_r12 : List Cond := [Cond.methodLink RX4 140 yX4_movePort, Cond.instanceMethod yX4_movePort, Cond.selects RX4 yX4_movePort yX4_movePort, Cond.code yX4_movePort cX4_movePort 4 (some .int), Cond.methodLink RX4 143 yX4_setPortBit, Cond.instanceMethod yX4_setPortBit, Cond.selects RX4 yX4_setPortBit yX4_setPortBit, Cond.code yX4_setPortBit cX4_setPortBit 2 (some .int), Cond.methodLink RX4 242 yX0_setBit, Cond.methodLink RX4 146 yX4_skipByPort, Cond.instanceMethod yX4_skipByPort, Cond.selects RX4 yX4_skipByPort yX4_skipByPort, Cond.code yX4_skipByPort cX4_skipByPort 2 (some .int), Cond.methodLink RX4 245 yX0_bit, Cond.instanceMethod yX0_bit, Cond.selects RX0 yX0_bit yX0_bit, Cond.code yX0_bit cX0_bit 3 (some .int), Cond.methodLink RX4 149 yX4_skipByBit, Cond.instanceMethod yX4_skipByBit, Cond.selects RX4 yX4_skipByBit yX4_skipByBit, Cond.code yX4_skipByBit cX4_skipByBit 2 (some .int), Cond.methodLink RX4 152 yX4_moveBit, Cond.instanceMethod yX4_moveBit, Cond.selects RX4 yX4_moveBit yX4_moveBit]
def wsX4_step_r13 : List Cond := [Cond.code yX4_moveBit cX4_moveBit 3 (some .int), Cond.methodLink RX4 155 yX4_jumpNear, Cond.instanceMethod yX4_jumpNear, Cond.selects RX4 yX4_jumpNear yX4_jumpNear, Cond.code yX4_jumpNear cX4_jumpNear 4 (some .int), Cond.methodLink RX4 248 yX4_jumpTo, Cond.instanceMethod yX4_jumpTo, Cond.selects RX4 yX4_jumpTo yX4_jumpTo, Cond.code yX4_jumpTo cX4_jumpTo 2 (some .int), Cond.methodLink RX4 251 yX4_callTo, Cond.instanceMethod yX4_callTo, Cond.selects RX4 yX4_callTo yX4_callTo, Cond.code yX4_callTo cX4_callTo 3 (some .int), Cond.methodLink RX4 158 yX4_branch, Cond.instanceMethod yX4_branch, Cond.selects RX4 yX4_branch yX4_branch, Cond.code yX4_branch cX4_branch 4 (some .int), Cond.methodLink RX4 161 yX4_jumpFar, Cond.instanceMethod yX4_jumpFar, Cond.selects RX4 yX4_jumpFar yX4_jumpFar, Cond.code yX4_jumpFar cX4_jumpFar 3 (some .int), Cond.methodLink RX4 164 yX4_jumpToZ, Cond.instanceMethod yX4_jumpToZ, Cond.selects RX4 yX4_jumpToZ yX4_jumpToZ]
def wsX4_step_r14 : List Cond := [Cond.code yX4_jumpToZ cX4_jumpToZ 3 (some .int), Cond.methodLink RX4 167 yX4_comeBack, Cond.instanceMethod yX4_comeBack, Cond.selects RX4 yX4_comeBack yX4_comeBack, Cond.code yX4_comeBack cX4_comeBack 5 (some .int)]
def wsX4_step : List Cond := .code yX4_step cX4_step 1 (some .int) :: ((wsX4_step_r1 ++ (wsX4_step_r2 ++ (wsX4_step_r3 ++ (wsX4_step_r4 ++ (wsX4_step_r5 ++ (wsX4_step_r6 ++ (wsX4_step_r7 ++ (wsX4_step_r8 ++ (wsX4_step_r9 ++ (wsX4_step_r10 ++ (wsX4_step_r11 ++ (wsX4_step_r12 ++ (wsX4_step_r13 ++ wsX4_step_r14))))))))))))) ++ wsX40 ++ wsX00 ++ wsX20)
def wsX4_run_r1 : List Cond := [Cond.methodLink RX4 65 yX4_advance, Cond.instanceMethod yX4_advance, Cond.selects RX4 yX4_advance yX4_advance, Cond.initialized RX4, Cond.code yX4_advance cX4_advance 2 (some .int), Cond.fieldLink RX4 36 "FlagCore" "asked" "I", Cond.fieldLink RX4 42 "FlagCore" "waiting" "Z", Cond.fieldLink RX4 16 "FlagCore" "bytes" "LFlagCore$Bytes;", Cond.fieldLink RX4 39 "FlagCore" "latest" "I", Cond.fieldLink RX4 32 "FlagCore" "pc" "I", Cond.constant RX4 89 (38008), Cond.constant RX4 90 (38168), Cond.fieldLink RX4 29 "FlagCore" "tallies" "[I", Cond.methodLink RX4 80 yX0_flag, Cond.instanceMethod yX0_flag, Cond.selects RX0 yX0_flag yX0_flag, Cond.initialized RX0, Cond.code yX0_flag cX0_flag 2 (some .int), Cond.fieldLink RX0 9 "FlagCore$Bytes" "row" "[I", Cond.methodLink RX4 83 yX4_enterLeast, Cond.instanceMethod yX4_enterLeast, Cond.selects RX4 yX4_enterLeast yX4_enterLeast, Cond.code yX4_enterLeast cX4_enterLeast 1 (some .int), Cond.methodLink RX4 91 yX0_stacks]
def wsX4_run_r2 : List Cond := [Cond.instanceMethod yX0_stacks, Cond.selects RX0 yX0_stacks yX0_stacks, Cond.code yX0_stacks cX0_stacks 3 (some .boolean), Cond.methodLink RX0 27 yX0_pair, Cond.instanceMethod yX0_pair, Cond.selects RX0 yX0_pair yX0_pair, Cond.code yX0_pair cX0_pair 2 (some .int), Cond.methodLink RX0 19 yX0_set, Cond.instanceMethod yX0_set, Cond.selects RX0 yX0_set yX0_set, Cond.code yX0_set cX0_set 3 none, Cond.methodLink RX0 30 yX0_setPair, Cond.instanceMethod yX0_setPair, Cond.selects RX0 yX0_setPair yX0_setPair, Cond.code yX0_setPair cX0_setPair 3 none, Cond.methodLink RX4 94 yJ6_numberOfTrailingZeros_0f7a4, Cond.static yJ6_numberOfTrailingZeros_0f7a4, Cond.initialized RJ6, Cond.code yJ6_numberOfTrailingZeros_0f7a4 cJ6_numberOfTrailingZeros_0f7a4 2 (some .int), Cond.constant RJ6 264 (65536), Cond.methodLink RX4 99 yX0_setFlag, Cond.instanceMethod yX0_setFlag, Cond.selects RX0 yX0_setFlag yX0_setFlag, Cond.code yX0_setFlag cX0_setFlag 3 none]
def wsX4_run_r3 : List Cond := [Cond.methodLink RX0 23 yX0_setBit, Cond.instanceMethod yX0_setBit, Cond.selects RX0 yX0_setBit yX0_setBit, Cond.code yX0_setBit cX0_setBit 4 none, Cond.methodLink RX0 15 yX0_get, Cond.instanceMethod yX0_get, Cond.selects RX0 yX0_get yX0_get, Cond.code yX0_get cX0_get 2 (some .int), Cond.methodLink RX4 51 yX4_cellAt, Cond.instanceMethod yX4_cellAt, Cond.selects RX4 yX4_cellAt yX4_cellAt, Cond.code yX4_cellAt cX4_cellAt 2 (some .int), Cond.fieldLink RX4 9 "FlagCore" "cells" "[I", Cond.methodLink RX4 86 yX4_perform, Cond.instanceMethod yX4_perform, Cond.selects RX4 yX4_perform yX4_perform, Cond.code yX4_perform cX4_perform 2 (some .int), Cond.methodLink RX4 69 yX3_groupOf, Cond.static yX3_groupOf, Cond.initialized RX3, Cond.code yX3_groupOf cX3_groupOf 1 (some .int), Cond.methodLink RX3 13 yX3_lowGroupOf, Cond.static yX3_lowGroupOf, Cond.code yX3_lowGroupOf cX3_lowGroupOf 1 (some .int)]
def wsX4_run_r4 : List Cond := [Cond.methodLink RX3 19 yX3_mixedGroupOf, Cond.static yX3_mixedGroupOf, Cond.code yX3_mixedGroupOf cX3_mixedGroupOf 1 (some .int), Cond.methodLink RX3 25 yX3_memoryGroupOf, Cond.static yX3_memoryGroupOf, Cond.code yX3_memoryGroupOf cX3_memoryGroupOf 1 (some .int), Cond.methodLink RX3 31 yX3_d, Cond.static yX3_d, Cond.code yX3_d cX3_d 1 (some .int), Cond.methodLink RX3 34 yX3_pointer, Cond.static yX3_pointer, Cond.code yX3_pointer cX3_pointer 1 (some .int), Cond.methodLink RX3 37 yX3_isOneOf, Cond.static yX3_isOneOf, Cond.code yX3_isOneOf cX3_isOneOf 2 (some .boolean), Cond.methodLink RX3 28 yX3_singleGroupOf, Cond.static yX3_singleGroupOf, Cond.code yX3_singleGroupOf cX3_singleGroupOf 1 (some .int), Cond.methodLink RX3 41 yX3_flagGroupOf, Cond.static yX3_flagGroupOf, Cond.code yX3_flagGroupOf cX3_flagGroupOf 1 (some .int), Cond.methodLink RX3 22 yX3_highGroupOf, Cond.static yX3_highGroupOf, Cond.code yX3_highGroupOf cX3_highGroupOf 1 (some .int)]
def wsX4_run_r5 : List Cond := [Cond.methodLink RX4 102 yX4_onward, Cond.instanceMethod yX4_onward, Cond.selects RX4 yX4_onward yX4_onward, Cond.code yX4_onward cX4_onward 2 (some .int), Cond.methodLink RX4 105 yX4_movePair, Cond.instanceMethod yX4_movePair, Cond.selects RX4 yX4_movePair yX4_movePair, Cond.code yX4_movePair cX4_movePair 2 (some .int), Cond.methodLink RX4 62 yX0_pair, Cond.methodLink RX4 170 yX0_setPair, Cond.methodLink RX4 108 yX4_multiply, Cond.instanceMethod yX4_multiply, Cond.selects RX4 yX4_multiply yX4_multiply, Cond.code yX4_multiply cX4_multiply 2 (some .int), Cond.fieldLink RX4 25 "FlagCore" "sums" "LFlagCore$Sums;", Cond.methodLink RX4 173 yX3_d, Cond.methodLink RX4 55 yX0_get, Cond.methodLink RX4 176 yX3_r, Cond.static yX3_r, Cond.code yX3_r cX3_r 1 (some .int), Cond.methodLink RX4 179 yX2_product, Cond.instanceMethod yX2_product, Cond.selects RX2 yX2_product yX2_product, Cond.initialized RX2]
def wsX4_run_r6 : List Cond := [Cond.code yX2_product cX2_product 2 none, Cond.methodLink RX2 41 yX2_keepProduct, Cond.instanceMethod yX2_keepProduct, Cond.selects RX2 yX2_keepProduct yX2_keepProduct, Cond.code yX2_keepProduct cX2_keepProduct 3 none, Cond.fieldLink RX2 13 "FlagCore$Sums" "bytes" "LFlagCore$Bytes;", Cond.constant RX2 40 (32768), Cond.constant RX2 35 (65535), Cond.methodLink RX2 44 yX0_setPair, Cond.methodLink RX2 21 yX0_setFlags, Cond.instanceMethod yX0_setFlags, Cond.selects RX0 yX0_setFlags yX0_setFlags, Cond.code yX0_setFlags cX0_setFlags 3 none, Cond.methodLink RX4 183 yX0_signed, Cond.instanceMethod yX0_signed, Cond.selects RX0 yX0_signed yX0_signed, Cond.code yX0_signed cX0_signed 2 (some .int), Cond.methodLink RX4 186 yX4_multiplyFew, Cond.instanceMethod yX4_multiplyFew, Cond.selects RX4 yX4_multiplyFew yX4_multiplyFew, Cond.code yX4_multiplyFew cX4_multiplyFew 4 none, Cond.methodLink RX4 190 yX2_fraction, Cond.instanceMethod yX2_fraction, Cond.selects RX2 yX2_fraction yX2_fraction]
def wsX4_run_r7 : List Cond := [Cond.code yX2_fraction cX2_fraction 2 none, Cond.methodLink RX4 111 yX4_combine, Cond.instanceMethod yX4_combine, Cond.selects RX4 yX4_combine yX4_combine, Cond.code yX4_combine cX4_combine 6 (some .int), Cond.methodLink RX4 193 yX2_differenceOn, Cond.instanceMethod yX2_differenceOn, Cond.selects RX2 yX2_differenceOn yX2_differenceOn, Cond.code yX2_differenceOn cX2_differenceOn 5 (some .int), Cond.methodLink RX2 31 yX0_flag, Cond.methodLink RX2 27 yX2_subtract, Cond.instanceMethod yX2_subtract, Cond.selects RX2 yX2_subtract yX2_subtract, Cond.code yX2_subtract cX2_subtract 9 (some .int), Cond.methodLink RX2 17 yX2_signs, Cond.static yX2_signs, Cond.code yX2_signs cX2_signs 4 (some .int), Cond.methodLink RX4 58 yX0_set, Cond.methodLink RX4 197 yX2_sum, Cond.instanceMethod yX2_sum, Cond.selects RX2 yX2_sum yX2_sum, Cond.code yX2_sum cX2_sum 8 (some .int), Cond.methodLink RX4 200 yX4_skip, Cond.instanceMethod yX4_skip]
def wsX4_run_r8 : List Cond := [Cond.selects RX4 yX4_skip yX4_skip, Cond.code yX4_skip cX4_skip 2 (some .int), Cond.methodLink RX4 74 yX3_hasNext, Cond.static yX3_hasNext, Cond.code yX3_hasNext cX3_hasNext 1 (some .boolean), Cond.constant RX3 9 (64527), Cond.constant RX3 10 (36864), Cond.constant RX3 11 (65036), Cond.constant RX3 12 (37900), Cond.methodLink RX4 204 yX2_difference, Cond.instanceMethod yX2_difference, Cond.selects RX2 yX2_difference yX2_difference, Cond.code yX2_difference cX2_difference 3 (some .int), Cond.methodLink RX4 208 yX2_logic, Cond.instanceMethod yX2_logic, Cond.selects RX2 yX2_logic yX2_logic, Cond.code yX2_logic cX2_logic 2 (some .int), Cond.methodLink RX4 114 yX4_combineWithNumber, Cond.instanceMethod yX4_combineWithNumber, Cond.selects RX4 yX4_combineWithNumber yX4_combineWithNumber, Cond.code yX4_combineWithNumber cX4_combineWithNumber 5 (some .int), Cond.methodLink RX4 117 yX4_change, Cond.instanceMethod yX4_change, Cond.selects RX4 yX4_change yX4_change]
def wsX4_run_r9 : List Cond := [Cond.code yX4_change cX4_change 4 (some .int), Cond.methodLink RX4 211 yX2_inverse, Cond.instanceMethod yX2_inverse, Cond.selects RX2 yX2_inverse yX2_inverse, Cond.code yX2_inverse cX2_inverse 3 (some .int), Cond.methodLink RX4 214 yX2_more, Cond.instanceMethod yX2_more, Cond.selects RX2 yX2_more yX2_more, Cond.code yX2_more cX2_more 3 (some .int), Cond.methodLink RX4 217 yX2_right, Cond.instanceMethod yX2_right, Cond.selects RX2 yX2_right yX2_right, Cond.code yX2_right cX2_right 5 (some .int), Cond.methodLink RX4 220 yX2_less, Cond.instanceMethod yX2_less, Cond.selects RX2 yX2_less yX2_less, Cond.code yX2_less cX2_less 3 (some .int), Cond.methodLink RX4 120 yX4_setFlag, Cond.instanceMethod yX4_setFlag, Cond.selects RX4 yX4_setFlag yX4_setFlag, Cond.code yX4_setFlag cX4_setFlag 2 (some .int), Cond.methodLink RX4 122 yX4_changePair, Cond.instanceMethod yX4_changePair, Cond.selects RX4 yX4_changePair yX4_changePair]
def wsX4_run_r10 : List Cond := [Cond.code yX4_changePair cX4_changePair 5 (some .int), Cond.methodLink RX4 223 yX2_pairMore, Cond.instanceMethod yX2_pairMore, Cond.selects RX2 yX2_pairMore yX2_pairMore, Cond.code yX2_pairMore cX2_pairMore 4 (some .int), Cond.methodLink RX2 36 yX2_pairFlags, Cond.instanceMethod yX2_pairFlags, Cond.selects RX2 yX2_pairFlags yX2_pairFlags, Cond.code yX2_pairFlags cX2_pairFlags 5 none, Cond.methodLink RX4 226 yX2_pairLess, Cond.instanceMethod yX2_pairLess, Cond.selects RX2 yX2_pairLess yX2_pairLess, Cond.code yX2_pairLess cX2_pairLess 4 (some .int), Cond.methodLink RX4 125 yX4_moveAtNext, Cond.instanceMethod yX4_moveAtNext, Cond.selects RX4 yX4_moveAtNext yX4_moveAtNext, Cond.code yX4_moveAtNext cX4_moveAtNext 3 (some .int), Cond.methodLink RX4 229 yX4_transfer, Cond.instanceMethod yX4_transfer, Cond.selects RX4 yX4_transfer yX4_transfer, Cond.code yX4_transfer cX4_transfer 4 none, Cond.methodLink RX4 128 yX4_movePointed, Cond.instanceMethod yX4_movePointed, Cond.selects RX4 yX4_movePointed yX4_movePointed]
def wsX4_run_r11 : List Cond := [Cond.code yX4_movePointed cX4_movePointed 7 (some .int), Cond.constant RX4 50 (65535), Cond.methodLink RX4 232 yX3_pointer, Cond.methodLink RX4 131 yX4_moveStacked, Cond.instanceMethod yX4_moveStacked, Cond.selects RX4 yX4_moveStacked yX4_moveStacked, Cond.code yX4_moveStacked cX4_moveStacked 5 (some .int), Cond.methodLink RX4 235 yX0_pull, Cond.instanceMethod yX0_pull, Cond.selects RX0 yX0_pull yX0_pull, Cond.code yX0_pull cX0_pull 2 (some .int), Cond.methodLink RX4 238 yX0_push, Cond.instanceMethod yX0_push, Cond.selects RX0 yX0_push yX0_push, Cond.code yX0_push cX0_push 3 none, Cond.methodLink RX4 134 yX4_moveBeside, Cond.instanceMethod yX4_moveBeside, Cond.selects RX4 yX4_moveBeside yX4_moveBeside, Cond.code yX4_moveBeside cX4_moveBeside 5 (some .int), Cond.methodLink RX4 137 yX4_moveFromCode, Cond.instanceMethod yX4_moveFromCode, Cond.selects RX4 yX4_moveFromCode yX4_moveFromCode, Cond.code yX4_moveFromCode cX4_moveFromCode 4 (some .int), Cond.constant RX4 241 (38344)]
def wsX4_run_r12 : List Cond := [Cond.methodLink RX4 140 yX4_movePort, Cond.instanceMethod yX4_movePort, Cond.selects RX4 yX4_movePort yX4_movePort, Cond.code yX4_movePort cX4_movePort 4 (some .int), Cond.methodLink RX4 143 yX4_setPortBit, Cond.instanceMethod yX4_setPortBit, Cond.selects RX4 yX4_setPortBit yX4_setPortBit, Cond.code yX4_setPortBit cX4_setPortBit 2 (some .int), Cond.methodLink RX4 242 yX0_setBit, Cond.methodLink RX4 146 yX4_skipByPort, Cond.instanceMethod yX4_skipByPort, Cond.selects RX4 yX4_skipByPort yX4_skipByPort, Cond.code yX4_skipByPort cX4_skipByPort 2 (some .int), Cond.methodLink RX4 245 yX0_bit, Cond.instanceMethod yX0_bit, Cond.selects RX0 yX0_bit yX0_bit, Cond.code yX0_bit cX0_bit 3 (some .int), Cond.methodLink RX4 149 yX4_skipByBit, Cond.instanceMethod yX4_skipByBit, Cond.selects RX4 yX4_skipByBit yX4_skipByBit, Cond.code yX4_skipByBit cX4_skipByBit 2 (some .int), Cond.methodLink RX4 152 yX4_moveBit, Cond.instanceMethod yX4_moveBit, Cond.selects RX4 yX4_moveBit yX4_moveBit]
def wsX4_run_r13 : List Cond := [Cond.code yX4_moveBit cX4_moveBit 3 (some .int), Cond.methodLink RX4 155 yX4_jumpNear, Cond.instanceMethod yX4_jumpNear, Cond.selects RX4 yX4_jumpNear yX4_jumpNear, Cond.code yX4_jumpNear cX4_jumpNear 4 (some .int), Cond.methodLink RX4 248 yX4_jumpTo, Cond.instanceMethod yX4_jumpTo, Cond.selects RX4 yX4_jumpTo yX4_jumpTo, Cond.code yX4_jumpTo cX4_jumpTo 2 (some .int), Cond.methodLink RX4 251 yX4_callTo, Cond.instanceMethod yX4_callTo, Cond.selects RX4 yX4_callTo yX4_callTo, Cond.code yX4_callTo cX4_callTo 3 (some .int), Cond.methodLink RX4 158 yX4_branch, Cond.instanceMethod yX4_branch, Cond.selects RX4 yX4_branch yX4_branch, Cond.code yX4_branch cX4_branch 4 (some .int), Cond.methodLink RX4 161 yX4_jumpFar, Cond.instanceMethod yX4_jumpFar, Cond.selects RX4 yX4_jumpFar yX4_jumpFar, Cond.code yX4_jumpFar cX4_jumpFar 3 (some .int), Cond.methodLink RX4 164 yX4_jumpToZ, Cond.instanceMethod yX4_jumpToZ, Cond.selects RX4 yX4_jumpToZ yX4_jumpToZ]
def wsX4_run_r14 : List Cond := [Cond.code yX4_jumpToZ cX4_jumpToZ 3 (some .int), Cond.methodLink RX4 167 yX4_comeBack, Cond.instanceMethod yX4_comeBack, Cond.selects RX4 yX4_comeBack yX4_comeBack, Cond.code yX4_comeBack cX4_comeBack 5 (some .int)]
def wsX4_run : List Cond := .code yX4_run cX4_run 4 (some .int) :: ((wsX4_run_r1 ++ (wsX4_run_r2 ++ (wsX4_run_r3 ++ (wsX4_run_r4 ++ (wsX4_run_r5 ++ (wsX4_run_r6 ++ (wsX4_run_r7 ++ (wsX4_run_r8 ++ (wsX4_run_r9 ++ (wsX4_run_r10 ++ (wsX4_run_r11 ++ (wsX4_run_r12 ++ (wsX4_run_r13 ++ wsX4_run_r14))))))))))))) ++ wsX40 ++ wsX00 ++ wsX20)
def wsX4_ended : List Cond := .code yX4_ended cX4_ended 1 (some .int) :: ([.fieldLink RX4 39 "FlagCore" "latest" "I"] ++ wsX40)
def wsX4_reads_r1 : List Cond := [Cond.constant RX4 50 (65535), Cond.methodLink RX4 46 yX4_within, Cond.static yX4_within, Cond.initialized RX4, Cond.code yX4_within cX4_within 2 (some .boolean), Cond.methodLink RX4 69 yX3_groupOf, Cond.static yX3_groupOf, Cond.initialized RX3, Cond.code yX3_groupOf cX3_groupOf 1 (some .int), Cond.methodLink RX3 13 yX3_lowGroupOf, Cond.static yX3_lowGroupOf, Cond.code yX3_lowGroupOf cX3_lowGroupOf 1 (some .int), Cond.methodLink RX3 19 yX3_mixedGroupOf, Cond.static yX3_mixedGroupOf, Cond.code yX3_mixedGroupOf cX3_mixedGroupOf 1 (some .int), Cond.methodLink RX3 25 yX3_memoryGroupOf, Cond.static yX3_memoryGroupOf, Cond.code yX3_memoryGroupOf cX3_memoryGroupOf 1 (some .int), Cond.methodLink RX3 31 yX3_d, Cond.static yX3_d, Cond.code yX3_d cX3_d 1 (some .int), Cond.methodLink RX3 34 yX3_pointer, Cond.static yX3_pointer, Cond.code yX3_pointer cX3_pointer 1 (some .int)]
def wsX4_reads_r2 : List Cond := [Cond.methodLink RX3 37 yX3_isOneOf, Cond.static yX3_isOneOf, Cond.code yX3_isOneOf cX3_isOneOf 2 (some .boolean), Cond.methodLink RX3 28 yX3_singleGroupOf, Cond.static yX3_singleGroupOf, Cond.code yX3_singleGroupOf cX3_singleGroupOf 1 (some .int), Cond.methodLink RX3 41 yX3_flagGroupOf, Cond.static yX3_flagGroupOf, Cond.code yX3_flagGroupOf cX3_flagGroupOf 1 (some .int), Cond.methodLink RX3 22 yX3_highGroupOf, Cond.static yX3_highGroupOf, Cond.code yX3_highGroupOf cX3_highGroupOf 1 (some .int), Cond.methodLink RX4 74 yX3_hasNext, Cond.static yX3_hasNext, Cond.code yX3_hasNext cX3_hasNext 1 (some .boolean), Cond.constant RX3 9 (64527), Cond.constant RX3 10 (36864), Cond.constant RX3 11 (65036), Cond.constant RX3 12 (37900)]
def wsX4_reads : List Cond := .code yX4_reads cX4_reads 3 (some .int) :: ((wsX4_reads_r1 ++ wsX4_reads_r2))
def wsX4_digest : List Cond := .code yX4_digest cX4_digest 3 (some .int) :: ([.fieldLink RX4 16 "FlagCore" "bytes" "LFlagCore$Bytes;", .fieldLink RX4 32 "FlagCore" "pc" "I", .methodLink RX4 55 yX0_get, .instanceMethod yX0_get, .selects RX0 yX0_get yX0_get, .initialized RX0, .code yX0_get cX0_get 2 (some .int), .fieldLink RX0 9 "FlagCore$Bytes" "row" "[I"] ++ wsX40 ++ wsX00)
def wsX4_count : List Cond := .code yX4_count cX4_count 2 (some .int) :: ([.fieldLink RX4 29 "FlagCore" "tallies" "[I"] ++ wsX40)
def wsX5_init : List Cond := .code yX5_init cX5_init 1 none :: ([.methodLink RX5 1 objectInit, .instanceMethod objectInit, .code objectInit ⟨#[0xb1]⟩ 1 none, .arrayClass .int, .fieldLink RX5 7 "FlagCoreModel" "code" "[I", .fieldLink RX5 13 "FlagCoreModel" "data" "[I", .fieldLink RX5 16 "FlagCoreModel" "count" "[I", .fieldLink RX5 19 "FlagCoreModel" "pc" "I"] ++ wsX50)
def wsX5_in : List Cond := .code yX5_in cX5_in 3 (some .boolean) :: ([])
def wsX5_code : List Cond := .code yX5_code cX5_code 4 (some .int) :: ([.constant RX5 27 (65535), .fieldLink RX5 7 "FlagCoreModel" "code" "[I", .methodLink RX5 23 yX5_in, .static yX5_in, .initialized RX5, .code yX5_in cX5_in 3 (some .boolean)] ++ wsX50)
def wsX5_load : List Cond := .code yX5_load cX5_load 5 (some .int) :: ([.fieldLink RX5 7 "FlagCoreModel" "code" "[I", .constant RX5 27 (65535), .methodLink RX5 23 yX5_in, .static yX5_in, .initialized RX5, .code yX5_in cX5_in 3 (some .boolean)] ++ wsX50)
def wsX5_word : List Cond := .code yX5_word cX5_word 2 (some .int) :: ([.fieldLink RX5 7 "FlagCoreModel" "code" "[I", .methodLink RX5 23 yX5_in, .static yX5_in, .initialized RX5, .code yX5_in cX5_in 3 (some .boolean)] ++ wsX50)
def wsX5_put : List Cond := .code yX5_put cX5_put 4 (some .int) :: ([.fieldLink RX5 13 "FlagCoreModel" "data" "[I", .methodLink RX5 23 yX5_in, .static yX5_in, .initialized RX5, .code yX5_in cX5_in 3 (some .boolean)] ++ wsX50)
def wsX5_data : List Cond := .code yX5_data cX5_data 2 (some .int) :: ([.fieldLink RX5 13 "FlagCoreModel" "data" "[I", .methodLink RX5 23 yX5_in, .static yX5_in, .initialized RX5, .code yX5_in cX5_in 3 (some .boolean)] ++ wsX50)
def wsX5_pair : List Cond := .code yX5_pair cX5_pair 2 (some .int) :: ([.fieldLink RX5 13 "FlagCoreModel" "data" "[I"] ++ wsX50)
def wsX5_setPair : List Cond := .code yX5_setPair cX5_setPair 3 none :: ([.fieldLink RX5 13 "FlagCoreModel" "data" "[I"] ++ wsX50)
def wsX5_told : List Cond := .code yX5_told cX5_told 2 (some .int) :: ([.fieldLink RX5 19 "FlagCoreModel" "pc" "I", .fieldLink RX5 13 "FlagCoreModel" "data" "[I", .fieldLink RX5 32 "FlagCoreModel" "isWaited" "Z", .fieldLink RX5 36 "FlagCoreModel" "asked" "I", .methodLink RX5 28 yX5_pair, .instanceMethod yX5_pair, .selects RX5 yX5_pair yX5_pair, .initialized RX5, .code yX5_pair cX5_pair 2 (some .int)] ++ wsX50)
def wsX5_go : List Cond := .code yX5_go cX5_go 3 (some .int) :: ([.fieldLink RX5 19 "FlagCoreModel" "pc" "I", .methodLink RX5 23 yX5_in, .static yX5_in, .initialized RX5, .code yX5_in cX5_in 3 (some .boolean)] ++ wsX50)
def wsX5_ask : List Cond := .code yX5_ask cX5_ask 3 (some .int) :: ([.fieldLink RX5 36 "FlagCoreModel" "asked" "I", .methodLink RX5 23 yX5_in, .static yX5_in, .initialized RX5, .code yX5_in cX5_in 3 (some .boolean)] ++ wsX50)
def wsX5_isMemory : List Cond := .code yX5_isMemory cX5_isMemory 1 (some .boolean) :: ([.constant RX5 39 (64512), .constant RX5 40 (36864)])
def wsX5_isOne : List Cond := .code yX5_isOne cX5_isOne 1 (some .boolean) :: ([.constant RX5 41 (65024), .constant RX5 42 (37888)])
def wsX5_hasNext : List Cond := .code yX5_hasNext cX5_hasNext 1 (some .boolean) :: ([.methodLink RX5 43 yX5_isMemory, .static yX5_isMemory, .initialized RX5, .code yX5_isMemory cX5_isMemory 1 (some .boolean), .constant RX5 39 (64512), .constant RX5 40 (36864), .methodLink RX5 47 yX5_isOne, .static yX5_isOne, .code yX5_isOne cX5_isOne 1 (some .boolean), .constant RX5 41 (65024), .constant RX5 42 (37888)])
def wsX5_dOf : List Cond := .code yX5_dOf cX5_dOf 1 (some .int) :: ([])
def wsX5_changes : List Cond := .code yX5_changes cX5_changes 1 (some .int) :: ([])
def wsX5_isBadMemory : List Cond := .code yX5_isBadMemory cX5_isBadMemory 4 (some .boolean) :: ([.methodLink RX5 50 yX5_changes, .static yX5_changes, .initialized RX5, .code yX5_changes cX5_changes 1 (some .int), .methodLink RX5 53 yX5_dOf, .static yX5_dOf, .code yX5_dOf cX5_dOf 1 (some .int)])
def wsX5_isBadOne : List Cond := .code yX5_isBadOne cX5_isBadOne 2 (some .boolean) :: ([.constant RX5 56 (38152), .constant RX5 57 (38168), .constant RX5 58 (38344), .constant RX5 59 (37897), .constant RX5 60 (38153)])
def wsX5_isIllegal_r1 : List Cond := [Cond.constant RX5 67 (63496), Cond.methodLink RX5 43 yX5_isMemory, Cond.static yX5_isMemory, Cond.initialized RX5, Cond.code yX5_isMemory cX5_isMemory 1 (some .boolean), Cond.constant RX5 39 (64512), Cond.constant RX5 40 (36864), Cond.methodLink RX5 61 yX5_isBadMemory, Cond.static yX5_isBadMemory, Cond.code yX5_isBadMemory cX5_isBadMemory 4 (some .boolean), Cond.methodLink RX5 50 yX5_changes, Cond.static yX5_changes, Cond.code yX5_changes cX5_changes 1 (some .int), Cond.methodLink RX5 53 yX5_dOf, Cond.static yX5_dOf, Cond.code yX5_dOf cX5_dOf 1 (some .int), Cond.methodLink RX5 47 yX5_isOne, Cond.static yX5_isOne, Cond.code yX5_isOne cX5_isOne 1 (some .boolean), Cond.constant RX5 41 (65024), Cond.constant RX5 42 (37888), Cond.methodLink RX5 64 yX5_isBadOne, Cond.static yX5_isBadOne, Cond.code yX5_isBadOne cX5_isBadOne 2 (some .boolean)]
def wsX5_isIllegal_r2 : List Cond := [Cond.constant RX5 56 (38152), Cond.constant RX5 57 (38168), Cond.constant RX5 58 (38344), Cond.constant RX5 59 (37897), Cond.constant RX5 60 (38153)]
def wsX5_isIllegal : List Cond := .code yX5_isIllegal cX5_isIllegal 1 (some .boolean) :: ((wsX5_isIllegal_r1 ++ wsX5_isIllegal_r2))
def wsX5_reads_r1 : List Cond := [Cond.constant RX5 27 (65535), Cond.methodLink RX5 23 yX5_in, Cond.static yX5_in, Cond.initialized RX5, Cond.code yX5_in cX5_in 3 (some .boolean), Cond.methodLink RX5 68 yX5_isIllegal, Cond.static yX5_isIllegal, Cond.code yX5_isIllegal cX5_isIllegal 1 (some .boolean), Cond.constant RX5 67 (63496), Cond.methodLink RX5 43 yX5_isMemory, Cond.static yX5_isMemory, Cond.code yX5_isMemory cX5_isMemory 1 (some .boolean), Cond.constant RX5 39 (64512), Cond.constant RX5 40 (36864), Cond.methodLink RX5 61 yX5_isBadMemory, Cond.static yX5_isBadMemory, Cond.code yX5_isBadMemory cX5_isBadMemory 4 (some .boolean), Cond.methodLink RX5 50 yX5_changes, Cond.static yX5_changes, Cond.code yX5_changes cX5_changes 1 (some .int), Cond.methodLink RX5 53 yX5_dOf, Cond.static yX5_dOf, Cond.code yX5_dOf cX5_dOf 1 (some .int), Cond.methodLink RX5 47 yX5_isOne]
def wsX5_reads_r2 : List Cond := [Cond.static yX5_isOne, Cond.code yX5_isOne cX5_isOne 1 (some .boolean), Cond.constant RX5 41 (65024), Cond.constant RX5 42 (37888), Cond.methodLink RX5 64 yX5_isBadOne, Cond.static yX5_isBadOne, Cond.code yX5_isBadOne cX5_isBadOne 2 (some .boolean), Cond.constant RX5 56 (38152), Cond.constant RX5 57 (38168), Cond.constant RX5 58 (38344), Cond.constant RX5 59 (37897), Cond.constant RX5 60 (38153), Cond.methodLink RX5 71 yX5_hasNext, Cond.static yX5_hasNext, Cond.code yX5_hasNext cX5_hasNext 1 (some .boolean)]
def wsX5_reads : List Cond := .code yX5_reads cX5_reads 3 (some .int) :: ((wsX5_reads_r1 ++ wsX5_reads_r2))
def wsX5_has : List Cond := .code yX5_has cX5_has 2 (some .boolean) :: ([.fieldLink RX5 13 "FlagCoreModel" "data" "[I"] ++ wsX50)
def wsX5_flag : List Cond := .code yX5_flag cX5_flag 3 none :: ([.fieldLink RX5 13 "FlagCoreModel" "data" "[I"] ++ wsX50)
def wsX5_signs : List Cond := .code yX5_signs cX5_signs 3 none :: ([.methodLink RX5 74 yX5_flag, .instanceMethod yX5_flag, .selects RX5 yX5_flag yX5_flag, .initialized RX5, .code yX5_flag cX5_flag 3 none, .fieldLink RX5 13 "FlagCoreModel" "data" "[I"] ++ wsX50)
def wsX5_add : List Cond := .code yX5_add cX5_add 5 (some .int) :: ([.methodLink RX5 74 yX5_flag, .instanceMethod yX5_flag, .selects RX5 yX5_flag yX5_flag, .initialized RX5, .code yX5_flag cX5_flag 3 none, .fieldLink RX5 13 "FlagCoreModel" "data" "[I", .methodLink RX5 78 yX5_signs, .instanceMethod yX5_signs, .selects RX5 yX5_signs yX5_signs, .code yX5_signs cX5_signs 3 none] ++ wsX50)
def wsX5_subtract : List Cond := .code yX5_subtract cX5_subtract 7 (some .int) :: ([.methodLink RX5 81 yX5_has, .instanceMethod yX5_has, .selects RX5 yX5_has yX5_has, .initialized RX5, .code yX5_has cX5_has 2 (some .boolean), .fieldLink RX5 13 "FlagCoreModel" "data" "[I", .methodLink RX5 74 yX5_flag, .instanceMethod yX5_flag, .selects RX5 yX5_flag yX5_flag, .code yX5_flag cX5_flag 3 none, .methodLink RX5 78 yX5_signs, .instanceMethod yX5_signs, .selects RX5 yX5_signs yX5_signs, .code yX5_signs cX5_signs 3 none] ++ wsX50)
def wsX5_logic : List Cond := .code yX5_logic cX5_logic 2 (some .int) :: ([.methodLink RX5 78 yX5_signs, .instanceMethod yX5_signs, .selects RX5 yX5_signs yX5_signs, .initialized RX5, .code yX5_signs cX5_signs 3 none, .methodLink RX5 74 yX5_flag, .instanceMethod yX5_flag, .selects RX5 yX5_flag yX5_flag, .code yX5_flag cX5_flag 3 none, .fieldLink RX5 13 "FlagCoreModel" "data" "[I"] ++ wsX50)
def wsX5_carry : List Cond := .code yX5_carry cX5_carry 1 (some .int) :: ([.methodLink RX5 81 yX5_has, .instanceMethod yX5_has, .selects RX5 yX5_has yX5_has, .initialized RX5, .code yX5_has cX5_has 2 (some .boolean), .fieldLink RX5 13 "FlagCoreModel" "data" "[I"] ++ wsX50)
def wsX5_skips : List Cond := .code yX5_skips cX5_skips 3 none :: ([.fieldLink RX5 7 "FlagCoreModel" "code" "[I", .fieldLink RX5 84 "FlagCoreModel" "next" "I", .fieldLink RX5 16 "FlagCoreModel" "count" "[I", .methodLink RX5 71 yX5_hasNext, .static yX5_hasNext, .initialized RX5, .code yX5_hasNext cX5_hasNext 1 (some .boolean), .methodLink RX5 43 yX5_isMemory, .static yX5_isMemory, .code yX5_isMemory cX5_isMemory 1 (some .boolean), .constant RX5 39 (64512), .constant RX5 40 (36864), .methodLink RX5 47 yX5_isOne, .static yX5_isOne, .code yX5_isOne cX5_isOne 1 (some .boolean), .constant RX5 41 (65024), .constant RX5 42 (37888)] ++ wsX50)
def wsX5_ofTwo_r1 : List Cond := [Cond.fieldLink RX5 13 "FlagCoreModel" "data" "[I", Cond.methodLink RX5 53 yX5_dOf, Cond.static yX5_dOf, Cond.initialized RX5, Cond.code yX5_dOf cX5_dOf 1 (some .int), Cond.methodLink RX5 87 yX5_carry, Cond.instanceMethod yX5_carry, Cond.selects RX5 yX5_carry yX5_carry, Cond.code yX5_carry cX5_carry 1 (some .int), Cond.methodLink RX5 81 yX5_has, Cond.instanceMethod yX5_has, Cond.selects RX5 yX5_has yX5_has, Cond.code yX5_has cX5_has 2 (some .boolean), Cond.methodLink RX5 91 yX5_subtract, Cond.instanceMethod yX5_subtract, Cond.selects RX5 yX5_subtract yX5_subtract, Cond.code yX5_subtract cX5_subtract 7 (some .int), Cond.methodLink RX5 74 yX5_flag, Cond.instanceMethod yX5_flag, Cond.selects RX5 yX5_flag yX5_flag, Cond.code yX5_flag cX5_flag 3 none, Cond.methodLink RX5 78 yX5_signs, Cond.instanceMethod yX5_signs, Cond.selects RX5 yX5_signs yX5_signs]
def wsX5_ofTwo_r2 : List Cond := [Cond.code yX5_signs cX5_signs 3 none, Cond.methodLink RX5 95 yX5_add, Cond.instanceMethod yX5_add, Cond.selects RX5 yX5_add yX5_add, Cond.code yX5_add cX5_add 5 (some .int), Cond.methodLink RX5 99 yX5_skips, Cond.instanceMethod yX5_skips, Cond.selects RX5 yX5_skips yX5_skips, Cond.code yX5_skips cX5_skips 3 none, Cond.fieldLink RX5 7 "FlagCoreModel" "code" "[I", Cond.fieldLink RX5 84 "FlagCoreModel" "next" "I", Cond.fieldLink RX5 16 "FlagCoreModel" "count" "[I", Cond.methodLink RX5 71 yX5_hasNext, Cond.static yX5_hasNext, Cond.code yX5_hasNext cX5_hasNext 1 (some .boolean), Cond.methodLink RX5 43 yX5_isMemory, Cond.static yX5_isMemory, Cond.code yX5_isMemory cX5_isMemory 1 (some .boolean), Cond.constant RX5 39 (64512), Cond.constant RX5 40 (36864), Cond.methodLink RX5 47 yX5_isOne, Cond.static yX5_isOne, Cond.code yX5_isOne cX5_isOne 1 (some .boolean), Cond.constant RX5 41 (65024)]
def wsX5_ofTwo_r3 : List Cond := [Cond.constant RX5 42 (37888), Cond.methodLink RX5 103 yX5_logic, Cond.instanceMethod yX5_logic, Cond.selects RX5 yX5_logic yX5_logic, Cond.code yX5_logic cX5_logic 2 (some .int)]
def wsX5_ofTwo : List Cond := .code yX5_ofTwo cX5_ofTwo 8 none :: ((wsX5_ofTwo_r1 ++ (wsX5_ofTwo_r2 ++ wsX5_ofTwo_r3)) ++ wsX50)
def wsX5_ofNumber_r1 : List Cond := [Cond.fieldLink RX5 13 "FlagCoreModel" "data" "[I", Cond.methodLink RX5 91 yX5_subtract, Cond.instanceMethod yX5_subtract, Cond.selects RX5 yX5_subtract yX5_subtract, Cond.initialized RX5, Cond.code yX5_subtract cX5_subtract 7 (some .int), Cond.methodLink RX5 81 yX5_has, Cond.instanceMethod yX5_has, Cond.selects RX5 yX5_has yX5_has, Cond.code yX5_has cX5_has 2 (some .boolean), Cond.methodLink RX5 74 yX5_flag, Cond.instanceMethod yX5_flag, Cond.selects RX5 yX5_flag yX5_flag, Cond.code yX5_flag cX5_flag 3 none, Cond.methodLink RX5 78 yX5_signs, Cond.instanceMethod yX5_signs, Cond.selects RX5 yX5_signs yX5_signs, Cond.code yX5_signs cX5_signs 3 none, Cond.methodLink RX5 87 yX5_carry, Cond.instanceMethod yX5_carry, Cond.selects RX5 yX5_carry yX5_carry, Cond.code yX5_carry cX5_carry 1 (some .int), Cond.methodLink RX5 103 yX5_logic, Cond.instanceMethod yX5_logic]
def wsX5_ofNumber_r2 : List Cond := [Cond.selects RX5 yX5_logic yX5_logic, Cond.code yX5_logic cX5_logic 2 (some .int)]
def wsX5_ofNumber : List Cond := .code yX5_ofNumber cX5_ofNumber 6 none :: ((wsX5_ofNumber_r1 ++ wsX5_ofNumber_r2) ++ wsX50)
def wsX5_signed : List Cond := .code yX5_signed cX5_signed 1 (some .int) :: ([])
def wsX5_product : List Cond := .code yX5_product cX5_product 4 none :: ([.constant RX5 27 (65535), .methodLink RX5 74 yX5_flag, .instanceMethod yX5_flag, .selects RX5 yX5_flag yX5_flag, .initialized RX5, .code yX5_flag cX5_flag 3 none, .fieldLink RX5 13 "FlagCoreModel" "data" "[I", .methodLink RX5 106 yX5_setPair, .instanceMethod yX5_setPair, .selects RX5 yX5_setPair yX5_setPair, .code yX5_setPair cX5_setPair 3 none] ++ wsX50)
def wsX5_products : List Cond := .code yX5_products cX5_products 4 none :: ([.fieldLink RX5 13 "FlagCoreModel" "data" "[I", .methodLink RX5 110 yX5_signed, .static yX5_signed, .initialized RX5, .code yX5_signed cX5_signed 1 (some .int), .methodLink RX5 113 yX5_product, .instanceMethod yX5_product, .selects RX5 yX5_product yX5_product, .code yX5_product cX5_product 4 none, .constant RX5 27 (65535), .methodLink RX5 74 yX5_flag, .instanceMethod yX5_flag, .selects RX5 yX5_flag yX5_flag, .code yX5_flag cX5_flag 3 none, .methodLink RX5 106 yX5_setPair, .instanceMethod yX5_setPair, .selects RX5 yX5_setPair yX5_setPair, .code yX5_setPair cX5_setPair 3 none] ++ wsX50)
def wsX5_right : List Cond := .code yX5_right cX5_right 5 (some .int) :: ([.methodLink RX5 74 yX5_flag, .instanceMethod yX5_flag, .selects RX5 yX5_flag yX5_flag, .initialized RX5, .code yX5_flag cX5_flag 3 none, .fieldLink RX5 13 "FlagCoreModel" "data" "[I", .methodLink RX5 78 yX5_signs, .instanceMethod yX5_signs, .selects RX5 yX5_signs yX5_signs, .code yX5_signs cX5_signs 3 none] ++ wsX50)
def wsX5_ofOne_r1 : List Cond := [Cond.fieldLink RX5 13 "FlagCoreModel" "data" "[I", Cond.methodLink RX5 53 yX5_dOf, Cond.static yX5_dOf, Cond.initialized RX5, Cond.code yX5_dOf cX5_dOf 1 (some .int), Cond.methodLink RX5 103 yX5_logic, Cond.instanceMethod yX5_logic, Cond.selects RX5 yX5_logic yX5_logic, Cond.code yX5_logic cX5_logic 2 (some .int), Cond.methodLink RX5 78 yX5_signs, Cond.instanceMethod yX5_signs, Cond.selects RX5 yX5_signs yX5_signs, Cond.code yX5_signs cX5_signs 3 none, Cond.methodLink RX5 74 yX5_flag, Cond.instanceMethod yX5_flag, Cond.selects RX5 yX5_flag yX5_flag, Cond.code yX5_flag cX5_flag 3 none, Cond.methodLink RX5 91 yX5_subtract, Cond.instanceMethod yX5_subtract, Cond.selects RX5 yX5_subtract yX5_subtract, Cond.code yX5_subtract cX5_subtract 7 (some .int), Cond.methodLink RX5 81 yX5_has, Cond.instanceMethod yX5_has, Cond.selects RX5 yX5_has yX5_has]
def wsX5_ofOne_r2 : List Cond := [Cond.code yX5_has cX5_has 2 (some .boolean), Cond.methodLink RX5 116 yX5_right, Cond.instanceMethod yX5_right, Cond.selects RX5 yX5_right yX5_right, Cond.code yX5_right cX5_right 5 (some .int), Cond.methodLink RX5 87 yX5_carry, Cond.instanceMethod yX5_carry, Cond.selects RX5 yX5_carry yX5_carry, Cond.code yX5_carry cX5_carry 1 (some .int)]
def wsX5_ofOne : List Cond := .code yX5_ofOne cX5_ofOne 5 none :: ((wsX5_ofOne_r1 ++ wsX5_ofOne_r2) ++ wsX50)
def wsX5_ofPair : List Cond := .code yX5_ofPair cX5_ofPair 9 none :: ([.constant RX5 27 (65535), .constant RX5 120 (32768), .methodLink RX5 28 yX5_pair, .instanceMethod yX5_pair, .selects RX5 yX5_pair yX5_pair, .initialized RX5, .code yX5_pair cX5_pair 2 (some .int), .fieldLink RX5 13 "FlagCoreModel" "data" "[I", .methodLink RX5 106 yX5_setPair, .instanceMethod yX5_setPair, .selects RX5 yX5_setPair yX5_setPair, .code yX5_setPair cX5_setPair 3 none, .methodLink RX5 74 yX5_flag, .instanceMethod yX5_flag, .selects RX5 yX5_flag yX5_flag, .code yX5_flag cX5_flag 3 none] ++ wsX50)
def wsX5_isFar : List Cond := .code yX5_isFar cX5_isFar 1 (some .boolean) :: ([])
def wsX5_pushes : List Cond := .code yX5_pushes cX5_pushes 3 none :: ([.fieldLink RX5 13 "FlagCoreModel" "data" "[I", .constant RX5 27 (65535), .methodLink RX5 28 yX5_pair, .instanceMethod yX5_pair, .selects RX5 yX5_pair yX5_pair, .initialized RX5, .code yX5_pair cX5_pair 2 (some .int), .methodLink RX5 106 yX5_setPair, .instanceMethod yX5_setPair, .selects RX5 yX5_setPair yX5_setPair, .code yX5_setPair cX5_setPair 3 none] ++ wsX50)
def wsX5_pops : List Cond := .code yX5_pops cX5_pops 2 (some .int) :: ([.constant RX5 27 (65535), .fieldLink RX5 13 "FlagCoreModel" "data" "[I", .methodLink RX5 28 yX5_pair, .instanceMethod yX5_pair, .selects RX5 yX5_pair yX5_pair, .initialized RX5, .code yX5_pair cX5_pair 2 (some .int), .methodLink RX5 106 yX5_setPair, .instanceMethod yX5_setPair, .selects RX5 yX5_setPair yX5_setPair, .code yX5_setPair cX5_setPair 3 none] ++ wsX50)
def wsX5_canCall : List Cond := .code yX5_canCall cX5_canCall 2 (some .boolean) :: ([.constant RX5 27 (65535), .methodLink RX5 28 yX5_pair, .instanceMethod yX5_pair, .selects RX5 yX5_pair yX5_pair, .initialized RX5, .code yX5_pair cX5_pair 2 (some .int), .fieldLink RX5 13 "FlagCoreModel" "data" "[I", .methodLink RX5 121 yX5_isFar, .static yX5_isFar, .code yX5_isFar cX5_isFar 1 (some .boolean)] ++ wsX50)
def wsX5_calls : List Cond := .code yX5_calls cX5_calls 3 none :: ([.fieldLink RX5 84 "FlagCoreModel" "next" "I", .methodLink RX5 124 yX5_pushes, .instanceMethod yX5_pushes, .selects RX5 yX5_pushes yX5_pushes, .initialized RX5, .code yX5_pushes cX5_pushes 3 none, .fieldLink RX5 13 "FlagCoreModel" "data" "[I", .constant RX5 27 (65535), .methodLink RX5 28 yX5_pair, .instanceMethod yX5_pair, .selects RX5 yX5_pair yX5_pair, .code yX5_pair cX5_pair 2 (some .int), .methodLink RX5 106 yX5_setPair, .instanceMethod yX5_setPair, .selects RX5 yX5_setPair yX5_setPair, .code yX5_setPair cX5_setPair 3 none] ++ wsX50)
def wsX5_codeByte : List Cond := .code yX5_codeByte cX5_codeByte 3 (some .int) :: ([.fieldLink RX5 7 "FlagCoreModel" "code" "[I"] ++ wsX50)
def wsX5_ofStack_r1 : List Cond := [Cond.constant RX5 27 (65535), Cond.fieldLink RX5 13 "FlagCoreModel" "data" "[I", Cond.methodLink RX5 53 yX5_dOf, Cond.static yX5_dOf, Cond.initialized RX5, Cond.code yX5_dOf cX5_dOf 1 (some .int), Cond.methodLink RX5 28 yX5_pair, Cond.instanceMethod yX5_pair, Cond.selects RX5 yX5_pair yX5_pair, Cond.code yX5_pair cX5_pair 2 (some .int), Cond.methodLink RX5 121 yX5_isFar, Cond.static yX5_isFar, Cond.code yX5_isFar cX5_isFar 1 (some .boolean), Cond.methodLink RX5 124 yX5_pushes, Cond.instanceMethod yX5_pushes, Cond.selects RX5 yX5_pushes yX5_pushes, Cond.code yX5_pushes cX5_pushes 3 none, Cond.methodLink RX5 106 yX5_setPair, Cond.instanceMethod yX5_setPair, Cond.selects RX5 yX5_setPair yX5_setPair, Cond.code yX5_setPair cX5_setPair 3 none, Cond.methodLink RX5 128 yX5_pops, Cond.instanceMethod yX5_pops, Cond.selects RX5 yX5_pops yX5_pops]
def wsX5_ofStack_r2 : List Cond := [Cond.code yX5_pops cX5_pops 2 (some .int)]
def wsX5_ofStack : List Cond := .code yX5_ofStack cX5_ofStack 6 (some .int) :: ((wsX5_ofStack_r1 ++ wsX5_ofStack_r2) ++ wsX50)
def wsX5_moves : List Cond := .code yX5_moves cX5_moves 4 (some .int) :: ([.fieldLink RX5 13 "FlagCoreModel" "data" "[I", .methodLink RX5 121 yX5_isFar, .static yX5_isFar, .initialized RX5, .code yX5_isFar cX5_isFar 1 (some .boolean)] ++ wsX50)
def wsX5_ofMemory_r1 : List Cond := [Cond.fieldLink RX5 7 "FlagCoreModel" "code" "[I", Cond.fieldLink RX5 84 "FlagCoreModel" "next" "I", Cond.fieldLink RX5 13 "FlagCoreModel" "data" "[I", Cond.constant RX5 27 (65535), Cond.methodLink RX5 53 yX5_dOf, Cond.static yX5_dOf, Cond.initialized RX5, Cond.code yX5_dOf cX5_dOf 1 (some .int), Cond.methodLink RX5 131 yX5_ofStack, Cond.instanceMethod yX5_ofStack, Cond.selects RX5 yX5_ofStack yX5_ofStack, Cond.code yX5_ofStack cX5_ofStack 6 (some .int), Cond.methodLink RX5 28 yX5_pair, Cond.instanceMethod yX5_pair, Cond.selects RX5 yX5_pair yX5_pair, Cond.code yX5_pair cX5_pair 2 (some .int), Cond.methodLink RX5 121 yX5_isFar, Cond.static yX5_isFar, Cond.code yX5_isFar cX5_isFar 1 (some .boolean), Cond.methodLink RX5 124 yX5_pushes, Cond.instanceMethod yX5_pushes, Cond.selects RX5 yX5_pushes yX5_pushes, Cond.code yX5_pushes cX5_pushes 3 none, Cond.methodLink RX5 106 yX5_setPair]
def wsX5_ofMemory_r2 : List Cond := [Cond.instanceMethod yX5_setPair, Cond.selects RX5 yX5_setPair yX5_setPair, Cond.code yX5_setPair cX5_setPair 3 none, Cond.methodLink RX5 128 yX5_pops, Cond.instanceMethod yX5_pops, Cond.selects RX5 yX5_pops yX5_pops, Cond.code yX5_pops cX5_pops 2 (some .int), Cond.methodLink RX5 134 yX5_moves, Cond.instanceMethod yX5_moves, Cond.selects RX5 yX5_moves yX5_moves, Cond.code yX5_moves cX5_moves 4 (some .int), Cond.methodLink RX5 138 yX5_codeByte, Cond.instanceMethod yX5_codeByte, Cond.selects RX5 yX5_codeByte yX5_codeByte, Cond.code yX5_codeByte cX5_codeByte 3 (some .int), Cond.methodLink RX5 50 yX5_changes, Cond.static yX5_changes, Cond.code yX5_changes cX5_changes 1 (some .int)]
def wsX5_ofMemory : List Cond := .code yX5_ofMemory cX5_ofMemory 10 (some .int) :: ((wsX5_ofMemory_r1 ++ wsX5_ofMemory_r2) ++ wsX50)
def wsX5_ofPlaces : List Cond := .code yX5_ofPlaces cX5_ofPlaces 4 (some .int) :: ([.constant RX5 27 (65535), .methodLink RX5 28 yX5_pair, .instanceMethod yX5_pair, .selects RX5 yX5_pair yX5_pair, .initialized RX5, .code yX5_pair cX5_pair 2 (some .int), .fieldLink RX5 13 "FlagCoreModel" "data" "[I", .methodLink RX5 53 yX5_dOf, .static yX5_dOf, .code yX5_dOf cX5_dOf 1 (some .int), .methodLink RX5 134 yX5_moves, .instanceMethod yX5_moves, .selects RX5 yX5_moves yX5_moves, .code yX5_moves cX5_moves 4 (some .int), .methodLink RX5 121 yX5_isFar, .static yX5_isFar, .code yX5_isFar cX5_isFar 1 (some .boolean)] ++ wsX50)
def wsX5_ofPort : List Cond := .code yX5_ofPort cX5_ofPort 3 none :: ([.fieldLink RX5 13 "FlagCoreModel" "data" "[I", .methodLink RX5 53 yX5_dOf, .static yX5_dOf, .initialized RX5, .code yX5_dOf cX5_dOf 1 (some .int)] ++ wsX50)
def wsX5_ofPortBit : List Cond := .code yX5_ofPortBit cX5_ofPortBit 5 none :: ([.fieldLink RX5 13 "FlagCoreModel" "data" "[I", .methodLink RX5 99 yX5_skips, .instanceMethod yX5_skips, .selects RX5 yX5_skips yX5_skips, .initialized RX5, .code yX5_skips cX5_skips 3 none, .fieldLink RX5 7 "FlagCoreModel" "code" "[I", .fieldLink RX5 84 "FlagCoreModel" "next" "I", .fieldLink RX5 16 "FlagCoreModel" "count" "[I", .methodLink RX5 71 yX5_hasNext, .static yX5_hasNext, .code yX5_hasNext cX5_hasNext 1 (some .boolean), .methodLink RX5 43 yX5_isMemory, .static yX5_isMemory, .code yX5_isMemory cX5_isMemory 1 (some .boolean), .constant RX5 39 (64512), .constant RX5 40 (36864), .methodLink RX5 47 yX5_isOne, .static yX5_isOne, .code yX5_isOne cX5_isOne 1 (some .boolean), .constant RX5 41 (65024), .constant RX5 42 (37888)] ++ wsX50)
def wsX5_ofBit_r1 : List Cond := [Cond.fieldLink RX5 13 "FlagCoreModel" "data" "[I", Cond.methodLink RX5 53 yX5_dOf, Cond.static yX5_dOf, Cond.initialized RX5, Cond.code yX5_dOf cX5_dOf 1 (some .int), Cond.methodLink RX5 81 yX5_has, Cond.instanceMethod yX5_has, Cond.selects RX5 yX5_has yX5_has, Cond.code yX5_has cX5_has 2 (some .boolean), Cond.methodLink RX5 74 yX5_flag, Cond.instanceMethod yX5_flag, Cond.selects RX5 yX5_flag yX5_flag, Cond.code yX5_flag cX5_flag 3 none, Cond.methodLink RX5 99 yX5_skips, Cond.instanceMethod yX5_skips, Cond.selects RX5 yX5_skips yX5_skips, Cond.code yX5_skips cX5_skips 3 none, Cond.fieldLink RX5 7 "FlagCoreModel" "code" "[I", Cond.fieldLink RX5 84 "FlagCoreModel" "next" "I", Cond.fieldLink RX5 16 "FlagCoreModel" "count" "[I", Cond.methodLink RX5 71 yX5_hasNext, Cond.static yX5_hasNext, Cond.code yX5_hasNext cX5_hasNext 1 (some .boolean), Cond.methodLink RX5 43 yX5_isMemory]
def wsX5_ofBit_r2 : List Cond := [Cond.static yX5_isMemory, Cond.code yX5_isMemory cX5_isMemory 1 (some .boolean), Cond.constant RX5 39 (64512), Cond.constant RX5 40 (36864), Cond.methodLink RX5 47 yX5_isOne, Cond.static yX5_isOne, Cond.code yX5_isOne cX5_isOne 1 (some .boolean), Cond.constant RX5 41 (65024), Cond.constant RX5 42 (37888)]
def wsX5_ofBit : List Cond := .code yX5_ofBit cX5_ofBit 5 none :: ((wsX5_ofBit_r1 ++ wsX5_ofBit_r2) ++ wsX50)
def wsX5_jumps_r1 : List Cond := [Cond.fieldLink RX5 84 "FlagCoreModel" "next" "I", Cond.fieldLink RX5 16 "FlagCoreModel" "count" "[I", Cond.methodLink RX5 141 yX5_canCall, Cond.instanceMethod yX5_canCall, Cond.selects RX5 yX5_canCall yX5_canCall, Cond.initialized RX5, Cond.code yX5_canCall cX5_canCall 2 (some .boolean), Cond.constant RX5 27 (65535), Cond.methodLink RX5 28 yX5_pair, Cond.instanceMethod yX5_pair, Cond.selects RX5 yX5_pair yX5_pair, Cond.code yX5_pair cX5_pair 2 (some .int), Cond.fieldLink RX5 13 "FlagCoreModel" "data" "[I", Cond.methodLink RX5 121 yX5_isFar, Cond.static yX5_isFar, Cond.code yX5_isFar cX5_isFar 1 (some .boolean), Cond.methodLink RX5 145 yX5_calls, Cond.instanceMethod yX5_calls, Cond.selects RX5 yX5_calls yX5_calls, Cond.code yX5_calls cX5_calls 3 none, Cond.methodLink RX5 124 yX5_pushes, Cond.instanceMethod yX5_pushes, Cond.selects RX5 yX5_pushes yX5_pushes, Cond.code yX5_pushes cX5_pushes 3 none]
def wsX5_jumps_r2 : List Cond := [Cond.methodLink RX5 106 yX5_setPair, Cond.instanceMethod yX5_setPair, Cond.selects RX5 yX5_setPair yX5_setPair, Cond.code yX5_setPair cX5_setPair 3 none]
def wsX5_jumps : List Cond := .code yX5_jumps cX5_jumps 4 (some .int) :: ((wsX5_jumps_r1 ++ wsX5_jumps_r2) ++ wsX50)
def wsX5_returns : List Cond := .code yX5_returns cX5_returns 5 (some .int) :: ([.constant RX5 27 (65535), .fieldLink RX5 84 "FlagCoreModel" "next" "I", .constant RX5 57 (38168), .methodLink RX5 28 yX5_pair, .instanceMethod yX5_pair, .selects RX5 yX5_pair yX5_pair, .initialized RX5, .code yX5_pair cX5_pair 2 (some .int), .fieldLink RX5 13 "FlagCoreModel" "data" "[I", .methodLink RX5 121 yX5_isFar, .static yX5_isFar, .code yX5_isFar cX5_isFar 1 (some .boolean), .methodLink RX5 128 yX5_pops, .instanceMethod yX5_pops, .selects RX5 yX5_pops yX5_pops, .code yX5_pops cX5_pops 2 (some .int), .methodLink RX5 106 yX5_setPair, .instanceMethod yX5_setPair, .selects RX5 yX5_setPair yX5_setPair, .code yX5_setPair cX5_setPair 3 none, .methodLink RX5 74 yX5_flag, .instanceMethod yX5_flag, .selects RX5 yX5_flag yX5_flag, .code yX5_flag cX5_flag 3 none] ++ wsX50)
def wsX5_ofOthers_r1 : List Cond := [Cond.fieldLink RX5 7 "FlagCoreModel" "code" "[I", Cond.fieldLink RX5 84 "FlagCoreModel" "next" "I", Cond.constant RX5 60 (38153), Cond.constant RX5 56 (38152), Cond.constant RX5 57 (38168), Cond.constant RX5 58 (38344), Cond.fieldLink RX5 13 "FlagCoreModel" "data" "[I", Cond.methodLink RX5 148 yX5_jumps, Cond.instanceMethod yX5_jumps, Cond.selects RX5 yX5_jumps yX5_jumps, Cond.initialized RX5, Cond.code yX5_jumps cX5_jumps 4 (some .int), Cond.fieldLink RX5 16 "FlagCoreModel" "count" "[I", Cond.methodLink RX5 141 yX5_canCall, Cond.instanceMethod yX5_canCall, Cond.selects RX5 yX5_canCall yX5_canCall, Cond.code yX5_canCall cX5_canCall 2 (some .boolean), Cond.constant RX5 27 (65535), Cond.methodLink RX5 28 yX5_pair, Cond.instanceMethod yX5_pair, Cond.selects RX5 yX5_pair yX5_pair, Cond.code yX5_pair cX5_pair 2 (some .int), Cond.methodLink RX5 121 yX5_isFar, Cond.static yX5_isFar]
def wsX5_ofOthers_r2 : List Cond := [Cond.code yX5_isFar cX5_isFar 1 (some .boolean), Cond.methodLink RX5 145 yX5_calls, Cond.instanceMethod yX5_calls, Cond.selects RX5 yX5_calls yX5_calls, Cond.code yX5_calls cX5_calls 3 none, Cond.methodLink RX5 124 yX5_pushes, Cond.instanceMethod yX5_pushes, Cond.selects RX5 yX5_pushes yX5_pushes, Cond.code yX5_pushes cX5_pushes 3 none, Cond.methodLink RX5 106 yX5_setPair, Cond.instanceMethod yX5_setPair, Cond.selects RX5 yX5_setPair yX5_setPair, Cond.code yX5_setPair cX5_setPair 3 none, Cond.methodLink RX5 151 yX5_returns, Cond.instanceMethod yX5_returns, Cond.selects RX5 yX5_returns yX5_returns, Cond.code yX5_returns cX5_returns 5 (some .int), Cond.methodLink RX5 128 yX5_pops, Cond.instanceMethod yX5_pops, Cond.selects RX5 yX5_pops yX5_pops, Cond.code yX5_pops cX5_pops 2 (some .int), Cond.methodLink RX5 74 yX5_flag, Cond.instanceMethod yX5_flag, Cond.selects RX5 yX5_flag yX5_flag]
def wsX5_ofOthers_r3 : List Cond := [Cond.code yX5_flag cX5_flag 3 none, Cond.methodLink RX5 138 yX5_codeByte, Cond.instanceMethod yX5_codeByte, Cond.selects RX5 yX5_codeByte yX5_codeByte, Cond.code yX5_codeByte cX5_codeByte 3 (some .int)]
def wsX5_ofOthers : List Cond := .code yX5_ofOthers cX5_ofOthers 4 (some .int) :: ((wsX5_ofOthers_r1 ++ (wsX5_ofOthers_r2 ++ wsX5_ofOthers_r3)) ++ wsX50)
def wsX5_ofNine_r1 : List Cond := [Cond.constant RX5 163 (38912), Cond.constant RX5 167 (39936), Cond.fieldLink RX5 13 "FlagCoreModel" "data" "[I", Cond.methodLink RX5 43 yX5_isMemory, Cond.static yX5_isMemory, Cond.initialized RX5, Cond.code yX5_isMemory cX5_isMemory 1 (some .boolean), Cond.constant RX5 39 (64512), Cond.constant RX5 40 (36864), Cond.methodLink RX5 154 yX5_ofMemory, Cond.instanceMethod yX5_ofMemory, Cond.selects RX5 yX5_ofMemory yX5_ofMemory, Cond.code yX5_ofMemory cX5_ofMemory 10 (some .int), Cond.fieldLink RX5 7 "FlagCoreModel" "code" "[I", Cond.fieldLink RX5 84 "FlagCoreModel" "next" "I", Cond.constant RX5 27 (65535), Cond.methodLink RX5 53 yX5_dOf, Cond.static yX5_dOf, Cond.code yX5_dOf cX5_dOf 1 (some .int), Cond.methodLink RX5 131 yX5_ofStack, Cond.instanceMethod yX5_ofStack, Cond.selects RX5 yX5_ofStack yX5_ofStack, Cond.code yX5_ofStack cX5_ofStack 6 (some .int), Cond.methodLink RX5 28 yX5_pair]
def wsX5_ofNine_r2 : List Cond := [Cond.instanceMethod yX5_pair, Cond.selects RX5 yX5_pair yX5_pair, Cond.code yX5_pair cX5_pair 2 (some .int), Cond.methodLink RX5 121 yX5_isFar, Cond.static yX5_isFar, Cond.code yX5_isFar cX5_isFar 1 (some .boolean), Cond.methodLink RX5 124 yX5_pushes, Cond.instanceMethod yX5_pushes, Cond.selects RX5 yX5_pushes yX5_pushes, Cond.code yX5_pushes cX5_pushes 3 none, Cond.methodLink RX5 106 yX5_setPair, Cond.instanceMethod yX5_setPair, Cond.selects RX5 yX5_setPair yX5_setPair, Cond.code yX5_setPair cX5_setPair 3 none, Cond.methodLink RX5 128 yX5_pops, Cond.instanceMethod yX5_pops, Cond.selects RX5 yX5_pops yX5_pops, Cond.code yX5_pops cX5_pops 2 (some .int), Cond.methodLink RX5 134 yX5_moves, Cond.instanceMethod yX5_moves, Cond.selects RX5 yX5_moves yX5_moves, Cond.code yX5_moves cX5_moves 4 (some .int), Cond.methodLink RX5 138 yX5_codeByte, Cond.instanceMethod yX5_codeByte]
def wsX5_ofNine_r3 : List Cond := [Cond.selects RX5 yX5_codeByte yX5_codeByte, Cond.code yX5_codeByte cX5_codeByte 3 (some .int), Cond.methodLink RX5 50 yX5_changes, Cond.static yX5_changes, Cond.code yX5_changes cX5_changes 1 (some .int), Cond.methodLink RX5 47 yX5_isOne, Cond.static yX5_isOne, Cond.code yX5_isOne cX5_isOne 1 (some .boolean), Cond.constant RX5 41 (65024), Cond.constant RX5 42 (37888), Cond.methodLink RX5 157 yX5_ofOthers, Cond.instanceMethod yX5_ofOthers, Cond.selects RX5 yX5_ofOthers yX5_ofOthers, Cond.code yX5_ofOthers cX5_ofOthers 4 (some .int), Cond.constant RX5 60 (38153), Cond.constant RX5 56 (38152), Cond.constant RX5 57 (38168), Cond.constant RX5 58 (38344), Cond.methodLink RX5 148 yX5_jumps, Cond.instanceMethod yX5_jumps, Cond.selects RX5 yX5_jumps yX5_jumps, Cond.code yX5_jumps cX5_jumps 4 (some .int), Cond.fieldLink RX5 16 "FlagCoreModel" "count" "[I", Cond.methodLink RX5 141 yX5_canCall]
def wsX5_ofNine_r4 : List Cond := [Cond.instanceMethod yX5_canCall, Cond.selects RX5 yX5_canCall yX5_canCall, Cond.code yX5_canCall cX5_canCall 2 (some .boolean), Cond.methodLink RX5 145 yX5_calls, Cond.instanceMethod yX5_calls, Cond.selects RX5 yX5_calls yX5_calls, Cond.code yX5_calls cX5_calls 3 none, Cond.methodLink RX5 151 yX5_returns, Cond.instanceMethod yX5_returns, Cond.selects RX5 yX5_returns yX5_returns, Cond.code yX5_returns cX5_returns 5 (some .int), Cond.methodLink RX5 74 yX5_flag, Cond.instanceMethod yX5_flag, Cond.selects RX5 yX5_flag yX5_flag, Cond.code yX5_flag cX5_flag 3 none, Cond.methodLink RX5 160 yX5_ofOne, Cond.instanceMethod yX5_ofOne, Cond.selects RX5 yX5_ofOne yX5_ofOne, Cond.code yX5_ofOne cX5_ofOne 5 none, Cond.methodLink RX5 103 yX5_logic, Cond.instanceMethod yX5_logic, Cond.selects RX5 yX5_logic yX5_logic, Cond.code yX5_logic cX5_logic 2 (some .int), Cond.methodLink RX5 78 yX5_signs]
def wsX5_ofNine_r5 : List Cond := [Cond.instanceMethod yX5_signs, Cond.selects RX5 yX5_signs yX5_signs, Cond.code yX5_signs cX5_signs 3 none, Cond.methodLink RX5 91 yX5_subtract, Cond.instanceMethod yX5_subtract, Cond.selects RX5 yX5_subtract yX5_subtract, Cond.code yX5_subtract cX5_subtract 7 (some .int), Cond.methodLink RX5 81 yX5_has, Cond.instanceMethod yX5_has, Cond.selects RX5 yX5_has yX5_has, Cond.code yX5_has cX5_has 2 (some .boolean), Cond.methodLink RX5 116 yX5_right, Cond.instanceMethod yX5_right, Cond.selects RX5 yX5_right yX5_right, Cond.code yX5_right cX5_right 5 (some .int), Cond.methodLink RX5 87 yX5_carry, Cond.instanceMethod yX5_carry, Cond.selects RX5 yX5_carry yX5_carry, Cond.code yX5_carry cX5_carry 1 (some .int), Cond.methodLink RX5 164 yX5_ofPair, Cond.instanceMethod yX5_ofPair, Cond.selects RX5 yX5_ofPair yX5_ofPair, Cond.code yX5_ofPair cX5_ofPair 9 none, Cond.constant RX5 120 (32768)]
def wsX5_ofNine_r6 : List Cond := [Cond.methodLink RX5 168 yX5_ofPortBit, Cond.instanceMethod yX5_ofPortBit, Cond.selects RX5 yX5_ofPortBit yX5_ofPortBit, Cond.code yX5_ofPortBit cX5_ofPortBit 5 none, Cond.methodLink RX5 99 yX5_skips, Cond.instanceMethod yX5_skips, Cond.selects RX5 yX5_skips yX5_skips, Cond.code yX5_skips cX5_skips 3 none, Cond.methodLink RX5 71 yX5_hasNext, Cond.static yX5_hasNext, Cond.code yX5_hasNext cX5_hasNext 1 (some .boolean), Cond.methodLink RX5 113 yX5_product, Cond.instanceMethod yX5_product, Cond.selects RX5 yX5_product yX5_product, Cond.code yX5_product cX5_product 4 none]
def wsX5_ofNine : List Cond := .code yX5_ofNine cX5_ofNine 3 (some .int) :: ((wsX5_ofNine_r1 ++ (wsX5_ofNine_r2 ++ (wsX5_ofNine_r3 ++ (wsX5_ofNine_r4 ++ (wsX5_ofNine_r5 ++ wsX5_ofNine_r6))))) ++ wsX50)
def wsX5_ofFifteen_r1 : List Cond := [Cond.constant RX5 171 (63488), Cond.fieldLink RX5 84 "FlagCoreModel" "next" "I", Cond.methodLink RX5 172 yX5_ofBit, Cond.instanceMethod yX5_ofBit, Cond.selects RX5 yX5_ofBit yX5_ofBit, Cond.initialized RX5, Cond.code yX5_ofBit cX5_ofBit 5 none, Cond.fieldLink RX5 13 "FlagCoreModel" "data" "[I", Cond.methodLink RX5 53 yX5_dOf, Cond.static yX5_dOf, Cond.code yX5_dOf cX5_dOf 1 (some .int), Cond.methodLink RX5 81 yX5_has, Cond.instanceMethod yX5_has, Cond.selects RX5 yX5_has yX5_has, Cond.code yX5_has cX5_has 2 (some .boolean), Cond.methodLink RX5 74 yX5_flag, Cond.instanceMethod yX5_flag, Cond.selects RX5 yX5_flag yX5_flag, Cond.code yX5_flag cX5_flag 3 none, Cond.methodLink RX5 99 yX5_skips, Cond.instanceMethod yX5_skips, Cond.selects RX5 yX5_skips yX5_skips, Cond.code yX5_skips cX5_skips 3 none, Cond.fieldLink RX5 7 "FlagCoreModel" "code" "[I"]
def wsX5_ofFifteen_r2 : List Cond := [Cond.fieldLink RX5 16 "FlagCoreModel" "count" "[I", Cond.methodLink RX5 71 yX5_hasNext, Cond.static yX5_hasNext, Cond.code yX5_hasNext cX5_hasNext 1 (some .boolean), Cond.methodLink RX5 43 yX5_isMemory, Cond.static yX5_isMemory, Cond.code yX5_isMemory cX5_isMemory 1 (some .boolean), Cond.constant RX5 39 (64512), Cond.constant RX5 40 (36864), Cond.methodLink RX5 47 yX5_isOne, Cond.static yX5_isOne, Cond.code yX5_isOne cX5_isOne 1 (some .boolean), Cond.constant RX5 41 (65024), Cond.constant RX5 42 (37888)]
def wsX5_ofFifteen : List Cond := .code yX5_ofFifteen cX5_ofFifteen 4 (some .int) :: ((wsX5_ofFifteen_r1 ++ wsX5_ofFifteen_r2) ++ wsX50)
def wsX5_does_r1 : List Cond := [Cond.constant RX5 175 (53248), Cond.constant RX5 120 (32768), Cond.fieldLink RX5 84 "FlagCoreModel" "next" "I", Cond.methodLink RX5 176 yX5_ofPlaces, Cond.instanceMethod yX5_ofPlaces, Cond.selects RX5 yX5_ofPlaces yX5_ofPlaces, Cond.initialized RX5, Cond.code yX5_ofPlaces cX5_ofPlaces 4 (some .int), Cond.constant RX5 27 (65535), Cond.methodLink RX5 28 yX5_pair, Cond.instanceMethod yX5_pair, Cond.selects RX5 yX5_pair yX5_pair, Cond.code yX5_pair cX5_pair 2 (some .int), Cond.fieldLink RX5 13 "FlagCoreModel" "data" "[I", Cond.methodLink RX5 53 yX5_dOf, Cond.static yX5_dOf, Cond.code yX5_dOf cX5_dOf 1 (some .int), Cond.methodLink RX5 134 yX5_moves, Cond.instanceMethod yX5_moves, Cond.selects RX5 yX5_moves yX5_moves, Cond.code yX5_moves cX5_moves 4 (some .int), Cond.methodLink RX5 121 yX5_isFar, Cond.static yX5_isFar, Cond.code yX5_isFar cX5_isFar 1 (some .boolean)]
def wsX5_does_r2 : List Cond := [Cond.methodLink RX5 179 yX5_ofTwo, Cond.instanceMethod yX5_ofTwo, Cond.selects RX5 yX5_ofTwo yX5_ofTwo, Cond.code yX5_ofTwo cX5_ofTwo 8 none, Cond.methodLink RX5 87 yX5_carry, Cond.instanceMethod yX5_carry, Cond.selects RX5 yX5_carry yX5_carry, Cond.code yX5_carry cX5_carry 1 (some .int), Cond.methodLink RX5 81 yX5_has, Cond.instanceMethod yX5_has, Cond.selects RX5 yX5_has yX5_has, Cond.code yX5_has cX5_has 2 (some .boolean), Cond.methodLink RX5 91 yX5_subtract, Cond.instanceMethod yX5_subtract, Cond.selects RX5 yX5_subtract yX5_subtract, Cond.code yX5_subtract cX5_subtract 7 (some .int), Cond.methodLink RX5 74 yX5_flag, Cond.instanceMethod yX5_flag, Cond.selects RX5 yX5_flag yX5_flag, Cond.code yX5_flag cX5_flag 3 none, Cond.methodLink RX5 78 yX5_signs, Cond.instanceMethod yX5_signs, Cond.selects RX5 yX5_signs yX5_signs, Cond.code yX5_signs cX5_signs 3 none]
def wsX5_does_r3 : List Cond := [Cond.methodLink RX5 95 yX5_add, Cond.instanceMethod yX5_add, Cond.selects RX5 yX5_add yX5_add, Cond.code yX5_add cX5_add 5 (some .int), Cond.methodLink RX5 99 yX5_skips, Cond.instanceMethod yX5_skips, Cond.selects RX5 yX5_skips yX5_skips, Cond.code yX5_skips cX5_skips 3 none, Cond.fieldLink RX5 7 "FlagCoreModel" "code" "[I", Cond.fieldLink RX5 16 "FlagCoreModel" "count" "[I", Cond.methodLink RX5 71 yX5_hasNext, Cond.static yX5_hasNext, Cond.code yX5_hasNext cX5_hasNext 1 (some .boolean), Cond.methodLink RX5 43 yX5_isMemory, Cond.static yX5_isMemory, Cond.code yX5_isMemory cX5_isMemory 1 (some .boolean), Cond.constant RX5 39 (64512), Cond.constant RX5 40 (36864), Cond.methodLink RX5 47 yX5_isOne, Cond.static yX5_isOne, Cond.code yX5_isOne cX5_isOne 1 (some .boolean), Cond.constant RX5 41 (65024), Cond.constant RX5 42 (37888), Cond.methodLink RX5 103 yX5_logic]
def wsX5_does_r4 : List Cond := [Cond.instanceMethod yX5_logic, Cond.selects RX5 yX5_logic yX5_logic, Cond.code yX5_logic cX5_logic 2 (some .int), Cond.methodLink RX5 182 yX5_products, Cond.instanceMethod yX5_products, Cond.selects RX5 yX5_products yX5_products, Cond.code yX5_products cX5_products 4 none, Cond.methodLink RX5 110 yX5_signed, Cond.static yX5_signed, Cond.code yX5_signed cX5_signed 1 (some .int), Cond.methodLink RX5 113 yX5_product, Cond.instanceMethod yX5_product, Cond.selects RX5 yX5_product yX5_product, Cond.code yX5_product cX5_product 4 none, Cond.methodLink RX5 106 yX5_setPair, Cond.instanceMethod yX5_setPair, Cond.selects RX5 yX5_setPair yX5_setPair, Cond.code yX5_setPair cX5_setPair 3 none, Cond.methodLink RX5 185 yX5_ofNine, Cond.instanceMethod yX5_ofNine, Cond.selects RX5 yX5_ofNine yX5_ofNine, Cond.code yX5_ofNine cX5_ofNine 3 (some .int), Cond.constant RX5 163 (38912), Cond.constant RX5 167 (39936)]
def wsX5_does_r5 : List Cond := [Cond.methodLink RX5 154 yX5_ofMemory, Cond.instanceMethod yX5_ofMemory, Cond.selects RX5 yX5_ofMemory yX5_ofMemory, Cond.code yX5_ofMemory cX5_ofMemory 10 (some .int), Cond.methodLink RX5 131 yX5_ofStack, Cond.instanceMethod yX5_ofStack, Cond.selects RX5 yX5_ofStack yX5_ofStack, Cond.code yX5_ofStack cX5_ofStack 6 (some .int), Cond.methodLink RX5 124 yX5_pushes, Cond.instanceMethod yX5_pushes, Cond.selects RX5 yX5_pushes yX5_pushes, Cond.code yX5_pushes cX5_pushes 3 none, Cond.methodLink RX5 128 yX5_pops, Cond.instanceMethod yX5_pops, Cond.selects RX5 yX5_pops yX5_pops, Cond.code yX5_pops cX5_pops 2 (some .int), Cond.methodLink RX5 138 yX5_codeByte, Cond.instanceMethod yX5_codeByte, Cond.selects RX5 yX5_codeByte yX5_codeByte, Cond.code yX5_codeByte cX5_codeByte 3 (some .int), Cond.methodLink RX5 50 yX5_changes, Cond.static yX5_changes, Cond.code yX5_changes cX5_changes 1 (some .int), Cond.methodLink RX5 157 yX5_ofOthers]
def wsX5_does_r6 : List Cond := [Cond.instanceMethod yX5_ofOthers, Cond.selects RX5 yX5_ofOthers yX5_ofOthers, Cond.code yX5_ofOthers cX5_ofOthers 4 (some .int), Cond.constant RX5 60 (38153), Cond.constant RX5 56 (38152), Cond.constant RX5 57 (38168), Cond.constant RX5 58 (38344), Cond.methodLink RX5 148 yX5_jumps, Cond.instanceMethod yX5_jumps, Cond.selects RX5 yX5_jumps yX5_jumps, Cond.code yX5_jumps cX5_jumps 4 (some .int), Cond.methodLink RX5 141 yX5_canCall, Cond.instanceMethod yX5_canCall, Cond.selects RX5 yX5_canCall yX5_canCall, Cond.code yX5_canCall cX5_canCall 2 (some .boolean), Cond.methodLink RX5 145 yX5_calls, Cond.instanceMethod yX5_calls, Cond.selects RX5 yX5_calls yX5_calls, Cond.code yX5_calls cX5_calls 3 none, Cond.methodLink RX5 151 yX5_returns, Cond.instanceMethod yX5_returns, Cond.selects RX5 yX5_returns yX5_returns, Cond.code yX5_returns cX5_returns 5 (some .int), Cond.methodLink RX5 160 yX5_ofOne]
def wsX5_does_r7 : List Cond := [Cond.instanceMethod yX5_ofOne, Cond.selects RX5 yX5_ofOne yX5_ofOne, Cond.code yX5_ofOne cX5_ofOne 5 none, Cond.methodLink RX5 116 yX5_right, Cond.instanceMethod yX5_right, Cond.selects RX5 yX5_right yX5_right, Cond.code yX5_right cX5_right 5 (some .int), Cond.methodLink RX5 164 yX5_ofPair, Cond.instanceMethod yX5_ofPair, Cond.selects RX5 yX5_ofPair yX5_ofPair, Cond.code yX5_ofPair cX5_ofPair 9 none, Cond.methodLink RX5 168 yX5_ofPortBit, Cond.instanceMethod yX5_ofPortBit, Cond.selects RX5 yX5_ofPortBit yX5_ofPortBit, Cond.code yX5_ofPortBit cX5_ofPortBit 5 none, Cond.methodLink RX5 188 yX5_ofPort, Cond.instanceMethod yX5_ofPort, Cond.selects RX5 yX5_ofPort yX5_ofPort, Cond.code yX5_ofPort cX5_ofPort 3 none, Cond.methodLink RX5 191 yX5_ofFifteen, Cond.instanceMethod yX5_ofFifteen, Cond.selects RX5 yX5_ofFifteen yX5_ofFifteen, Cond.code yX5_ofFifteen cX5_ofFifteen 4 (some .int), Cond.constant RX5 171 (63488)]
def wsX5_does_r8 : List Cond := [Cond.methodLink RX5 172 yX5_ofBit, Cond.instanceMethod yX5_ofBit, Cond.selects RX5 yX5_ofBit yX5_ofBit, Cond.code yX5_ofBit cX5_ofBit 5 none, Cond.methodLink RX5 194 yX5_ofNumber, Cond.instanceMethod yX5_ofNumber, Cond.selects RX5 yX5_ofNumber yX5_ofNumber, Cond.code yX5_ofNumber cX5_ofNumber 6 none]
def wsX5_does : List Cond := .code yX5_does cX5_does 4 (some .int) :: ((wsX5_does_r1 ++ (wsX5_does_r2 ++ (wsX5_does_r3 ++ (wsX5_does_r4 ++ (wsX5_does_r5 ++ (wsX5_does_r6 ++ (wsX5_does_r7 ++ wsX5_does_r8))))))) ++ wsX50)
def wsX5_enters_r1 : List Cond := [Cond.fieldLink RX5 36 "FlagCoreModel" "asked" "I", Cond.fieldLink RX5 19 "FlagCoreModel" "pc" "I", Cond.fieldLink RX5 84 "FlagCoreModel" "next" "I", Cond.methodLink RX5 141 yX5_canCall, Cond.instanceMethod yX5_canCall, Cond.selects RX5 yX5_canCall yX5_canCall, Cond.initialized RX5, Cond.code yX5_canCall cX5_canCall 2 (some .boolean), Cond.constant RX5 27 (65535), Cond.methodLink RX5 28 yX5_pair, Cond.instanceMethod yX5_pair, Cond.selects RX5 yX5_pair yX5_pair, Cond.code yX5_pair cX5_pair 2 (some .int), Cond.fieldLink RX5 13 "FlagCoreModel" "data" "[I", Cond.methodLink RX5 121 yX5_isFar, Cond.static yX5_isFar, Cond.code yX5_isFar cX5_isFar 1 (some .boolean), Cond.methodLink RX5 145 yX5_calls, Cond.instanceMethod yX5_calls, Cond.selects RX5 yX5_calls yX5_calls, Cond.code yX5_calls cX5_calls 3 none, Cond.methodLink RX5 124 yX5_pushes, Cond.instanceMethod yX5_pushes, Cond.selects RX5 yX5_pushes yX5_pushes]
def wsX5_enters_r2 : List Cond := [Cond.code yX5_pushes cX5_pushes 3 none, Cond.methodLink RX5 106 yX5_setPair, Cond.instanceMethod yX5_setPair, Cond.selects RX5 yX5_setPair yX5_setPair, Cond.code yX5_setPair cX5_setPair 3 none, Cond.methodLink RX5 74 yX5_flag, Cond.instanceMethod yX5_flag, Cond.selects RX5 yX5_flag yX5_flag, Cond.code yX5_flag cX5_flag 3 none]
def wsX5_enters : List Cond := .code yX5_enters cX5_enters 2 (some .int) :: ((wsX5_enters_r1 ++ wsX5_enters_r2) ++ wsX50)
def wsX5_stepOnce_r1 : List Cond := [Cond.fieldLink RX5 36 "FlagCoreModel" "asked" "I", Cond.fieldLink RX5 32 "FlagCoreModel" "isWaited" "Z", Cond.fieldLink RX5 7 "FlagCoreModel" "code" "[I", Cond.fieldLink RX5 19 "FlagCoreModel" "pc" "I", Cond.fieldLink RX5 84 "FlagCoreModel" "next" "I", Cond.constant RX5 203 (38008), Cond.constant RX5 57 (38168), Cond.methodLink RX5 81 yX5_has, Cond.instanceMethod yX5_has, Cond.selects RX5 yX5_has yX5_has, Cond.initialized RX5, Cond.code yX5_has cX5_has 2 (some .boolean), Cond.fieldLink RX5 13 "FlagCoreModel" "data" "[I", Cond.methodLink RX5 197 yX5_enters, Cond.instanceMethod yX5_enters, Cond.selects RX5 yX5_enters yX5_enters, Cond.code yX5_enters cX5_enters 2 (some .int), Cond.methodLink RX5 141 yX5_canCall, Cond.instanceMethod yX5_canCall, Cond.selects RX5 yX5_canCall yX5_canCall, Cond.code yX5_canCall cX5_canCall 2 (some .boolean), Cond.constant RX5 27 (65535), Cond.methodLink RX5 28 yX5_pair, Cond.instanceMethod yX5_pair]
def wsX5_stepOnce_r2 : List Cond := [Cond.selects RX5 yX5_pair yX5_pair, Cond.code yX5_pair cX5_pair 2 (some .int), Cond.methodLink RX5 121 yX5_isFar, Cond.static yX5_isFar, Cond.code yX5_isFar cX5_isFar 1 (some .boolean), Cond.methodLink RX5 145 yX5_calls, Cond.instanceMethod yX5_calls, Cond.selects RX5 yX5_calls yX5_calls, Cond.code yX5_calls cX5_calls 3 none, Cond.methodLink RX5 124 yX5_pushes, Cond.instanceMethod yX5_pushes, Cond.selects RX5 yX5_pushes yX5_pushes, Cond.code yX5_pushes cX5_pushes 3 none, Cond.methodLink RX5 106 yX5_setPair, Cond.instanceMethod yX5_setPair, Cond.selects RX5 yX5_setPair yX5_setPair, Cond.code yX5_setPair cX5_setPair 3 none, Cond.methodLink RX5 74 yX5_flag, Cond.instanceMethod yX5_flag, Cond.selects RX5 yX5_flag yX5_flag, Cond.code yX5_flag cX5_flag 3 none, Cond.methodLink RX5 68 yX5_isIllegal, Cond.static yX5_isIllegal, Cond.code yX5_isIllegal cX5_isIllegal 1 (some .boolean)]
def wsX5_stepOnce_r3 : List Cond := [Cond.constant RX5 67 (63496), Cond.methodLink RX5 43 yX5_isMemory, Cond.static yX5_isMemory, Cond.code yX5_isMemory cX5_isMemory 1 (some .boolean), Cond.constant RX5 39 (64512), Cond.constant RX5 40 (36864), Cond.methodLink RX5 61 yX5_isBadMemory, Cond.static yX5_isBadMemory, Cond.code yX5_isBadMemory cX5_isBadMemory 4 (some .boolean), Cond.methodLink RX5 50 yX5_changes, Cond.static yX5_changes, Cond.code yX5_changes cX5_changes 1 (some .int), Cond.methodLink RX5 53 yX5_dOf, Cond.static yX5_dOf, Cond.code yX5_dOf cX5_dOf 1 (some .int), Cond.methodLink RX5 47 yX5_isOne, Cond.static yX5_isOne, Cond.code yX5_isOne cX5_isOne 1 (some .boolean), Cond.constant RX5 41 (65024), Cond.constant RX5 42 (37888), Cond.methodLink RX5 64 yX5_isBadOne, Cond.static yX5_isBadOne, Cond.code yX5_isBadOne cX5_isBadOne 2 (some .boolean), Cond.constant RX5 56 (38152)]
def wsX5_stepOnce_r4 : List Cond := [Cond.constant RX5 58 (38344), Cond.constant RX5 59 (37897), Cond.constant RX5 60 (38153), Cond.methodLink RX5 200 yX5_does, Cond.instanceMethod yX5_does, Cond.selects RX5 yX5_does yX5_does, Cond.code yX5_does cX5_does 4 (some .int), Cond.constant RX5 175 (53248), Cond.constant RX5 120 (32768), Cond.methodLink RX5 176 yX5_ofPlaces, Cond.instanceMethod yX5_ofPlaces, Cond.selects RX5 yX5_ofPlaces yX5_ofPlaces, Cond.code yX5_ofPlaces cX5_ofPlaces 4 (some .int), Cond.methodLink RX5 134 yX5_moves, Cond.instanceMethod yX5_moves, Cond.selects RX5 yX5_moves yX5_moves, Cond.code yX5_moves cX5_moves 4 (some .int), Cond.methodLink RX5 179 yX5_ofTwo, Cond.instanceMethod yX5_ofTwo, Cond.selects RX5 yX5_ofTwo yX5_ofTwo, Cond.code yX5_ofTwo cX5_ofTwo 8 none, Cond.methodLink RX5 87 yX5_carry, Cond.instanceMethod yX5_carry, Cond.selects RX5 yX5_carry yX5_carry]
def wsX5_stepOnce_r5 : List Cond := [Cond.code yX5_carry cX5_carry 1 (some .int), Cond.methodLink RX5 91 yX5_subtract, Cond.instanceMethod yX5_subtract, Cond.selects RX5 yX5_subtract yX5_subtract, Cond.code yX5_subtract cX5_subtract 7 (some .int), Cond.methodLink RX5 78 yX5_signs, Cond.instanceMethod yX5_signs, Cond.selects RX5 yX5_signs yX5_signs, Cond.code yX5_signs cX5_signs 3 none, Cond.methodLink RX5 95 yX5_add, Cond.instanceMethod yX5_add, Cond.selects RX5 yX5_add yX5_add, Cond.code yX5_add cX5_add 5 (some .int), Cond.methodLink RX5 99 yX5_skips, Cond.instanceMethod yX5_skips, Cond.selects RX5 yX5_skips yX5_skips, Cond.code yX5_skips cX5_skips 3 none, Cond.fieldLink RX5 16 "FlagCoreModel" "count" "[I", Cond.methodLink RX5 71 yX5_hasNext, Cond.static yX5_hasNext, Cond.code yX5_hasNext cX5_hasNext 1 (some .boolean), Cond.methodLink RX5 103 yX5_logic, Cond.instanceMethod yX5_logic, Cond.selects RX5 yX5_logic yX5_logic]
def wsX5_stepOnce_r6 : List Cond := [Cond.code yX5_logic cX5_logic 2 (some .int), Cond.methodLink RX5 182 yX5_products, Cond.instanceMethod yX5_products, Cond.selects RX5 yX5_products yX5_products, Cond.code yX5_products cX5_products 4 none, Cond.methodLink RX5 110 yX5_signed, Cond.static yX5_signed, Cond.code yX5_signed cX5_signed 1 (some .int), Cond.methodLink RX5 113 yX5_product, Cond.instanceMethod yX5_product, Cond.selects RX5 yX5_product yX5_product, Cond.code yX5_product cX5_product 4 none, Cond.methodLink RX5 185 yX5_ofNine, Cond.instanceMethod yX5_ofNine, Cond.selects RX5 yX5_ofNine yX5_ofNine, Cond.code yX5_ofNine cX5_ofNine 3 (some .int), Cond.constant RX5 163 (38912), Cond.constant RX5 167 (39936), Cond.methodLink RX5 154 yX5_ofMemory, Cond.instanceMethod yX5_ofMemory, Cond.selects RX5 yX5_ofMemory yX5_ofMemory, Cond.code yX5_ofMemory cX5_ofMemory 10 (some .int), Cond.methodLink RX5 131 yX5_ofStack, Cond.instanceMethod yX5_ofStack]
def wsX5_stepOnce_r7 : List Cond := [Cond.selects RX5 yX5_ofStack yX5_ofStack, Cond.code yX5_ofStack cX5_ofStack 6 (some .int), Cond.methodLink RX5 128 yX5_pops, Cond.instanceMethod yX5_pops, Cond.selects RX5 yX5_pops yX5_pops, Cond.code yX5_pops cX5_pops 2 (some .int), Cond.methodLink RX5 138 yX5_codeByte, Cond.instanceMethod yX5_codeByte, Cond.selects RX5 yX5_codeByte yX5_codeByte, Cond.code yX5_codeByte cX5_codeByte 3 (some .int), Cond.methodLink RX5 157 yX5_ofOthers, Cond.instanceMethod yX5_ofOthers, Cond.selects RX5 yX5_ofOthers yX5_ofOthers, Cond.code yX5_ofOthers cX5_ofOthers 4 (some .int), Cond.methodLink RX5 148 yX5_jumps, Cond.instanceMethod yX5_jumps, Cond.selects RX5 yX5_jumps yX5_jumps, Cond.code yX5_jumps cX5_jumps 4 (some .int), Cond.methodLink RX5 151 yX5_returns, Cond.instanceMethod yX5_returns, Cond.selects RX5 yX5_returns yX5_returns, Cond.code yX5_returns cX5_returns 5 (some .int), Cond.methodLink RX5 160 yX5_ofOne, Cond.instanceMethod yX5_ofOne]
def wsX5_stepOnce_r8 : List Cond := [Cond.selects RX5 yX5_ofOne yX5_ofOne, Cond.code yX5_ofOne cX5_ofOne 5 none, Cond.methodLink RX5 116 yX5_right, Cond.instanceMethod yX5_right, Cond.selects RX5 yX5_right yX5_right, Cond.code yX5_right cX5_right 5 (some .int), Cond.methodLink RX5 164 yX5_ofPair, Cond.instanceMethod yX5_ofPair, Cond.selects RX5 yX5_ofPair yX5_ofPair, Cond.code yX5_ofPair cX5_ofPair 9 none, Cond.methodLink RX5 168 yX5_ofPortBit, Cond.instanceMethod yX5_ofPortBit, Cond.selects RX5 yX5_ofPortBit yX5_ofPortBit, Cond.code yX5_ofPortBit cX5_ofPortBit 5 none, Cond.methodLink RX5 188 yX5_ofPort, Cond.instanceMethod yX5_ofPort, Cond.selects RX5 yX5_ofPort yX5_ofPort, Cond.code yX5_ofPort cX5_ofPort 3 none, Cond.methodLink RX5 191 yX5_ofFifteen, Cond.instanceMethod yX5_ofFifteen, Cond.selects RX5 yX5_ofFifteen yX5_ofFifteen, Cond.code yX5_ofFifteen cX5_ofFifteen 4 (some .int), Cond.constant RX5 171 (63488), Cond.methodLink RX5 172 yX5_ofBit]
def wsX5_stepOnce_r9 : List Cond := [Cond.instanceMethod yX5_ofBit, Cond.selects RX5 yX5_ofBit yX5_ofBit, Cond.code yX5_ofBit cX5_ofBit 5 none, Cond.methodLink RX5 194 yX5_ofNumber, Cond.instanceMethod yX5_ofNumber, Cond.selects RX5 yX5_ofNumber yX5_ofNumber, Cond.code yX5_ofNumber cX5_ofNumber 6 none]
def wsX5_stepOnce : List Cond := .code yX5_stepOnce cX5_stepOnce 3 (some .int) :: ((wsX5_stepOnce_r1 ++ (wsX5_stepOnce_r2 ++ (wsX5_stepOnce_r3 ++ (wsX5_stepOnce_r4 ++ (wsX5_stepOnce_r5 ++ (wsX5_stepOnce_r6 ++ (wsX5_stepOnce_r7 ++ (wsX5_stepOnce_r8 ++ wsX5_stepOnce_r9)))))))) ++ wsX50)
def wsX5_step_r1 : List Cond := [Cond.fieldLink RX5 207 "FlagCoreModel" "ended" "I", Cond.fieldLink RX5 16 "FlagCoreModel" "count" "[I", Cond.methodLink RX5 204 yX5_stepOnce, Cond.instanceMethod yX5_stepOnce, Cond.selects RX5 yX5_stepOnce yX5_stepOnce, Cond.initialized RX5, Cond.code yX5_stepOnce cX5_stepOnce 3 (some .int), Cond.fieldLink RX5 36 "FlagCoreModel" "asked" "I", Cond.fieldLink RX5 32 "FlagCoreModel" "isWaited" "Z", Cond.fieldLink RX5 7 "FlagCoreModel" "code" "[I", Cond.fieldLink RX5 19 "FlagCoreModel" "pc" "I", Cond.fieldLink RX5 84 "FlagCoreModel" "next" "I", Cond.constant RX5 203 (38008), Cond.constant RX5 57 (38168), Cond.methodLink RX5 81 yX5_has, Cond.instanceMethod yX5_has, Cond.selects RX5 yX5_has yX5_has, Cond.code yX5_has cX5_has 2 (some .boolean), Cond.fieldLink RX5 13 "FlagCoreModel" "data" "[I", Cond.methodLink RX5 197 yX5_enters, Cond.instanceMethod yX5_enters, Cond.selects RX5 yX5_enters yX5_enters, Cond.code yX5_enters cX5_enters 2 (some .int), Cond.methodLink RX5 141 yX5_canCall]
def wsX5_step_r2 : List Cond := [Cond.instanceMethod yX5_canCall, Cond.selects RX5 yX5_canCall yX5_canCall, Cond.code yX5_canCall cX5_canCall 2 (some .boolean), Cond.constant RX5 27 (65535), Cond.methodLink RX5 28 yX5_pair, Cond.instanceMethod yX5_pair, Cond.selects RX5 yX5_pair yX5_pair, Cond.code yX5_pair cX5_pair 2 (some .int), Cond.methodLink RX5 121 yX5_isFar, Cond.static yX5_isFar, Cond.code yX5_isFar cX5_isFar 1 (some .boolean), Cond.methodLink RX5 145 yX5_calls, Cond.instanceMethod yX5_calls, Cond.selects RX5 yX5_calls yX5_calls, Cond.code yX5_calls cX5_calls 3 none, Cond.methodLink RX5 124 yX5_pushes, Cond.instanceMethod yX5_pushes, Cond.selects RX5 yX5_pushes yX5_pushes, Cond.code yX5_pushes cX5_pushes 3 none, Cond.methodLink RX5 106 yX5_setPair, Cond.instanceMethod yX5_setPair, Cond.selects RX5 yX5_setPair yX5_setPair, Cond.code yX5_setPair cX5_setPair 3 none, Cond.methodLink RX5 74 yX5_flag]
def wsX5_step_r3 : List Cond := [Cond.instanceMethod yX5_flag, Cond.selects RX5 yX5_flag yX5_flag, Cond.code yX5_flag cX5_flag 3 none, Cond.methodLink RX5 68 yX5_isIllegal, Cond.static yX5_isIllegal, Cond.code yX5_isIllegal cX5_isIllegal 1 (some .boolean), Cond.constant RX5 67 (63496), Cond.methodLink RX5 43 yX5_isMemory, Cond.static yX5_isMemory, Cond.code yX5_isMemory cX5_isMemory 1 (some .boolean), Cond.constant RX5 39 (64512), Cond.constant RX5 40 (36864), Cond.methodLink RX5 61 yX5_isBadMemory, Cond.static yX5_isBadMemory, Cond.code yX5_isBadMemory cX5_isBadMemory 4 (some .boolean), Cond.methodLink RX5 50 yX5_changes, Cond.static yX5_changes, Cond.code yX5_changes cX5_changes 1 (some .int), Cond.methodLink RX5 53 yX5_dOf, Cond.static yX5_dOf, Cond.code yX5_dOf cX5_dOf 1 (some .int), Cond.methodLink RX5 47 yX5_isOne, Cond.static yX5_isOne, Cond.code yX5_isOne cX5_isOne 1 (some .boolean)]
def wsX5_step_r4 : List Cond := [Cond.constant RX5 41 (65024), Cond.constant RX5 42 (37888), Cond.methodLink RX5 64 yX5_isBadOne, Cond.static yX5_isBadOne, Cond.code yX5_isBadOne cX5_isBadOne 2 (some .boolean), Cond.constant RX5 56 (38152), Cond.constant RX5 58 (38344), Cond.constant RX5 59 (37897), Cond.constant RX5 60 (38153), Cond.methodLink RX5 200 yX5_does, Cond.instanceMethod yX5_does, Cond.selects RX5 yX5_does yX5_does, Cond.code yX5_does cX5_does 4 (some .int), Cond.constant RX5 175 (53248), Cond.constant RX5 120 (32768), Cond.methodLink RX5 176 yX5_ofPlaces, Cond.instanceMethod yX5_ofPlaces, Cond.selects RX5 yX5_ofPlaces yX5_ofPlaces, Cond.code yX5_ofPlaces cX5_ofPlaces 4 (some .int), Cond.methodLink RX5 134 yX5_moves, Cond.instanceMethod yX5_moves, Cond.selects RX5 yX5_moves yX5_moves, Cond.code yX5_moves cX5_moves 4 (some .int), Cond.methodLink RX5 179 yX5_ofTwo]
def wsX5_step_r5 : List Cond := [Cond.instanceMethod yX5_ofTwo, Cond.selects RX5 yX5_ofTwo yX5_ofTwo, Cond.code yX5_ofTwo cX5_ofTwo 8 none, Cond.methodLink RX5 87 yX5_carry, Cond.instanceMethod yX5_carry, Cond.selects RX5 yX5_carry yX5_carry, Cond.code yX5_carry cX5_carry 1 (some .int), Cond.methodLink RX5 91 yX5_subtract, Cond.instanceMethod yX5_subtract, Cond.selects RX5 yX5_subtract yX5_subtract, Cond.code yX5_subtract cX5_subtract 7 (some .int), Cond.methodLink RX5 78 yX5_signs, Cond.instanceMethod yX5_signs, Cond.selects RX5 yX5_signs yX5_signs, Cond.code yX5_signs cX5_signs 3 none, Cond.methodLink RX5 95 yX5_add, Cond.instanceMethod yX5_add, Cond.selects RX5 yX5_add yX5_add, Cond.code yX5_add cX5_add 5 (some .int), Cond.methodLink RX5 99 yX5_skips, Cond.instanceMethod yX5_skips, Cond.selects RX5 yX5_skips yX5_skips, Cond.code yX5_skips cX5_skips 3 none, Cond.methodLink RX5 71 yX5_hasNext]
def wsX5_step_r6 : List Cond := [Cond.static yX5_hasNext, Cond.code yX5_hasNext cX5_hasNext 1 (some .boolean), Cond.methodLink RX5 103 yX5_logic, Cond.instanceMethod yX5_logic, Cond.selects RX5 yX5_logic yX5_logic, Cond.code yX5_logic cX5_logic 2 (some .int), Cond.methodLink RX5 182 yX5_products, Cond.instanceMethod yX5_products, Cond.selects RX5 yX5_products yX5_products, Cond.code yX5_products cX5_products 4 none, Cond.methodLink RX5 110 yX5_signed, Cond.static yX5_signed, Cond.code yX5_signed cX5_signed 1 (some .int), Cond.methodLink RX5 113 yX5_product, Cond.instanceMethod yX5_product, Cond.selects RX5 yX5_product yX5_product, Cond.code yX5_product cX5_product 4 none, Cond.methodLink RX5 185 yX5_ofNine, Cond.instanceMethod yX5_ofNine, Cond.selects RX5 yX5_ofNine yX5_ofNine, Cond.code yX5_ofNine cX5_ofNine 3 (some .int), Cond.constant RX5 163 (38912), Cond.constant RX5 167 (39936), Cond.methodLink RX5 154 yX5_ofMemory]
def wsX5_step_r7 : List Cond := [Cond.instanceMethod yX5_ofMemory, Cond.selects RX5 yX5_ofMemory yX5_ofMemory, Cond.code yX5_ofMemory cX5_ofMemory 10 (some .int), Cond.methodLink RX5 131 yX5_ofStack, Cond.instanceMethod yX5_ofStack, Cond.selects RX5 yX5_ofStack yX5_ofStack, Cond.code yX5_ofStack cX5_ofStack 6 (some .int), Cond.methodLink RX5 128 yX5_pops, Cond.instanceMethod yX5_pops, Cond.selects RX5 yX5_pops yX5_pops, Cond.code yX5_pops cX5_pops 2 (some .int), Cond.methodLink RX5 138 yX5_codeByte, Cond.instanceMethod yX5_codeByte, Cond.selects RX5 yX5_codeByte yX5_codeByte, Cond.code yX5_codeByte cX5_codeByte 3 (some .int), Cond.methodLink RX5 157 yX5_ofOthers, Cond.instanceMethod yX5_ofOthers, Cond.selects RX5 yX5_ofOthers yX5_ofOthers, Cond.code yX5_ofOthers cX5_ofOthers 4 (some .int), Cond.methodLink RX5 148 yX5_jumps, Cond.instanceMethod yX5_jumps, Cond.selects RX5 yX5_jumps yX5_jumps, Cond.code yX5_jumps cX5_jumps 4 (some .int), Cond.methodLink RX5 151 yX5_returns]
def wsX5_step_r8 : List Cond := [Cond.instanceMethod yX5_returns, Cond.selects RX5 yX5_returns yX5_returns, Cond.code yX5_returns cX5_returns 5 (some .int), Cond.methodLink RX5 160 yX5_ofOne, Cond.instanceMethod yX5_ofOne, Cond.selects RX5 yX5_ofOne yX5_ofOne, Cond.code yX5_ofOne cX5_ofOne 5 none, Cond.methodLink RX5 116 yX5_right, Cond.instanceMethod yX5_right, Cond.selects RX5 yX5_right yX5_right, Cond.code yX5_right cX5_right 5 (some .int), Cond.methodLink RX5 164 yX5_ofPair, Cond.instanceMethod yX5_ofPair, Cond.selects RX5 yX5_ofPair yX5_ofPair, Cond.code yX5_ofPair cX5_ofPair 9 none, Cond.methodLink RX5 168 yX5_ofPortBit, Cond.instanceMethod yX5_ofPortBit, Cond.selects RX5 yX5_ofPortBit yX5_ofPortBit, Cond.code yX5_ofPortBit cX5_ofPortBit 5 none, Cond.methodLink RX5 188 yX5_ofPort, Cond.instanceMethod yX5_ofPort, Cond.selects RX5 yX5_ofPort yX5_ofPort, Cond.code yX5_ofPort cX5_ofPort 3 none, Cond.methodLink RX5 191 yX5_ofFifteen]
def wsX5_step_r9 : List Cond := [Cond.instanceMethod yX5_ofFifteen, Cond.selects RX5 yX5_ofFifteen yX5_ofFifteen, Cond.code yX5_ofFifteen cX5_ofFifteen 4 (some .int), Cond.constant RX5 171 (63488), Cond.methodLink RX5 172 yX5_ofBit, Cond.instanceMethod yX5_ofBit, Cond.selects RX5 yX5_ofBit yX5_ofBit, Cond.code yX5_ofBit cX5_ofBit 5 none, Cond.methodLink RX5 194 yX5_ofNumber, Cond.instanceMethod yX5_ofNumber, Cond.selects RX5 yX5_ofNumber yX5_ofNumber, Cond.code yX5_ofNumber cX5_ofNumber 6 none]
def wsX5_step : List Cond := .code yX5_step cX5_step 1 (some .int) :: ((wsX5_step_r1 ++ (wsX5_step_r2 ++ (wsX5_step_r3 ++ (wsX5_step_r4 ++ (wsX5_step_r5 ++ (wsX5_step_r6 ++ (wsX5_step_r7 ++ (wsX5_step_r8 ++ wsX5_step_r9)))))))) ++ wsX50)
def wsX5_run_r1 : List Cond := [Cond.methodLink RX5 23 yX5_in, Cond.static yX5_in, Cond.initialized RX5, Cond.code yX5_in cX5_in 3 (some .boolean), Cond.methodLink RX5 210 yX5_step, Cond.instanceMethod yX5_step, Cond.selects RX5 yX5_step yX5_step, Cond.code yX5_step cX5_step 1 (some .int), Cond.fieldLink RX5 207 "FlagCoreModel" "ended" "I", Cond.fieldLink RX5 16 "FlagCoreModel" "count" "[I", Cond.methodLink RX5 204 yX5_stepOnce, Cond.instanceMethod yX5_stepOnce, Cond.selects RX5 yX5_stepOnce yX5_stepOnce, Cond.code yX5_stepOnce cX5_stepOnce 3 (some .int), Cond.fieldLink RX5 36 "FlagCoreModel" "asked" "I", Cond.fieldLink RX5 32 "FlagCoreModel" "isWaited" "Z", Cond.fieldLink RX5 7 "FlagCoreModel" "code" "[I", Cond.fieldLink RX5 19 "FlagCoreModel" "pc" "I", Cond.fieldLink RX5 84 "FlagCoreModel" "next" "I", Cond.constant RX5 203 (38008), Cond.constant RX5 57 (38168), Cond.methodLink RX5 81 yX5_has, Cond.instanceMethod yX5_has, Cond.selects RX5 yX5_has yX5_has]
def wsX5_run_r2 : List Cond := [Cond.code yX5_has cX5_has 2 (some .boolean), Cond.fieldLink RX5 13 "FlagCoreModel" "data" "[I", Cond.methodLink RX5 197 yX5_enters, Cond.instanceMethod yX5_enters, Cond.selects RX5 yX5_enters yX5_enters, Cond.code yX5_enters cX5_enters 2 (some .int), Cond.methodLink RX5 141 yX5_canCall, Cond.instanceMethod yX5_canCall, Cond.selects RX5 yX5_canCall yX5_canCall, Cond.code yX5_canCall cX5_canCall 2 (some .boolean), Cond.constant RX5 27 (65535), Cond.methodLink RX5 28 yX5_pair, Cond.instanceMethod yX5_pair, Cond.selects RX5 yX5_pair yX5_pair, Cond.code yX5_pair cX5_pair 2 (some .int), Cond.methodLink RX5 121 yX5_isFar, Cond.static yX5_isFar, Cond.code yX5_isFar cX5_isFar 1 (some .boolean), Cond.methodLink RX5 145 yX5_calls, Cond.instanceMethod yX5_calls, Cond.selects RX5 yX5_calls yX5_calls, Cond.code yX5_calls cX5_calls 3 none, Cond.methodLink RX5 124 yX5_pushes, Cond.instanceMethod yX5_pushes]
def wsX5_run_r3 : List Cond := [Cond.selects RX5 yX5_pushes yX5_pushes, Cond.code yX5_pushes cX5_pushes 3 none, Cond.methodLink RX5 106 yX5_setPair, Cond.instanceMethod yX5_setPair, Cond.selects RX5 yX5_setPair yX5_setPair, Cond.code yX5_setPair cX5_setPair 3 none, Cond.methodLink RX5 74 yX5_flag, Cond.instanceMethod yX5_flag, Cond.selects RX5 yX5_flag yX5_flag, Cond.code yX5_flag cX5_flag 3 none, Cond.methodLink RX5 68 yX5_isIllegal, Cond.static yX5_isIllegal, Cond.code yX5_isIllegal cX5_isIllegal 1 (some .boolean), Cond.constant RX5 67 (63496), Cond.methodLink RX5 43 yX5_isMemory, Cond.static yX5_isMemory, Cond.code yX5_isMemory cX5_isMemory 1 (some .boolean), Cond.constant RX5 39 (64512), Cond.constant RX5 40 (36864), Cond.methodLink RX5 61 yX5_isBadMemory, Cond.static yX5_isBadMemory, Cond.code yX5_isBadMemory cX5_isBadMemory 4 (some .boolean), Cond.methodLink RX5 50 yX5_changes, Cond.static yX5_changes]
def wsX5_run_r4 : List Cond := [Cond.code yX5_changes cX5_changes 1 (some .int), Cond.methodLink RX5 53 yX5_dOf, Cond.static yX5_dOf, Cond.code yX5_dOf cX5_dOf 1 (some .int), Cond.methodLink RX5 47 yX5_isOne, Cond.static yX5_isOne, Cond.code yX5_isOne cX5_isOne 1 (some .boolean), Cond.constant RX5 41 (65024), Cond.constant RX5 42 (37888), Cond.methodLink RX5 64 yX5_isBadOne, Cond.static yX5_isBadOne, Cond.code yX5_isBadOne cX5_isBadOne 2 (some .boolean), Cond.constant RX5 56 (38152), Cond.constant RX5 58 (38344), Cond.constant RX5 59 (37897), Cond.constant RX5 60 (38153), Cond.methodLink RX5 200 yX5_does, Cond.instanceMethod yX5_does, Cond.selects RX5 yX5_does yX5_does, Cond.code yX5_does cX5_does 4 (some .int), Cond.constant RX5 175 (53248), Cond.constant RX5 120 (32768), Cond.methodLink RX5 176 yX5_ofPlaces, Cond.instanceMethod yX5_ofPlaces]
def wsX5_run_r5 : List Cond := [Cond.selects RX5 yX5_ofPlaces yX5_ofPlaces, Cond.code yX5_ofPlaces cX5_ofPlaces 4 (some .int), Cond.methodLink RX5 134 yX5_moves, Cond.instanceMethod yX5_moves, Cond.selects RX5 yX5_moves yX5_moves, Cond.code yX5_moves cX5_moves 4 (some .int), Cond.methodLink RX5 179 yX5_ofTwo, Cond.instanceMethod yX5_ofTwo, Cond.selects RX5 yX5_ofTwo yX5_ofTwo, Cond.code yX5_ofTwo cX5_ofTwo 8 none, Cond.methodLink RX5 87 yX5_carry, Cond.instanceMethod yX5_carry, Cond.selects RX5 yX5_carry yX5_carry, Cond.code yX5_carry cX5_carry 1 (some .int), Cond.methodLink RX5 91 yX5_subtract, Cond.instanceMethod yX5_subtract, Cond.selects RX5 yX5_subtract yX5_subtract, Cond.code yX5_subtract cX5_subtract 7 (some .int), Cond.methodLink RX5 78 yX5_signs, Cond.instanceMethod yX5_signs, Cond.selects RX5 yX5_signs yX5_signs, Cond.code yX5_signs cX5_signs 3 none, Cond.methodLink RX5 95 yX5_add, Cond.instanceMethod yX5_add]
def wsX5_run_r6 : List Cond := [Cond.selects RX5 yX5_add yX5_add, Cond.code yX5_add cX5_add 5 (some .int), Cond.methodLink RX5 99 yX5_skips, Cond.instanceMethod yX5_skips, Cond.selects RX5 yX5_skips yX5_skips, Cond.code yX5_skips cX5_skips 3 none, Cond.methodLink RX5 71 yX5_hasNext, Cond.static yX5_hasNext, Cond.code yX5_hasNext cX5_hasNext 1 (some .boolean), Cond.methodLink RX5 103 yX5_logic, Cond.instanceMethod yX5_logic, Cond.selects RX5 yX5_logic yX5_logic, Cond.code yX5_logic cX5_logic 2 (some .int), Cond.methodLink RX5 182 yX5_products, Cond.instanceMethod yX5_products, Cond.selects RX5 yX5_products yX5_products, Cond.code yX5_products cX5_products 4 none, Cond.methodLink RX5 110 yX5_signed, Cond.static yX5_signed, Cond.code yX5_signed cX5_signed 1 (some .int), Cond.methodLink RX5 113 yX5_product, Cond.instanceMethod yX5_product, Cond.selects RX5 yX5_product yX5_product, Cond.code yX5_product cX5_product 4 none]
def wsX5_run_r7 : List Cond := [Cond.methodLink RX5 185 yX5_ofNine, Cond.instanceMethod yX5_ofNine, Cond.selects RX5 yX5_ofNine yX5_ofNine, Cond.code yX5_ofNine cX5_ofNine 3 (some .int), Cond.constant RX5 163 (38912), Cond.constant RX5 167 (39936), Cond.methodLink RX5 154 yX5_ofMemory, Cond.instanceMethod yX5_ofMemory, Cond.selects RX5 yX5_ofMemory yX5_ofMemory, Cond.code yX5_ofMemory cX5_ofMemory 10 (some .int), Cond.methodLink RX5 131 yX5_ofStack, Cond.instanceMethod yX5_ofStack, Cond.selects RX5 yX5_ofStack yX5_ofStack, Cond.code yX5_ofStack cX5_ofStack 6 (some .int), Cond.methodLink RX5 128 yX5_pops, Cond.instanceMethod yX5_pops, Cond.selects RX5 yX5_pops yX5_pops, Cond.code yX5_pops cX5_pops 2 (some .int), Cond.methodLink RX5 138 yX5_codeByte, Cond.instanceMethod yX5_codeByte, Cond.selects RX5 yX5_codeByte yX5_codeByte, Cond.code yX5_codeByte cX5_codeByte 3 (some .int), Cond.methodLink RX5 157 yX5_ofOthers, Cond.instanceMethod yX5_ofOthers]
def wsX5_run_r8 : List Cond := [Cond.selects RX5 yX5_ofOthers yX5_ofOthers, Cond.code yX5_ofOthers cX5_ofOthers 4 (some .int), Cond.methodLink RX5 148 yX5_jumps, Cond.instanceMethod yX5_jumps, Cond.selects RX5 yX5_jumps yX5_jumps, Cond.code yX5_jumps cX5_jumps 4 (some .int), Cond.methodLink RX5 151 yX5_returns, Cond.instanceMethod yX5_returns, Cond.selects RX5 yX5_returns yX5_returns, Cond.code yX5_returns cX5_returns 5 (some .int), Cond.methodLink RX5 160 yX5_ofOne, Cond.instanceMethod yX5_ofOne, Cond.selects RX5 yX5_ofOne yX5_ofOne, Cond.code yX5_ofOne cX5_ofOne 5 none, Cond.methodLink RX5 116 yX5_right, Cond.instanceMethod yX5_right, Cond.selects RX5 yX5_right yX5_right, Cond.code yX5_right cX5_right 5 (some .int), Cond.methodLink RX5 164 yX5_ofPair, Cond.instanceMethod yX5_ofPair, Cond.selects RX5 yX5_ofPair yX5_ofPair, Cond.code yX5_ofPair cX5_ofPair 9 none, Cond.methodLink RX5 168 yX5_ofPortBit, Cond.instanceMethod yX5_ofPortBit]
def wsX5_run_r9 : List Cond := [Cond.selects RX5 yX5_ofPortBit yX5_ofPortBit, Cond.code yX5_ofPortBit cX5_ofPortBit 5 none, Cond.methodLink RX5 188 yX5_ofPort, Cond.instanceMethod yX5_ofPort, Cond.selects RX5 yX5_ofPort yX5_ofPort, Cond.code yX5_ofPort cX5_ofPort 3 none, Cond.methodLink RX5 191 yX5_ofFifteen, Cond.instanceMethod yX5_ofFifteen, Cond.selects RX5 yX5_ofFifteen yX5_ofFifteen, Cond.code yX5_ofFifteen cX5_ofFifteen 4 (some .int), Cond.constant RX5 171 (63488), Cond.methodLink RX5 172 yX5_ofBit, Cond.instanceMethod yX5_ofBit, Cond.selects RX5 yX5_ofBit yX5_ofBit, Cond.code yX5_ofBit cX5_ofBit 5 none, Cond.methodLink RX5 194 yX5_ofNumber, Cond.instanceMethod yX5_ofNumber, Cond.selects RX5 yX5_ofNumber yX5_ofNumber, Cond.code yX5_ofNumber cX5_ofNumber 6 none]
def wsX5_run : List Cond := .code yX5_run cX5_run 4 (some .int) :: ((wsX5_run_r1 ++ (wsX5_run_r2 ++ (wsX5_run_r3 ++ (wsX5_run_r4 ++ (wsX5_run_r5 ++ (wsX5_run_r6 ++ (wsX5_run_r7 ++ (wsX5_run_r8 ++ wsX5_run_r9)))))))) ++ wsX50)
def wsX5_ended : List Cond := .code yX5_ended cX5_ended 1 (some .int) :: ([.fieldLink RX5 207 "FlagCoreModel" "ended" "I"] ++ wsX50)
def wsX5_digest : List Cond := .code yX5_digest cX5_digest 3 (some .int) :: ([.fieldLink RX5 13 "FlagCoreModel" "data" "[I", .fieldLink RX5 19 "FlagCoreModel" "pc" "I"] ++ wsX50)
def wsX5_count : List Cond := .code yX5_count cX5_count 2 (some .int) :: ([.fieldLink RX5 16 "FlagCoreModel" "count" "[I", .methodLink RX5 23 yX5_in, .static yX5_in, .initialized RX5, .code yX5_in cX5_in 3 (some .boolean)] ++ wsX50)
def wsL_law_r1 : List Cond := [Cond.classLink RL 7 RX4, Cond.instantiable RX4 8, Cond.initialized RX4, Cond.classLink RL 10 RX5, Cond.instantiable RX5 8, Cond.initialized RX5, Cond.constantLong RL 18 (4294967295), Cond.methodLink RL 9 yX4_init, Cond.instanceMethod yX4_init, Cond.code yX4_init cX4_init 1 none, Cond.methodLink RX4 1 objectInit, Cond.instanceMethod objectInit, Cond.code objectInit ⟨#[0xb1]⟩ 1 none, Cond.arrayClass .int, Cond.fieldLink RX4 9 "FlagCore" "cells" "[I", Cond.classLink RX4 13 RX0, Cond.instantiable RX0 1, Cond.initialized RX0, Cond.fieldLink RX4 16 "FlagCore" "bytes" "LFlagCore$Bytes;", Cond.classLink RX4 20 RX2, Cond.instantiable RX2 1, Cond.initialized RX2, Cond.fieldLink RX4 25 "FlagCore" "sums" "LFlagCore$Sums;", Cond.fieldLink RX4 29 "FlagCore" "tallies" "[I"]
def wsL_law_r2 : List Cond := [Cond.fieldLink RX4 32 "FlagCore" "pc" "I", Cond.fieldLink RX4 36 "FlagCore" "asked" "I", Cond.fieldLink RX4 39 "FlagCore" "latest" "I", Cond.fieldLink RX4 42 "FlagCore" "waiting" "Z", Cond.methodLink RX4 15 yX0_init, Cond.instanceMethod yX0_init, Cond.code yX0_init cX0_init 1 none, Cond.methodLink RX0 3 objectInit, Cond.fieldLink RX0 9 "FlagCore$Bytes" "row" "[I", Cond.methodLink RX4 22 yX2_init, Cond.instanceMethod yX2_init, Cond.code yX2_init cX2_init 2 none, Cond.methodLink RX2 7 objectInit, Cond.fieldLink RX2 13 "FlagCore$Sums" "bytes" "LFlagCore$Bytes;", Cond.methodLink RL 12 yX5_init, Cond.instanceMethod yX5_init, Cond.code yX5_init cX5_init 1 none, Cond.methodLink RX5 1 objectInit, Cond.fieldLink RX5 7 "FlagCoreModel" "code" "[I", Cond.fieldLink RX5 13 "FlagCoreModel" "data" "[I", Cond.fieldLink RX5 16 "FlagCoreModel" "count" "[I", Cond.fieldLink RX5 19 "FlagCoreModel" "pc" "I", Cond.methodLink RL 13 yX4_code, Cond.instanceMethod yX4_code]
def wsL_law_r3 : List Cond := [Cond.selects RX4 yX4_code yX4_code, Cond.code yX4_code cX4_code 4 (some .int), Cond.constant RX4 50 (65535), Cond.methodLink RX4 46 yX4_within, Cond.static yX4_within, Cond.code yX4_within cX4_within 2 (some .boolean), Cond.methodLink RX4 51 yX4_cellAt, Cond.instanceMethod yX4_cellAt, Cond.selects RX4 yX4_cellAt yX4_cellAt, Cond.code yX4_cellAt cX4_cellAt 2 (some .int), Cond.methodLink RL 17 yX5_code, Cond.instanceMethod yX5_code, Cond.selects RX5 yX5_code yX5_code, Cond.code yX5_code cX5_code 4 (some .int), Cond.constant RX5 27 (65535), Cond.methodLink RX5 23 yX5_in, Cond.static yX5_in, Cond.code yX5_in cX5_in 3 (some .boolean), Cond.methodLink RL 20 yX4_load, Cond.instanceMethod yX4_load, Cond.selects RX4 yX4_load yX4_load, Cond.code yX4_load cX4_load 5 (some .int), Cond.methodLink RL 24 yX5_load, Cond.instanceMethod yX5_load]
def wsL_law_r4 : List Cond := [Cond.selects RX5 yX5_load yX5_load, Cond.code yX5_load cX5_load 5 (some .int), Cond.methodLink RL 25 yX4_word, Cond.instanceMethod yX4_word, Cond.selects RX4 yX4_word yX4_word, Cond.code yX4_word cX4_word 2 (some .int), Cond.methodLink RL 29 yX5_word, Cond.instanceMethod yX5_word, Cond.selects RX5 yX5_word yX5_word, Cond.code yX5_word cX5_word 2 (some .int), Cond.methodLink RL 30 yX4_put, Cond.instanceMethod yX4_put, Cond.selects RX4 yX4_put yX4_put, Cond.code yX4_put cX4_put 4 (some .int), Cond.methodLink RX4 55 yX0_get, Cond.instanceMethod yX0_get, Cond.selects RX0 yX0_get yX0_get, Cond.code yX0_get cX0_get 2 (some .int), Cond.methodLink RX4 58 yX0_set, Cond.instanceMethod yX0_set, Cond.selects RX0 yX0_set yX0_set, Cond.code yX0_set cX0_set 3 none, Cond.methodLink RL 33 yX5_put, Cond.instanceMethod yX5_put]
def wsL_law_r5 : List Cond := [Cond.selects RX5 yX5_put yX5_put, Cond.code yX5_put cX5_put 4 (some .int), Cond.methodLink RL 34 yX4_data, Cond.instanceMethod yX4_data, Cond.selects RX4 yX4_data yX4_data, Cond.code yX4_data cX4_data 2 (some .int), Cond.methodLink RL 37 yX5_data, Cond.instanceMethod yX5_data, Cond.selects RX5 yX5_data yX5_data, Cond.code yX5_data cX5_data 2 (some .int), Cond.methodLink RL 38 yX4_told, Cond.instanceMethod yX4_told, Cond.selects RX4 yX4_told yX4_told, Cond.code yX4_told cX4_told 2 (some .int), Cond.methodLink RX4 62 yX0_pair, Cond.instanceMethod yX0_pair, Cond.selects RX0 yX0_pair yX0_pair, Cond.code yX0_pair cX0_pair 2 (some .int), Cond.methodLink RL 41 yX5_told, Cond.instanceMethod yX5_told, Cond.selects RX5 yX5_told yX5_told, Cond.code yX5_told cX5_told 2 (some .int), Cond.fieldLink RX5 32 "FlagCoreModel" "isWaited" "Z", Cond.fieldLink RX5 36 "FlagCoreModel" "asked" "I"]
def wsL_law_r6 : List Cond := [Cond.methodLink RX5 28 yX5_pair, Cond.instanceMethod yX5_pair, Cond.selects RX5 yX5_pair yX5_pair, Cond.code yX5_pair cX5_pair 2 (some .int), Cond.methodLink RL 42 yX4_go, Cond.instanceMethod yX4_go, Cond.selects RX4 yX4_go yX4_go, Cond.code yX4_go cX4_go 3 (some .int), Cond.methodLink RL 45 yX5_go, Cond.instanceMethod yX5_go, Cond.selects RX5 yX5_go yX5_go, Cond.code yX5_go cX5_go 3 (some .int), Cond.methodLink RL 46 yX4_ask, Cond.instanceMethod yX4_ask, Cond.selects RX4 yX4_ask yX4_ask, Cond.code yX4_ask cX4_ask 3 (some .int), Cond.methodLink RL 49 yX5_ask, Cond.instanceMethod yX5_ask, Cond.selects RX5 yX5_ask yX5_ask, Cond.code yX5_ask cX5_ask 3 (some .int), Cond.methodLink RL 50 yX4_step, Cond.instanceMethod yX4_step, Cond.selects RX4 yX4_step yX4_step, Cond.code yX4_step cX4_step 1 (some .int)]
def wsL_law_r7 : List Cond := [Cond.methodLink RX4 65 yX4_advance, Cond.instanceMethod yX4_advance, Cond.selects RX4 yX4_advance yX4_advance, Cond.code yX4_advance cX4_advance 2 (some .int), Cond.constant RX4 89 (38008), Cond.constant RX4 90 (38168), Cond.methodLink RX4 80 yX0_flag, Cond.instanceMethod yX0_flag, Cond.selects RX0 yX0_flag yX0_flag, Cond.code yX0_flag cX0_flag 2 (some .int), Cond.methodLink RX4 83 yX4_enterLeast, Cond.instanceMethod yX4_enterLeast, Cond.selects RX4 yX4_enterLeast yX4_enterLeast, Cond.code yX4_enterLeast cX4_enterLeast 1 (some .int), Cond.methodLink RX4 91 yX0_stacks, Cond.instanceMethod yX0_stacks, Cond.selects RX0 yX0_stacks yX0_stacks, Cond.code yX0_stacks cX0_stacks 3 (some .boolean), Cond.methodLink RX0 27 yX0_pair, Cond.methodLink RX0 19 yX0_set, Cond.methodLink RX0 30 yX0_setPair, Cond.instanceMethod yX0_setPair, Cond.selects RX0 yX0_setPair yX0_setPair, Cond.code yX0_setPair cX0_setPair 3 none]
def wsL_law_r8 : List Cond := [Cond.methodLink RX4 94 yJ6_numberOfTrailingZeros_0f7a4, Cond.static yJ6_numberOfTrailingZeros_0f7a4, Cond.initialized RJ6, Cond.code yJ6_numberOfTrailingZeros_0f7a4 cJ6_numberOfTrailingZeros_0f7a4 2 (some .int), Cond.constant RJ6 264 (65536), Cond.methodLink RX4 99 yX0_setFlag, Cond.instanceMethod yX0_setFlag, Cond.selects RX0 yX0_setFlag yX0_setFlag, Cond.code yX0_setFlag cX0_setFlag 3 none, Cond.methodLink RX0 23 yX0_setBit, Cond.instanceMethod yX0_setBit, Cond.selects RX0 yX0_setBit yX0_setBit, Cond.code yX0_setBit cX0_setBit 4 none, Cond.methodLink RX0 15 yX0_get, Cond.methodLink RX4 86 yX4_perform, Cond.instanceMethod yX4_perform, Cond.selects RX4 yX4_perform yX4_perform, Cond.code yX4_perform cX4_perform 2 (some .int), Cond.methodLink RX4 69 yX3_groupOf, Cond.static yX3_groupOf, Cond.initialized RX3, Cond.code yX3_groupOf cX3_groupOf 1 (some .int), Cond.methodLink RX3 13 yX3_lowGroupOf, Cond.static yX3_lowGroupOf]
def wsL_law_r9 : List Cond := [Cond.code yX3_lowGroupOf cX3_lowGroupOf 1 (some .int), Cond.methodLink RX3 19 yX3_mixedGroupOf, Cond.static yX3_mixedGroupOf, Cond.code yX3_mixedGroupOf cX3_mixedGroupOf 1 (some .int), Cond.methodLink RX3 25 yX3_memoryGroupOf, Cond.static yX3_memoryGroupOf, Cond.code yX3_memoryGroupOf cX3_memoryGroupOf 1 (some .int), Cond.methodLink RX3 31 yX3_d, Cond.static yX3_d, Cond.code yX3_d cX3_d 1 (some .int), Cond.methodLink RX3 34 yX3_pointer, Cond.static yX3_pointer, Cond.code yX3_pointer cX3_pointer 1 (some .int), Cond.methodLink RX3 37 yX3_isOneOf, Cond.static yX3_isOneOf, Cond.code yX3_isOneOf cX3_isOneOf 2 (some .boolean), Cond.methodLink RX3 28 yX3_singleGroupOf, Cond.static yX3_singleGroupOf, Cond.code yX3_singleGroupOf cX3_singleGroupOf 1 (some .int), Cond.methodLink RX3 41 yX3_flagGroupOf, Cond.static yX3_flagGroupOf, Cond.code yX3_flagGroupOf cX3_flagGroupOf 1 (some .int), Cond.methodLink RX3 22 yX3_highGroupOf, Cond.static yX3_highGroupOf]
def wsL_law_r10 : List Cond := [Cond.code yX3_highGroupOf cX3_highGroupOf 1 (some .int), Cond.methodLink RX4 102 yX4_onward, Cond.instanceMethod yX4_onward, Cond.selects RX4 yX4_onward yX4_onward, Cond.code yX4_onward cX4_onward 2 (some .int), Cond.methodLink RX4 105 yX4_movePair, Cond.instanceMethod yX4_movePair, Cond.selects RX4 yX4_movePair yX4_movePair, Cond.code yX4_movePair cX4_movePair 2 (some .int), Cond.methodLink RX4 170 yX0_setPair, Cond.methodLink RX4 108 yX4_multiply, Cond.instanceMethod yX4_multiply, Cond.selects RX4 yX4_multiply yX4_multiply, Cond.code yX4_multiply cX4_multiply 2 (some .int), Cond.methodLink RX4 173 yX3_d, Cond.methodLink RX4 176 yX3_r, Cond.static yX3_r, Cond.code yX3_r cX3_r 1 (some .int), Cond.methodLink RX4 179 yX2_product, Cond.instanceMethod yX2_product, Cond.selects RX2 yX2_product yX2_product, Cond.code yX2_product cX2_product 2 none, Cond.methodLink RX2 41 yX2_keepProduct, Cond.instanceMethod yX2_keepProduct]
def wsL_law_r11 : List Cond := [Cond.selects RX2 yX2_keepProduct yX2_keepProduct, Cond.code yX2_keepProduct cX2_keepProduct 3 none, Cond.constant RX2 40 (32768), Cond.constant RX2 35 (65535), Cond.methodLink RX2 44 yX0_setPair, Cond.methodLink RX2 21 yX0_setFlags, Cond.instanceMethod yX0_setFlags, Cond.selects RX0 yX0_setFlags yX0_setFlags, Cond.code yX0_setFlags cX0_setFlags 3 none, Cond.methodLink RX4 183 yX0_signed, Cond.instanceMethod yX0_signed, Cond.selects RX0 yX0_signed yX0_signed, Cond.code yX0_signed cX0_signed 2 (some .int), Cond.methodLink RX4 186 yX4_multiplyFew, Cond.instanceMethod yX4_multiplyFew, Cond.selects RX4 yX4_multiplyFew yX4_multiplyFew, Cond.code yX4_multiplyFew cX4_multiplyFew 4 none, Cond.methodLink RX4 190 yX2_fraction, Cond.instanceMethod yX2_fraction, Cond.selects RX2 yX2_fraction yX2_fraction, Cond.code yX2_fraction cX2_fraction 2 none, Cond.methodLink RX4 111 yX4_combine, Cond.instanceMethod yX4_combine, Cond.selects RX4 yX4_combine yX4_combine]
def wsL_law_r12 : List Cond := [Cond.code yX4_combine cX4_combine 6 (some .int), Cond.methodLink RX4 193 yX2_differenceOn, Cond.instanceMethod yX2_differenceOn, Cond.selects RX2 yX2_differenceOn yX2_differenceOn, Cond.code yX2_differenceOn cX2_differenceOn 5 (some .int), Cond.methodLink RX2 31 yX0_flag, Cond.methodLink RX2 27 yX2_subtract, Cond.instanceMethod yX2_subtract, Cond.selects RX2 yX2_subtract yX2_subtract, Cond.code yX2_subtract cX2_subtract 9 (some .int), Cond.methodLink RX2 17 yX2_signs, Cond.static yX2_signs, Cond.code yX2_signs cX2_signs 4 (some .int), Cond.methodLink RX4 197 yX2_sum, Cond.instanceMethod yX2_sum, Cond.selects RX2 yX2_sum yX2_sum, Cond.code yX2_sum cX2_sum 8 (some .int), Cond.methodLink RX4 200 yX4_skip, Cond.instanceMethod yX4_skip, Cond.selects RX4 yX4_skip yX4_skip, Cond.code yX4_skip cX4_skip 2 (some .int), Cond.methodLink RX4 74 yX3_hasNext, Cond.static yX3_hasNext, Cond.code yX3_hasNext cX3_hasNext 1 (some .boolean)]
def wsL_law_r13 : List Cond := [Cond.constant RX3 9 (64527), Cond.constant RX3 10 (36864), Cond.constant RX3 11 (65036), Cond.constant RX3 12 (37900), Cond.methodLink RX4 204 yX2_difference, Cond.instanceMethod yX2_difference, Cond.selects RX2 yX2_difference yX2_difference, Cond.code yX2_difference cX2_difference 3 (some .int), Cond.methodLink RX4 208 yX2_logic, Cond.instanceMethod yX2_logic, Cond.selects RX2 yX2_logic yX2_logic, Cond.code yX2_logic cX2_logic 2 (some .int), Cond.methodLink RX4 114 yX4_combineWithNumber, Cond.instanceMethod yX4_combineWithNumber, Cond.selects RX4 yX4_combineWithNumber yX4_combineWithNumber, Cond.code yX4_combineWithNumber cX4_combineWithNumber 5 (some .int), Cond.methodLink RX4 117 yX4_change, Cond.instanceMethod yX4_change, Cond.selects RX4 yX4_change yX4_change, Cond.code yX4_change cX4_change 4 (some .int), Cond.methodLink RX4 211 yX2_inverse, Cond.instanceMethod yX2_inverse, Cond.selects RX2 yX2_inverse yX2_inverse, Cond.code yX2_inverse cX2_inverse 3 (some .int)]
def wsL_law_r14 : List Cond := [Cond.methodLink RX4 214 yX2_more, Cond.instanceMethod yX2_more, Cond.selects RX2 yX2_more yX2_more, Cond.code yX2_more cX2_more 3 (some .int), Cond.methodLink RX4 217 yX2_right, Cond.instanceMethod yX2_right, Cond.selects RX2 yX2_right yX2_right, Cond.code yX2_right cX2_right 5 (some .int), Cond.methodLink RX4 220 yX2_less, Cond.instanceMethod yX2_less, Cond.selects RX2 yX2_less yX2_less, Cond.code yX2_less cX2_less 3 (some .int), Cond.methodLink RX4 120 yX4_setFlag, Cond.instanceMethod yX4_setFlag, Cond.selects RX4 yX4_setFlag yX4_setFlag, Cond.code yX4_setFlag cX4_setFlag 2 (some .int), Cond.methodLink RX4 122 yX4_changePair, Cond.instanceMethod yX4_changePair, Cond.selects RX4 yX4_changePair yX4_changePair, Cond.code yX4_changePair cX4_changePair 5 (some .int), Cond.methodLink RX4 223 yX2_pairMore, Cond.instanceMethod yX2_pairMore, Cond.selects RX2 yX2_pairMore yX2_pairMore, Cond.code yX2_pairMore cX2_pairMore 4 (some .int)]
def wsL_law_r15 : List Cond := [Cond.methodLink RX2 36 yX2_pairFlags, Cond.instanceMethod yX2_pairFlags, Cond.selects RX2 yX2_pairFlags yX2_pairFlags, Cond.code yX2_pairFlags cX2_pairFlags 5 none, Cond.methodLink RX4 226 yX2_pairLess, Cond.instanceMethod yX2_pairLess, Cond.selects RX2 yX2_pairLess yX2_pairLess, Cond.code yX2_pairLess cX2_pairLess 4 (some .int), Cond.methodLink RX4 125 yX4_moveAtNext, Cond.instanceMethod yX4_moveAtNext, Cond.selects RX4 yX4_moveAtNext yX4_moveAtNext, Cond.code yX4_moveAtNext cX4_moveAtNext 3 (some .int), Cond.methodLink RX4 229 yX4_transfer, Cond.instanceMethod yX4_transfer, Cond.selects RX4 yX4_transfer yX4_transfer, Cond.code yX4_transfer cX4_transfer 4 none, Cond.methodLink RX4 128 yX4_movePointed, Cond.instanceMethod yX4_movePointed, Cond.selects RX4 yX4_movePointed yX4_movePointed, Cond.code yX4_movePointed cX4_movePointed 7 (some .int), Cond.methodLink RX4 232 yX3_pointer, Cond.methodLink RX4 131 yX4_moveStacked, Cond.instanceMethod yX4_moveStacked, Cond.selects RX4 yX4_moveStacked yX4_moveStacked]
def wsL_law_r16 : List Cond := [Cond.code yX4_moveStacked cX4_moveStacked 5 (some .int), Cond.methodLink RX4 235 yX0_pull, Cond.instanceMethod yX0_pull, Cond.selects RX0 yX0_pull yX0_pull, Cond.code yX0_pull cX0_pull 2 (some .int), Cond.methodLink RX4 238 yX0_push, Cond.instanceMethod yX0_push, Cond.selects RX0 yX0_push yX0_push, Cond.code yX0_push cX0_push 3 none, Cond.methodLink RX4 134 yX4_moveBeside, Cond.instanceMethod yX4_moveBeside, Cond.selects RX4 yX4_moveBeside yX4_moveBeside, Cond.code yX4_moveBeside cX4_moveBeside 5 (some .int), Cond.methodLink RX4 137 yX4_moveFromCode, Cond.instanceMethod yX4_moveFromCode, Cond.selects RX4 yX4_moveFromCode yX4_moveFromCode, Cond.code yX4_moveFromCode cX4_moveFromCode 4 (some .int), Cond.constant RX4 241 (38344), Cond.methodLink RX4 140 yX4_movePort, Cond.instanceMethod yX4_movePort, Cond.selects RX4 yX4_movePort yX4_movePort, Cond.code yX4_movePort cX4_movePort 4 (some .int), Cond.methodLink RX4 143 yX4_setPortBit, Cond.instanceMethod yX4_setPortBit]
def wsL_law_r17 : List Cond := [Cond.selects RX4 yX4_setPortBit yX4_setPortBit, Cond.code yX4_setPortBit cX4_setPortBit 2 (some .int), Cond.methodLink RX4 242 yX0_setBit, Cond.methodLink RX4 146 yX4_skipByPort, Cond.instanceMethod yX4_skipByPort, Cond.selects RX4 yX4_skipByPort yX4_skipByPort, Cond.code yX4_skipByPort cX4_skipByPort 2 (some .int), Cond.methodLink RX4 245 yX0_bit, Cond.instanceMethod yX0_bit, Cond.selects RX0 yX0_bit yX0_bit, Cond.code yX0_bit cX0_bit 3 (some .int), Cond.methodLink RX4 149 yX4_skipByBit, Cond.instanceMethod yX4_skipByBit, Cond.selects RX4 yX4_skipByBit yX4_skipByBit, Cond.code yX4_skipByBit cX4_skipByBit 2 (some .int), Cond.methodLink RX4 152 yX4_moveBit, Cond.instanceMethod yX4_moveBit, Cond.selects RX4 yX4_moveBit yX4_moveBit, Cond.code yX4_moveBit cX4_moveBit 3 (some .int), Cond.methodLink RX4 155 yX4_jumpNear, Cond.instanceMethod yX4_jumpNear, Cond.selects RX4 yX4_jumpNear yX4_jumpNear, Cond.code yX4_jumpNear cX4_jumpNear 4 (some .int), Cond.methodLink RX4 248 yX4_jumpTo]
def wsL_law_r18 : List Cond := [Cond.instanceMethod yX4_jumpTo, Cond.selects RX4 yX4_jumpTo yX4_jumpTo, Cond.code yX4_jumpTo cX4_jumpTo 2 (some .int), Cond.methodLink RX4 251 yX4_callTo, Cond.instanceMethod yX4_callTo, Cond.selects RX4 yX4_callTo yX4_callTo, Cond.code yX4_callTo cX4_callTo 3 (some .int), Cond.methodLink RX4 158 yX4_branch, Cond.instanceMethod yX4_branch, Cond.selects RX4 yX4_branch yX4_branch, Cond.code yX4_branch cX4_branch 4 (some .int), Cond.methodLink RX4 161 yX4_jumpFar, Cond.instanceMethod yX4_jumpFar, Cond.selects RX4 yX4_jumpFar yX4_jumpFar, Cond.code yX4_jumpFar cX4_jumpFar 3 (some .int), Cond.methodLink RX4 164 yX4_jumpToZ, Cond.instanceMethod yX4_jumpToZ, Cond.selects RX4 yX4_jumpToZ yX4_jumpToZ, Cond.code yX4_jumpToZ cX4_jumpToZ 3 (some .int), Cond.methodLink RX4 167 yX4_comeBack, Cond.instanceMethod yX4_comeBack, Cond.selects RX4 yX4_comeBack yX4_comeBack, Cond.code yX4_comeBack cX4_comeBack 5 (some .int), Cond.methodLink RL 54 yX5_step]
def wsL_law_r19 : List Cond := [Cond.instanceMethod yX5_step, Cond.selects RX5 yX5_step yX5_step, Cond.code yX5_step cX5_step 1 (some .int), Cond.fieldLink RX5 207 "FlagCoreModel" "ended" "I", Cond.methodLink RX5 204 yX5_stepOnce, Cond.instanceMethod yX5_stepOnce, Cond.selects RX5 yX5_stepOnce yX5_stepOnce, Cond.code yX5_stepOnce cX5_stepOnce 3 (some .int), Cond.fieldLink RX5 84 "FlagCoreModel" "next" "I", Cond.constant RX5 203 (38008), Cond.constant RX5 57 (38168), Cond.methodLink RX5 81 yX5_has, Cond.instanceMethod yX5_has, Cond.selects RX5 yX5_has yX5_has, Cond.code yX5_has cX5_has 2 (some .boolean), Cond.methodLink RX5 197 yX5_enters, Cond.instanceMethod yX5_enters, Cond.selects RX5 yX5_enters yX5_enters, Cond.code yX5_enters cX5_enters 2 (some .int), Cond.methodLink RX5 141 yX5_canCall, Cond.instanceMethod yX5_canCall, Cond.selects RX5 yX5_canCall yX5_canCall, Cond.code yX5_canCall cX5_canCall 2 (some .boolean), Cond.methodLink RX5 121 yX5_isFar]
def wsL_law_r20 : List Cond := [Cond.static yX5_isFar, Cond.code yX5_isFar cX5_isFar 1 (some .boolean), Cond.methodLink RX5 145 yX5_calls, Cond.instanceMethod yX5_calls, Cond.selects RX5 yX5_calls yX5_calls, Cond.code yX5_calls cX5_calls 3 none, Cond.methodLink RX5 124 yX5_pushes, Cond.instanceMethod yX5_pushes, Cond.selects RX5 yX5_pushes yX5_pushes, Cond.code yX5_pushes cX5_pushes 3 none, Cond.methodLink RX5 106 yX5_setPair, Cond.instanceMethod yX5_setPair, Cond.selects RX5 yX5_setPair yX5_setPair, Cond.code yX5_setPair cX5_setPair 3 none, Cond.methodLink RX5 74 yX5_flag, Cond.instanceMethod yX5_flag, Cond.selects RX5 yX5_flag yX5_flag, Cond.code yX5_flag cX5_flag 3 none, Cond.methodLink RX5 68 yX5_isIllegal, Cond.static yX5_isIllegal, Cond.code yX5_isIllegal cX5_isIllegal 1 (some .boolean), Cond.constant RX5 67 (63496), Cond.methodLink RX5 43 yX5_isMemory, Cond.static yX5_isMemory]
def wsL_law_r21 : List Cond := [Cond.code yX5_isMemory cX5_isMemory 1 (some .boolean), Cond.constant RX5 39 (64512), Cond.constant RX5 40 (36864), Cond.methodLink RX5 61 yX5_isBadMemory, Cond.static yX5_isBadMemory, Cond.code yX5_isBadMemory cX5_isBadMemory 4 (some .boolean), Cond.methodLink RX5 50 yX5_changes, Cond.static yX5_changes, Cond.code yX5_changes cX5_changes 1 (some .int), Cond.methodLink RX5 53 yX5_dOf, Cond.static yX5_dOf, Cond.code yX5_dOf cX5_dOf 1 (some .int), Cond.methodLink RX5 47 yX5_isOne, Cond.static yX5_isOne, Cond.code yX5_isOne cX5_isOne 1 (some .boolean), Cond.constant RX5 41 (65024), Cond.constant RX5 42 (37888), Cond.methodLink RX5 64 yX5_isBadOne, Cond.static yX5_isBadOne, Cond.code yX5_isBadOne cX5_isBadOne 2 (some .boolean), Cond.constant RX5 56 (38152), Cond.constant RX5 58 (38344), Cond.constant RX5 59 (37897), Cond.constant RX5 60 (38153)]
def wsL_law_r22 : List Cond := [Cond.methodLink RX5 200 yX5_does, Cond.instanceMethod yX5_does, Cond.selects RX5 yX5_does yX5_does, Cond.code yX5_does cX5_does 4 (some .int), Cond.constant RX5 175 (53248), Cond.constant RX5 120 (32768), Cond.methodLink RX5 176 yX5_ofPlaces, Cond.instanceMethod yX5_ofPlaces, Cond.selects RX5 yX5_ofPlaces yX5_ofPlaces, Cond.code yX5_ofPlaces cX5_ofPlaces 4 (some .int), Cond.methodLink RX5 134 yX5_moves, Cond.instanceMethod yX5_moves, Cond.selects RX5 yX5_moves yX5_moves, Cond.code yX5_moves cX5_moves 4 (some .int), Cond.methodLink RX5 179 yX5_ofTwo, Cond.instanceMethod yX5_ofTwo, Cond.selects RX5 yX5_ofTwo yX5_ofTwo, Cond.code yX5_ofTwo cX5_ofTwo 8 none, Cond.methodLink RX5 87 yX5_carry, Cond.instanceMethod yX5_carry, Cond.selects RX5 yX5_carry yX5_carry, Cond.code yX5_carry cX5_carry 1 (some .int), Cond.methodLink RX5 91 yX5_subtract, Cond.instanceMethod yX5_subtract]
def wsL_law_r23 : List Cond := [Cond.selects RX5 yX5_subtract yX5_subtract, Cond.code yX5_subtract cX5_subtract 7 (some .int), Cond.methodLink RX5 78 yX5_signs, Cond.instanceMethod yX5_signs, Cond.selects RX5 yX5_signs yX5_signs, Cond.code yX5_signs cX5_signs 3 none, Cond.methodLink RX5 95 yX5_add, Cond.instanceMethod yX5_add, Cond.selects RX5 yX5_add yX5_add, Cond.code yX5_add cX5_add 5 (some .int), Cond.methodLink RX5 99 yX5_skips, Cond.instanceMethod yX5_skips, Cond.selects RX5 yX5_skips yX5_skips, Cond.code yX5_skips cX5_skips 3 none, Cond.methodLink RX5 71 yX5_hasNext, Cond.static yX5_hasNext, Cond.code yX5_hasNext cX5_hasNext 1 (some .boolean), Cond.methodLink RX5 103 yX5_logic, Cond.instanceMethod yX5_logic, Cond.selects RX5 yX5_logic yX5_logic, Cond.code yX5_logic cX5_logic 2 (some .int), Cond.methodLink RX5 182 yX5_products, Cond.instanceMethod yX5_products, Cond.selects RX5 yX5_products yX5_products]
def wsL_law_r24 : List Cond := [Cond.code yX5_products cX5_products 4 none, Cond.methodLink RX5 110 yX5_signed, Cond.static yX5_signed, Cond.code yX5_signed cX5_signed 1 (some .int), Cond.methodLink RX5 113 yX5_product, Cond.instanceMethod yX5_product, Cond.selects RX5 yX5_product yX5_product, Cond.code yX5_product cX5_product 4 none, Cond.methodLink RX5 185 yX5_ofNine, Cond.instanceMethod yX5_ofNine, Cond.selects RX5 yX5_ofNine yX5_ofNine, Cond.code yX5_ofNine cX5_ofNine 3 (some .int), Cond.constant RX5 163 (38912), Cond.constant RX5 167 (39936), Cond.methodLink RX5 154 yX5_ofMemory, Cond.instanceMethod yX5_ofMemory, Cond.selects RX5 yX5_ofMemory yX5_ofMemory, Cond.code yX5_ofMemory cX5_ofMemory 10 (some .int), Cond.methodLink RX5 131 yX5_ofStack, Cond.instanceMethod yX5_ofStack, Cond.selects RX5 yX5_ofStack yX5_ofStack, Cond.code yX5_ofStack cX5_ofStack 6 (some .int), Cond.methodLink RX5 128 yX5_pops, Cond.instanceMethod yX5_pops]
def wsL_law_r25 : List Cond := [Cond.selects RX5 yX5_pops yX5_pops, Cond.code yX5_pops cX5_pops 2 (some .int), Cond.methodLink RX5 138 yX5_codeByte, Cond.instanceMethod yX5_codeByte, Cond.selects RX5 yX5_codeByte yX5_codeByte, Cond.code yX5_codeByte cX5_codeByte 3 (some .int), Cond.methodLink RX5 157 yX5_ofOthers, Cond.instanceMethod yX5_ofOthers, Cond.selects RX5 yX5_ofOthers yX5_ofOthers, Cond.code yX5_ofOthers cX5_ofOthers 4 (some .int), Cond.methodLink RX5 148 yX5_jumps, Cond.instanceMethod yX5_jumps, Cond.selects RX5 yX5_jumps yX5_jumps, Cond.code yX5_jumps cX5_jumps 4 (some .int), Cond.methodLink RX5 151 yX5_returns, Cond.instanceMethod yX5_returns, Cond.selects RX5 yX5_returns yX5_returns, Cond.code yX5_returns cX5_returns 5 (some .int), Cond.methodLink RX5 160 yX5_ofOne, Cond.instanceMethod yX5_ofOne, Cond.selects RX5 yX5_ofOne yX5_ofOne, Cond.code yX5_ofOne cX5_ofOne 5 none, Cond.methodLink RX5 116 yX5_right, Cond.instanceMethod yX5_right]
def wsL_law_r26 : List Cond := [Cond.selects RX5 yX5_right yX5_right, Cond.code yX5_right cX5_right 5 (some .int), Cond.methodLink RX5 164 yX5_ofPair, Cond.instanceMethod yX5_ofPair, Cond.selects RX5 yX5_ofPair yX5_ofPair, Cond.code yX5_ofPair cX5_ofPair 9 none, Cond.methodLink RX5 168 yX5_ofPortBit, Cond.instanceMethod yX5_ofPortBit, Cond.selects RX5 yX5_ofPortBit yX5_ofPortBit, Cond.code yX5_ofPortBit cX5_ofPortBit 5 none, Cond.methodLink RX5 188 yX5_ofPort, Cond.instanceMethod yX5_ofPort, Cond.selects RX5 yX5_ofPort yX5_ofPort, Cond.code yX5_ofPort cX5_ofPort 3 none, Cond.methodLink RX5 191 yX5_ofFifteen, Cond.instanceMethod yX5_ofFifteen, Cond.selects RX5 yX5_ofFifteen yX5_ofFifteen, Cond.code yX5_ofFifteen cX5_ofFifteen 4 (some .int), Cond.constant RX5 171 (63488), Cond.methodLink RX5 172 yX5_ofBit, Cond.instanceMethod yX5_ofBit, Cond.selects RX5 yX5_ofBit yX5_ofBit, Cond.code yX5_ofBit cX5_ofBit 5 none, Cond.methodLink RX5 194 yX5_ofNumber]
def wsL_law_r27 : List Cond := [Cond.instanceMethod yX5_ofNumber, Cond.selects RX5 yX5_ofNumber yX5_ofNumber, Cond.code yX5_ofNumber cX5_ofNumber 6 none, Cond.methodLink RL 55 yX4_run, Cond.instanceMethod yX4_run, Cond.selects RX4 yX4_run yX4_run, Cond.code yX4_run cX4_run 4 (some .int), Cond.methodLink RL 58 yX5_run, Cond.instanceMethod yX5_run, Cond.selects RX5 yX5_run yX5_run, Cond.code yX5_run cX5_run 4 (some .int), Cond.methodLink RX5 210 yX5_step, Cond.methodLink RL 59 yX4_ended, Cond.instanceMethod yX4_ended, Cond.selects RX4 yX4_ended yX4_ended, Cond.code yX4_ended cX4_ended 1 (some .int), Cond.methodLink RL 62 yX5_ended, Cond.instanceMethod yX5_ended, Cond.selects RX5 yX5_ended yX5_ended, Cond.code yX5_ended cX5_ended 1 (some .int), Cond.methodLink RL 63 yX4_reads, Cond.instanceMethod yX4_reads, Cond.selects RX4 yX4_reads yX4_reads, Cond.code yX4_reads cX4_reads 3 (some .int)]
def wsL_law_r28 : List Cond := [Cond.methodLink RL 66 yX5_reads, Cond.instanceMethod yX5_reads, Cond.selects RX5 yX5_reads yX5_reads, Cond.code yX5_reads cX5_reads 3 (some .int), Cond.methodLink RL 67 yX4_digest, Cond.instanceMethod yX4_digest, Cond.selects RX4 yX4_digest yX4_digest, Cond.code yX4_digest cX4_digest 3 (some .int), Cond.methodLink RL 70 yX5_digest, Cond.instanceMethod yX5_digest, Cond.selects RX5 yX5_digest yX5_digest, Cond.code yX5_digest cX5_digest 3 (some .int), Cond.methodLink RL 71 yX4_count, Cond.instanceMethod yX4_count, Cond.selects RX4 yX4_count yX4_count, Cond.code yX4_count cX4_count 2 (some .int), Cond.methodLink RL 74 yX5_count, Cond.instanceMethod yX5_count, Cond.selects RX5 yX5_count yX5_count, Cond.code yX5_count cX5_count 2 (some .int)]
def wsL_law : List Cond := (wsL_law_r1 ++ (wsL_law_r2 ++ (wsL_law_r3 ++ (wsL_law_r4 ++ (wsL_law_r5 ++ (wsL_law_r6 ++ (wsL_law_r7 ++ (wsL_law_r8 ++ (wsL_law_r9 ++ (wsL_law_r10 ++ (wsL_law_r11 ++ (wsL_law_r12 ++ (wsL_law_r13 ++ (wsL_law_r14 ++ (wsL_law_r15 ++ (wsL_law_r16 ++ (wsL_law_r17 ++ (wsL_law_r18 ++ (wsL_law_r19 ++ (wsL_law_r20 ++ (wsL_law_r21 ++ (wsL_law_r22 ++ (wsL_law_r23 ++ (wsL_law_r24 ++ (wsL_law_r25 ++ (wsL_law_r26 ++ (wsL_law_r27 ++ wsL_law_r28))))))))))))))))))))))))))) ++ wsX40 ++ wsX50 ++ wsX00 ++ wsX20 ++ ([] : List Cond)
end
section
abbrev vwCl : List vw_C := [(RX0, TX0, 1), (RX2, TX2, 1), (RX4, TX4, 8), (RX5, TX5, 8)]
/-! the layer: one state for the class and for the reference, one judgement for a walk, one form for a contract -/
abbrev ST : Type := (Nat → Int32) × (Nat → Int32) × (Nat → Int32) × Int32 × Int32 × Int32 × Int32 × Int32
def gC (u : ST) : Nat → Int32 := u.1
def gD (u : ST) : Nat → Int32 := u.2.1
def gN (u : ST) : Nat → Int32 := u.2.2.1
def gPc (u : ST) : Int32 := u.2.2.2.1
def gAs (u : ST) : Int32 := u.2.2.2.2.1
def gEn (u : ST) : Int32 := u.2.2.2.2.2.1
def gWa (u : ST) : Int32 := u.2.2.2.2.2.2.1
def gNx (u : ST) : Int32 := u.2.2.2.2.2.2.2
def sC (u : ST) (f : Nat → Int32) : ST := (f, gD u, gN u, gPc u, gAs u, gEn u, gWa u, gNx u)
def sD (u : ST) (f : Nat → Int32) : ST := (gC u, f, gN u, gPc u, gAs u, gEn u, gWa u, gNx u)
def sN (u : ST) (f : Nat → Int32) : ST := (gC u, gD u, f, gPc u, gAs u, gEn u, gWa u, gNx u)
def sPc (u : ST) (v : Int32) : ST := (gC u, gD u, gN u, v, gAs u, gEn u, gWa u, gNx u)
def sAs (u : ST) (v : Int32) : ST := (gC u, gD u, gN u, gPc u, v, gEn u, gWa u, gNx u)
def sEn (u : ST) (v : Int32) : ST := (gC u, gD u, gN u, gPc u, gAs u, v, gWa u, gNx u)
def sWa (u : ST) (v : Int32) : ST := (gC u, gD u, gN u, gPc u, gAs u, gEn u, v, gNx u)
def sNx (u : ST) (v : Int32) : ST := (gC u, gD u, gN u, gPc u, gAs u, gEn u, gWa u, v)
/-- places of the three rows -/
def rC (u : ST) (i : Int32) : Int32 := gC u i.toNatClampNeg
def rD (u : ST) (i : Int32) : Int32 := gD u i.toNatClampNeg
def rN (u : ST) (i : Int32) : Int32 := gN u i.toNatClampNeg
def wC (u : ST) (i x : Int32) : ST := sC u (upd (gC u) i.toNatClampNeg x)
def wD (u : ST) (i x : Int32) : ST := sD u (upd (gD u) i.toNatClampNeg x)
def wN (u : ST) (i x : Int32) : ST := sN u (upd (gN u) i.toNatClampNeg x)
/-- int shifts, as the machine does them -/
def jshl (x y : Int32) : Int32 := x <<< (y &&& 31)
def jshr (x y : Int32) : Int32 := x >>> (y &&& 31)
def jushr (x y : Int32) : Int32 := (x.toUInt32 >>> (y.toUInt32 &&& Int32.toUInt32 31)).toInt32
/-- an environment: class numbers, array classes, what may be written, the world of a state -/
abbrev EV : Type := va_G × List (ClassId × FieldType) × (Nat → Prop) × (ST → va_W)
def okE (E : EV) : Prop := ∀ u, va_D E.2.2.1 (E.2.2.2 u)
def Qx (E : EV) (u' : ST) (ov : Option Value) : Array Value → State → Outcome → State → Prop := fun _ st oc t => oc = .returned ov ∧ va_P E.1 vwCl (E.2.2.2 u') t.heap ∧ va_F E.2.2.1 st t
def Px (E : EV) (u : ST) (av : List Value) : Array Value → State → Prop := fun v U => v = av.toArray ∧ va_P E.1 vwCl (E.2.2.2 u) U.heap ∧ va_K E.1 vwCl E.2.1 U
/-- a contract: from the state u with the arguments av, the method answers r and leaves u' -/
def MX (E : EV) (y : MethodName) (ws : List Cond) (rm : Room) (av : List Value) (u : ST) (T : ST × Option Value) : Prop :=
  ∀ l : Launch, Met l y ws rm (Px E u av) (Qx E T.1 T.2) 0 0 E.2.2.1
abbrev KT : Type := Program × Launch × Env × Room × State × MethodId × Array Value × List Frame × Method × Code
def G (K : KT) (E : EV) (nL : Nat) (T : ST × Option Value) (u : ST) (pc : Nat) (lv : List (Nat × Value)) (st : List Value) : Prop :=
  match K with
  | (p, l, e, R, s, m, args, below, meth, c) => ∀ (H : Heap) (locs : List Loc) (ls : Array Slot), va_P E.1 vwCl (E.2.2.2 u) H → va_S E.2.2.1 s.heap H locs → lv_has ls nL lv →
      W p l e R s m args below meth c H locs 0 0 (MQ below (Qx E T.1 T.2) args s 0 0 E.2.2.1) (F0 m pc ls st)
def Cx (K : KT) (E : EV) (cc : ByteArray) (nL : Nat) (own : String) (Ts : List Cond) (rm : Room) (ret : Option FieldType) : Prop :=
  match K with
  | (p, _, _, R, s, m, args, _, meth, c) => CallFix p m c cc nL s args Ts own ∧ R = rm ∧ meth.sig.returnType = ret ∧ va_K E.1 vwCl E.2.1 s ∧ okE E ∧ meth.locks = false
/-- the three kinds of end: an answer alone, a new state and an answer, a new state -/
abbrev tR (u : ST) (x : Int32) : ST × Option Value := (u, some (.int x))
abbrev tW (q : ST × Int32) : ST × Option Value := (q.1, some (.int q.2))
abbrev tS (u : ST) : ST × Option Value := (u, none)
theorem MX.of {E : EV} {y : MethodName} {ws ws' : List Cond} {rm : Room} {av : List Value} {u : ST} {T : ST × Option Value} {cc : ByteArray} {maxL : Nat} {ret : Option FieldType} {lv : List (Nat × Value)} (hE : okE E) (hy : plainName y.cls = true) (hw : ws = Cond.code y cc maxL ret :: ws') (hrm : ∀ w, (headSpec w rm).room = rm) (hlen : (lg_sl av).length ≤ maxL) (hlv : lv_args 0 av = lv)
    (h : ∀ K : KT, Cx K E cc maxL y.cls ws rm ret → G K E maxL T u 0 lv []) : MX E y ws rm av u T := by
  intro l
  refine Met.ofW (cc := cc) (maxL := maxL) (ret := ret) hy hw ?_
  intro p e s m args below meth c s₁ B hml hv
  obtain ⟨rfl, hP, hK⟩ := hv
  have h1 := h (p, l, e, (headSpec ws rm).room, s, m, av.toArray, below, meth, c) ⟨⟨B.exec, B.bytes, hml, findClass_of_methodNamed B.named, atoms_spec (ws := ws) B.pre⟩, hrm _, B.returns, hK, hE, B.notSynchronized⟩
  rw [lg_entry_eq]
  exact h1 s.heap [] _ hP va_S.rf (hlv ▸ lv_entry av hlen)
section GR
variable {K : KT} {E : EV} {cc : ByteArray} {nL : Nat} {own : String} {Ts : List Cond} {rm : Room} {ret : Option FieldType} {T : ST × Option Value} {u : ST} {lv : List (Nat × Value)} {rest : List Value}
theorem g_iconst (pc : Nat) (hC : Cx K E cc nL own Ts rm ret) {n : Int} (v : Int32) (hdg : decode cc pc = .ok (.iconst n, 1)) (hv : Int32.ofInt n = v) (k : G K E nL T u (pc + 1) lv (.int v :: rest)) : G K E nL T u pc lv rest := by
  obtain ⟨p, l, e, R, s, m, args, below, meth, c⟩ := K
  obtain ⟨⟨hx, hb, hml, hown, hts⟩, hR, hr, hK, hE, hlk⟩ := hC
  exact fun H locs ls hP hS hl => lv_iconst hx hb hdg hv (k H locs ls hP hS hl)
theorem g_bipush (pc : Nat) (hC : Cx K E cc nL own Ts rm ret) {n : Int} (v : Int32) (hdg : decode cc pc = .ok (.bipush n, 2)) (hv : (Int8.ofInt n).toInt32 = v) (k : G K E nL T u (pc + 2) lv (.int v :: rest)) : G K E nL T u pc lv rest := by
  obtain ⟨p, l, e, R, s, m, args, below, meth, c⟩ := K
  obtain ⟨⟨hx, hb, hml, hown, hts⟩, hR, hr, hK, hE, hlk⟩ := hC
  exact fun H locs ls hP hS hl => lv_bipush hx hb hdg hv (k H locs ls hP hS hl)
theorem g_sipush (pc : Nat) (hC : Cx K E cc nL own Ts rm ret) {n : Int} (v : Int32) (hdg : decode cc pc = .ok (.sipush n, 3)) (hv : (Int16.ofInt n).toInt32 = v) (k : G K E nL T u (pc + 3) lv (.int v :: rest)) : G K E nL T u pc lv rest := by
  obtain ⟨p, l, e, R, s, m, args, below, meth, c⟩ := K
  obtain ⟨⟨hx, hb, hml, hown, hts⟩, hR, hr, hK, hE, hlk⟩ := hC
  exact fun H locs ls hP hS hl => lv_sipush hx hb hdg hv (k H locs ls hP hS hl)
theorem g_ldc (pc : Nat) (hC : Cx K E cc nL own Ts rm ret) {idx : Nat} (v : Int32) (hdg : decode cc pc = .ok (.ldc idx, 2)) (hm : Jvm.Cond.constant own idx v ∈ Ts) (k : G K E nL T u (pc + 2) lv (.int v :: rest)) : G K E nL T u pc lv rest := by
  obtain ⟨p, l, e, R, s, m, args, below, meth, c⟩ := K
  obtain ⟨⟨hx, hb, hml, hown, hts⟩, hR, hr, hK, hE, hlk⟩ := hC
  exact fun H locs ls hP hS hl => lv_ldc hx hb hown (hts _ hm) hdg (k H locs ls hP hS hl)
theorem g_iload_n (pc : Nat) (hC : Cx K E cc nL own Ts rm ret) {q : Fin 4} {x : Int32} (hdg : decode cc pc = .ok (.iload_n q, 1)) (j : Nat) (hk : lv[j]? = some ((q : Nat), .int x)) (k : G K E nL T u (pc + 1) lv (.int x :: rest)) : G K E nL T u pc lv rest := by
  obtain ⟨p, l, e, R, s, m, args, below, meth, c⟩ := K
  obtain ⟨⟨hx, hb, hml, hown, hts⟩, hR, hr, hK, hE, hlk⟩ := hC
  exact fun H locs ls hP hS hl => lv_iload_n hx hb hdg rfl (lv_at hl j hk) (k H locs ls hP hS hl)
theorem g_iload (pc : Nat) (hC : Cx K E cc nL own Ts rm ret) {q : Nat} {x : Int32} (hdg : decode cc pc = .ok (.iload q, 2)) (j : Nat) (hk : lv[j]? = some (q, .int x)) (k : G K E nL T u (pc + 2) lv (.int x :: rest)) : G K E nL T u pc lv rest := by
  obtain ⟨p, l, e, R, s, m, args, below, meth, c⟩ := K
  obtain ⟨⟨hx, hb, hml, hown, hts⟩, hR, hr, hK, hE, hlk⟩ := hC
  exact fun H locs ls hP hS hl => lv_iload hx hb hdg (lv_at hl j hk) (k H locs ls hP hS hl)
theorem g_aload_n (pc : Nat) (hC : Cx K E cc nL own Ts rm ret) {q : Fin 4} {x : Nat} (hdg : decode cc pc = .ok (.aload_n q, 1)) (j : Nat) (hk : lv[j]? = some ((q : Nat), .ref x)) (k : G K E nL T u (pc + 1) lv (.ref x :: rest)) : G K E nL T u pc lv rest := by
  obtain ⟨p, l, e, R, s, m, args, below, meth, c⟩ := K
  obtain ⟨⟨hx, hb, hml, hown, hts⟩, hR, hr, hK, hE, hlk⟩ := hC
  exact fun H locs ls hP hS hl => lv_aload_n hx hb hdg rfl (lv_at hl j hk) (k H locs ls hP hS hl)
theorem g_istore_n (pc : Nat) (hC : Cx K E cc nL own Ts rm ret) {q : Fin 4} {x : Int32} (hdg : decode cc pc = .ok (.istore_n q, 1)) (hn : (q : Nat) < nL) (lv' : List (Nat × Value)) (hl' : ((q : Nat), Value.int x) :: lv.filter (fun z => !(z.1 == (q : Nat)) && !(z.1 + 1 == (q : Nat) && z.2.category == 2)) = lv') (k : G K E nL T u (pc + 1) lv' rest) : G K E nL T u pc lv (.int x :: rest) := by
  obtain ⟨p, l, e, R, s, m, args, below, meth, c⟩ := K
  obtain ⟨⟨hx, hb, hml, hown, hts⟩, hR, hr, hK, hE, hlk⟩ := hC
  exact fun H locs ls hP hS hl => lv_istore_n hx hb hdg rfl hl hn hl' (fun ls hl => k H locs ls hP hS hl)
theorem g_istore (pc : Nat) (hC : Cx K E cc nL own Ts rm ret) {q : Nat} {x : Int32} (hdg : decode cc pc = .ok (.istore q, 2)) (hn : q < nL) (lv' : List (Nat × Value)) (hl' : (q, Value.int x) :: lv.filter (fun z => !(z.1 == q) && !(z.1 + 1 == q && z.2.category == 2)) = lv') (k : G K E nL T u (pc + 2) lv' rest) : G K E nL T u pc lv (.int x :: rest) := by
  obtain ⟨p, l, e, R, s, m, args, below, meth, c⟩ := K
  obtain ⟨⟨hx, hb, hml, hown, hts⟩, hR, hr, hK, hE, hlk⟩ := hC
  exact fun H locs ls hP hS hl => lv_istore hx hb hdg hl hn hl' (fun ls hl => k H locs ls hP hS hl)
theorem g_iinc (pc : Nat) (hC : Cx K E cc nL own Ts rm ret) {q : Nat} {n : Int} {x : Int32} (v : Int32) (hdg : decode cc pc = .ok (.iinc q n, 3)) (hn : q < nL) (j : Nat) (hk : lv[j]? = some (q, .int x)) (hv : x + Int32.ofInt n = v) (lv' : List (Nat × Value)) (hl' : (q, Value.int v) :: lv.filter (fun z => !(z.1 == q) && !(z.1 + 1 == q && z.2.category == 2)) = lv') (k : G K E nL T u (pc + 3) lv' rest) : G K E nL T u pc lv rest := by
  obtain ⟨p, l, e, R, s, m, args, below, meth, c⟩ := K
  obtain ⟨⟨hx, hb, hml, hown, hts⟩, hR, hr, hK, hE, hlk⟩ := hC
  exact fun H locs ls hP hS hl => lv_iinc hx hb hdg hl hk hv hn hl' (fun ls hl => k H locs ls hP hS hl)
theorem g_iadd (pc : Nat) (hC : Cx K E cc nL own Ts rm ret) {x y : Int32} (hdg : decode cc pc = .ok (.iadd, 1)) (k : G K E nL T u (pc + 1) lv (.int (x + y) :: rest)) : G K E nL T u pc lv (.int y :: .int x :: rest) := by
  obtain ⟨p, l, e, R, s, m, args, below, meth, c⟩ := K
  obtain ⟨⟨hx, hb, hml, hown, hts⟩, hR, hr, hK, hE, hlk⟩ := hC
  exact fun H locs ls hP hS hl => lv_iadd hx hb hdg (k H locs ls hP hS hl)
theorem g_isub (pc : Nat) (hC : Cx K E cc nL own Ts rm ret) {x y : Int32} (hdg : decode cc pc = .ok (.isub, 1)) (k : G K E nL T u (pc + 1) lv (.int (x - y) :: rest)) : G K E nL T u pc lv (.int y :: .int x :: rest) := by
  obtain ⟨p, l, e, R, s, m, args, below, meth, c⟩ := K
  obtain ⟨⟨hx, hb, hml, hown, hts⟩, hR, hr, hK, hE, hlk⟩ := hC
  exact fun H locs ls hP hS hl => lv_isub hx hb hdg (k H locs ls hP hS hl)
theorem g_imul (pc : Nat) (hC : Cx K E cc nL own Ts rm ret) {x y : Int32} (hdg : decode cc pc = .ok (.imul, 1)) (k : G K E nL T u (pc + 1) lv (.int (x * y) :: rest)) : G K E nL T u pc lv (.int y :: .int x :: rest) := by
  obtain ⟨p, l, e, R, s, m, args, below, meth, c⟩ := K
  obtain ⟨⟨hx, hb, hml, hown, hts⟩, hR, hr, hK, hE, hlk⟩ := hC
  exact fun H locs ls hP hS hl => lv_imul hx hb hdg (k H locs ls hP hS hl)
theorem g_iand (pc : Nat) (hC : Cx K E cc nL own Ts rm ret) {x y : Int32} (hdg : decode cc pc = .ok (.iand, 1)) (k : G K E nL T u (pc + 1) lv (.int (x &&& y) :: rest)) : G K E nL T u pc lv (.int y :: .int x :: rest) := by
  obtain ⟨p, l, e, R, s, m, args, below, meth, c⟩ := K
  obtain ⟨⟨hx, hb, hml, hown, hts⟩, hR, hr, hK, hE, hlk⟩ := hC
  exact fun H locs ls hP hS hl => lv_iand hx hb hdg (k H locs ls hP hS hl)
theorem g_ior (pc : Nat) (hC : Cx K E cc nL own Ts rm ret) {x y : Int32} (hdg : decode cc pc = .ok (.ior, 1)) (k : G K E nL T u (pc + 1) lv (.int (x ||| y) :: rest)) : G K E nL T u pc lv (.int y :: .int x :: rest) := by
  obtain ⟨p, l, e, R, s, m, args, below, meth, c⟩ := K
  obtain ⟨⟨hx, hb, hml, hown, hts⟩, hR, hr, hK, hE, hlk⟩ := hC
  exact fun H locs ls hP hS hl => lv_ior hx hb hdg (k H locs ls hP hS hl)
theorem g_ixor (pc : Nat) (hC : Cx K E cc nL own Ts rm ret) {x y : Int32} (hdg : decode cc pc = .ok (.ixor, 1)) (k : G K E nL T u (pc + 1) lv (.int (x ^^^ y) :: rest)) : G K E nL T u pc lv (.int y :: .int x :: rest) := by
  obtain ⟨p, l, e, R, s, m, args, below, meth, c⟩ := K
  obtain ⟨⟨hx, hb, hml, hown, hts⟩, hR, hr, hK, hE, hlk⟩ := hC
  exact fun H locs ls hP hS hl => lv_ixor hx hb hdg (k H locs ls hP hS hl)
theorem g_ishl (pc : Nat) (hC : Cx K E cc nL own Ts rm ret) {x y : Int32} (hdg : decode cc pc = .ok (.ishl, 1)) (k : G K E nL T u (pc + 1) lv (.int (jshl x y) :: rest)) : G K E nL T u pc lv (.int y :: .int x :: rest) := by
  obtain ⟨p, l, e, R, s, m, args, below, meth, c⟩ := K
  obtain ⟨⟨hx, hb, hml, hown, hts⟩, hR, hr, hK, hE, hlk⟩ := hC
  exact fun H locs ls hP hS hl => lv_ishl hx hb hdg (k H locs ls hP hS hl)
theorem g_ishr (pc : Nat) (hC : Cx K E cc nL own Ts rm ret) {x y : Int32} (hdg : decode cc pc = .ok (.ishr, 1)) (k : G K E nL T u (pc + 1) lv (.int (jshr x y) :: rest)) : G K E nL T u pc lv (.int y :: .int x :: rest) := by
  obtain ⟨p, l, e, R, s, m, args, below, meth, c⟩ := K
  obtain ⟨⟨hx, hb, hml, hown, hts⟩, hR, hr, hK, hE, hlk⟩ := hC
  exact fun H locs ls hP hS hl => lv_ishr hx hb hdg (k H locs ls hP hS hl)
theorem g_iushr (pc : Nat) (hC : Cx K E cc nL own Ts rm ret) {x y : Int32} (hdg : decode cc pc = .ok (.iushr, 1)) (k : G K E nL T u (pc + 1) lv (.int (jushr x y) :: rest)) : G K E nL T u pc lv (.int y :: .int x :: rest) := by
  obtain ⟨p, l, e, R, s, m, args, below, meth, c⟩ := K
  obtain ⟨⟨hx, hb, hml, hown, hts⟩, hR, hr, hK, hE, hlk⟩ := hC
  exact fun H locs ls hP hS hl => lv_iushr hx hb hdg rfl (k H locs ls hP hS hl)
theorem g_i2b (pc : Nat) (hC : Cx K E cc nL own Ts rm ret) {x : Int32} (hdg : decode cc pc = .ok (.i2b, 1)) (k : G K E nL T u (pc + 1) lv (.int x.toInt8.toInt32 :: rest)) : G K E nL T u pc lv (.int x :: rest) := by
  obtain ⟨p, l, e, R, s, m, args, below, meth, c⟩ := K
  obtain ⟨⟨hx, hb, hml, hown, hts⟩, hR, hr, hK, hE, hlk⟩ := hC
  exact fun H locs ls hP hS hl => lv_i2b hx hb hdg rfl (k H locs ls hP hS hl)
theorem g_dup (pc : Nat) (hC : Cx K E cc nL own Ts rm ret) {v : Value} (hdg : decode cc pc = .ok (.dup, 1)) (hv : v.category = 1) (k : G K E nL T u (pc + 1) lv (v :: v :: rest)) : G K E nL T u pc lv (v :: rest) := by
  obtain ⟨p, l, e, R, s, m, args, below, meth, c⟩ := K
  obtain ⟨⟨hx, hb, hml, hown, hts⟩, hR, hr, hK, hE, hlk⟩ := hC
  exact fun H locs ls hP hS hl => lv_dup hx hb hdg hv (k H locs ls hP hS hl)
theorem g_dup2 (pc : Nat) (hC : Cx K E cc nL own Ts rm ret) {v w : Value} (hdg : decode cc pc = .ok (.dup2, 1)) (hv : v.category = 1) (hw : w.category = 1) (k : G K E nL T u (pc + 1) lv (v :: w :: v :: w :: rest)) : G K E nL T u pc lv (v :: w :: rest) := by
  obtain ⟨p, l, e, R, s, m, args, below, meth, c⟩ := K
  obtain ⟨⟨hx, hb, hml, hown, hts⟩, hR, hr, hK, hE, hlk⟩ := hC
  exact fun H locs ls hP hS hl => lv_dup2_11 hx hb hdg hv hw (k H locs ls hP hS hl)
theorem g_pop (pc : Nat) (hC : Cx K E cc nL own Ts rm ret) {v : Value} (hdg : decode cc pc = .ok (.pop, 1)) (hv : v.category = 1) (k : G K E nL T u (pc + 1) lv rest) : G K E nL T u pc lv (v :: rest) := by
  obtain ⟨p, l, e, R, s, m, args, below, meth, c⟩ := K
  obtain ⟨⟨hx, hb, hml, hown, hts⟩, hR, hr, hK, hE, hlk⟩ := hC
  exact fun H locs ls hP hS hl => lv_pop hx hb hdg hv (k H locs ls hP hS hl)
theorem g_goto (pc : Nat) (hC : Cx K E cc nL own Ts rm ret) {off : Int} (tgt : Nat) (hdg : decode cc pc = .ok (.goto off, 3)) (ht : (pc : Int) + off = (tgt : Int)) (k : G K E nL T u tgt lv rest) : G K E nL T u pc lv rest := by
  obtain ⟨p, l, e, R, s, m, args, below, meth, c⟩ := K
  obtain ⟨⟨hx, hb, hml, hown, hts⟩, hR, hr, hK, hE, hlk⟩ := hC
  exact fun H locs ls hP hS hl => lv_goto hx hb hdg ht (k H locs ls hP hS hl)
theorem g_if_eq (pc : Nat) (hC : Cx K E cc nL own Ts rm ret) {x : Int32} {off : Int} (tgt : Nat) (hdg : decode cc pc = .ok (.ifCond .eq off, 3)) (ht : (pc : Int) + off = (tgt : Int)) (kt : x = 0 → G K E nL T u tgt lv rest) (kf : ¬ x = 0 → G K E nL T u (pc + 3) lv rest) : G K E nL T u pc lv (.int x :: rest) := by
  obtain ⟨p, l, e, R, s, m, args, below, meth, c⟩ := K
  obtain ⟨⟨hx, hb, hml, hown, hts⟩, hR, hr, hK, hE, hlk⟩ := hC
  exact fun H locs ls hP hS hl => lv_if_eq hx hb hdg ht (fun h => kt h H locs ls hP hS hl) (fun h => kf h H locs ls hP hS hl)
theorem g_if_eqT {α : Type} (F : α → ST × Option Value) (pc : Nat) (hC : Cx K E cc nL own Ts rm ret) {x : Int32} {off : Int} {A B : α} (tgt : Nat) (hdg : decode cc pc = .ok (.ifCond .eq off, 3)) (ht : (pc : Int) + off = (tgt : Int)) (kt : x = 0 → G K E nL (F A) u tgt lv rest) (kf : ¬ x = 0 → G K E nL (F B) u (pc + 3) lv rest) : G K E nL (F (if x = 0 then A else B)) u pc lv (.int x :: rest) := by
  refine g_if_eq pc hC tgt hdg ht (fun h => ?_) (fun h => ?_)
  · rw [if_pos h]; exact kt h
  · rw [if_neg h]; exact kf h
theorem g_icmp_eq (pc : Nat) (hC : Cx K E cc nL own Ts rm ret) {x y : Int32} {off : Int} (tgt : Nat) (hdg : decode cc pc = .ok (.if_icmp .eq off, 3)) (ht : (pc : Int) + off = (tgt : Int)) (kt : x = y → G K E nL T u tgt lv rest) (kf : ¬ x = y → G K E nL T u (pc + 3) lv rest) : G K E nL T u pc lv (.int y :: .int x :: rest) := by
  obtain ⟨p, l, e, R, s, m, args, below, meth, c⟩ := K
  obtain ⟨⟨hx, hb, hml, hown, hts⟩, hR, hr, hK, hE, hlk⟩ := hC
  exact fun H locs ls hP hS hl => lv_icmp_eq hx hb hdg ht (fun h => kt h H locs ls hP hS hl) (fun h => kf h H locs ls hP hS hl)
theorem g_icmp_eqT {α : Type} (F : α → ST × Option Value) (pc : Nat) (hC : Cx K E cc nL own Ts rm ret) {x y : Int32} {off : Int} {A B : α} (tgt : Nat) (hdg : decode cc pc = .ok (.if_icmp .eq off, 3)) (ht : (pc : Int) + off = (tgt : Int)) (kt : x = y → G K E nL (F A) u tgt lv rest) (kf : ¬ x = y → G K E nL (F B) u (pc + 3) lv rest) : G K E nL (F (if x = y then A else B)) u pc lv (.int y :: .int x :: rest) := by
  refine g_icmp_eq pc hC tgt hdg ht (fun h => ?_) (fun h => ?_)
  · rw [if_pos h]; exact kt h
  · rw [if_neg h]; exact kf h
theorem g_if_ne (pc : Nat) (hC : Cx K E cc nL own Ts rm ret) {x : Int32} {off : Int} (tgt : Nat) (hdg : decode cc pc = .ok (.ifCond .ne off, 3)) (ht : (pc : Int) + off = (tgt : Int)) (kt : ¬ x = 0 → G K E nL T u tgt lv rest) (kf : x = 0 → G K E nL T u (pc + 3) lv rest) : G K E nL T u pc lv (.int x :: rest) := by
  obtain ⟨p, l, e, R, s, m, args, below, meth, c⟩ := K
  obtain ⟨⟨hx, hb, hml, hown, hts⟩, hR, hr, hK, hE, hlk⟩ := hC
  exact fun H locs ls hP hS hl => lv_if_ne hx hb hdg ht (fun h => kt h H locs ls hP hS hl) (fun h => kf h H locs ls hP hS hl)
theorem g_if_neT {α : Type} (F : α → ST × Option Value) (pc : Nat) (hC : Cx K E cc nL own Ts rm ret) {x : Int32} {off : Int} {A B : α} (tgt : Nat) (hdg : decode cc pc = .ok (.ifCond .ne off, 3)) (ht : (pc : Int) + off = (tgt : Int)) (kt : ¬ x = 0 → G K E nL (F B) u tgt lv rest) (kf : x = 0 → G K E nL (F A) u (pc + 3) lv rest) : G K E nL (F (if x = 0 then A else B)) u pc lv (.int x :: rest) := by
  refine g_if_ne pc hC tgt hdg ht (fun h => ?_) (fun h => ?_)
  · rw [if_neg h]; exact kt h
  · rw [if_pos h]; exact kf h
theorem g_icmp_ne (pc : Nat) (hC : Cx K E cc nL own Ts rm ret) {x y : Int32} {off : Int} (tgt : Nat) (hdg : decode cc pc = .ok (.if_icmp .ne off, 3)) (ht : (pc : Int) + off = (tgt : Int)) (kt : ¬ x = y → G K E nL T u tgt lv rest) (kf : x = y → G K E nL T u (pc + 3) lv rest) : G K E nL T u pc lv (.int y :: .int x :: rest) := by
  obtain ⟨p, l, e, R, s, m, args, below, meth, c⟩ := K
  obtain ⟨⟨hx, hb, hml, hown, hts⟩, hR, hr, hK, hE, hlk⟩ := hC
  exact fun H locs ls hP hS hl => lv_icmp_ne hx hb hdg ht (fun h => kt h H locs ls hP hS hl) (fun h => kf h H locs ls hP hS hl)
theorem g_icmp_neT {α : Type} (F : α → ST × Option Value) (pc : Nat) (hC : Cx K E cc nL own Ts rm ret) {x y : Int32} {off : Int} {A B : α} (tgt : Nat) (hdg : decode cc pc = .ok (.if_icmp .ne off, 3)) (ht : (pc : Int) + off = (tgt : Int)) (kt : ¬ x = y → G K E nL (F B) u tgt lv rest) (kf : x = y → G K E nL (F A) u (pc + 3) lv rest) : G K E nL (F (if x = y then A else B)) u pc lv (.int y :: .int x :: rest) := by
  refine g_icmp_ne pc hC tgt hdg ht (fun h => ?_) (fun h => ?_)
  · rw [if_neg h]; exact kt h
  · rw [if_pos h]; exact kf h
theorem g_if_lt (pc : Nat) (hC : Cx K E cc nL own Ts rm ret) {x : Int32} {off : Int} (tgt : Nat) (hdg : decode cc pc = .ok (.ifCond .lt off, 3)) (ht : (pc : Int) + off = (tgt : Int)) (kt : x < 0 → G K E nL T u tgt lv rest) (kf : ¬ x < 0 → G K E nL T u (pc + 3) lv rest) : G K E nL T u pc lv (.int x :: rest) := by
  obtain ⟨p, l, e, R, s, m, args, below, meth, c⟩ := K
  obtain ⟨⟨hx, hb, hml, hown, hts⟩, hR, hr, hK, hE, hlk⟩ := hC
  exact fun H locs ls hP hS hl => lv_if_lt hx hb hdg ht (fun h => kt h H locs ls hP hS hl) (fun h => kf h H locs ls hP hS hl)
theorem g_if_ltT {α : Type} (F : α → ST × Option Value) (pc : Nat) (hC : Cx K E cc nL own Ts rm ret) {x : Int32} {off : Int} {A B : α} (tgt : Nat) (hdg : decode cc pc = .ok (.ifCond .lt off, 3)) (ht : (pc : Int) + off = (tgt : Int)) (kt : x < 0 → G K E nL (F A) u tgt lv rest) (kf : ¬ x < 0 → G K E nL (F B) u (pc + 3) lv rest) : G K E nL (F (if x < 0 then A else B)) u pc lv (.int x :: rest) := by
  refine g_if_lt pc hC tgt hdg ht (fun h => ?_) (fun h => ?_)
  · rw [if_pos h]; exact kt h
  · rw [if_neg h]; exact kf h
theorem g_icmp_lt (pc : Nat) (hC : Cx K E cc nL own Ts rm ret) {x y : Int32} {off : Int} (tgt : Nat) (hdg : decode cc pc = .ok (.if_icmp .lt off, 3)) (ht : (pc : Int) + off = (tgt : Int)) (kt : x < y → G K E nL T u tgt lv rest) (kf : ¬ x < y → G K E nL T u (pc + 3) lv rest) : G K E nL T u pc lv (.int y :: .int x :: rest) := by
  obtain ⟨p, l, e, R, s, m, args, below, meth, c⟩ := K
  obtain ⟨⟨hx, hb, hml, hown, hts⟩, hR, hr, hK, hE, hlk⟩ := hC
  exact fun H locs ls hP hS hl => lv_icmp_lt hx hb hdg ht (fun h => kt h H locs ls hP hS hl) (fun h => kf h H locs ls hP hS hl)
theorem g_icmp_ltT {α : Type} (F : α → ST × Option Value) (pc : Nat) (hC : Cx K E cc nL own Ts rm ret) {x y : Int32} {off : Int} {A B : α} (tgt : Nat) (hdg : decode cc pc = .ok (.if_icmp .lt off, 3)) (ht : (pc : Int) + off = (tgt : Int)) (kt : x < y → G K E nL (F A) u tgt lv rest) (kf : ¬ x < y → G K E nL (F B) u (pc + 3) lv rest) : G K E nL (F (if x < y then A else B)) u pc lv (.int y :: .int x :: rest) := by
  refine g_icmp_lt pc hC tgt hdg ht (fun h => ?_) (fun h => ?_)
  · rw [if_pos h]; exact kt h
  · rw [if_neg h]; exact kf h
theorem g_if_ge (pc : Nat) (hC : Cx K E cc nL own Ts rm ret) {x : Int32} {off : Int} (tgt : Nat) (hdg : decode cc pc = .ok (.ifCond .ge off, 3)) (ht : (pc : Int) + off = (tgt : Int)) (kt : 0 ≤ x → G K E nL T u tgt lv rest) (kf : ¬ 0 ≤ x → G K E nL T u (pc + 3) lv rest) : G K E nL T u pc lv (.int x :: rest) := by
  obtain ⟨p, l, e, R, s, m, args, below, meth, c⟩ := K
  obtain ⟨⟨hx, hb, hml, hown, hts⟩, hR, hr, hK, hE, hlk⟩ := hC
  exact fun H locs ls hP hS hl => lv_if_ge hx hb hdg ht (fun h => kt h H locs ls hP hS hl) (fun h => kf h H locs ls hP hS hl)
theorem g_if_geT {α : Type} (F : α → ST × Option Value) (pc : Nat) (hC : Cx K E cc nL own Ts rm ret) {x : Int32} {off : Int} {A B : α} (tgt : Nat) (hdg : decode cc pc = .ok (.ifCond .ge off, 3)) (ht : (pc : Int) + off = (tgt : Int)) (kt : 0 ≤ x → G K E nL (F A) u tgt lv rest) (kf : ¬ 0 ≤ x → G K E nL (F B) u (pc + 3) lv rest) : G K E nL (F (if 0 ≤ x then A else B)) u pc lv (.int x :: rest) := by
  refine g_if_ge pc hC tgt hdg ht (fun h => ?_) (fun h => ?_)
  · rw [if_pos h]; exact kt h
  · rw [if_neg h]; exact kf h
theorem g_icmp_ge (pc : Nat) (hC : Cx K E cc nL own Ts rm ret) {x y : Int32} {off : Int} (tgt : Nat) (hdg : decode cc pc = .ok (.if_icmp .ge off, 3)) (ht : (pc : Int) + off = (tgt : Int)) (kt : y ≤ x → G K E nL T u tgt lv rest) (kf : ¬ y ≤ x → G K E nL T u (pc + 3) lv rest) : G K E nL T u pc lv (.int y :: .int x :: rest) := by
  obtain ⟨p, l, e, R, s, m, args, below, meth, c⟩ := K
  obtain ⟨⟨hx, hb, hml, hown, hts⟩, hR, hr, hK, hE, hlk⟩ := hC
  exact fun H locs ls hP hS hl => lv_icmp_ge hx hb hdg ht (fun h => kt h H locs ls hP hS hl) (fun h => kf h H locs ls hP hS hl)
theorem g_icmp_geT {α : Type} (F : α → ST × Option Value) (pc : Nat) (hC : Cx K E cc nL own Ts rm ret) {x y : Int32} {off : Int} {A B : α} (tgt : Nat) (hdg : decode cc pc = .ok (.if_icmp .ge off, 3)) (ht : (pc : Int) + off = (tgt : Int)) (kt : y ≤ x → G K E nL (F A) u tgt lv rest) (kf : ¬ y ≤ x → G K E nL (F B) u (pc + 3) lv rest) : G K E nL (F (if y ≤ x then A else B)) u pc lv (.int y :: .int x :: rest) := by
  refine g_icmp_ge pc hC tgt hdg ht (fun h => ?_) (fun h => ?_)
  · rw [if_pos h]; exact kt h
  · rw [if_neg h]; exact kf h
theorem g_if_gt (pc : Nat) (hC : Cx K E cc nL own Ts rm ret) {x : Int32} {off : Int} (tgt : Nat) (hdg : decode cc pc = .ok (.ifCond .gt off, 3)) (ht : (pc : Int) + off = (tgt : Int)) (kt : 0 < x → G K E nL T u tgt lv rest) (kf : ¬ 0 < x → G K E nL T u (pc + 3) lv rest) : G K E nL T u pc lv (.int x :: rest) := by
  obtain ⟨p, l, e, R, s, m, args, below, meth, c⟩ := K
  obtain ⟨⟨hx, hb, hml, hown, hts⟩, hR, hr, hK, hE, hlk⟩ := hC
  exact fun H locs ls hP hS hl => lv_if_gt hx hb hdg ht (fun h => kt h H locs ls hP hS hl) (fun h => kf h H locs ls hP hS hl)
theorem g_if_gtT {α : Type} (F : α → ST × Option Value) (pc : Nat) (hC : Cx K E cc nL own Ts rm ret) {x : Int32} {off : Int} {A B : α} (tgt : Nat) (hdg : decode cc pc = .ok (.ifCond .gt off, 3)) (ht : (pc : Int) + off = (tgt : Int)) (kt : 0 < x → G K E nL (F A) u tgt lv rest) (kf : ¬ 0 < x → G K E nL (F B) u (pc + 3) lv rest) : G K E nL (F (if 0 < x then A else B)) u pc lv (.int x :: rest) := by
  refine g_if_gt pc hC tgt hdg ht (fun h => ?_) (fun h => ?_)
  · rw [if_pos h]; exact kt h
  · rw [if_neg h]; exact kf h
theorem g_icmp_gt (pc : Nat) (hC : Cx K E cc nL own Ts rm ret) {x y : Int32} {off : Int} (tgt : Nat) (hdg : decode cc pc = .ok (.if_icmp .gt off, 3)) (ht : (pc : Int) + off = (tgt : Int)) (kt : y < x → G K E nL T u tgt lv rest) (kf : ¬ y < x → G K E nL T u (pc + 3) lv rest) : G K E nL T u pc lv (.int y :: .int x :: rest) := by
  obtain ⟨p, l, e, R, s, m, args, below, meth, c⟩ := K
  obtain ⟨⟨hx, hb, hml, hown, hts⟩, hR, hr, hK, hE, hlk⟩ := hC
  exact fun H locs ls hP hS hl => lv_icmp_gt hx hb hdg ht (fun h => kt h H locs ls hP hS hl) (fun h => kf h H locs ls hP hS hl)
theorem g_icmp_gtT {α : Type} (F : α → ST × Option Value) (pc : Nat) (hC : Cx K E cc nL own Ts rm ret) {x y : Int32} {off : Int} {A B : α} (tgt : Nat) (hdg : decode cc pc = .ok (.if_icmp .gt off, 3)) (ht : (pc : Int) + off = (tgt : Int)) (kt : y < x → G K E nL (F A) u tgt lv rest) (kf : ¬ y < x → G K E nL (F B) u (pc + 3) lv rest) : G K E nL (F (if y < x then A else B)) u pc lv (.int y :: .int x :: rest) := by
  refine g_icmp_gt pc hC tgt hdg ht (fun h => ?_) (fun h => ?_)
  · rw [if_pos h]; exact kt h
  · rw [if_neg h]; exact kf h
theorem g_if_le (pc : Nat) (hC : Cx K E cc nL own Ts rm ret) {x : Int32} {off : Int} (tgt : Nat) (hdg : decode cc pc = .ok (.ifCond .le off, 3)) (ht : (pc : Int) + off = (tgt : Int)) (kt : x ≤ 0 → G K E nL T u tgt lv rest) (kf : ¬ x ≤ 0 → G K E nL T u (pc + 3) lv rest) : G K E nL T u pc lv (.int x :: rest) := by
  obtain ⟨p, l, e, R, s, m, args, below, meth, c⟩ := K
  obtain ⟨⟨hx, hb, hml, hown, hts⟩, hR, hr, hK, hE, hlk⟩ := hC
  exact fun H locs ls hP hS hl => lv_if_le hx hb hdg ht (fun h => kt h H locs ls hP hS hl) (fun h => kf h H locs ls hP hS hl)
theorem g_if_leT {α : Type} (F : α → ST × Option Value) (pc : Nat) (hC : Cx K E cc nL own Ts rm ret) {x : Int32} {off : Int} {A B : α} (tgt : Nat) (hdg : decode cc pc = .ok (.ifCond .le off, 3)) (ht : (pc : Int) + off = (tgt : Int)) (kt : x ≤ 0 → G K E nL (F A) u tgt lv rest) (kf : ¬ x ≤ 0 → G K E nL (F B) u (pc + 3) lv rest) : G K E nL (F (if x ≤ 0 then A else B)) u pc lv (.int x :: rest) := by
  refine g_if_le pc hC tgt hdg ht (fun h => ?_) (fun h => ?_)
  · rw [if_pos h]; exact kt h
  · rw [if_neg h]; exact kf h
theorem g_icmp_le (pc : Nat) (hC : Cx K E cc nL own Ts rm ret) {x y : Int32} {off : Int} (tgt : Nat) (hdg : decode cc pc = .ok (.if_icmp .le off, 3)) (ht : (pc : Int) + off = (tgt : Int)) (kt : x ≤ y → G K E nL T u tgt lv rest) (kf : ¬ x ≤ y → G K E nL T u (pc + 3) lv rest) : G K E nL T u pc lv (.int y :: .int x :: rest) := by
  obtain ⟨p, l, e, R, s, m, args, below, meth, c⟩ := K
  obtain ⟨⟨hx, hb, hml, hown, hts⟩, hR, hr, hK, hE, hlk⟩ := hC
  exact fun H locs ls hP hS hl => lv_icmp_le hx hb hdg ht (fun h => kt h H locs ls hP hS hl) (fun h => kf h H locs ls hP hS hl)
theorem g_icmp_leT {α : Type} (F : α → ST × Option Value) (pc : Nat) (hC : Cx K E cc nL own Ts rm ret) {x y : Int32} {off : Int} {A B : α} (tgt : Nat) (hdg : decode cc pc = .ok (.if_icmp .le off, 3)) (ht : (pc : Int) + off = (tgt : Int)) (kt : x ≤ y → G K E nL (F A) u tgt lv rest) (kf : ¬ x ≤ y → G K E nL (F B) u (pc + 3) lv rest) : G K E nL (F (if x ≤ y then A else B)) u pc lv (.int y :: .int x :: rest) := by
  refine g_icmp_le pc hC tgt hdg ht (fun h => ?_) (fun h => ?_)
  · rw [if_pos h]; exact kt h
  · rw [if_neg h]; exact kf h
/-! PART TWO -/
def isB (v : Int32) : Prop := v = 0 ∨ v = 1
theorem isB.nar {v : Int32} (h : isB v) : narrow .boolean (.int v) = .int v := by rcases h with rfl | rfl <;> decide
theorem isB.fit {v : Int32} (h : isB v) : fits .boolean (.int v) = true := by rcases h with rfl | rfl <;> decide
theorem Cx.ok (hC : Cx K E cc nL own Ts rm ret) : okE E := by
  obtain ⟨p, l, e, R, s, m, args, below, meth, c⟩ := K
  exact hC.2.2.2.2.1
theorem g_byT {α : Type} (F : α → ST × Option Value) {c : Prop} [Decidable c] {A B : α} {pc : Nat} {st : List Value} (kt : c → G K E nL (F A) u pc lv st) (kf : ¬ c → G K E nL (F B) u pc lv st) : G K E nL (F (if c then A else B)) u pc lv st := by
  by_cases h : c
  · rw [if_pos h]; exact kt h
  · rw [if_neg h]; exact kf h
theorem g_cut {pc : Nat} {st : List Value} (pcJ : Nat) (x : Int32) (rest : List Value) (J : G K E nL T u pcJ lv (.int x :: rest)) (body : (∀ v : Int32, v = x → G K E nL T u pcJ lv (.int v :: rest)) → G K E nL T u pc lv st) : G K E nL T u pc lv st := body (fun v h => by rw [h]; exact J)
theorem g_cutS {pc : Nat} {st : List Value} (pcJ : Nat) (u1 : ST) (st1 : List Value) (J : G K E nL T u1 pcJ lv st1) (body : (∀ v : ST, v = u1 → G K E nL T v pcJ lv st1) → G K E nL T u pc lv st) : G K E nL T u pc lv st := body (fun v h => by rw [h]; exact J)
theorem g_cut0 {pc : Nat} {st : List Value} (pcJ : Nat) (T1 : ST × Option Value) (st1 : List Value) (J : G K E nL T1 u pcJ lv st1) (body : G K E nL T1 u pcJ lv st1 → G K E nL T u pc lv st) : G K E nL T u pc lv st := body J
theorem g_tsIn (pc : Nat) (hC : Cx K E cc nL own Ts rm ret) {dflt lo hi : Int} {offs : Array Int} {len : Nat} {x : Int32} (v : Int32) (off : Int) (tgt : Nat) (hxv : x = v) (hdg : decode cc pc = .ok (.tableswitch dflt lo hi offs, len)) (h1 : ¬ v.toInt < lo) (h2 : ¬ hi < v.toInt) (h3 : offs[(v.toInt - lo).toNat]? = some off) (h4 : (pc : Int) + off = (tgt : Int)) (k : G K E nL T u tgt lv rest) : G K E nL T u pc lv (.int x :: rest) := by
  subst hxv
  obtain ⟨p, l, e, R, s, m, args, below, meth, c⟩ := K
  obtain ⟨⟨hx, hb, hml, hown, hts⟩, hR, hr, hK, hE, hlk⟩ := hC
  exact fun H locs ls hP hS hl => lv_tableIn hx hb hdg h1 h2 h3 h4 (k H locs ls hP hS hl)
theorem g_tsOut (pc : Nat) (hC : Cx K E cc nL own Ts rm ret) {dflt lo hi : Int} {offs : Array Int} {len : Nat} {x : Int32} (tgt : Nat) (hdg : decode cc pc = .ok (.tableswitch dflt lo hi offs, len)) (h : x.toInt < lo ∨ hi < x.toInt) (h4 : (pc : Int) + dflt = (tgt : Int)) (k : G K E nL T u tgt lv rest) : G K E nL T u pc lv (.int x :: rest) := by
  obtain ⟨p, l, e, R, s, m, args, below, meth, c⟩ := K
  obtain ⟨⟨hx, hb, hml, hown, hts⟩, hR, hr, hK, hE, hlk⟩ := hC
  exact fun H locs ls hP hS hl => lv_tableOut hx hb hdg h h4 (k H locs ls hP hS hl)
theorem g_ls (pc : Nat) (hC : Cx K E cc nL own Ts rm ret) {dflt : Int} {ps : Array (Int × Int)} {len : Nat} {x : Int32} (off : Int) (tgt : Nat) (hdg : decode cc pc = .ok (.lookupswitch dflt ps, len)) (hp : (ps.toList.zip (ps.toList.drop 1)).all (fun (a, next) => a.1 < next.1) = true) (ho : Op.lookupswitch.offset ps.toList dflt x.toInt = off) (h4 : (pc : Int) + off = (tgt : Int)) (k : G K E nL T u tgt lv rest) : G K E nL T u pc lv (.int x :: rest) := by
  obtain ⟨p, l, e, R, s, m, args, below, meth, c⟩ := K
  obtain ⟨⟨hx, hb, hml, hown, hts⟩, hR, hr, hK, hE, hlk⟩ := hC
  exact fun H locs ls hP hS hl => lv_lookup hx hb hdg hp ho h4 (k H locs ls hP hS hl)
theorem g_get (pc : Nat) (hC : Cx K E cc nL own Ts rm ret) {C : String} {F : u_T} {N ci idx a : Nat} (hin : ∀ w ∈ u_ws C F N, w ∈ Ts) (q0 : Nat) {fs : List Value} (he : (E.2.2.2 u)[q0]? = some (a, .inr (ci, fs))) (hc : vwCl[ci]? = some (C, F, N)) (k : Nat) (hk : k < N) (hm : Cond.fieldLink own idx (F k).1 (F k).2.1 (F k).2.2.1 ∈ Ts) {v : Value} (hv : fs[k]? = some v) (hdg : decode cc pc = .ok (.getfield idx, 3)) (kk : G K E nL T u (pc + 3) lv (v :: rest)) : G K E nL T u pc lv (.ref a :: rest) := by
  obtain ⟨p, l, e, R, s, m, args, below, meth, c⟩ := K
  obtain ⟨⟨hx, hb, hml, hown, hts⟩, hR, hr, hK, hE, hlk⟩ := hC
  exact fun H locs ls hP hS hl => va_get hx hb hts hin hown hK hP q0 he hc k hk (hts _ hm) (fun _ h => h) hv hdg (kk H locs ls hP hS hl)
theorem g_put (pc : Nat) (hC : Cx K E cc nL own Ts rm ret) {C : String} {F : u_T} {N ci idx a : Nat} (hin : ∀ w ∈ u_ws C F N, w ∈ Ts) (ty0 : Nat → FieldType) (hty : ∀ k, k < N → parseFieldDescriptor (F k).2.2.1 = some (ty0 k)) (hnm : ∀ a, a < N → ∀ b, b < N → a ≠ b → (F a).2.1 ≠ (F b).2.1) (q0 : Nat) {fs : List Value} (he : (E.2.2.2 u)[q0]? = some (a, .inr (ci, fs))) (hc : vwCl[ci]? = some (C, F, N)) (k : Nat) (hk : k < N) (hm : Cond.fieldLink own idx (F k).1 (F k).2.1 (F k).2.2.1 ∈ Ts) (hfin : (F k).2.2.2 = false) {ty : FieldType} {v : Value} (hd : parseFieldDescriptor (F k).2.2.1 = some ty) (hn : narrow ty v = v) (hfit : fits ty v = true) (hl0 : k < fs.length) {u2 : ST} (hu : (E.2.2.2 u).set q0 (a, .inr (ci, fs.set k v)) = E.2.2.2 u2) (hdg : decode cc pc = .ok (.putfield idx, 3)) (kk : G K E nL T u2 (pc + 3) lv rest) : G K E nL T u pc lv (v :: .ref a :: rest) := by
  obtain ⟨p, l, e, R, s, m, args, below, meth, c⟩ := K
  obtain ⟨⟨hx, hb, hml, hown, hts⟩, hR, hr, hK, hE, hlk⟩ := hC
  exact fun H locs ls hP hS hl => va_put hx hb hts hin ty0 hty hnm hown hK hP (hE u) hS q0 he hc k hk (hts _ hm) (fun _ h => h) hfin hd hn hfit hl0 hdg (fun H1 l1 hP1 _ hS1 => kk H1 l1 ls (hu ▸ hP1) hS1 hl)
theorem g_iald (pc : Nat) (hC : Cx K E cc nL own Ts rm ret) (q0 t0 : Nat) {cA : ClassId} {n a : Nat} {f : Nat → Int32} (ha : (E.2.2.2 u)[q0]? = some (a, .inl (cA, n, .inl f))) (ht : E.2.1[t0]? = some (cA, .int)) {i : Int32} (hin : vp_in i n) (hdg : decode cc pc = .ok (.iaload, 1)) (kk : G K E nL T u (pc + 1) lv (.int (f i.toNatClampNeg) :: rest)) : G K E nL T u pc lv (.int i :: .ref a :: rest) := by
  obtain ⟨p, l, e, R, s, m, args, below, meth, c⟩ := K
  obtain ⟨⟨hx, hb, hml, hown, hts⟩, hR, hr, hK, hE, hlk⟩ := hC
  exact fun H locs ls hP hS hl => va_iald hx hb hK hP q0 t0 ha ht hin hdg (kk H locs ls hP hS hl)
theorem g_iast (pc : Nat) (hC : Cx K E cc nL own Ts rm ret) (q0 t0 : Nat) {cA : ClassId} {n a : Nat} {f : Nat → Int32} (ha : (E.2.2.2 u)[q0]? = some (a, .inl (cA, n, .inl f))) (ht : E.2.1[t0]? = some (cA, .int)) {i x : Int32} (hin : vp_in i n) {u2 : ST} (hu : (E.2.2.2 u).set q0 (a, .inl (cA, n, .inl (upd f i.toNatClampNeg x))) = E.2.2.2 u2) (hdg : decode cc pc = .ok (.iastore, 1)) (kk : G K E nL T u2 (pc + 1) lv rest) : G K E nL T u pc lv (.int x :: .int i :: .ref a :: rest) := by
  obtain ⟨p, l, e, R, s, m, args, below, meth, c⟩ := K
  obtain ⟨⟨hx, hb, hml, hown, hts⟩, hR, hr, hK, hE, hlk⟩ := hC
  exact fun H locs ls hP hS hl => va_iast hx hb hK hP (hE u) hS q0 t0 ha ht hin hdg (fun H1 l1 hP1 _ hS1 => kk H1 l1 ls (hu ▸ hP1) hS1 hl)
theorem g_run {p : Program} {l : Launch} {e : Env} {R : Room} {s : State} {m : MethodId} {args a : Array Value} {below : List Frame} {meth : Method} {c : Code} {H : Heap} {locs : List Loc} {Q : State → Prop} {pc : Nat} {ls : Array Slot} {st0 : List Value} {ov : Option Value} {u2 : ST} (hr : va_Run p l e R s m args below meth c H locs 0 0 0 0 (F0 m pc ls st0) rest (Qx E u2 ov a) E.2.2.1) (hS : va_S E.2.2.1 s.heap H locs)
    (kk : ∀ (H1 : Heap) (locs1 : List Loc), va_P E.1 vwCl (E.2.2.2 u2) H1 → va_S E.2.2.1 s.heap H1 locs1 → W p l e R s m args below meth c H1 locs1 0 0 Q (F0 m (pc + 3) ls (ov.toList ++ rest))) : W p l e R s m args below meth c H locs 0 0 Q (F0 m pc ls st0) := by
  intro T hT X
  obtain ⟨v, st₀, t, T', L, h0, X', hL, e1, e2, ⟨hv, hp, hF⟩, st⟩ := hr T hT X
  cases hv
  have z1 : H.size ≤ T'.heap.size := by rw [e1, ← h0]; exact hF.1
  obtain ⟨t2, a1, b1⟩ := kk T'.heap (locs ++ L) (by rw [e1]; exact hp) ⟨Nat.le_trans hS.1 z1, fun q h1 h2 => by
      rw [e1, hF.2 q (by rw [h0]; exact Nat.lt_of_lt_of_le h1 hS.1) h2, h0]; exact hS.2.1 q h1 h2, fun q hq => by
      rcases List.mem_append.mp hq with h | h
      · exact hS.2.2 q h
      · exact hL q h⟩ T' rfl X'
  exact ⟨t2, st t2 a1, b1⟩
theorem Px.blind {av : List Value} : FrameBlind (Px E u av) := fun a U g mk q => ⟨q.1, q.2.1, va_K.moved (u := U) (U := U.calling g mk a) (Vm.Alike.refl U.vm) q.2.2⟩
theorem g_callV (pc : Nat) (hC : Cx K E cc nL own Ts rm ret) {y : MethodName} {bytes : ByteArray} {maxL n idx b : Nat} {ret' : Option FieldType} {ws ws' : List Cond} {rm' : Room} {As st : List Value} {T' : ST × Option Value} {C : String} (hM : MX E y ws rm' (.ref b :: As) u T') (hT : GoodIn Ts (wsV own idx C y ws)) (hw : ws = Cond.code y bytes maxL ret' :: ws') (hrc : rm'.cells = 0) (hrs : rm'.slots = 0)
    (hd : y.cls = C ∧ y.cls ≠ "java/lang/invoke/MethodHandle" ∧ y.cls ≠ "java/lang/invoke/VarHandle" ∧ (parseMethodDescriptor y.desc).map (fun d => d.parameters.length) = some n) (hRm : rm'.frames + 1 ≤ rm.frames ∧ 8 + (maxL + 11) + rm'.locals ≤ rm.locals) (q0 ci : Nat) {q : vw_C} {fs : List Value} (hq : vwCl[ci]? = some q) (hqC : q.1 = C) (he : (E.2.2.2 u)[q0]? = some (b, .inr (ci, fs))) (hn : As.length = n) (hst : st = As.reverse ++ .ref b :: rest) (hcat : (rest.map fun v => v.category).sum ≤ 8) (hdg : decode cc pc = .ok (.invokevirtual idx, 3)) (kk : G K E nL T T'.1 (pc + 3) lv (T'.2.toList ++ rest)) : G K E nL T u pc lv st := by
  obtain ⟨p, l, e, R, s, m, args, below, meth, c⟩ := K
  obtain ⟨⟨hx, hb, hml, hown, hts⟩, hR, hr, hK, hE, hlk⟩ := hC
  subst hR
  intro H locs ls hP hS hl
  exact g_run (va_runV (As := As) (rest := rest) ⟨hx, hb, hml, hown, hts⟩ (hM l) (cwV n hts hT hw hrc hrs hd hRm) ⟨Px.blind, by rw [← hqC]; exact va_recv hK hP hq he, fun U hU hW => ⟨rfl, by rw [hU]; exact hP, va_K.moved hW.alike hK⟩⟩ rfl hn hl.1 hst (lv_room hcat) hdg ⟨Nat.zero_le _, Nat.zero_le _⟩) hS (fun H1 l1 hP1 hS1 => kk H1 l1 ls hP1 hS1 hl)
theorem g_callS (pc : Nat) (hC : Cx K E cc nL own Ts rm ret) {y : MethodName} {bytes : ByteArray} {maxL n idx : Nat} {ret' : Option FieldType} {ws ws' : List Cond} {rm' : Room} {As st : List Value} {T' : ST × Option Value} (hM : MX E y ws rm' As u T') (hT : GoodIn Ts (va_wsS own idx y ws)) (hw : ws = Cond.code y bytes maxL ret' :: ws') (hrc : rm'.cells = 0) (hrs : rm'.slots = 0)
    (hd : y.cls ≠ "java/lang/invoke/MethodHandle" ∧ y.cls ≠ "java/lang/invoke/VarHandle" ∧ (parseMethodDescriptor y.desc).map (fun d => d.parameters.length) = some n) (hRm : rm'.frames + 1 ≤ rm.frames ∧ 8 + (maxL + 11) + rm'.locals ≤ rm.locals) (hn : As.length = n) (hst : st = As.reverse ++ rest) (hcat : (rest.map fun v => v.category).sum ≤ 8) (hdg : decode cc pc = .ok (.invokestatic idx, 3)) (kk : G K E nL T T'.1 (pc + 3) lv (T'.2.toList ++ rest)) : G K E nL T u pc lv st := by
  obtain ⟨p, l, e, R, s, m, args, below, meth, c⟩ := K
  obtain ⟨⟨hx, hb, hml, hown, hts⟩, hR, hr, hK, hE, hlk⟩ := hC
  subst hR
  intro H locs ls hP hS hl
  exact g_run (va_runS (As := As) (rest := rest) ⟨hx, hb, hml, hown, hts⟩ (hM l) (va_cwS n hts hT hw hrc hrs hd hRm) ⟨Px.blind, fun U hU hW => ⟨rfl, by rw [hU]; exact hP, va_K.moved hW.alike hK⟩⟩ rfl hn hl.1 hst (lv_room hcat) hdg ⟨Nat.zero_le _, Nat.zero_le _⟩) hS (fun H1 l1 hP1 hS1 => kk H1 l1 ls hP1 hS1 hl)
theorem g_iret (pc : Nat) (hC : Cx K E cc nL own Ts rm (some .int)) {v : Int32} (hdg : decode cc pc = .ok (.ireturn, 1)) : G K E nL (u, some (.int v)) u pc lv [.int v] := by
  obtain ⟨p, l, e, R, s, m, args, below, meth, c⟩ := K
  obtain ⟨⟨hx, hb, hml, hown, hts⟩, hR, hr, hK, hE, hlk⟩ := hC
  exact fun H locs ls hP hS hl => W.iret hx hb hr (fun t ht hW => ⟨rfl, by rw [ht]; exact hP, hS.F ht⟩) hS.2.2 hdg hlk
theorem g_zret (pc : Nat) (hC : Cx K E cc nL own Ts rm (some .boolean)) {v : Int32} (hn : isB v) (hdg : decode cc pc = .ok (.ireturn, 1)) : G K E nL (u, some (.int v)) u pc lv [.int v] := by
  obtain ⟨p, l, e, R, s, m, args, below, meth, c⟩ := K
  obtain ⟨⟨hx, hb, hml, hown, hts⟩, hR, hr, hK, hE, hlk⟩ := hC
  exact fun H locs ls hP hS hl => W.zret hx hb hr hn.nar (fun t ht hW => ⟨rfl, by rw [ht]; exact hP, hS.F ht⟩) hS.2.2 hdg hlk
theorem g_vret (pc : Nat) (hC : Cx K E cc nL own Ts rm none) (hdg : decode cc pc = .ok (.return_, 1)) : G K E nL (u, none) u pc lv [] := by
  obtain ⟨p, l, e, R, s, m, args, below, meth, c⟩ := K
  obtain ⟨⟨hx, hb, hml, hown, hts⟩, hR, hr, hK, hE, hlk⟩ := hC
  exact fun H locs ls hP hS hl => W.vret hx hb hr (fun t ht hW => ⟨rfl, by rw [ht]; exact hP, hS.F ht⟩) hS.2.2 hdg hlk
end GR
theorem nb0 : isB 0 := Or.inl rfl
theorem nb1 : isB 1 := Or.inr rfl
theorem nbI {c : Prop} [Decidable c] {a b : Int32} (ha : isB a) (hb : isB b) : isB (if c then a else b) := by
  by_cases h : c
  · rw [if_pos h]; exact ha
  · rw [if_neg h]; exact hb
/-- the class's world: FlagCore, cells, Bytes, row, Sums, tallies -/
abbrev HX : Type := va_G × (ClassId × ClassId × ClassId) × (Nat × Nat × Nat × Nat × Nat × Nat)
def xO (h : HX) : Nat := h.2.2.1
def xA (h : HX) : Nat := h.2.2.2.1
def xB (h : HX) : Nat := h.2.2.2.2.1
def xR (h : HX) : Nat := h.2.2.2.2.2.1
def xS (h : HX) : Nat := h.2.2.2.2.2.2.1
def xT (h : HX) : Nat := h.2.2.2.2.2.2.2
def EX (h : HX) : EV := (h.1, [(h.2.1.1, .int), (h.2.1.2.1, .int), (h.2.1.2.2, .int)], fun q => q = xO h ∨ q = xA h ∨ q = xB h ∨ q = xR h ∨ q = xS h ∨ q = xT h, fun u => [(xO h, .inr (2, [.ref (xA h), .ref (xB h), .ref (xS h), .ref (xT h), .int (gPc u), .int (gAs u), .int (gEn u), .int (gWa u)])), (xA h, .inl (h.2.1.1, 1024, .inl (gC u))), (xB h, .inr (0, [.ref (xR h)])), (xR h, .inl (h.2.1.2.1, 1024, .inl (gD u))), (xS h, .inr (1, [.ref (xB h)])), (xT h, .inl (h.2.1.2.2, 7, .inl (gN u)))])
/-- the reference's world: FlagCoreModel, code, data, count -/
abbrev HM : Type := va_G × (ClassId × ClassId × ClassId) × (Nat × Nat × Nat × Nat)
def mO (h : HM) : Nat := h.2.2.1
def mC (h : HM) : Nat := h.2.2.2.1
def mD (h : HM) : Nat := h.2.2.2.2.1
def mN (h : HM) : Nat := h.2.2.2.2.2
def EM (h : HM) : EV := (h.1, [(h.2.1.1, .int), (h.2.1.2.1, .int), (h.2.1.2.2, .int)], fun q => q = mO h ∨ q = mC h ∨ q = mD h ∨ q = mN h, fun u => [(mO h, .inr (3, [.ref (mC h), .ref (mD h), .int (gPc u), .int (gWa u), .int (gAs u), .int (gEn u), .ref (mN h), .int (gNx u)])), (mC h, .inl (h.2.1.1, 1024, .inl (gC u))), (mD h, .inl (h.2.1.2.1, 1024, .inl (gD u))), (mN h, .inl (h.2.1.2.2, 7, .inl (gN u)))])
section XR
variable {K : KT} {cc : ByteArray} {nL : Nat} {own : String} {Ts : List Cond} {rm : Room} {ret : Option FieldType} {T : ST × Option Value} {u : ST} {lv : List (Nat × Value)} {rest : List Value}
theorem x_get_cells {h : HX} (pc : Nat) (hC : Cx K (EX h) cc nL own Ts rm ret) {idx : Nat} (hin : ∀ w ∈ wsX40, w ∈ Ts) (hm : Cond.fieldLink own idx "FlagCore" "cells" "[I" ∈ Ts) (hdg : decode cc pc = .ok (.getfield idx, 3)) (kk : G K (EX h) nL T u (pc + 3) lv (.ref (xA h) :: rest)) : G K (EX h) nL T u pc lv (.ref (xO h) :: rest) := g_get pc hC hin 0 rfl rfl 0 (by decide) hm rfl hdg kk
theorem x_get_bytes {h : HX} (pc : Nat) (hC : Cx K (EX h) cc nL own Ts rm ret) {idx : Nat} (hin : ∀ w ∈ wsX40, w ∈ Ts) (hm : Cond.fieldLink own idx "FlagCore" "bytes" "LFlagCore$Bytes;" ∈ Ts) (hdg : decode cc pc = .ok (.getfield idx, 3)) (kk : G K (EX h) nL T u (pc + 3) lv (.ref (xB h) :: rest)) : G K (EX h) nL T u pc lv (.ref (xO h) :: rest) := g_get pc hC hin 0 rfl rfl 1 (by decide) hm rfl hdg kk
theorem x_get_sums {h : HX} (pc : Nat) (hC : Cx K (EX h) cc nL own Ts rm ret) {idx : Nat} (hin : ∀ w ∈ wsX40, w ∈ Ts) (hm : Cond.fieldLink own idx "FlagCore" "sums" "LFlagCore$Sums;" ∈ Ts) (hdg : decode cc pc = .ok (.getfield idx, 3)) (kk : G K (EX h) nL T u (pc + 3) lv (.ref (xS h) :: rest)) : G K (EX h) nL T u pc lv (.ref (xO h) :: rest) := g_get pc hC hin 0 rfl rfl 2 (by decide) hm rfl hdg kk
theorem x_get_tallies {h : HX} (pc : Nat) (hC : Cx K (EX h) cc nL own Ts rm ret) {idx : Nat} (hin : ∀ w ∈ wsX40, w ∈ Ts) (hm : Cond.fieldLink own idx "FlagCore" "tallies" "[I" ∈ Ts) (hdg : decode cc pc = .ok (.getfield idx, 3)) (kk : G K (EX h) nL T u (pc + 3) lv (.ref (xT h) :: rest)) : G K (EX h) nL T u pc lv (.ref (xO h) :: rest) := g_get pc hC hin 0 rfl rfl 3 (by decide) hm rfl hdg kk
theorem x_get_pc {h : HX} (pc : Nat) (hC : Cx K (EX h) cc nL own Ts rm ret) {idx : Nat} (hin : ∀ w ∈ wsX40, w ∈ Ts) (hm : Cond.fieldLink own idx "FlagCore" "pc" "I" ∈ Ts) (hdg : decode cc pc = .ok (.getfield idx, 3)) (kk : G K (EX h) nL T u (pc + 3) lv (.int (gPc u) :: rest)) : G K (EX h) nL T u pc lv (.ref (xO h) :: rest) := g_get pc hC hin 0 rfl rfl 4 (by decide) hm rfl hdg kk
theorem x_get_asked {h : HX} (pc : Nat) (hC : Cx K (EX h) cc nL own Ts rm ret) {idx : Nat} (hin : ∀ w ∈ wsX40, w ∈ Ts) (hm : Cond.fieldLink own idx "FlagCore" "asked" "I" ∈ Ts) (hdg : decode cc pc = .ok (.getfield idx, 3)) (kk : G K (EX h) nL T u (pc + 3) lv (.int (gAs u) :: rest)) : G K (EX h) nL T u pc lv (.ref (xO h) :: rest) := g_get pc hC hin 0 rfl rfl 5 (by decide) hm rfl hdg kk
theorem x_get_latest {h : HX} (pc : Nat) (hC : Cx K (EX h) cc nL own Ts rm ret) {idx : Nat} (hin : ∀ w ∈ wsX40, w ∈ Ts) (hm : Cond.fieldLink own idx "FlagCore" "latest" "I" ∈ Ts) (hdg : decode cc pc = .ok (.getfield idx, 3)) (kk : G K (EX h) nL T u (pc + 3) lv (.int (gEn u) :: rest)) : G K (EX h) nL T u pc lv (.ref (xO h) :: rest) := g_get pc hC hin 0 rfl rfl 6 (by decide) hm rfl hdg kk
theorem x_get_waiting {h : HX} (pc : Nat) (hC : Cx K (EX h) cc nL own Ts rm ret) {idx : Nat} (hin : ∀ w ∈ wsX40, w ∈ Ts) (hm : Cond.fieldLink own idx "FlagCore" "waiting" "Z" ∈ Ts) (hdg : decode cc pc = .ok (.getfield idx, 3)) (kk : G K (EX h) nL T u (pc + 3) lv (.int (gWa u) :: rest)) : G K (EX h) nL T u pc lv (.ref (xO h) :: rest) := g_get pc hC hin 0 rfl rfl 7 (by decide) hm rfl hdg kk
theorem x_get_row {h : HX} (pc : Nat) (hC : Cx K (EX h) cc nL own Ts rm ret) {idx : Nat} (hin : ∀ w ∈ wsX00, w ∈ Ts) (hm : Cond.fieldLink own idx "FlagCore$Bytes" "row" "[I" ∈ Ts) (hdg : decode cc pc = .ok (.getfield idx, 3)) (kk : G K (EX h) nL T u (pc + 3) lv (.ref (xR h) :: rest)) : G K (EX h) nL T u pc lv (.ref (xB h) :: rest) := g_get pc hC hin 2 rfl rfl 0 (by decide) hm rfl hdg kk
theorem x_get_sbytes {h : HX} (pc : Nat) (hC : Cx K (EX h) cc nL own Ts rm ret) {idx : Nat} (hin : ∀ w ∈ wsX20, w ∈ Ts) (hm : Cond.fieldLink own idx "FlagCore$Sums" "bytes" "LFlagCore$Bytes;" ∈ Ts) (hdg : decode cc pc = .ok (.getfield idx, 3)) (kk : G K (EX h) nL T u (pc + 3) lv (.ref (xB h) :: rest)) : G K (EX h) nL T u pc lv (.ref (xS h) :: rest) := g_get pc hC hin 4 rfl rfl 0 (by decide) hm rfl hdg kk
theorem x_put_pc {h : HX} (pc : Nat) (hC : Cx K (EX h) cc nL own Ts rm ret) {idx : Nat} {v : Int32} (hin : ∀ w ∈ wsX40, w ∈ Ts) (hm : Cond.fieldLink own idx "FlagCore" "pc" "I" ∈ Ts) (hdg : decode cc pc = .ok (.putfield idx, 3)) (kk : G K (EX h) nL T (sPc u v) (pc + 3) lv rest) : G K (EX h) nL T u pc lv (.int v :: .ref (xO h) :: rest) := g_put pc hC hin tyX4 tyX4_ok nmX4 0 rfl rfl 4 (by decide) hm rfl (ty := .int) (by decide +kernel) rfl rfl (by simp) (u2 := sPc u v) rfl hdg kk
theorem x_put_asked {h : HX} (pc : Nat) (hC : Cx K (EX h) cc nL own Ts rm ret) {idx : Nat} {v : Int32} (hin : ∀ w ∈ wsX40, w ∈ Ts) (hm : Cond.fieldLink own idx "FlagCore" "asked" "I" ∈ Ts) (hdg : decode cc pc = .ok (.putfield idx, 3)) (kk : G K (EX h) nL T (sAs u v) (pc + 3) lv rest) : G K (EX h) nL T u pc lv (.int v :: .ref (xO h) :: rest) := g_put pc hC hin tyX4 tyX4_ok nmX4 0 rfl rfl 5 (by decide) hm rfl (ty := .int) (by decide +kernel) rfl rfl (by simp) (u2 := sAs u v) rfl hdg kk
theorem x_put_latest {h : HX} (pc : Nat) (hC : Cx K (EX h) cc nL own Ts rm ret) {idx : Nat} {v : Int32} (hin : ∀ w ∈ wsX40, w ∈ Ts) (hm : Cond.fieldLink own idx "FlagCore" "latest" "I" ∈ Ts) (hdg : decode cc pc = .ok (.putfield idx, 3)) (kk : G K (EX h) nL T (sEn u v) (pc + 3) lv rest) : G K (EX h) nL T u pc lv (.int v :: .ref (xO h) :: rest) := g_put pc hC hin tyX4 tyX4_ok nmX4 0 rfl rfl 6 (by decide) hm rfl (ty := .int) (by decide +kernel) rfl rfl (by simp) (u2 := sEn u v) rfl hdg kk
theorem x_put_waiting {h : HX} (pc : Nat) (hC : Cx K (EX h) cc nL own Ts rm ret) {idx : Nat} {v : Int32} (hin : ∀ w ∈ wsX40, w ∈ Ts) (hm : Cond.fieldLink own idx "FlagCore" "waiting" "Z" ∈ Ts) (hn : isB v) (hdg : decode cc pc = .ok (.putfield idx, 3)) (kk : G K (EX h) nL T (sWa u v) (pc + 3) lv rest) : G K (EX h) nL T u pc lv (.int v :: .ref (xO h) :: rest) := g_put pc hC hin tyX4 tyX4_ok nmX4 0 rfl rfl 7 (by decide) hm rfl (ty := .boolean) (by decide +kernel) hn.nar hn.fit (by simp) (u2 := sWa u v) rfl hdg kk
theorem m_get_code {h : HM} (pc : Nat) (hC : Cx K (EM h) cc nL own Ts rm ret) {idx : Nat} (hin : ∀ w ∈ wsX50, w ∈ Ts) (hm : Cond.fieldLink own idx "FlagCoreModel" "code" "[I" ∈ Ts) (hdg : decode cc pc = .ok (.getfield idx, 3)) (kk : G K (EM h) nL T u (pc + 3) lv (.ref (mC h) :: rest)) : G K (EM h) nL T u pc lv (.ref (mO h) :: rest) := g_get pc hC hin 0 rfl rfl 0 (by decide) hm rfl hdg kk
theorem m_get_data {h : HM} (pc : Nat) (hC : Cx K (EM h) cc nL own Ts rm ret) {idx : Nat} (hin : ∀ w ∈ wsX50, w ∈ Ts) (hm : Cond.fieldLink own idx "FlagCoreModel" "data" "[I" ∈ Ts) (hdg : decode cc pc = .ok (.getfield idx, 3)) (kk : G K (EM h) nL T u (pc + 3) lv (.ref (mD h) :: rest)) : G K (EM h) nL T u pc lv (.ref (mO h) :: rest) := g_get pc hC hin 0 rfl rfl 1 (by decide) hm rfl hdg kk
theorem m_get_pc {h : HM} (pc : Nat) (hC : Cx K (EM h) cc nL own Ts rm ret) {idx : Nat} (hin : ∀ w ∈ wsX50, w ∈ Ts) (hm : Cond.fieldLink own idx "FlagCoreModel" "pc" "I" ∈ Ts) (hdg : decode cc pc = .ok (.getfield idx, 3)) (kk : G K (EM h) nL T u (pc + 3) lv (.int (gPc u) :: rest)) : G K (EM h) nL T u pc lv (.ref (mO h) :: rest) := g_get pc hC hin 0 rfl rfl 2 (by decide) hm rfl hdg kk
theorem m_get_isWaited {h : HM} (pc : Nat) (hC : Cx K (EM h) cc nL own Ts rm ret) {idx : Nat} (hin : ∀ w ∈ wsX50, w ∈ Ts) (hm : Cond.fieldLink own idx "FlagCoreModel" "isWaited" "Z" ∈ Ts) (hdg : decode cc pc = .ok (.getfield idx, 3)) (kk : G K (EM h) nL T u (pc + 3) lv (.int (gWa u) :: rest)) : G K (EM h) nL T u pc lv (.ref (mO h) :: rest) := g_get pc hC hin 0 rfl rfl 3 (by decide) hm rfl hdg kk
theorem m_get_asked {h : HM} (pc : Nat) (hC : Cx K (EM h) cc nL own Ts rm ret) {idx : Nat} (hin : ∀ w ∈ wsX50, w ∈ Ts) (hm : Cond.fieldLink own idx "FlagCoreModel" "asked" "I" ∈ Ts) (hdg : decode cc pc = .ok (.getfield idx, 3)) (kk : G K (EM h) nL T u (pc + 3) lv (.int (gAs u) :: rest)) : G K (EM h) nL T u pc lv (.ref (mO h) :: rest) := g_get pc hC hin 0 rfl rfl 4 (by decide) hm rfl hdg kk
theorem m_get_ended {h : HM} (pc : Nat) (hC : Cx K (EM h) cc nL own Ts rm ret) {idx : Nat} (hin : ∀ w ∈ wsX50, w ∈ Ts) (hm : Cond.fieldLink own idx "FlagCoreModel" "ended" "I" ∈ Ts) (hdg : decode cc pc = .ok (.getfield idx, 3)) (kk : G K (EM h) nL T u (pc + 3) lv (.int (gEn u) :: rest)) : G K (EM h) nL T u pc lv (.ref (mO h) :: rest) := g_get pc hC hin 0 rfl rfl 5 (by decide) hm rfl hdg kk
theorem m_get_count {h : HM} (pc : Nat) (hC : Cx K (EM h) cc nL own Ts rm ret) {idx : Nat} (hin : ∀ w ∈ wsX50, w ∈ Ts) (hm : Cond.fieldLink own idx "FlagCoreModel" "count" "[I" ∈ Ts) (hdg : decode cc pc = .ok (.getfield idx, 3)) (kk : G K (EM h) nL T u (pc + 3) lv (.ref (mN h) :: rest)) : G K (EM h) nL T u pc lv (.ref (mO h) :: rest) := g_get pc hC hin 0 rfl rfl 6 (by decide) hm rfl hdg kk
theorem m_get_next {h : HM} (pc : Nat) (hC : Cx K (EM h) cc nL own Ts rm ret) {idx : Nat} (hin : ∀ w ∈ wsX50, w ∈ Ts) (hm : Cond.fieldLink own idx "FlagCoreModel" "next" "I" ∈ Ts) (hdg : decode cc pc = .ok (.getfield idx, 3)) (kk : G K (EM h) nL T u (pc + 3) lv (.int (gNx u) :: rest)) : G K (EM h) nL T u pc lv (.ref (mO h) :: rest) := g_get pc hC hin 0 rfl rfl 7 (by decide) hm rfl hdg kk
theorem m_put_pc {h : HM} (pc : Nat) (hC : Cx K (EM h) cc nL own Ts rm ret) {idx : Nat} {v : Int32} (hin : ∀ w ∈ wsX50, w ∈ Ts) (hm : Cond.fieldLink own idx "FlagCoreModel" "pc" "I" ∈ Ts) (hdg : decode cc pc = .ok (.putfield idx, 3)) (kk : G K (EM h) nL T (sPc u v) (pc + 3) lv rest) : G K (EM h) nL T u pc lv (.int v :: .ref (mO h) :: rest) := g_put pc hC hin tyX5 tyX5_ok nmX5 0 rfl rfl 2 (by decide) hm rfl (ty := .int) (by decide +kernel) rfl rfl (by simp) (u2 := sPc u v) rfl hdg kk
theorem m_put_isWaited {h : HM} (pc : Nat) (hC : Cx K (EM h) cc nL own Ts rm ret) {idx : Nat} {v : Int32} (hin : ∀ w ∈ wsX50, w ∈ Ts) (hm : Cond.fieldLink own idx "FlagCoreModel" "isWaited" "Z" ∈ Ts) (hn : isB v) (hdg : decode cc pc = .ok (.putfield idx, 3)) (kk : G K (EM h) nL T (sWa u v) (pc + 3) lv rest) : G K (EM h) nL T u pc lv (.int v :: .ref (mO h) :: rest) := g_put pc hC hin tyX5 tyX5_ok nmX5 0 rfl rfl 3 (by decide) hm rfl (ty := .boolean) (by decide +kernel) hn.nar hn.fit (by simp) (u2 := sWa u v) rfl hdg kk
theorem m_put_asked {h : HM} (pc : Nat) (hC : Cx K (EM h) cc nL own Ts rm ret) {idx : Nat} {v : Int32} (hin : ∀ w ∈ wsX50, w ∈ Ts) (hm : Cond.fieldLink own idx "FlagCoreModel" "asked" "I" ∈ Ts) (hdg : decode cc pc = .ok (.putfield idx, 3)) (kk : G K (EM h) nL T (sAs u v) (pc + 3) lv rest) : G K (EM h) nL T u pc lv (.int v :: .ref (mO h) :: rest) := g_put pc hC hin tyX5 tyX5_ok nmX5 0 rfl rfl 4 (by decide) hm rfl (ty := .int) (by decide +kernel) rfl rfl (by simp) (u2 := sAs u v) rfl hdg kk
theorem m_put_ended {h : HM} (pc : Nat) (hC : Cx K (EM h) cc nL own Ts rm ret) {idx : Nat} {v : Int32} (hin : ∀ w ∈ wsX50, w ∈ Ts) (hm : Cond.fieldLink own idx "FlagCoreModel" "ended" "I" ∈ Ts) (hdg : decode cc pc = .ok (.putfield idx, 3)) (kk : G K (EM h) nL T (sEn u v) (pc + 3) lv rest) : G K (EM h) nL T u pc lv (.int v :: .ref (mO h) :: rest) := g_put pc hC hin tyX5 tyX5_ok nmX5 0 rfl rfl 5 (by decide) hm rfl (ty := .int) (by decide +kernel) rfl rfl (by simp) (u2 := sEn u v) rfl hdg kk
theorem m_put_next {h : HM} (pc : Nat) (hC : Cx K (EM h) cc nL own Ts rm ret) {idx : Nat} {v : Int32} (hin : ∀ w ∈ wsX50, w ∈ Ts) (hm : Cond.fieldLink own idx "FlagCoreModel" "next" "I" ∈ Ts) (hdg : decode cc pc = .ok (.putfield idx, 3)) (kk : G K (EM h) nL T (sNx u v) (pc + 3) lv rest) : G K (EM h) nL T u pc lv (.int v :: .ref (mO h) :: rest) := g_put pc hC hin tyX5 tyX5_ok nmX5 0 rfl rfl 7 (by decide) hm rfl (ty := .int) (by decide +kernel) rfl rfl (by simp) (u2 := sNx u v) rfl hdg kk
theorem x_ldC {h : HX} (pc : Nat) (hC : Cx K (EX h) cc nL own Ts rm ret) {i : Int32} (hin : vp_in i 1024) (hdg : decode cc pc = .ok (.iaload, 1)) (kk : G K (EX h) nL T u (pc + 1) lv (.int (rC u i) :: rest)) : G K (EX h) nL T u pc lv (.int i :: .ref (xA h) :: rest) := g_iald pc hC 1 0 rfl rfl hin hdg kk
theorem x_stC {h : HX} (pc : Nat) (hC : Cx K (EX h) cc nL own Ts rm ret) {i x : Int32} (hin : vp_in i 1024) (hdg : decode cc pc = .ok (.iastore, 1)) (kk : G K (EX h) nL T (wC u i x) (pc + 1) lv rest) : G K (EX h) nL T u pc lv (.int x :: .int i :: .ref (xA h) :: rest) := g_iast pc hC 1 0 rfl rfl hin (u2 := wC u i x) rfl hdg kk
theorem x_ldD {h : HX} (pc : Nat) (hC : Cx K (EX h) cc nL own Ts rm ret) {i : Int32} (hin : vp_in i 1024) (hdg : decode cc pc = .ok (.iaload, 1)) (kk : G K (EX h) nL T u (pc + 1) lv (.int (rD u i) :: rest)) : G K (EX h) nL T u pc lv (.int i :: .ref (xR h) :: rest) := g_iald pc hC 3 1 rfl rfl hin hdg kk
theorem x_stD {h : HX} (pc : Nat) (hC : Cx K (EX h) cc nL own Ts rm ret) {i x : Int32} (hin : vp_in i 1024) (hdg : decode cc pc = .ok (.iastore, 1)) (kk : G K (EX h) nL T (wD u i x) (pc + 1) lv rest) : G K (EX h) nL T u pc lv (.int x :: .int i :: .ref (xR h) :: rest) := g_iast pc hC 3 1 rfl rfl hin (u2 := wD u i x) rfl hdg kk
theorem x_ldN {h : HX} (pc : Nat) (hC : Cx K (EX h) cc nL own Ts rm ret) {i : Int32} (hin : vp_in i 7) (hdg : decode cc pc = .ok (.iaload, 1)) (kk : G K (EX h) nL T u (pc + 1) lv (.int (rN u i) :: rest)) : G K (EX h) nL T u pc lv (.int i :: .ref (xT h) :: rest) := g_iald pc hC 5 2 rfl rfl hin hdg kk
theorem x_stN {h : HX} (pc : Nat) (hC : Cx K (EX h) cc nL own Ts rm ret) {i x : Int32} (hin : vp_in i 7) (hdg : decode cc pc = .ok (.iastore, 1)) (kk : G K (EX h) nL T (wN u i x) (pc + 1) lv rest) : G K (EX h) nL T u pc lv (.int x :: .int i :: .ref (xT h) :: rest) := g_iast pc hC 5 2 rfl rfl hin (u2 := wN u i x) rfl hdg kk
theorem m_ldC {h : HM} (pc : Nat) (hC : Cx K (EM h) cc nL own Ts rm ret) {i : Int32} (hin : vp_in i 1024) (hdg : decode cc pc = .ok (.iaload, 1)) (kk : G K (EM h) nL T u (pc + 1) lv (.int (rC u i) :: rest)) : G K (EM h) nL T u pc lv (.int i :: .ref (mC h) :: rest) := g_iald pc hC 1 0 rfl rfl hin hdg kk
theorem m_stC {h : HM} (pc : Nat) (hC : Cx K (EM h) cc nL own Ts rm ret) {i x : Int32} (hin : vp_in i 1024) (hdg : decode cc pc = .ok (.iastore, 1)) (kk : G K (EM h) nL T (wC u i x) (pc + 1) lv rest) : G K (EM h) nL T u pc lv (.int x :: .int i :: .ref (mC h) :: rest) := g_iast pc hC 1 0 rfl rfl hin (u2 := wC u i x) rfl hdg kk
theorem m_ldD {h : HM} (pc : Nat) (hC : Cx K (EM h) cc nL own Ts rm ret) {i : Int32} (hin : vp_in i 1024) (hdg : decode cc pc = .ok (.iaload, 1)) (kk : G K (EM h) nL T u (pc + 1) lv (.int (rD u i) :: rest)) : G K (EM h) nL T u pc lv (.int i :: .ref (mD h) :: rest) := g_iald pc hC 2 1 rfl rfl hin hdg kk
theorem m_stD {h : HM} (pc : Nat) (hC : Cx K (EM h) cc nL own Ts rm ret) {i x : Int32} (hin : vp_in i 1024) (hdg : decode cc pc = .ok (.iastore, 1)) (kk : G K (EM h) nL T (wD u i x) (pc + 1) lv rest) : G K (EM h) nL T u pc lv (.int x :: .int i :: .ref (mD h) :: rest) := g_iast pc hC 2 1 rfl rfl hin (u2 := wD u i x) rfl hdg kk
theorem m_ldN {h : HM} (pc : Nat) (hC : Cx K (EM h) cc nL own Ts rm ret) {i : Int32} (hin : vp_in i 7) (hdg : decode cc pc = .ok (.iaload, 1)) (kk : G K (EM h) nL T u (pc + 1) lv (.int (rN u i) :: rest)) : G K (EM h) nL T u pc lv (.int i :: .ref (mN h) :: rest) := g_iald pc hC 3 2 rfl rfl hin hdg kk
theorem m_stN {h : HM} (pc : Nat) (hC : Cx K (EM h) cc nL own Ts rm ret) {i x : Int32} (hin : vp_in i 7) (hdg : decode cc pc = .ok (.iastore, 1)) (kk : G K (EM h) nL T (wN u i x) (pc + 1) lv rest) : G K (EM h) nL T u pc lv (.int x :: .int i :: .ref (mN h) :: rest) := g_iast pc hC 3 2 rfl rfl hin (u2 := wN u i x) rfl hdg kk
end XR
end
section
theorem i32nat_and (x : Int32) {n : Nat} (m : Int32) (hm : m.toBitVec.toNat = n) (hn : n < 2 ^ 31) : (x &&& m).toInt = ((x.toBitVec.toNat &&& n : Nat) : Int) := by
  have h1 : (x &&& m).toBitVec.toNat = x.toBitVec.toNat &&& n := by rw [Int32.toBitVec_and, BitVec.toNat_and, hm]
  have h2 : x.toBitVec.toNat &&& n ≤ n := Nat.and_le_right
  show (x &&& m).toBitVec.toInt = _
  rw [BitVec.toInt_eq_toNat_of_lt (by rw [h1]; omega), h1]
theorem vin_1023 (x : Int32) : vp_in (x &&& (1023 : Int32)) 1024 := by
  have h := i32nat_and x (n := 1023) (1023 : Int32) (by decide) (by decide)
  have h2 : x.toBitVec.toNat &&& 1023 ≤ 1023 := Nat.and_le_right
  exact vp_in_iff.mpr ⟨by omega, by omega⟩
theorem vin_3 (x : Int32) : vp_in (x &&& (3 : Int32)) 7 := by
  have h := i32nat_and x (n := 3) (3 : Int32) (by decide) (by decide)
  have h2 : x.toBitVec.toNat &&& 3 ≤ 3 := Nat.and_le_right
  exact vp_in_iff.mpr ⟨by omega, by omega⟩
section GW
variable {K : KT} {E : EV} {cc : ByteArray} {nL : Nat} {own : String} {Ts : List Cond} {rm : Room} {ret : Option FieldType} {T : ST × Option Value} {u : ST} {lv : List (Nat × Value)} {rest : List Value}
theorem g_ldc_w (pc : Nat) (hC : Cx K E cc nL own Ts rm ret) {idx : Nat} (v : Int32) (hdg : decode cc pc = .ok (.ldc_w idx, 3)) (hm : Jvm.Cond.constant own idx v ∈ Ts) (k : G K E nL T u (pc + 3) lv (.int v :: rest)) : G K E nL T u pc lv rest := by
  obtain ⟨p, l, e, R, s, m, args, below, meth, c⟩ := K
  obtain ⟨⟨hx, hb, hml, hown, hts⟩, hR, hr, hK, hE, hlk⟩ := hC
  exact fun H locs ls hP hS hl => lv_ldcw hx hb hown (hts _ hm) hdg (k H locs ls hP hS hl)
end GW
end
section
theorem dX0_init_0 : decode cX0_init 0 = .ok (.aload_n 0, 1) := by decide +kernel
theorem dX0_init_1 : decode cX0_init 1 = .ok (.invokespecial 3, 3) := by decide +kernel
theorem dX0_init_4 : decode cX0_init 4 = .ok (.aload_n 0, 1) := by decide +kernel
theorem dX0_init_5 : decode cX0_init 5 = .ok (.sipush 1024, 3) := by decide +kernel
theorem dX0_init_8 : decode cX0_init 8 = .ok (.newarray .int, 2) := by decide +kernel
theorem dX0_init_10 : decode cX0_init 10 = .ok (.putfield 9, 3) := by decide +kernel
theorem dX0_init_13 : decode cX0_init 13 = .ok (.return_, 1) := by decide +kernel
theorem dX0_get_0 : decode cX0_get 0 = .ok (.aload_n 0, 1) := by decide +kernel
theorem dX0_get_1 : decode cX0_get 1 = .ok (.getfield 9, 3) := by decide +kernel
theorem dX0_get_4 : decode cX0_get 4 = .ok (.iload_n 1, 1) := by decide +kernel
theorem dX0_get_5 : decode cX0_get 5 = .ok (.sipush 1023, 3) := by decide +kernel
theorem dX0_get_8 : decode cX0_get 8 = .ok (.iand, 1) := by decide +kernel
theorem dX0_get_9 : decode cX0_get 9 = .ok (.iaload, 1) := by decide +kernel
theorem dX0_get_10 : decode cX0_get 10 = .ok (.ireturn, 1) := by decide +kernel
theorem dX0_set_0 : decode cX0_set 0 = .ok (.aload_n 0, 1) := by decide +kernel
theorem dX0_set_1 : decode cX0_set 1 = .ok (.getfield 9, 3) := by decide +kernel
theorem dX0_set_4 : decode cX0_set 4 = .ok (.iload_n 1, 1) := by decide +kernel
theorem dX0_set_5 : decode cX0_set 5 = .ok (.sipush 1023, 3) := by decide +kernel
theorem dX0_set_8 : decode cX0_set 8 = .ok (.iand, 1) := by decide +kernel
theorem dX0_set_9 : decode cX0_set 9 = .ok (.iload_n 2, 1) := by decide +kernel
theorem dX0_set_10 : decode cX0_set 10 = .ok (.sipush 255, 3) := by decide +kernel
theorem dX0_set_13 : decode cX0_set 13 = .ok (.iand, 1) := by decide +kernel
theorem dX0_set_14 : decode cX0_set 14 = .ok (.iastore, 1) := by decide +kernel
theorem dX0_set_15 : decode cX0_set 15 = .ok (.return_, 1) := by decide +kernel
theorem dX0_signed_0 : decode cX0_signed 0 = .ok (.aload_n 0, 1) := by decide +kernel
theorem dX0_signed_1 : decode cX0_signed 1 = .ok (.getfield 9, 3) := by decide +kernel
theorem dX0_signed_4 : decode cX0_signed 4 = .ok (.iload_n 1, 1) := by decide +kernel
theorem dX0_signed_5 : decode cX0_signed 5 = .ok (.sipush 1023, 3) := by decide +kernel
theorem dX0_signed_8 : decode cX0_signed 8 = .ok (.iand, 1) := by decide +kernel
theorem dX0_signed_9 : decode cX0_signed 9 = .ok (.iaload, 1) := by decide +kernel
theorem dX0_signed_10 : decode cX0_signed 10 = .ok (.i2b, 1) := by decide +kernel
theorem dX0_signed_11 : decode cX0_signed 11 = .ok (.ireturn, 1) := by decide +kernel
theorem dX0_pair_0 : decode cX0_pair 0 = .ok (.aload_n 0, 1) := by decide +kernel
theorem dX0_pair_1 : decode cX0_pair 1 = .ok (.getfield 9, 3) := by decide +kernel
theorem dX0_pair_4 : decode cX0_pair 4 = .ok (.iload_n 1, 1) := by decide +kernel
theorem dX0_pair_5 : decode cX0_pair 5 = .ok (.sipush 1023, 3) := by decide +kernel
theorem dX0_pair_8 : decode cX0_pair 8 = .ok (.iand, 1) := by decide +kernel
theorem dX0_pair_9 : decode cX0_pair 9 = .ok (.iaload, 1) := by decide +kernel
theorem dX0_pair_10 : decode cX0_pair 10 = .ok (.aload_n 0, 1) := by decide +kernel
theorem dX0_pair_11 : decode cX0_pair 11 = .ok (.getfield 9, 3) := by decide +kernel
theorem dX0_pair_14 : decode cX0_pair 14 = .ok (.iload_n 1, 1) := by decide +kernel
theorem dX0_pair_15 : decode cX0_pair 15 = .ok (.iconst 1, 1) := by decide +kernel
theorem dX0_pair_16 : decode cX0_pair 16 = .ok (.iadd, 1) := by decide +kernel
theorem dX0_pair_17 : decode cX0_pair 17 = .ok (.sipush 1023, 3) := by decide +kernel
theorem dX0_pair_20 : decode cX0_pair 20 = .ok (.iand, 1) := by decide +kernel
theorem dX0_pair_21 : decode cX0_pair 21 = .ok (.iaload, 1) := by decide +kernel
theorem dX0_pair_22 : decode cX0_pair 22 = .ok (.bipush 8, 2) := by decide +kernel
theorem dX0_pair_24 : decode cX0_pair 24 = .ok (.ishl, 1) := by decide +kernel
theorem dX0_pair_25 : decode cX0_pair 25 = .ok (.ior, 1) := by decide +kernel
theorem dX0_pair_26 : decode cX0_pair 26 = .ok (.ireturn, 1) := by decide +kernel
theorem dX0_setPair_0 : decode cX0_setPair 0 = .ok (.aload_n 0, 1) := by decide +kernel
theorem dX0_setPair_1 : decode cX0_setPair 1 = .ok (.getfield 9, 3) := by decide +kernel
theorem dX0_setPair_4 : decode cX0_setPair 4 = .ok (.iload_n 1, 1) := by decide +kernel
theorem dX0_setPair_5 : decode cX0_setPair 5 = .ok (.sipush 1023, 3) := by decide +kernel
theorem dX0_setPair_8 : decode cX0_setPair 8 = .ok (.iand, 1) := by decide +kernel
theorem dX0_setPair_9 : decode cX0_setPair 9 = .ok (.iload_n 2, 1) := by decide +kernel
theorem dX0_setPair_10 : decode cX0_setPair 10 = .ok (.sipush 255, 3) := by decide +kernel
theorem dX0_setPair_13 : decode cX0_setPair 13 = .ok (.iand, 1) := by decide +kernel
theorem dX0_setPair_14 : decode cX0_setPair 14 = .ok (.iastore, 1) := by decide +kernel
theorem dX0_setPair_15 : decode cX0_setPair 15 = .ok (.aload_n 0, 1) := by decide +kernel
theorem dX0_setPair_16 : decode cX0_setPair 16 = .ok (.getfield 9, 3) := by decide +kernel
theorem dX0_setPair_19 : decode cX0_setPair 19 = .ok (.iload_n 1, 1) := by decide +kernel
theorem dX0_setPair_20 : decode cX0_setPair 20 = .ok (.iconst 1, 1) := by decide +kernel
theorem dX0_setPair_21 : decode cX0_setPair 21 = .ok (.iadd, 1) := by decide +kernel
theorem dX0_setPair_22 : decode cX0_setPair 22 = .ok (.sipush 1023, 3) := by decide +kernel
theorem dX0_setPair_25 : decode cX0_setPair 25 = .ok (.iand, 1) := by decide +kernel
theorem dX0_setPair_26 : decode cX0_setPair 26 = .ok (.iload_n 2, 1) := by decide +kernel
theorem dX0_setPair_27 : decode cX0_setPair 27 = .ok (.bipush 8, 2) := by decide +kernel
theorem dX0_setPair_29 : decode cX0_setPair 29 = .ok (.ishr, 1) := by decide +kernel
theorem dX0_setPair_30 : decode cX0_setPair 30 = .ok (.sipush 255, 3) := by decide +kernel
theorem dX0_setPair_33 : decode cX0_setPair 33 = .ok (.iand, 1) := by decide +kernel
theorem dX0_setPair_34 : decode cX0_setPair 34 = .ok (.iastore, 1) := by decide +kernel
theorem dX0_setPair_35 : decode cX0_setPair 35 = .ok (.return_, 1) := by decide +kernel
theorem dX0_bit_0 : decode cX0_bit 0 = .ok (.aload_n 0, 1) := by decide +kernel
theorem dX0_bit_1 : decode cX0_bit 1 = .ok (.getfield 9, 3) := by decide +kernel
theorem dX0_bit_4 : decode cX0_bit 4 = .ok (.iload_n 1, 1) := by decide +kernel
theorem dX0_bit_5 : decode cX0_bit 5 = .ok (.sipush 1023, 3) := by decide +kernel
theorem dX0_bit_8 : decode cX0_bit 8 = .ok (.iand, 1) := by decide +kernel
theorem dX0_bit_9 : decode cX0_bit 9 = .ok (.iaload, 1) := by decide +kernel
theorem dX0_bit_10 : decode cX0_bit 10 = .ok (.iload_n 2, 1) := by decide +kernel
theorem dX0_bit_11 : decode cX0_bit 11 = .ok (.ishr, 1) := by decide +kernel
theorem dX0_bit_12 : decode cX0_bit 12 = .ok (.iconst 1, 1) := by decide +kernel
theorem dX0_bit_13 : decode cX0_bit 13 = .ok (.iand, 1) := by decide +kernel
theorem dX0_bit_14 : decode cX0_bit 14 = .ok (.ireturn, 1) := by decide +kernel
set_option maxRecDepth 20000 in
theorem ggX0_setBit_X0_get : GoodIn wsX0_setBit wsX0_get := goodIn_r _ [5, 6, 11] (by decide +kernel) (by decide +kernel)
set_option maxRecDepth 20000 in
theorem gX0_setBit_X0_get : GoodIn wsX0_setBit (wsV RX0 15 RX0 yX0_get wsX0_get) := goodIn_app (goodIn_of _ (by decide +kernel)) ggX0_setBit_X0_get
set_option maxRecDepth 20000 in
theorem ggX0_setBit_X0_set : GoodIn wsX0_setBit wsX0_set := goodIn_r _ [10, 6, 11] (by decide +kernel) (by decide +kernel)
set_option maxRecDepth 20000 in
theorem gX0_setBit_X0_set : GoodIn wsX0_setBit (wsV RX0 19 RX0 yX0_set wsX0_set) := goodIn_app (goodIn_of _ (by decide +kernel)) ggX0_setBit_X0_set
theorem dX0_setBit_0 : decode cX0_setBit 0 = .ok (.aload_n 0, 1) := by decide +kernel
theorem dX0_setBit_1 : decode cX0_setBit 1 = .ok (.iload_n 1, 1) := by decide +kernel
theorem dX0_setBit_2 : decode cX0_setBit 2 = .ok (.aload_n 0, 1) := by decide +kernel
theorem dX0_setBit_3 : decode cX0_setBit 3 = .ok (.iload_n 1, 1) := by decide +kernel
theorem dX0_setBit_4 : decode cX0_setBit 4 = .ok (.invokevirtual 15, 3) := by decide +kernel
theorem dX0_setBit_7 : decode cX0_setBit 7 = .ok (.iconst 1, 1) := by decide +kernel
theorem dX0_setBit_8 : decode cX0_setBit 8 = .ok (.iload_n 2, 1) := by decide +kernel
theorem dX0_setBit_9 : decode cX0_setBit 9 = .ok (.ishl, 1) := by decide +kernel
theorem dX0_setBit_10 : decode cX0_setBit 10 = .ok (.iconst (-1), 1) := by decide +kernel
theorem dX0_setBit_11 : decode cX0_setBit 11 = .ok (.ixor, 1) := by decide +kernel
theorem dX0_setBit_12 : decode cX0_setBit 12 = .ok (.iand, 1) := by decide +kernel
theorem dX0_setBit_13 : decode cX0_setBit 13 = .ok (.iload_n 3, 1) := by decide +kernel
theorem dX0_setBit_14 : decode cX0_setBit 14 = .ok (.iload_n 2, 1) := by decide +kernel
theorem dX0_setBit_15 : decode cX0_setBit 15 = .ok (.ishl, 1) := by decide +kernel
theorem dX0_setBit_16 : decode cX0_setBit 16 = .ok (.ior, 1) := by decide +kernel
theorem dX0_setBit_17 : decode cX0_setBit 17 = .ok (.invokevirtual 19, 3) := by decide +kernel
theorem dX0_setBit_20 : decode cX0_setBit 20 = .ok (.return_, 1) := by decide +kernel
theorem dX0_flag_0 : decode cX0_flag 0 = .ok (.aload_n 0, 1) := by decide +kernel
theorem dX0_flag_1 : decode cX0_flag 1 = .ok (.getfield 9, 3) := by decide +kernel
theorem dX0_flag_4 : decode cX0_flag 4 = .ok (.bipush 95, 2) := by decide +kernel
theorem dX0_flag_6 : decode cX0_flag 6 = .ok (.iaload, 1) := by decide +kernel
theorem dX0_flag_7 : decode cX0_flag 7 = .ok (.iload_n 1, 1) := by decide +kernel
theorem dX0_flag_8 : decode cX0_flag 8 = .ok (.ishr, 1) := by decide +kernel
theorem dX0_flag_9 : decode cX0_flag 9 = .ok (.iconst 1, 1) := by decide +kernel
theorem dX0_flag_10 : decode cX0_flag 10 = .ok (.iand, 1) := by decide +kernel
theorem dX0_flag_11 : decode cX0_flag 11 = .ok (.ireturn, 1) := by decide +kernel
set_option maxRecDepth 20000 in
theorem ggX0_setFlag_X0_setBit : GoodIn wsX0_setFlag wsX0_setBit := goodIn_r _ [5, 6, 7, 8, 4, 9, 10, 11, 12, 13, 14, 15] (by decide +kernel) (by decide +kernel)
set_option maxRecDepth 20000 in
theorem gX0_setFlag_X0_setBit : GoodIn wsX0_setFlag (wsV RX0 23 RX0 yX0_setBit wsX0_setBit) := goodIn_app (goodIn_of _ (by decide +kernel)) ggX0_setFlag_X0_setBit
theorem dX0_setFlag_0 : decode cX0_setFlag 0 = .ok (.aload_n 0, 1) := by decide +kernel
theorem dX0_setFlag_1 : decode cX0_setFlag 1 = .ok (.bipush 95, 2) := by decide +kernel
theorem dX0_setFlag_3 : decode cX0_setFlag 3 = .ok (.iload_n 1, 1) := by decide +kernel
theorem dX0_setFlag_4 : decode cX0_setFlag 4 = .ok (.iload_n 2, 1) := by decide +kernel
theorem dX0_setFlag_5 : decode cX0_setFlag 5 = .ok (.invokevirtual 23, 3) := by decide +kernel
theorem dX0_setFlag_8 : decode cX0_setFlag 8 = .ok (.return_, 1) := by decide +kernel
theorem dX0_setFlags_0 : decode cX0_setFlags 0 = .ok (.aload_n 0, 1) := by decide +kernel
theorem dX0_setFlags_1 : decode cX0_setFlags 1 = .ok (.getfield 9, 3) := by decide +kernel
theorem dX0_setFlags_4 : decode cX0_setFlags 4 = .ok (.bipush 95, 2) := by decide +kernel
theorem dX0_setFlags_6 : decode cX0_setFlags 6 = .ok (.aload_n 0, 1) := by decide +kernel
theorem dX0_setFlags_7 : decode cX0_setFlags 7 = .ok (.getfield 9, 3) := by decide +kernel
theorem dX0_setFlags_10 : decode cX0_setFlags 10 = .ok (.bipush 95, 2) := by decide +kernel
theorem dX0_setFlags_12 : decode cX0_setFlags 12 = .ok (.iaload, 1) := by decide +kernel
theorem dX0_setFlags_13 : decode cX0_setFlags 13 = .ok (.iload_n 1, 1) := by decide +kernel
theorem dX0_setFlags_14 : decode cX0_setFlags 14 = .ok (.iconst (-1), 1) := by decide +kernel
theorem dX0_setFlags_15 : decode cX0_setFlags 15 = .ok (.ixor, 1) := by decide +kernel
theorem dX0_setFlags_16 : decode cX0_setFlags 16 = .ok (.iand, 1) := by decide +kernel
theorem dX0_setFlags_17 : decode cX0_setFlags 17 = .ok (.iload_n 2, 1) := by decide +kernel
theorem dX0_setFlags_18 : decode cX0_setFlags 18 = .ok (.iload_n 1, 1) := by decide +kernel
theorem dX0_setFlags_19 : decode cX0_setFlags 19 = .ok (.iand, 1) := by decide +kernel
theorem dX0_setFlags_20 : decode cX0_setFlags 20 = .ok (.ior, 1) := by decide +kernel
theorem dX0_setFlags_21 : decode cX0_setFlags 21 = .ok (.iastore, 1) := by decide +kernel
theorem dX0_setFlags_22 : decode cX0_setFlags 22 = .ok (.return_, 1) := by decide +kernel
set_option maxRecDepth 20000 in
theorem ggX0_push_X0_pair : GoodIn wsX0_push wsX0_pair := goodIn_r _ [5, 6, 15] (by decide +kernel) (by decide +kernel)
set_option maxRecDepth 20000 in
theorem gX0_push_X0_pair : GoodIn wsX0_push (wsV RX0 27 RX0 yX0_pair wsX0_pair) := goodIn_app (goodIn_of _ (by decide +kernel)) ggX0_push_X0_pair
set_option maxRecDepth 20000 in
theorem ggX0_push_X0_set : GoodIn wsX0_push wsX0_set := goodIn_r _ [10, 6, 15] (by decide +kernel) (by decide +kernel)
set_option maxRecDepth 20000 in
theorem gX0_push_X0_set : GoodIn wsX0_push (wsV RX0 19 RX0 yX0_set wsX0_set) := goodIn_app (goodIn_of _ (by decide +kernel)) ggX0_push_X0_set
set_option maxRecDepth 20000 in
theorem ggX0_push_X0_setPair : GoodIn wsX0_push wsX0_setPair := goodIn_r _ [14, 6, 15] (by decide +kernel) (by decide +kernel)
set_option maxRecDepth 20000 in
theorem gX0_push_X0_setPair : GoodIn wsX0_push (wsV RX0 30 RX0 yX0_setPair wsX0_setPair) := goodIn_app (goodIn_of _ (by decide +kernel)) ggX0_push_X0_setPair
theorem dX0_push_0 : decode cX0_push 0 = .ok (.aload_n 0, 1) := by decide +kernel
theorem dX0_push_1 : decode cX0_push 1 = .ok (.bipush 93, 2) := by decide +kernel
theorem dX0_push_3 : decode cX0_push 3 = .ok (.invokevirtual 27, 3) := by decide +kernel
theorem dX0_push_6 : decode cX0_push 6 = .ok (.istore_n 2, 1) := by decide +kernel
theorem dX0_push_7 : decode cX0_push 7 = .ok (.aload_n 0, 1) := by decide +kernel
theorem dX0_push_8 : decode cX0_push 8 = .ok (.iload_n 2, 1) := by decide +kernel
theorem dX0_push_9 : decode cX0_push 9 = .ok (.iload_n 1, 1) := by decide +kernel
theorem dX0_push_10 : decode cX0_push 10 = .ok (.invokevirtual 19, 3) := by decide +kernel
theorem dX0_push_13 : decode cX0_push 13 = .ok (.aload_n 0, 1) := by decide +kernel
theorem dX0_push_14 : decode cX0_push 14 = .ok (.bipush 93, 2) := by decide +kernel
theorem dX0_push_16 : decode cX0_push 16 = .ok (.iload_n 2, 1) := by decide +kernel
theorem dX0_push_17 : decode cX0_push 17 = .ok (.iconst 1, 1) := by decide +kernel
theorem dX0_push_18 : decode cX0_push 18 = .ok (.isub, 1) := by decide +kernel
theorem dX0_push_19 : decode cX0_push 19 = .ok (.invokevirtual 30, 3) := by decide +kernel
theorem dX0_push_22 : decode cX0_push 22 = .ok (.return_, 1) := by decide +kernel
set_option maxRecDepth 20000 in
theorem ggX0_stacks_X0_pair : GoodIn wsX0_stacks wsX0_pair := goodIn_r _ [5, 6, 15] (by decide +kernel) (by decide +kernel)
set_option maxRecDepth 20000 in
theorem gX0_stacks_X0_pair : GoodIn wsX0_stacks (wsV RX0 27 RX0 yX0_pair wsX0_pair) := goodIn_app (goodIn_of _ (by decide +kernel)) ggX0_stacks_X0_pair
set_option maxRecDepth 20000 in
theorem ggX0_stacks_X0_set : GoodIn wsX0_stacks wsX0_set := goodIn_r _ [10, 6, 15] (by decide +kernel) (by decide +kernel)
set_option maxRecDepth 20000 in
theorem gX0_stacks_X0_set : GoodIn wsX0_stacks (wsV RX0 19 RX0 yX0_set wsX0_set) := goodIn_app (goodIn_of _ (by decide +kernel)) ggX0_stacks_X0_set
set_option maxRecDepth 20000 in
theorem ggX0_stacks_X0_setPair : GoodIn wsX0_stacks wsX0_setPair := goodIn_r _ [14, 6, 15] (by decide +kernel) (by decide +kernel)
set_option maxRecDepth 20000 in
theorem gX0_stacks_X0_setPair : GoodIn wsX0_stacks (wsV RX0 30 RX0 yX0_setPair wsX0_setPair) := goodIn_app (goodIn_of _ (by decide +kernel)) ggX0_stacks_X0_setPair
theorem dX0_stacks_0 : decode cX0_stacks 0 = .ok (.aload_n 0, 1) := by decide +kernel
theorem dX0_stacks_1 : decode cX0_stacks 1 = .ok (.bipush 93, 2) := by decide +kernel
theorem dX0_stacks_3 : decode cX0_stacks 3 = .ok (.invokevirtual 27, 3) := by decide +kernel
theorem dX0_stacks_6 : decode cX0_stacks 6 = .ok (.istore_n 2, 1) := by decide +kernel
theorem dX0_stacks_7 : decode cX0_stacks 7 = .ok (.iload_n 2, 1) := by decide +kernel
theorem dX0_stacks_8 : decode cX0_stacks 8 = .ok (.iconst 1, 1) := by decide +kernel
theorem dX0_stacks_9 : decode cX0_stacks 9 = .ok (.if_icmp .lt 10, 3) := by decide +kernel
theorem dX0_stacks_12 : decode cX0_stacks 12 = .ok (.iload_n 2, 1) := by decide +kernel
theorem dX0_stacks_13 : decode cX0_stacks 13 = .ok (.sipush 1023, 3) := by decide +kernel
theorem dX0_stacks_16 : decode cX0_stacks 16 = .ok (.if_icmp .le 5, 3) := by decide +kernel
theorem dX0_stacks_19 : decode cX0_stacks 19 = .ok (.iconst 0, 1) := by decide +kernel
theorem dX0_stacks_20 : decode cX0_stacks 20 = .ok (.ireturn, 1) := by decide +kernel
theorem dX0_stacks_21 : decode cX0_stacks 21 = .ok (.aload_n 0, 1) := by decide +kernel
theorem dX0_stacks_22 : decode cX0_stacks 22 = .ok (.iload_n 2, 1) := by decide +kernel
theorem dX0_stacks_23 : decode cX0_stacks 23 = .ok (.iload_n 1, 1) := by decide +kernel
theorem dX0_stacks_24 : decode cX0_stacks 24 = .ok (.invokevirtual 19, 3) := by decide +kernel
theorem dX0_stacks_27 : decode cX0_stacks 27 = .ok (.aload_n 0, 1) := by decide +kernel
theorem dX0_stacks_28 : decode cX0_stacks 28 = .ok (.iload_n 2, 1) := by decide +kernel
theorem dX0_stacks_29 : decode cX0_stacks 29 = .ok (.iconst 1, 1) := by decide +kernel
theorem dX0_stacks_30 : decode cX0_stacks 30 = .ok (.isub, 1) := by decide +kernel
theorem dX0_stacks_31 : decode cX0_stacks 31 = .ok (.iload_n 1, 1) := by decide +kernel
theorem dX0_stacks_32 : decode cX0_stacks 32 = .ok (.bipush 8, 2) := by decide +kernel
theorem dX0_stacks_34 : decode cX0_stacks 34 = .ok (.ishr, 1) := by decide +kernel
theorem dX0_stacks_35 : decode cX0_stacks 35 = .ok (.invokevirtual 19, 3) := by decide +kernel
theorem dX0_stacks_38 : decode cX0_stacks 38 = .ok (.aload_n 0, 1) := by decide +kernel
theorem dX0_stacks_39 : decode cX0_stacks 39 = .ok (.bipush 93, 2) := by decide +kernel
theorem dX0_stacks_41 : decode cX0_stacks 41 = .ok (.iload_n 2, 1) := by decide +kernel
theorem dX0_stacks_42 : decode cX0_stacks 42 = .ok (.iconst 2, 1) := by decide +kernel
theorem dX0_stacks_43 : decode cX0_stacks 43 = .ok (.isub, 1) := by decide +kernel
theorem dX0_stacks_44 : decode cX0_stacks 44 = .ok (.invokevirtual 30, 3) := by decide +kernel
theorem dX0_stacks_47 : decode cX0_stacks 47 = .ok (.iconst 1, 1) := by decide +kernel
theorem dX0_stacks_48 : decode cX0_stacks 48 = .ok (.ireturn, 1) := by decide +kernel
set_option maxRecDepth 20000 in
theorem ggX0_pull_X0_pair : GoodIn wsX0_pull wsX0_pair := goodIn_r _ [5, 6, 15] (by decide +kernel) (by decide +kernel)
set_option maxRecDepth 20000 in
theorem gX0_pull_X0_pair : GoodIn wsX0_pull (wsV RX0 27 RX0 yX0_pair wsX0_pair) := goodIn_app (goodIn_of _ (by decide +kernel)) ggX0_pull_X0_pair
set_option maxRecDepth 20000 in
theorem ggX0_pull_X0_setPair : GoodIn wsX0_pull wsX0_setPair := goodIn_r _ [10, 6, 15] (by decide +kernel) (by decide +kernel)
set_option maxRecDepth 20000 in
theorem gX0_pull_X0_setPair : GoodIn wsX0_pull (wsV RX0 30 RX0 yX0_setPair wsX0_setPair) := goodIn_app (goodIn_of _ (by decide +kernel)) ggX0_pull_X0_setPair
set_option maxRecDepth 20000 in
theorem ggX0_pull_X0_get : GoodIn wsX0_pull wsX0_get := goodIn_r _ [14, 6, 15] (by decide +kernel) (by decide +kernel)
set_option maxRecDepth 20000 in
theorem gX0_pull_X0_get : GoodIn wsX0_pull (wsV RX0 15 RX0 yX0_get wsX0_get) := goodIn_app (goodIn_of _ (by decide +kernel)) ggX0_pull_X0_get
theorem dX0_pull_0 : decode cX0_pull 0 = .ok (.aload_n 0, 1) := by decide +kernel
theorem dX0_pull_1 : decode cX0_pull 1 = .ok (.bipush 93, 2) := by decide +kernel
theorem dX0_pull_3 : decode cX0_pull 3 = .ok (.invokevirtual 27, 3) := by decide +kernel
theorem dX0_pull_6 : decode cX0_pull 6 = .ok (.iconst 1, 1) := by decide +kernel
theorem dX0_pull_7 : decode cX0_pull 7 = .ok (.iadd, 1) := by decide +kernel
theorem dX0_pull_8 : decode cX0_pull 8 = .ok (.istore_n 1, 1) := by decide +kernel
theorem dX0_pull_9 : decode cX0_pull 9 = .ok (.aload_n 0, 1) := by decide +kernel
theorem dX0_pull_10 : decode cX0_pull 10 = .ok (.bipush 93, 2) := by decide +kernel
theorem dX0_pull_12 : decode cX0_pull 12 = .ok (.iload_n 1, 1) := by decide +kernel
theorem dX0_pull_13 : decode cX0_pull 13 = .ok (.invokevirtual 30, 3) := by decide +kernel
theorem dX0_pull_16 : decode cX0_pull 16 = .ok (.aload_n 0, 1) := by decide +kernel
theorem dX0_pull_17 : decode cX0_pull 17 = .ok (.iload_n 1, 1) := by decide +kernel
theorem dX0_pull_18 : decode cX0_pull 18 = .ok (.invokevirtual 15, 3) := by decide +kernel
theorem dX0_pull_21 : decode cX0_pull 21 = .ok (.ireturn, 1) := by decide +kernel
theorem dX2_init_0 : decode cX2_init 0 = .ok (.aload_n 0, 1) := by decide +kernel
theorem dX2_init_1 : decode cX2_init 1 = .ok (.invokespecial 7, 3) := by decide +kernel
theorem dX2_init_4 : decode cX2_init 4 = .ok (.aload_n 0, 1) := by decide +kernel
theorem dX2_init_5 : decode cX2_init 5 = .ok (.aload_n 1, 1) := by decide +kernel
theorem dX2_init_6 : decode cX2_init 6 = .ok (.putfield 13, 3) := by decide +kernel
theorem dX2_init_9 : decode cX2_init 9 = .ok (.return_, 1) := by decide +kernel
set_option maxRecDepth 20000 in
theorem ggX2_sum_X2_signs : GoodIn wsX2_sum wsX2_signs := goodIn_r _ [5] (by decide +kernel) (by decide +kernel)
set_option maxRecDepth 20000 in
theorem gX2_sum_X2_signs : GoodIn wsX2_sum (va_wsS RX2 17 yX2_signs wsX2_signs) := goodIn_app (goodIn_of _ (by decide +kernel)) ggX2_sum_X2_signs
set_option maxRecDepth 20000 in
theorem ggX2_sum_X0_setFlags : GoodIn wsX2_sum wsX0_setFlags := goodIn_r _ [10, 11, 13] (by decide +kernel) (by decide +kernel)
set_option maxRecDepth 20000 in
theorem gX2_sum_X0_setFlags : GoodIn wsX2_sum (wsV RX2 21 RX0 yX0_setFlags wsX0_setFlags) := goodIn_app (goodIn_of _ (by decide +kernel)) ggX2_sum_X0_setFlags
theorem dX2_sum_0 : decode cX2_sum 0 = .ok (.iload_n 1, 1) := by decide +kernel
theorem dX2_sum_1 : decode cX2_sum 1 = .ok (.iload_n 2, 1) := by decide +kernel
theorem dX2_sum_2 : decode cX2_sum 2 = .ok (.iadd, 1) := by decide +kernel
theorem dX2_sum_3 : decode cX2_sum 3 = .ok (.iload_n 3, 1) := by decide +kernel
theorem dX2_sum_4 : decode cX2_sum 4 = .ok (.iadd, 1) := by decide +kernel
theorem dX2_sum_5 : decode cX2_sum 5 = .ok (.istore 4, 2) := by decide +kernel
theorem dX2_sum_7 : decode cX2_sum 7 = .ok (.iload 4, 2) := by decide +kernel
theorem dX2_sum_9 : decode cX2_sum 9 = .ok (.sipush 255, 3) := by decide +kernel
theorem dX2_sum_12 : decode cX2_sum 12 = .ok (.iand, 1) := by decide +kernel
theorem dX2_sum_13 : decode cX2_sum 13 = .ok (.istore 5, 2) := by decide +kernel
theorem dX2_sum_15 : decode cX2_sum 15 = .ok (.iload_n 1, 1) := by decide +kernel
theorem dX2_sum_16 : decode cX2_sum 16 = .ok (.bipush 15, 2) := by decide +kernel
theorem dX2_sum_18 : decode cX2_sum 18 = .ok (.iand, 1) := by decide +kernel
theorem dX2_sum_19 : decode cX2_sum 19 = .ok (.iload_n 2, 1) := by decide +kernel
theorem dX2_sum_20 : decode cX2_sum 20 = .ok (.bipush 15, 2) := by decide +kernel
theorem dX2_sum_22 : decode cX2_sum 22 = .ok (.iand, 1) := by decide +kernel
theorem dX2_sum_23 : decode cX2_sum 23 = .ok (.iadd, 1) := by decide +kernel
theorem dX2_sum_24 : decode cX2_sum 24 = .ok (.iload_n 3, 1) := by decide +kernel
theorem dX2_sum_25 : decode cX2_sum 25 = .ok (.iadd, 1) := by decide +kernel
theorem dX2_sum_26 : decode cX2_sum 26 = .ok (.istore 6, 2) := by decide +kernel
theorem dX2_sum_28 : decode cX2_sum 28 = .ok (.iload_n 1, 1) := by decide +kernel
theorem dX2_sum_29 : decode cX2_sum 29 = .ok (.iload 5, 2) := by decide +kernel
theorem dX2_sum_31 : decode cX2_sum 31 = .ok (.ixor, 1) := by decide +kernel
theorem dX2_sum_32 : decode cX2_sum 32 = .ok (.iload_n 2, 1) := by decide +kernel
theorem dX2_sum_33 : decode cX2_sum 33 = .ok (.iload 5, 2) := by decide +kernel
theorem dX2_sum_35 : decode cX2_sum 35 = .ok (.ixor, 1) := by decide +kernel
theorem dX2_sum_36 : decode cX2_sum 36 = .ok (.iand, 1) := by decide +kernel
theorem dX2_sum_37 : decode cX2_sum 37 = .ok (.sipush 128, 3) := by decide +kernel
theorem dX2_sum_40 : decode cX2_sum 40 = .ok (.iand, 1) := by decide +kernel
theorem dX2_sum_41 : decode cX2_sum 41 = .ok (.ifCond .eq 7, 3) := by decide +kernel
theorem dX2_sum_44 : decode cX2_sum 44 = .ok (.iconst 1, 1) := by decide +kernel
theorem dX2_sum_45 : decode cX2_sum 45 = .ok (.goto 4, 3) := by decide +kernel
theorem dX2_sum_48 : decode cX2_sum 48 = .ok (.iconst 0, 1) := by decide +kernel
theorem dX2_sum_49 : decode cX2_sum 49 = .ok (.istore 7, 2) := by decide +kernel
theorem dX2_sum_51 : decode cX2_sum 51 = .ok (.aload_n 0, 1) := by decide +kernel
theorem dX2_sum_52 : decode cX2_sum 52 = .ok (.getfield 13, 3) := by decide +kernel
theorem dX2_sum_55 : decode cX2_sum 55 = .ok (.bipush 63, 2) := by decide +kernel
theorem dX2_sum_57 : decode cX2_sum 57 = .ok (.iload 5, 2) := by decide +kernel
theorem dX2_sum_59 : decode cX2_sum 59 = .ok (.iload 7, 2) := by decide +kernel
theorem dX2_sum_61 : decode cX2_sum 61 = .ok (.invokestatic 17, 3) := by decide +kernel
theorem dX2_sum_64 : decode cX2_sum 64 = .ok (.iload 4, 2) := by decide +kernel
theorem dX2_sum_66 : decode cX2_sum 66 = .ok (.sipush 255, 3) := by decide +kernel
theorem dX2_sum_69 : decode cX2_sum 69 = .ok (.if_icmp .le 7, 3) := by decide +kernel
theorem dX2_sum_72 : decode cX2_sum 72 = .ok (.iconst 1, 1) := by decide +kernel
theorem dX2_sum_73 : decode cX2_sum 73 = .ok (.goto 4, 3) := by decide +kernel
theorem dX2_sum_76 : decode cX2_sum 76 = .ok (.iconst 0, 1) := by decide +kernel
theorem dX2_sum_77 : decode cX2_sum 77 = .ok (.ior, 1) := by decide +kernel
theorem dX2_sum_78 : decode cX2_sum 78 = .ok (.iload 6, 2) := by decide +kernel
theorem dX2_sum_80 : decode cX2_sum 80 = .ok (.bipush 15, 2) := by decide +kernel
theorem dX2_sum_82 : decode cX2_sum 82 = .ok (.if_icmp .le 8, 3) := by decide +kernel
theorem dX2_sum_85 : decode cX2_sum 85 = .ok (.bipush 32, 2) := by decide +kernel
theorem dX2_sum_87 : decode cX2_sum 87 = .ok (.goto 4, 3) := by decide +kernel
theorem dX2_sum_90 : decode cX2_sum 90 = .ok (.iconst 0, 1) := by decide +kernel
theorem dX2_sum_91 : decode cX2_sum 91 = .ok (.ior, 1) := by decide +kernel
theorem dX2_sum_92 : decode cX2_sum 92 = .ok (.invokevirtual 21, 3) := by decide +kernel
theorem dX2_sum_95 : decode cX2_sum 95 = .ok (.iload 5, 2) := by decide +kernel
theorem dX2_sum_97 : decode cX2_sum 97 = .ok (.ireturn, 1) := by decide +kernel
set_option maxRecDepth 20000 in
theorem ggX2_difference_X2_subtract : GoodIn wsX2_difference wsX2_subtract := goodIn_r _ [5, 6, 7, 8, 4, 9, 10, 11, 12, 13, 14, 15, 16, 17] (by decide +kernel) (by decide +kernel)
set_option maxRecDepth 20000 in
theorem gX2_difference_X2_subtract : GoodIn wsX2_difference (wsV RX2 27 RX2 yX2_subtract wsX2_subtract) := goodIn_app (goodIn_of _ (by decide +kernel)) ggX2_difference_X2_subtract
theorem dX2_difference_0 : decode cX2_difference 0 = .ok (.aload_n 0, 1) := by decide +kernel
theorem dX2_difference_1 : decode cX2_difference 1 = .ok (.iload_n 1, 1) := by decide +kernel
theorem dX2_difference_2 : decode cX2_difference 2 = .ok (.iload_n 2, 1) := by decide +kernel
theorem dX2_difference_3 : decode cX2_difference 3 = .ok (.iconst 0, 1) := by decide +kernel
theorem dX2_difference_4 : decode cX2_difference 4 = .ok (.bipush 30, 2) := by decide +kernel
theorem dX2_difference_6 : decode cX2_difference 6 = .ok (.invokevirtual 27, 3) := by decide +kernel
theorem dX2_difference_9 : decode cX2_difference 9 = .ok (.ireturn, 1) := by decide +kernel
set_option maxRecDepth 20000 in
theorem ggX2_differenceOn_X0_flag : GoodIn wsX2_differenceOn wsX0_flag := goodIn_r _ [6, 7, 21] (by decide +kernel) (by decide +kernel)
set_option maxRecDepth 20000 in
theorem gX2_differenceOn_X0_flag : GoodIn wsX2_differenceOn (wsV RX2 31 RX0 yX0_flag wsX0_flag) := goodIn_app (goodIn_of _ (by decide +kernel)) ggX2_differenceOn_X0_flag
set_option maxRecDepth 20000 in
theorem ggX2_differenceOn_X2_subtract : GoodIn wsX2_differenceOn wsX2_subtract := goodIn_r _ [12, 1, 13, 14, 11, 15, 16, 17, 18, 5, 19, 7, 20, 21] (by decide +kernel) (by decide +kernel)
set_option maxRecDepth 20000 in
theorem gX2_differenceOn_X2_subtract : GoodIn wsX2_differenceOn (wsV RX2 27 RX2 yX2_subtract wsX2_subtract) := goodIn_app (goodIn_of _ (by decide +kernel)) ggX2_differenceOn_X2_subtract
theorem dX2_differenceOn_0 : decode cX2_differenceOn 0 = .ok (.aload_n 0, 1) := by decide +kernel
theorem dX2_differenceOn_1 : decode cX2_differenceOn 1 = .ok (.getfield 13, 3) := by decide +kernel
theorem dX2_differenceOn_4 : decode cX2_differenceOn 4 = .ok (.iconst 1, 1) := by decide +kernel
theorem dX2_differenceOn_5 : decode cX2_differenceOn 5 = .ok (.invokevirtual 31, 3) := by decide +kernel
theorem dX2_differenceOn_8 : decode cX2_differenceOn 8 = .ok (.iconst 1, 1) := by decide +kernel
theorem dX2_differenceOn_9 : decode cX2_differenceOn 9 = .ok (.if_icmp .ne 8, 3) := by decide +kernel
theorem dX2_differenceOn_12 : decode cX2_differenceOn 12 = .ok (.bipush 30, 2) := by decide +kernel
theorem dX2_differenceOn_14 : decode cX2_differenceOn 14 = .ok (.goto 5, 3) := by decide +kernel
theorem dX2_differenceOn_17 : decode cX2_differenceOn 17 = .ok (.bipush 28, 2) := by decide +kernel
theorem dX2_differenceOn_19 : decode cX2_differenceOn 19 = .ok (.istore 4, 2) := by decide +kernel
theorem dX2_differenceOn_21 : decode cX2_differenceOn 21 = .ok (.aload_n 0, 1) := by decide +kernel
theorem dX2_differenceOn_22 : decode cX2_differenceOn 22 = .ok (.iload_n 1, 1) := by decide +kernel
theorem dX2_differenceOn_23 : decode cX2_differenceOn 23 = .ok (.iload_n 2, 1) := by decide +kernel
theorem dX2_differenceOn_24 : decode cX2_differenceOn 24 = .ok (.iload_n 3, 1) := by decide +kernel
theorem dX2_differenceOn_25 : decode cX2_differenceOn 25 = .ok (.iload 4, 2) := by decide +kernel
theorem dX2_differenceOn_27 : decode cX2_differenceOn 27 = .ok (.invokevirtual 27, 3) := by decide +kernel
theorem dX2_differenceOn_30 : decode cX2_differenceOn 30 = .ok (.ireturn, 1) := by decide +kernel
set_option maxRecDepth 20000 in
theorem ggX2_subtract_X2_signs : GoodIn wsX2_subtract wsX2_signs := goodIn_r _ [5] (by decide +kernel) (by decide +kernel)
set_option maxRecDepth 20000 in
theorem gX2_subtract_X2_signs : GoodIn wsX2_subtract (va_wsS RX2 17 yX2_signs wsX2_signs) := goodIn_app (goodIn_of _ (by decide +kernel)) ggX2_subtract_X2_signs
set_option maxRecDepth 20000 in
theorem ggX2_subtract_X0_setFlags : GoodIn wsX2_subtract wsX0_setFlags := goodIn_r _ [10, 11, 13] (by decide +kernel) (by decide +kernel)
set_option maxRecDepth 20000 in
theorem gX2_subtract_X0_setFlags : GoodIn wsX2_subtract (wsV RX2 21 RX0 yX0_setFlags wsX0_setFlags) := goodIn_app (goodIn_of _ (by decide +kernel)) ggX2_subtract_X0_setFlags
theorem dX2_subtract_0 : decode cX2_subtract 0 = .ok (.iload_n 1, 1) := by decide +kernel
theorem dX2_subtract_1 : decode cX2_subtract 1 = .ok (.iload_n 2, 1) := by decide +kernel
theorem dX2_subtract_2 : decode cX2_subtract 2 = .ok (.isub, 1) := by decide +kernel
theorem dX2_subtract_3 : decode cX2_subtract 3 = .ok (.iload_n 3, 1) := by decide +kernel
theorem dX2_subtract_4 : decode cX2_subtract 4 = .ok (.isub, 1) := by decide +kernel
theorem dX2_subtract_5 : decode cX2_subtract 5 = .ok (.istore 5, 2) := by decide +kernel
theorem dX2_subtract_7 : decode cX2_subtract 7 = .ok (.iload 5, 2) := by decide +kernel
theorem dX2_subtract_9 : decode cX2_subtract 9 = .ok (.sipush 255, 3) := by decide +kernel
theorem dX2_subtract_12 : decode cX2_subtract 12 = .ok (.iand, 1) := by decide +kernel
theorem dX2_subtract_13 : decode cX2_subtract 13 = .ok (.istore 6, 2) := by decide +kernel
theorem dX2_subtract_15 : decode cX2_subtract 15 = .ok (.iload_n 1, 1) := by decide +kernel
theorem dX2_subtract_16 : decode cX2_subtract 16 = .ok (.bipush 15, 2) := by decide +kernel
theorem dX2_subtract_18 : decode cX2_subtract 18 = .ok (.iand, 1) := by decide +kernel
theorem dX2_subtract_19 : decode cX2_subtract 19 = .ok (.iload_n 2, 1) := by decide +kernel
theorem dX2_subtract_20 : decode cX2_subtract 20 = .ok (.bipush 15, 2) := by decide +kernel
theorem dX2_subtract_22 : decode cX2_subtract 22 = .ok (.iand, 1) := by decide +kernel
theorem dX2_subtract_23 : decode cX2_subtract 23 = .ok (.isub, 1) := by decide +kernel
theorem dX2_subtract_24 : decode cX2_subtract 24 = .ok (.iload_n 3, 1) := by decide +kernel
theorem dX2_subtract_25 : decode cX2_subtract 25 = .ok (.isub, 1) := by decide +kernel
theorem dX2_subtract_26 : decode cX2_subtract 26 = .ok (.istore 7, 2) := by decide +kernel
theorem dX2_subtract_28 : decode cX2_subtract 28 = .ok (.iload_n 1, 1) := by decide +kernel
theorem dX2_subtract_29 : decode cX2_subtract 29 = .ok (.iload_n 2, 1) := by decide +kernel
theorem dX2_subtract_30 : decode cX2_subtract 30 = .ok (.ixor, 1) := by decide +kernel
theorem dX2_subtract_31 : decode cX2_subtract 31 = .ok (.iload_n 1, 1) := by decide +kernel
theorem dX2_subtract_32 : decode cX2_subtract 32 = .ok (.iload 6, 2) := by decide +kernel
theorem dX2_subtract_34 : decode cX2_subtract 34 = .ok (.ixor, 1) := by decide +kernel
theorem dX2_subtract_35 : decode cX2_subtract 35 = .ok (.iand, 1) := by decide +kernel
theorem dX2_subtract_36 : decode cX2_subtract 36 = .ok (.sipush 128, 3) := by decide +kernel
theorem dX2_subtract_39 : decode cX2_subtract 39 = .ok (.iand, 1) := by decide +kernel
theorem dX2_subtract_40 : decode cX2_subtract 40 = .ok (.ifCond .eq 7, 3) := by decide +kernel
theorem dX2_subtract_43 : decode cX2_subtract 43 = .ok (.iconst 1, 1) := by decide +kernel
theorem dX2_subtract_44 : decode cX2_subtract 44 = .ok (.goto 4, 3) := by decide +kernel
theorem dX2_subtract_47 : decode cX2_subtract 47 = .ok (.iconst 0, 1) := by decide +kernel
theorem dX2_subtract_48 : decode cX2_subtract 48 = .ok (.istore 8, 2) := by decide +kernel
theorem dX2_subtract_50 : decode cX2_subtract 50 = .ok (.aload_n 0, 1) := by decide +kernel
theorem dX2_subtract_51 : decode cX2_subtract 51 = .ok (.getfield 13, 3) := by decide +kernel
theorem dX2_subtract_54 : decode cX2_subtract 54 = .ok (.iload 4, 2) := by decide +kernel
theorem dX2_subtract_56 : decode cX2_subtract 56 = .ok (.iconst 1, 1) := by decide +kernel
theorem dX2_subtract_57 : decode cX2_subtract 57 = .ok (.ior, 1) := by decide +kernel
theorem dX2_subtract_58 : decode cX2_subtract 58 = .ok (.bipush 32, 2) := by decide +kernel
theorem dX2_subtract_60 : decode cX2_subtract 60 = .ok (.ior, 1) := by decide +kernel
theorem dX2_subtract_61 : decode cX2_subtract 61 = .ok (.iload 6, 2) := by decide +kernel
theorem dX2_subtract_63 : decode cX2_subtract 63 = .ok (.iload 8, 2) := by decide +kernel
theorem dX2_subtract_65 : decode cX2_subtract 65 = .ok (.invokestatic 17, 3) := by decide +kernel
theorem dX2_subtract_68 : decode cX2_subtract 68 = .ok (.iload 5, 2) := by decide +kernel
theorem dX2_subtract_70 : decode cX2_subtract 70 = .ok (.ifCond .ge 7, 3) := by decide +kernel
theorem dX2_subtract_73 : decode cX2_subtract 73 = .ok (.iconst 1, 1) := by decide +kernel
theorem dX2_subtract_74 : decode cX2_subtract 74 = .ok (.goto 4, 3) := by decide +kernel
theorem dX2_subtract_77 : decode cX2_subtract 77 = .ok (.iconst 0, 1) := by decide +kernel
theorem dX2_subtract_78 : decode cX2_subtract 78 = .ok (.ior, 1) := by decide +kernel
theorem dX2_subtract_79 : decode cX2_subtract 79 = .ok (.iload 7, 2) := by decide +kernel
theorem dX2_subtract_81 : decode cX2_subtract 81 = .ok (.ifCond .ge 8, 3) := by decide +kernel
theorem dX2_subtract_84 : decode cX2_subtract 84 = .ok (.bipush 32, 2) := by decide +kernel
theorem dX2_subtract_86 : decode cX2_subtract 86 = .ok (.goto 4, 3) := by decide +kernel
theorem dX2_subtract_89 : decode cX2_subtract 89 = .ok (.iconst 0, 1) := by decide +kernel
theorem dX2_subtract_90 : decode cX2_subtract 90 = .ok (.ior, 1) := by decide +kernel
theorem dX2_subtract_91 : decode cX2_subtract 91 = .ok (.invokevirtual 21, 3) := by decide +kernel
theorem dX2_subtract_94 : decode cX2_subtract 94 = .ok (.iload 6, 2) := by decide +kernel
theorem dX2_subtract_96 : decode cX2_subtract 96 = .ok (.ireturn, 1) := by decide +kernel
set_option maxRecDepth 20000 in
theorem ggX2_logic_X2_signs : GoodIn wsX2_logic wsX2_signs := goodIn_r _ [5] (by decide +kernel) (by decide +kernel)
set_option maxRecDepth 20000 in
theorem gX2_logic_X2_signs : GoodIn wsX2_logic (va_wsS RX2 17 yX2_signs wsX2_signs) := goodIn_app (goodIn_of _ (by decide +kernel)) ggX2_logic_X2_signs
set_option maxRecDepth 20000 in
theorem ggX2_logic_X0_setFlags : GoodIn wsX2_logic wsX0_setFlags := goodIn_r _ [10, 11, 13] (by decide +kernel) (by decide +kernel)
set_option maxRecDepth 20000 in
theorem gX2_logic_X0_setFlags : GoodIn wsX2_logic (wsV RX2 21 RX0 yX0_setFlags wsX0_setFlags) := goodIn_app (goodIn_of _ (by decide +kernel)) ggX2_logic_X0_setFlags
theorem dX2_logic_0 : decode cX2_logic 0 = .ok (.aload_n 0, 1) := by decide +kernel
theorem dX2_logic_1 : decode cX2_logic 1 = .ok (.getfield 13, 3) := by decide +kernel
theorem dX2_logic_4 : decode cX2_logic 4 = .ok (.bipush 30, 2) := by decide +kernel
theorem dX2_logic_6 : decode cX2_logic 6 = .ok (.iload_n 1, 1) := by decide +kernel
theorem dX2_logic_7 : decode cX2_logic 7 = .ok (.iconst 0, 1) := by decide +kernel
theorem dX2_logic_8 : decode cX2_logic 8 = .ok (.invokestatic 17, 3) := by decide +kernel
theorem dX2_logic_11 : decode cX2_logic 11 = .ok (.invokevirtual 21, 3) := by decide +kernel
theorem dX2_logic_14 : decode cX2_logic 14 = .ok (.iload_n 1, 1) := by decide +kernel
theorem dX2_logic_15 : decode cX2_logic 15 = .ok (.ireturn, 1) := by decide +kernel
set_option maxRecDepth 20000 in
theorem ggX2_inverse_X2_signs : GoodIn wsX2_inverse wsX2_signs := goodIn_r _ [5] (by decide +kernel) (by decide +kernel)
set_option maxRecDepth 20000 in
theorem gX2_inverse_X2_signs : GoodIn wsX2_inverse (va_wsS RX2 17 yX2_signs wsX2_signs) := goodIn_app (goodIn_of _ (by decide +kernel)) ggX2_inverse_X2_signs
set_option maxRecDepth 20000 in
theorem ggX2_inverse_X0_setFlags : GoodIn wsX2_inverse wsX0_setFlags := goodIn_r _ [10, 11, 13] (by decide +kernel) (by decide +kernel)
set_option maxRecDepth 20000 in
theorem gX2_inverse_X0_setFlags : GoodIn wsX2_inverse (wsV RX2 21 RX0 yX0_setFlags wsX0_setFlags) := goodIn_app (goodIn_of _ (by decide +kernel)) ggX2_inverse_X0_setFlags
theorem dX2_inverse_0 : decode cX2_inverse 0 = .ok (.sipush 255, 3) := by decide +kernel
theorem dX2_inverse_3 : decode cX2_inverse 3 = .ok (.iload_n 1, 1) := by decide +kernel
theorem dX2_inverse_4 : decode cX2_inverse 4 = .ok (.isub, 1) := by decide +kernel
theorem dX2_inverse_5 : decode cX2_inverse 5 = .ok (.istore_n 2, 1) := by decide +kernel
theorem dX2_inverse_6 : decode cX2_inverse 6 = .ok (.aload_n 0, 1) := by decide +kernel
theorem dX2_inverse_7 : decode cX2_inverse 7 = .ok (.getfield 13, 3) := by decide +kernel
theorem dX2_inverse_10 : decode cX2_inverse 10 = .ok (.bipush 31, 2) := by decide +kernel
theorem dX2_inverse_12 : decode cX2_inverse 12 = .ok (.iload_n 2, 1) := by decide +kernel
theorem dX2_inverse_13 : decode cX2_inverse 13 = .ok (.iconst 0, 1) := by decide +kernel
theorem dX2_inverse_14 : decode cX2_inverse 14 = .ok (.invokestatic 17, 3) := by decide +kernel
theorem dX2_inverse_17 : decode cX2_inverse 17 = .ok (.iconst 1, 1) := by decide +kernel
theorem dX2_inverse_18 : decode cX2_inverse 18 = .ok (.ior, 1) := by decide +kernel
theorem dX2_inverse_19 : decode cX2_inverse 19 = .ok (.invokevirtual 21, 3) := by decide +kernel
theorem dX2_inverse_22 : decode cX2_inverse 22 = .ok (.iload_n 2, 1) := by decide +kernel
theorem dX2_inverse_23 : decode cX2_inverse 23 = .ok (.ireturn, 1) := by decide +kernel
set_option maxRecDepth 20000 in
theorem ggX2_more_X2_signs : GoodIn wsX2_more wsX2_signs := goodIn_r _ [5] (by decide +kernel) (by decide +kernel)
set_option maxRecDepth 20000 in
theorem gX2_more_X2_signs : GoodIn wsX2_more (va_wsS RX2 17 yX2_signs wsX2_signs) := goodIn_app (goodIn_of _ (by decide +kernel)) ggX2_more_X2_signs
set_option maxRecDepth 20000 in
theorem ggX2_more_X0_setFlags : GoodIn wsX2_more wsX0_setFlags := goodIn_r _ [10, 11, 13] (by decide +kernel) (by decide +kernel)
set_option maxRecDepth 20000 in
theorem gX2_more_X0_setFlags : GoodIn wsX2_more (wsV RX2 21 RX0 yX0_setFlags wsX0_setFlags) := goodIn_app (goodIn_of _ (by decide +kernel)) ggX2_more_X0_setFlags
theorem dX2_more_0 : decode cX2_more 0 = .ok (.iload_n 1, 1) := by decide +kernel
theorem dX2_more_1 : decode cX2_more 1 = .ok (.iconst 1, 1) := by decide +kernel
theorem dX2_more_2 : decode cX2_more 2 = .ok (.iadd, 1) := by decide +kernel
theorem dX2_more_3 : decode cX2_more 3 = .ok (.sipush 255, 3) := by decide +kernel
theorem dX2_more_6 : decode cX2_more 6 = .ok (.iand, 1) := by decide +kernel
theorem dX2_more_7 : decode cX2_more 7 = .ok (.istore_n 2, 1) := by decide +kernel
theorem dX2_more_8 : decode cX2_more 8 = .ok (.aload_n 0, 1) := by decide +kernel
theorem dX2_more_9 : decode cX2_more 9 = .ok (.getfield 13, 3) := by decide +kernel
theorem dX2_more_12 : decode cX2_more 12 = .ok (.bipush 30, 2) := by decide +kernel
theorem dX2_more_14 : decode cX2_more 14 = .ok (.iload_n 2, 1) := by decide +kernel
theorem dX2_more_15 : decode cX2_more 15 = .ok (.iload_n 2, 1) := by decide +kernel
theorem dX2_more_16 : decode cX2_more 16 = .ok (.sipush 128, 3) := by decide +kernel
theorem dX2_more_19 : decode cX2_more 19 = .ok (.if_icmp .ne 7, 3) := by decide +kernel
theorem dX2_more_22 : decode cX2_more 22 = .ok (.iconst 1, 1) := by decide +kernel
theorem dX2_more_23 : decode cX2_more 23 = .ok (.goto 4, 3) := by decide +kernel
theorem dX2_more_26 : decode cX2_more 26 = .ok (.iconst 0, 1) := by decide +kernel
theorem dX2_more_27 : decode cX2_more 27 = .ok (.invokestatic 17, 3) := by decide +kernel
theorem dX2_more_30 : decode cX2_more 30 = .ok (.invokevirtual 21, 3) := by decide +kernel
theorem dX2_more_33 : decode cX2_more 33 = .ok (.iload_n 2, 1) := by decide +kernel
theorem dX2_more_34 : decode cX2_more 34 = .ok (.ireturn, 1) := by decide +kernel
set_option maxRecDepth 20000 in
theorem ggX2_less_X2_signs : GoodIn wsX2_less wsX2_signs := goodIn_r _ [5] (by decide +kernel) (by decide +kernel)
set_option maxRecDepth 20000 in
theorem gX2_less_X2_signs : GoodIn wsX2_less (va_wsS RX2 17 yX2_signs wsX2_signs) := goodIn_app (goodIn_of _ (by decide +kernel)) ggX2_less_X2_signs
set_option maxRecDepth 20000 in
theorem ggX2_less_X0_setFlags : GoodIn wsX2_less wsX0_setFlags := goodIn_r _ [10, 11, 13] (by decide +kernel) (by decide +kernel)
set_option maxRecDepth 20000 in
theorem gX2_less_X0_setFlags : GoodIn wsX2_less (wsV RX2 21 RX0 yX0_setFlags wsX0_setFlags) := goodIn_app (goodIn_of _ (by decide +kernel)) ggX2_less_X0_setFlags
theorem dX2_less_0 : decode cX2_less 0 = .ok (.iload_n 1, 1) := by decide +kernel
theorem dX2_less_1 : decode cX2_less 1 = .ok (.iconst 1, 1) := by decide +kernel
theorem dX2_less_2 : decode cX2_less 2 = .ok (.isub, 1) := by decide +kernel
theorem dX2_less_3 : decode cX2_less 3 = .ok (.sipush 255, 3) := by decide +kernel
theorem dX2_less_6 : decode cX2_less 6 = .ok (.iand, 1) := by decide +kernel
theorem dX2_less_7 : decode cX2_less 7 = .ok (.istore_n 2, 1) := by decide +kernel
theorem dX2_less_8 : decode cX2_less 8 = .ok (.aload_n 0, 1) := by decide +kernel
theorem dX2_less_9 : decode cX2_less 9 = .ok (.getfield 13, 3) := by decide +kernel
theorem dX2_less_12 : decode cX2_less 12 = .ok (.bipush 30, 2) := by decide +kernel
theorem dX2_less_14 : decode cX2_less 14 = .ok (.iload_n 2, 1) := by decide +kernel
theorem dX2_less_15 : decode cX2_less 15 = .ok (.iload_n 2, 1) := by decide +kernel
theorem dX2_less_16 : decode cX2_less 16 = .ok (.bipush 127, 2) := by decide +kernel
theorem dX2_less_18 : decode cX2_less 18 = .ok (.if_icmp .ne 7, 3) := by decide +kernel
theorem dX2_less_21 : decode cX2_less 21 = .ok (.iconst 1, 1) := by decide +kernel
theorem dX2_less_22 : decode cX2_less 22 = .ok (.goto 4, 3) := by decide +kernel
theorem dX2_less_25 : decode cX2_less 25 = .ok (.iconst 0, 1) := by decide +kernel
theorem dX2_less_26 : decode cX2_less 26 = .ok (.invokestatic 17, 3) := by decide +kernel
theorem dX2_less_29 : decode cX2_less 29 = .ok (.invokevirtual 21, 3) := by decide +kernel
theorem dX2_less_32 : decode cX2_less 32 = .ok (.iload_n 2, 1) := by decide +kernel
theorem dX2_less_33 : decode cX2_less 33 = .ok (.ireturn, 1) := by decide +kernel
set_option maxRecDepth 20000 in
theorem ggX2_right_X2_signs : GoodIn wsX2_right wsX2_signs := goodIn_r _ [5] (by decide +kernel) (by decide +kernel)
set_option maxRecDepth 20000 in
theorem gX2_right_X2_signs : GoodIn wsX2_right (va_wsS RX2 17 yX2_signs wsX2_signs) := goodIn_app (goodIn_of _ (by decide +kernel)) ggX2_right_X2_signs
set_option maxRecDepth 20000 in
theorem ggX2_right_X0_setFlags : GoodIn wsX2_right wsX0_setFlags := goodIn_r _ [10, 11, 13] (by decide +kernel) (by decide +kernel)
set_option maxRecDepth 20000 in
theorem gX2_right_X0_setFlags : GoodIn wsX2_right (wsV RX2 21 RX0 yX0_setFlags wsX0_setFlags) := goodIn_app (goodIn_of _ (by decide +kernel)) ggX2_right_X0_setFlags
theorem dX2_right_0 : decode cX2_right 0 = .ok (.iload_n 1, 1) := by decide +kernel
theorem dX2_right_1 : decode cX2_right 1 = .ok (.iconst 1, 1) := by decide +kernel
theorem dX2_right_2 : decode cX2_right 2 = .ok (.ishr, 1) := by decide +kernel
theorem dX2_right_3 : decode cX2_right 3 = .ok (.iload_n 2, 1) := by decide +kernel
theorem dX2_right_4 : decode cX2_right 4 = .ok (.bipush 7, 2) := by decide +kernel
theorem dX2_right_6 : decode cX2_right 6 = .ok (.ishl, 1) := by decide +kernel
theorem dX2_right_7 : decode cX2_right 7 = .ok (.ior, 1) := by decide +kernel
theorem dX2_right_8 : decode cX2_right 8 = .ok (.istore_n 3, 1) := by decide +kernel
theorem dX2_right_9 : decode cX2_right 9 = .ok (.iload_n 1, 1) := by decide +kernel
theorem dX2_right_10 : decode cX2_right 10 = .ok (.iconst 1, 1) := by decide +kernel
theorem dX2_right_11 : decode cX2_right 11 = .ok (.iand, 1) := by decide +kernel
theorem dX2_right_12 : decode cX2_right 12 = .ok (.istore 4, 2) := by decide +kernel
theorem dX2_right_14 : decode cX2_right 14 = .ok (.aload_n 0, 1) := by decide +kernel
theorem dX2_right_15 : decode cX2_right 15 = .ok (.getfield 13, 3) := by decide +kernel
theorem dX2_right_18 : decode cX2_right 18 = .ok (.bipush 31, 2) := by decide +kernel
theorem dX2_right_20 : decode cX2_right 20 = .ok (.iload_n 3, 1) := by decide +kernel
theorem dX2_right_21 : decode cX2_right 21 = .ok (.iload_n 2, 1) := by decide +kernel
theorem dX2_right_22 : decode cX2_right 22 = .ok (.iload 4, 2) := by decide +kernel
theorem dX2_right_24 : decode cX2_right 24 = .ok (.if_icmp .eq 7, 3) := by decide +kernel
theorem dX2_right_27 : decode cX2_right 27 = .ok (.iconst 1, 1) := by decide +kernel
theorem dX2_right_28 : decode cX2_right 28 = .ok (.goto 4, 3) := by decide +kernel
theorem dX2_right_31 : decode cX2_right 31 = .ok (.iconst 0, 1) := by decide +kernel
theorem dX2_right_32 : decode cX2_right 32 = .ok (.invokestatic 17, 3) := by decide +kernel
theorem dX2_right_35 : decode cX2_right 35 = .ok (.iload 4, 2) := by decide +kernel
theorem dX2_right_37 : decode cX2_right 37 = .ok (.iconst 1, 1) := by decide +kernel
theorem dX2_right_38 : decode cX2_right 38 = .ok (.if_icmp .ne 7, 3) := by decide +kernel
theorem dX2_right_41 : decode cX2_right 41 = .ok (.iconst 1, 1) := by decide +kernel
theorem dX2_right_42 : decode cX2_right 42 = .ok (.goto 4, 3) := by decide +kernel
theorem dX2_right_45 : decode cX2_right 45 = .ok (.iconst 0, 1) := by decide +kernel
theorem dX2_right_46 : decode cX2_right 46 = .ok (.ior, 1) := by decide +kernel
theorem dX2_right_47 : decode cX2_right 47 = .ok (.invokevirtual 21, 3) := by decide +kernel
theorem dX2_right_50 : decode cX2_right 50 = .ok (.iload_n 3, 1) := by decide +kernel
theorem dX2_right_51 : decode cX2_right 51 = .ok (.ireturn, 1) := by decide +kernel
set_option maxRecDepth 20000 in
theorem ggX2_pairMore_X2_pairFlags : GoodIn wsX2_pairMore wsX2_pairFlags := goodIn_r _ [6, 7, 8, 9, 10, 5, 11, 12, 13, 14, 15, 16, 17, 18, 19] (by decide +kernel) (by decide +kernel)
set_option maxRecDepth 20000 in
theorem gX2_pairMore_X2_pairFlags : GoodIn wsX2_pairMore (wsV RX2 36 RX2 yX2_pairFlags wsX2_pairFlags) := goodIn_app (goodIn_of _ (by decide +kernel)) ggX2_pairMore_X2_pairFlags
theorem dX2_pairMore_0 : decode cX2_pairMore 0 = .ok (.iload_n 1, 1) := by decide +kernel
theorem dX2_pairMore_1 : decode cX2_pairMore 1 = .ok (.iload_n 2, 1) := by decide +kernel
theorem dX2_pairMore_2 : decode cX2_pairMore 2 = .ok (.iadd, 1) := by decide +kernel
theorem dX2_pairMore_3 : decode cX2_pairMore 3 = .ok (.ldc 35, 2) := by decide +kernel
theorem dX2_pairMore_5 : decode cX2_pairMore 5 = .ok (.iand, 1) := by decide +kernel
theorem dX2_pairMore_6 : decode cX2_pairMore 6 = .ok (.istore_n 3, 1) := by decide +kernel
theorem dX2_pairMore_7 : decode cX2_pairMore 7 = .ok (.aload_n 0, 1) := by decide +kernel
theorem dX2_pairMore_8 : decode cX2_pairMore 8 = .ok (.iload_n 3, 1) := by decide +kernel
theorem dX2_pairMore_9 : decode cX2_pairMore 9 = .ok (.iload_n 1, 1) := by decide +kernel
theorem dX2_pairMore_10 : decode cX2_pairMore 10 = .ok (.iconst (-1), 1) := by decide +kernel
theorem dX2_pairMore_11 : decode cX2_pairMore 11 = .ok (.ixor, 1) := by decide +kernel
theorem dX2_pairMore_12 : decode cX2_pairMore 12 = .ok (.iload_n 3, 1) := by decide +kernel
theorem dX2_pairMore_13 : decode cX2_pairMore 13 = .ok (.iand, 1) := by decide +kernel
theorem dX2_pairMore_14 : decode cX2_pairMore 14 = .ok (.iload_n 1, 1) := by decide +kernel
theorem dX2_pairMore_15 : decode cX2_pairMore 15 = .ok (.iload_n 3, 1) := by decide +kernel
theorem dX2_pairMore_16 : decode cX2_pairMore 16 = .ok (.iconst (-1), 1) := by decide +kernel
theorem dX2_pairMore_17 : decode cX2_pairMore 17 = .ok (.ixor, 1) := by decide +kernel
theorem dX2_pairMore_18 : decode cX2_pairMore 18 = .ok (.iand, 1) := by decide +kernel
theorem dX2_pairMore_19 : decode cX2_pairMore 19 = .ok (.invokevirtual 36, 3) := by decide +kernel
theorem dX2_pairMore_22 : decode cX2_pairMore 22 = .ok (.iload_n 3, 1) := by decide +kernel
theorem dX2_pairMore_23 : decode cX2_pairMore 23 = .ok (.ireturn, 1) := by decide +kernel
set_option maxRecDepth 20000 in
theorem ggX2_pairLess_X2_pairFlags : GoodIn wsX2_pairLess wsX2_pairFlags := goodIn_r _ [6, 7, 8, 9, 10, 5, 11, 12, 13, 14, 15, 16, 17, 18, 19] (by decide +kernel) (by decide +kernel)
set_option maxRecDepth 20000 in
theorem gX2_pairLess_X2_pairFlags : GoodIn wsX2_pairLess (wsV RX2 36 RX2 yX2_pairFlags wsX2_pairFlags) := goodIn_app (goodIn_of _ (by decide +kernel)) ggX2_pairLess_X2_pairFlags
theorem dX2_pairLess_0 : decode cX2_pairLess 0 = .ok (.iload_n 1, 1) := by decide +kernel
theorem dX2_pairLess_1 : decode cX2_pairLess 1 = .ok (.iload_n 2, 1) := by decide +kernel
theorem dX2_pairLess_2 : decode cX2_pairLess 2 = .ok (.isub, 1) := by decide +kernel
theorem dX2_pairLess_3 : decode cX2_pairLess 3 = .ok (.ldc 35, 2) := by decide +kernel
theorem dX2_pairLess_5 : decode cX2_pairLess 5 = .ok (.iand, 1) := by decide +kernel
theorem dX2_pairLess_6 : decode cX2_pairLess 6 = .ok (.istore_n 3, 1) := by decide +kernel
theorem dX2_pairLess_7 : decode cX2_pairLess 7 = .ok (.aload_n 0, 1) := by decide +kernel
theorem dX2_pairLess_8 : decode cX2_pairLess 8 = .ok (.iload_n 3, 1) := by decide +kernel
theorem dX2_pairLess_9 : decode cX2_pairLess 9 = .ok (.iload_n 1, 1) := by decide +kernel
theorem dX2_pairLess_10 : decode cX2_pairLess 10 = .ok (.iload_n 3, 1) := by decide +kernel
theorem dX2_pairLess_11 : decode cX2_pairLess 11 = .ok (.iconst (-1), 1) := by decide +kernel
theorem dX2_pairLess_12 : decode cX2_pairLess 12 = .ok (.ixor, 1) := by decide +kernel
theorem dX2_pairLess_13 : decode cX2_pairLess 13 = .ok (.iand, 1) := by decide +kernel
theorem dX2_pairLess_14 : decode cX2_pairLess 14 = .ok (.iload_n 1, 1) := by decide +kernel
theorem dX2_pairLess_15 : decode cX2_pairLess 15 = .ok (.iconst (-1), 1) := by decide +kernel
theorem dX2_pairLess_16 : decode cX2_pairLess 16 = .ok (.ixor, 1) := by decide +kernel
theorem dX2_pairLess_17 : decode cX2_pairLess 17 = .ok (.iload_n 3, 1) := by decide +kernel
theorem dX2_pairLess_18 : decode cX2_pairLess 18 = .ok (.iand, 1) := by decide +kernel
theorem dX2_pairLess_19 : decode cX2_pairLess 19 = .ok (.invokevirtual 36, 3) := by decide +kernel
theorem dX2_pairLess_22 : decode cX2_pairLess 22 = .ok (.iload_n 3, 1) := by decide +kernel
theorem dX2_pairLess_23 : decode cX2_pairLess 23 = .ok (.ireturn, 1) := by decide +kernel
set_option maxRecDepth 20000 in
theorem ggX2_pairFlags_X2_signs : GoodIn wsX2_pairFlags wsX2_signs := goodIn_r _ [6] (by decide +kernel) (by decide +kernel)
set_option maxRecDepth 20000 in
theorem gX2_pairFlags_X2_signs : GoodIn wsX2_pairFlags (va_wsS RX2 17 yX2_signs wsX2_signs) := goodIn_app (goodIn_of _ (by decide +kernel)) ggX2_pairFlags_X2_signs
set_option maxRecDepth 20000 in
theorem ggX2_pairFlags_X0_setFlags : GoodIn wsX2_pairFlags wsX0_setFlags := goodIn_r _ [11, 12, 14] (by decide +kernel) (by decide +kernel)
set_option maxRecDepth 20000 in
theorem gX2_pairFlags_X0_setFlags : GoodIn wsX2_pairFlags (wsV RX2 21 RX0 yX0_setFlags wsX0_setFlags) := goodIn_app (goodIn_of _ (by decide +kernel)) ggX2_pairFlags_X0_setFlags
theorem dX2_pairFlags_0 : decode cX2_pairFlags 0 = .ok (.iload_n 1, 1) := by decide +kernel
theorem dX2_pairFlags_1 : decode cX2_pairFlags 1 = .ok (.bipush 8, 2) := by decide +kernel
theorem dX2_pairFlags_3 : decode cX2_pairFlags 3 = .ok (.ishr, 1) := by decide +kernel
theorem dX2_pairFlags_4 : decode cX2_pairFlags 4 = .ok (.iload_n 2, 1) := by decide +kernel
theorem dX2_pairFlags_5 : decode cX2_pairFlags 5 = .ok (.ldc 40, 2) := by decide +kernel
theorem dX2_pairFlags_7 : decode cX2_pairFlags 7 = .ok (.iand, 1) := by decide +kernel
theorem dX2_pairFlags_8 : decode cX2_pairFlags 8 = .ok (.ifCond .eq 7, 3) := by decide +kernel
theorem dX2_pairFlags_11 : decode cX2_pairFlags 11 = .ok (.iconst 1, 1) := by decide +kernel
theorem dX2_pairFlags_12 : decode cX2_pairFlags 12 = .ok (.goto 4, 3) := by decide +kernel
theorem dX2_pairFlags_15 : decode cX2_pairFlags 15 = .ok (.iconst 0, 1) := by decide +kernel
theorem dX2_pairFlags_16 : decode cX2_pairFlags 16 = .ok (.invokestatic 17, 3) := by decide +kernel
theorem dX2_pairFlags_19 : decode cX2_pairFlags 19 = .ok (.bipush (-3), 2) := by decide +kernel
theorem dX2_pairFlags_21 : decode cX2_pairFlags 21 = .ok (.iand, 1) := by decide +kernel
theorem dX2_pairFlags_22 : decode cX2_pairFlags 22 = .ok (.istore 4, 2) := by decide +kernel
theorem dX2_pairFlags_24 : decode cX2_pairFlags 24 = .ok (.aload_n 0, 1) := by decide +kernel
theorem dX2_pairFlags_25 : decode cX2_pairFlags 25 = .ok (.getfield 13, 3) := by decide +kernel
theorem dX2_pairFlags_28 : decode cX2_pairFlags 28 = .ok (.bipush 31, 2) := by decide +kernel
theorem dX2_pairFlags_30 : decode cX2_pairFlags 30 = .ok (.iload 4, 2) := by decide +kernel
theorem dX2_pairFlags_32 : decode cX2_pairFlags 32 = .ok (.iload_n 1, 1) := by decide +kernel
theorem dX2_pairFlags_33 : decode cX2_pairFlags 33 = .ok (.ifCond .ne 7, 3) := by decide +kernel
theorem dX2_pairFlags_36 : decode cX2_pairFlags 36 = .ok (.iconst 2, 1) := by decide +kernel
theorem dX2_pairFlags_37 : decode cX2_pairFlags 37 = .ok (.goto 4, 3) := by decide +kernel
theorem dX2_pairFlags_40 : decode cX2_pairFlags 40 = .ok (.iconst 0, 1) := by decide +kernel
theorem dX2_pairFlags_41 : decode cX2_pairFlags 41 = .ok (.ior, 1) := by decide +kernel
theorem dX2_pairFlags_42 : decode cX2_pairFlags 42 = .ok (.iload_n 3, 1) := by decide +kernel
theorem dX2_pairFlags_43 : decode cX2_pairFlags 43 = .ok (.ldc 40, 2) := by decide +kernel
theorem dX2_pairFlags_45 : decode cX2_pairFlags 45 = .ok (.iand, 1) := by decide +kernel
theorem dX2_pairFlags_46 : decode cX2_pairFlags 46 = .ok (.ifCond .eq 7, 3) := by decide +kernel
theorem dX2_pairFlags_49 : decode cX2_pairFlags 49 = .ok (.iconst 1, 1) := by decide +kernel
theorem dX2_pairFlags_50 : decode cX2_pairFlags 50 = .ok (.goto 4, 3) := by decide +kernel
theorem dX2_pairFlags_53 : decode cX2_pairFlags 53 = .ok (.iconst 0, 1) := by decide +kernel
theorem dX2_pairFlags_54 : decode cX2_pairFlags 54 = .ok (.ior, 1) := by decide +kernel
theorem dX2_pairFlags_55 : decode cX2_pairFlags 55 = .ok (.invokevirtual 21, 3) := by decide +kernel
theorem dX2_pairFlags_58 : decode cX2_pairFlags 58 = .ok (.return_, 1) := by decide +kernel
set_option maxRecDepth 20000 in
theorem ggX2_product_X2_keepProduct : GoodIn wsX2_product wsX2_keepProduct := goodIn_r _ [5, 6, 7, 8, 9, 10, 11, 12, 13, 14, 15, 16, 17, 18, 19, 20] (by decide +kernel) (by decide +kernel)
set_option maxRecDepth 20000 in
theorem gX2_product_X2_keepProduct : GoodIn wsX2_product (wsV RX2 41 RX2 yX2_keepProduct wsX2_keepProduct) := goodIn_app (goodIn_of _ (by decide +kernel)) ggX2_product_X2_keepProduct
theorem dX2_product_0 : decode cX2_product 0 = .ok (.aload_n 0, 1) := by decide +kernel
theorem dX2_product_1 : decode cX2_product 1 = .ok (.iload_n 1, 1) := by decide +kernel
theorem dX2_product_2 : decode cX2_product 2 = .ok (.iload_n 1, 1) := by decide +kernel
theorem dX2_product_3 : decode cX2_product 3 = .ok (.invokevirtual 41, 3) := by decide +kernel
theorem dX2_product_6 : decode cX2_product 6 = .ok (.return_, 1) := by decide +kernel
set_option maxRecDepth 20000 in
theorem ggX2_fraction_X2_keepProduct : GoodIn wsX2_fraction wsX2_keepProduct := goodIn_r _ [5, 6, 7, 8, 9, 10, 11, 12, 13, 14, 15, 16, 17, 18, 19, 20] (by decide +kernel) (by decide +kernel)
set_option maxRecDepth 20000 in
theorem gX2_fraction_X2_keepProduct : GoodIn wsX2_fraction (wsV RX2 41 RX2 yX2_keepProduct wsX2_keepProduct) := goodIn_app (goodIn_of _ (by decide +kernel)) ggX2_fraction_X2_keepProduct
theorem dX2_fraction_0 : decode cX2_fraction 0 = .ok (.aload_n 0, 1) := by decide +kernel
theorem dX2_fraction_1 : decode cX2_fraction 1 = .ok (.iload_n 1, 1) := by decide +kernel
theorem dX2_fraction_2 : decode cX2_fraction 2 = .ok (.iload_n 1, 1) := by decide +kernel
theorem dX2_fraction_3 : decode cX2_fraction 3 = .ok (.iconst 1, 1) := by decide +kernel
theorem dX2_fraction_4 : decode cX2_fraction 4 = .ok (.ishl, 1) := by decide +kernel
theorem dX2_fraction_5 : decode cX2_fraction 5 = .ok (.invokevirtual 41, 3) := by decide +kernel
theorem dX2_fraction_8 : decode cX2_fraction 8 = .ok (.return_, 1) := by decide +kernel
set_option maxRecDepth 20000 in
theorem ggX2_keepProduct_X0_setPair : GoodIn wsX2_keepProduct wsX0_setPair := goodIn_r _ [8, 9, 15] (by decide +kernel) (by decide +kernel)
set_option maxRecDepth 20000 in
theorem gX2_keepProduct_X0_setPair : GoodIn wsX2_keepProduct (wsV RX2 44 RX0 yX0_setPair wsX0_setPair) := goodIn_app (goodIn_of _ (by decide +kernel)) ggX2_keepProduct_X0_setPair
set_option maxRecDepth 20000 in
theorem ggX2_keepProduct_X0_setFlags : GoodIn wsX2_keepProduct wsX0_setFlags := goodIn_r _ [13, 9, 15] (by decide +kernel) (by decide +kernel)
set_option maxRecDepth 20000 in
theorem gX2_keepProduct_X0_setFlags : GoodIn wsX2_keepProduct (wsV RX2 21 RX0 yX0_setFlags wsX0_setFlags) := goodIn_app (goodIn_of _ (by decide +kernel)) ggX2_keepProduct_X0_setFlags
theorem dX2_keepProduct_0 : decode cX2_keepProduct 0 = .ok (.aload_n 0, 1) := by decide +kernel
theorem dX2_keepProduct_1 : decode cX2_keepProduct 1 = .ok (.getfield 13, 3) := by decide +kernel
theorem dX2_keepProduct_4 : decode cX2_keepProduct 4 = .ok (.iconst 0, 1) := by decide +kernel
theorem dX2_keepProduct_5 : decode cX2_keepProduct 5 = .ok (.iload_n 2, 1) := by decide +kernel
theorem dX2_keepProduct_6 : decode cX2_keepProduct 6 = .ok (.invokevirtual 44, 3) := by decide +kernel
theorem dX2_keepProduct_9 : decode cX2_keepProduct 9 = .ok (.aload_n 0, 1) := by decide +kernel
theorem dX2_keepProduct_10 : decode cX2_keepProduct 10 = .ok (.getfield 13, 3) := by decide +kernel
theorem dX2_keepProduct_13 : decode cX2_keepProduct 13 = .ok (.iconst 3, 1) := by decide +kernel
theorem dX2_keepProduct_14 : decode cX2_keepProduct 14 = .ok (.iload_n 1, 1) := by decide +kernel
theorem dX2_keepProduct_15 : decode cX2_keepProduct 15 = .ok (.ldc 40, 2) := by decide +kernel
theorem dX2_keepProduct_17 : decode cX2_keepProduct 17 = .ok (.iand, 1) := by decide +kernel
theorem dX2_keepProduct_18 : decode cX2_keepProduct 18 = .ok (.ifCond .eq 7, 3) := by decide +kernel
theorem dX2_keepProduct_21 : decode cX2_keepProduct 21 = .ok (.iconst 1, 1) := by decide +kernel
theorem dX2_keepProduct_22 : decode cX2_keepProduct 22 = .ok (.goto 4, 3) := by decide +kernel
theorem dX2_keepProduct_25 : decode cX2_keepProduct 25 = .ok (.iconst 0, 1) := by decide +kernel
theorem dX2_keepProduct_26 : decode cX2_keepProduct 26 = .ok (.iload_n 2, 1) := by decide +kernel
theorem dX2_keepProduct_27 : decode cX2_keepProduct 27 = .ok (.ldc 35, 2) := by decide +kernel
theorem dX2_keepProduct_29 : decode cX2_keepProduct 29 = .ok (.iand, 1) := by decide +kernel
theorem dX2_keepProduct_30 : decode cX2_keepProduct 30 = .ok (.ifCond .ne 7, 3) := by decide +kernel
theorem dX2_keepProduct_33 : decode cX2_keepProduct 33 = .ok (.iconst 2, 1) := by decide +kernel
theorem dX2_keepProduct_34 : decode cX2_keepProduct 34 = .ok (.goto 4, 3) := by decide +kernel
theorem dX2_keepProduct_37 : decode cX2_keepProduct 37 = .ok (.iconst 0, 1) := by decide +kernel
theorem dX2_keepProduct_38 : decode cX2_keepProduct 38 = .ok (.ior, 1) := by decide +kernel
theorem dX2_keepProduct_39 : decode cX2_keepProduct 39 = .ok (.invokevirtual 21, 3) := by decide +kernel
theorem dX2_keepProduct_42 : decode cX2_keepProduct 42 = .ok (.return_, 1) := by decide +kernel
theorem dX2_signs_0 : decode cX2_signs 0 = .ok (.iload_n 0, 1) := by decide +kernel
theorem dX2_signs_1 : decode cX2_signs 1 = .ok (.bipush 7, 2) := by decide +kernel
theorem dX2_signs_3 : decode cX2_signs 3 = .ok (.ishr, 1) := by decide +kernel
theorem dX2_signs_4 : decode cX2_signs 4 = .ok (.iconst 1, 1) := by decide +kernel
theorem dX2_signs_5 : decode cX2_signs 5 = .ok (.iand, 1) := by decide +kernel
theorem dX2_signs_6 : decode cX2_signs 6 = .ok (.istore_n 2, 1) := by decide +kernel
theorem dX2_signs_7 : decode cX2_signs 7 = .ok (.iload_n 1, 1) := by decide +kernel
theorem dX2_signs_8 : decode cX2_signs 8 = .ok (.ifCond .eq 7, 3) := by decide +kernel
theorem dX2_signs_11 : decode cX2_signs 11 = .ok (.iconst 1, 1) := by decide +kernel
theorem dX2_signs_12 : decode cX2_signs 12 = .ok (.goto 4, 3) := by decide +kernel
theorem dX2_signs_15 : decode cX2_signs 15 = .ok (.iconst 0, 1) := by decide +kernel
theorem dX2_signs_16 : decode cX2_signs 16 = .ok (.istore_n 3, 1) := by decide +kernel
theorem dX2_signs_17 : decode cX2_signs 17 = .ok (.iload_n 0, 1) := by decide +kernel
theorem dX2_signs_18 : decode cX2_signs 18 = .ok (.ifCond .ne 7, 3) := by decide +kernel
theorem dX2_signs_21 : decode cX2_signs 21 = .ok (.iconst 2, 1) := by decide +kernel
theorem dX2_signs_22 : decode cX2_signs 22 = .ok (.goto 4, 3) := by decide +kernel
theorem dX2_signs_25 : decode cX2_signs 25 = .ok (.iconst 0, 1) := by decide +kernel
theorem dX2_signs_26 : decode cX2_signs 26 = .ok (.iload_n 2, 1) := by decide +kernel
theorem dX2_signs_27 : decode cX2_signs 27 = .ok (.iconst 2, 1) := by decide +kernel
theorem dX2_signs_28 : decode cX2_signs 28 = .ok (.ishl, 1) := by decide +kernel
theorem dX2_signs_29 : decode cX2_signs 29 = .ok (.ior, 1) := by decide +kernel
theorem dX2_signs_30 : decode cX2_signs 30 = .ok (.iload_n 3, 1) := by decide +kernel
theorem dX2_signs_31 : decode cX2_signs 31 = .ok (.iconst 3, 1) := by decide +kernel
theorem dX2_signs_32 : decode cX2_signs 32 = .ok (.ishl, 1) := by decide +kernel
theorem dX2_signs_33 : decode cX2_signs 33 = .ok (.ior, 1) := by decide +kernel
theorem dX2_signs_34 : decode cX2_signs 34 = .ok (.iload_n 2, 1) := by decide +kernel
end
section
theorem dX2_signs_35 : decode cX2_signs 35 = .ok (.iload_n 3, 1) := by decide +kernel
theorem dX2_signs_36 : decode cX2_signs 36 = .ok (.ixor, 1) := by decide +kernel
theorem dX2_signs_37 : decode cX2_signs 37 = .ok (.iconst 4, 1) := by decide +kernel
theorem dX2_signs_38 : decode cX2_signs 38 = .ok (.ishl, 1) := by decide +kernel
theorem dX2_signs_39 : decode cX2_signs 39 = .ok (.ior, 1) := by decide +kernel
theorem dX2_signs_40 : decode cX2_signs 40 = .ok (.ireturn, 1) := by decide +kernel
theorem dX3_d_0 : decode cX3_d 0 = .ok (.iload_n 0, 1) := by decide +kernel
theorem dX3_d_1 : decode cX3_d 1 = .ok (.iconst 4, 1) := by decide +kernel
theorem dX3_d_2 : decode cX3_d 2 = .ok (.ishr, 1) := by decide +kernel
theorem dX3_d_3 : decode cX3_d 3 = .ok (.bipush 31, 2) := by decide +kernel
theorem dX3_d_5 : decode cX3_d 5 = .ok (.iand, 1) := by decide +kernel
theorem dX3_d_6 : decode cX3_d 6 = .ok (.ireturn, 1) := by decide +kernel
theorem dX3_r_0 : decode cX3_r 0 = .ok (.iload_n 0, 1) := by decide +kernel
theorem dX3_r_1 : decode cX3_r 1 = .ok (.iconst 5, 1) := by decide +kernel
theorem dX3_r_2 : decode cX3_r 2 = .ok (.ishr, 1) := by decide +kernel
theorem dX3_r_3 : decode cX3_r 3 = .ok (.bipush 16, 2) := by decide +kernel
theorem dX3_r_5 : decode cX3_r 5 = .ok (.iand, 1) := by decide +kernel
theorem dX3_r_6 : decode cX3_r 6 = .ok (.iload_n 0, 1) := by decide +kernel
theorem dX3_r_7 : decode cX3_r 7 = .ok (.bipush 15, 2) := by decide +kernel
theorem dX3_r_9 : decode cX3_r 9 = .ok (.iand, 1) := by decide +kernel
theorem dX3_r_10 : decode cX3_r 10 = .ok (.ior, 1) := by decide +kernel
theorem dX3_r_11 : decode cX3_r 11 = .ok (.ireturn, 1) := by decide +kernel
theorem dX3_pointer_0 : decode cX3_pointer 0 = .ok (.iload_n 0, 1) := by decide +kernel
theorem dX3_pointer_1 : decode cX3_pointer 1 = .ok (.iconst 2, 1) := by decide +kernel
theorem dX3_pointer_2 : decode cX3_pointer 2 = .ok (.ishr, 1) := by decide +kernel
theorem dX3_pointer_3 : decode cX3_pointer 3 = .ok (.iconst 3, 1) := by decide +kernel
theorem dX3_pointer_4 : decode cX3_pointer 4 = .ok (.iand, 1) := by decide +kernel
theorem dX3_pointer_5 : decode cX3_pointer 5 = .ok (.lookupswitch 33 #[(0, 27), (2, 30)], 27) := by decide +kernel
theorem dX3_pointer_32 : decode cX3_pointer 32 = .ok (.bipush 30, 2) := by decide +kernel
theorem dX3_pointer_34 : decode cX3_pointer 34 = .ok (.ireturn, 1) := by decide +kernel
theorem dX3_pointer_35 : decode cX3_pointer 35 = .ok (.bipush 28, 2) := by decide +kernel
theorem dX3_pointer_37 : decode cX3_pointer 37 = .ok (.ireturn, 1) := by decide +kernel
theorem dX3_pointer_38 : decode cX3_pointer 38 = .ok (.bipush 26, 2) := by decide +kernel
theorem dX3_pointer_40 : decode cX3_pointer 40 = .ok (.ireturn, 1) := by decide +kernel
theorem dX3_hasNext_0 : decode cX3_hasNext 0 = .ok (.iload_n 0, 1) := by decide +kernel
theorem dX3_hasNext_1 : decode cX3_hasNext 1 = .ok (.ldc 9, 2) := by decide +kernel
theorem dX3_hasNext_3 : decode cX3_hasNext 3 = .ok (.iand, 1) := by decide +kernel
theorem dX3_hasNext_4 : decode cX3_hasNext 4 = .ok (.ldc 10, 2) := by decide +kernel
theorem dX3_hasNext_6 : decode cX3_hasNext 6 = .ok (.if_icmp .eq 12, 3) := by decide +kernel
theorem dX3_hasNext_9 : decode cX3_hasNext 9 = .ok (.iload_n 0, 1) := by decide +kernel
theorem dX3_hasNext_10 : decode cX3_hasNext 10 = .ok (.ldc 11, 2) := by decide +kernel
theorem dX3_hasNext_12 : decode cX3_hasNext 12 = .ok (.iand, 1) := by decide +kernel
theorem dX3_hasNext_13 : decode cX3_hasNext 13 = .ok (.ldc 12, 2) := by decide +kernel
theorem dX3_hasNext_15 : decode cX3_hasNext 15 = .ok (.if_icmp .ne 7, 3) := by decide +kernel
theorem dX3_hasNext_18 : decode cX3_hasNext 18 = .ok (.iconst 1, 1) := by decide +kernel
theorem dX3_hasNext_19 : decode cX3_hasNext 19 = .ok (.goto 4, 3) := by decide +kernel
theorem dX3_hasNext_22 : decode cX3_hasNext 22 = .ok (.iconst 0, 1) := by decide +kernel
theorem dX3_hasNext_23 : decode cX3_hasNext 23 = .ok (.ireturn, 1) := by decide +kernel
set_option maxRecDepth 20000 in
theorem ggX3_groupOf_X3_lowGroupOf : GoodIn wsX3_groupOf wsX3_lowGroupOf := goodIn_r _ [4] (by decide +kernel) (by decide +kernel)
set_option maxRecDepth 20000 in
theorem gX3_groupOf_X3_lowGroupOf : GoodIn wsX3_groupOf (va_wsS RX3 13 yX3_lowGroupOf wsX3_lowGroupOf) := goodIn_app (goodIn_of _ (by decide +kernel)) ggX3_groupOf_X3_lowGroupOf
set_option maxRecDepth 20000 in
theorem ggX3_groupOf_X3_mixedGroupOf : GoodIn wsX3_groupOf wsX3_mixedGroupOf := goodIn_r _ [7, 8, 9, 3, 10, 11, 12, 13, 14, 15, 16, 17, 18, 19, 20, 21, 22, 23, 24, 25] (by decide +kernel) (by decide +kernel)
set_option maxRecDepth 20000 in
theorem gX3_groupOf_X3_mixedGroupOf : GoodIn wsX3_groupOf (va_wsS RX3 19 yX3_mixedGroupOf wsX3_mixedGroupOf) := goodIn_app (goodIn_of _ (by decide +kernel)) ggX3_groupOf_X3_mixedGroupOf
set_option maxRecDepth 20000 in
theorem ggX3_groupOf_X3_highGroupOf : GoodIn wsX3_groupOf wsX3_highGroupOf := goodIn_r _ [28] (by decide +kernel) (by decide +kernel)
set_option maxRecDepth 20000 in
theorem gX3_groupOf_X3_highGroupOf : GoodIn wsX3_groupOf (va_wsS RX3 22 yX3_highGroupOf wsX3_highGroupOf) := goodIn_app (goodIn_of _ (by decide +kernel)) ggX3_groupOf_X3_highGroupOf
theorem dX3_groupOf_0 : decode cX3_groupOf 0 = .ok (.iload_n 0, 1) := by decide +kernel
theorem dX3_groupOf_1 : decode cX3_groupOf 1 = .ok (.bipush 12, 2) := by decide +kernel
theorem dX3_groupOf_3 : decode cX3_groupOf 3 = .ok (.ishr, 1) := by decide +kernel
theorem dX3_groupOf_4 : decode cX3_groupOf 4 = .ok (.tableswitch 106 0 15 #[80, 85, 85, 106, 106, 106, 106, 106, 87, 90, 87, 95, 98, 98, 106, 101], 80) := by decide +kernel
theorem dX3_groupOf_84 : decode cX3_groupOf 84 = .ok (.iload_n 0, 1) := by decide +kernel
theorem dX3_groupOf_85 : decode cX3_groupOf 85 = .ok (.invokestatic 13, 3) := by decide +kernel
theorem dX3_groupOf_88 : decode cX3_groupOf 88 = .ok (.ireturn, 1) := by decide +kernel
theorem dX3_groupOf_89 : decode cX3_groupOf 89 = .ok (.iconst 4, 1) := by decide +kernel
theorem dX3_groupOf_90 : decode cX3_groupOf 90 = .ok (.ireturn, 1) := by decide +kernel
theorem dX3_groupOf_91 : decode cX3_groupOf 91 = .ok (.bipush 12, 2) := by decide +kernel
theorem dX3_groupOf_93 : decode cX3_groupOf 93 = .ok (.ireturn, 1) := by decide +kernel
theorem dX3_groupOf_94 : decode cX3_groupOf 94 = .ok (.iload_n 0, 1) := by decide +kernel
theorem dX3_groupOf_95 : decode cX3_groupOf 95 = .ok (.invokestatic 19, 3) := by decide +kernel
theorem dX3_groupOf_98 : decode cX3_groupOf 98 = .ok (.ireturn, 1) := by decide +kernel
theorem dX3_groupOf_99 : decode cX3_groupOf 99 = .ok (.bipush 14, 2) := by decide +kernel
theorem dX3_groupOf_101 : decode cX3_groupOf 101 = .ok (.ireturn, 1) := by decide +kernel
theorem dX3_groupOf_102 : decode cX3_groupOf 102 = .ok (.bipush 19, 2) := by decide +kernel
theorem dX3_groupOf_104 : decode cX3_groupOf 104 = .ok (.ireturn, 1) := by decide +kernel
theorem dX3_groupOf_105 : decode cX3_groupOf 105 = .ok (.iload_n 0, 1) := by decide +kernel
theorem dX3_groupOf_106 : decode cX3_groupOf 106 = .ok (.invokestatic 22, 3) := by decide +kernel
theorem dX3_groupOf_109 : decode cX3_groupOf 109 = .ok (.ireturn, 1) := by decide +kernel
theorem dX3_groupOf_110 : decode cX3_groupOf 110 = .ok (.iconst 5, 1) := by decide +kernel
theorem dX3_groupOf_111 : decode cX3_groupOf 111 = .ok (.ireturn, 1) := by decide +kernel
theorem dX3_lowGroupOf_0 : decode cX3_lowGroupOf 0 = .ok (.iload_n 0, 1) := by decide +kernel
theorem dX3_lowGroupOf_1 : decode cX3_lowGroupOf 1 = .ok (.ifCond .ne 5, 3) := by decide +kernel
theorem dX3_lowGroupOf_4 : decode cX3_lowGroupOf 4 = .ok (.iconst 1, 1) := by decide +kernel
theorem dX3_lowGroupOf_5 : decode cX3_lowGroupOf 5 = .ok (.ireturn, 1) := by decide +kernel
theorem dX3_lowGroupOf_6 : decode cX3_lowGroupOf 6 = .ok (.iload_n 0, 1) := by decide +kernel
theorem dX3_lowGroupOf_7 : decode cX3_lowGroupOf 7 = .ok (.bipush 8, 2) := by decide +kernel
theorem dX3_lowGroupOf_9 : decode cX3_lowGroupOf 9 = .ok (.ishr, 1) := by decide +kernel
theorem dX3_lowGroupOf_10 : decode cX3_lowGroupOf 10 = .ok (.tableswitch 36 0 3 #[30, 32, 34, 34], 30) := by decide +kernel
theorem dX3_lowGroupOf_40 : decode cX3_lowGroupOf 40 = .ok (.iconst 0, 1) := by decide +kernel
theorem dX3_lowGroupOf_41 : decode cX3_lowGroupOf 41 = .ok (.ireturn, 1) := by decide +kernel
theorem dX3_lowGroupOf_42 : decode cX3_lowGroupOf 42 = .ok (.iconst 2, 1) := by decide +kernel
theorem dX3_lowGroupOf_43 : decode cX3_lowGroupOf 43 = .ok (.ireturn, 1) := by decide +kernel
theorem dX3_lowGroupOf_44 : decode cX3_lowGroupOf 44 = .ok (.iconst 3, 1) := by decide +kernel
theorem dX3_lowGroupOf_45 : decode cX3_lowGroupOf 45 = .ok (.ireturn, 1) := by decide +kernel
theorem dX3_lowGroupOf_46 : decode cX3_lowGroupOf 46 = .ok (.iconst 4, 1) := by decide +kernel
theorem dX3_lowGroupOf_47 : decode cX3_lowGroupOf 47 = .ok (.ireturn, 1) := by decide +kernel
set_option maxRecDepth 20000 in
theorem ggX3_mixedGroupOf_X3_memoryGroupOf : GoodIn wsX3_mixedGroupOf wsX3_memoryGroupOf := goodIn_r _ [4, 5, 6, 3, 7, 8, 9, 10, 11, 12, 13] (by decide +kernel) (by decide +kernel)
set_option maxRecDepth 20000 in
theorem gX3_mixedGroupOf_X3_memoryGroupOf : GoodIn wsX3_mixedGroupOf (va_wsS RX3 25 yX3_memoryGroupOf wsX3_memoryGroupOf) := goodIn_app (goodIn_of _ (by decide +kernel)) ggX3_mixedGroupOf_X3_memoryGroupOf
set_option maxRecDepth 20000 in
theorem ggX3_mixedGroupOf_X3_singleGroupOf : GoodIn wsX3_mixedGroupOf wsX3_singleGroupOf := goodIn_r _ [16, 17, 18, 3, 19] (by decide +kernel) (by decide +kernel)
set_option maxRecDepth 20000 in
theorem gX3_mixedGroupOf_X3_singleGroupOf : GoodIn wsX3_mixedGroupOf (va_wsS RX3 28 yX3_singleGroupOf wsX3_singleGroupOf) := goodIn_app (goodIn_of _ (by decide +kernel)) ggX3_mixedGroupOf_X3_singleGroupOf
theorem dX3_mixedGroupOf_0 : decode cX3_mixedGroupOf 0 = .ok (.iload_n 0, 1) := by decide +kernel
theorem dX3_mixedGroupOf_1 : decode cX3_mixedGroupOf 1 = .ok (.bipush 8, 2) := by decide +kernel
theorem dX3_mixedGroupOf_3 : decode cX3_mixedGroupOf 3 = .ok (.ishr, 1) := by decide +kernel
theorem dX3_mixedGroupOf_4 : decode cX3_mixedGroupOf 4 = .ok (.bipush 15, 2) := by decide +kernel
theorem dX3_mixedGroupOf_6 : decode cX3_mixedGroupOf 6 = .ok (.iand, 1) := by decide +kernel
theorem dX3_mixedGroupOf_7 : decode cX3_mixedGroupOf 7 = .ok (.tableswitch 80 0 11 #[61, 61, 61, 61, 66, 66, 71, 71, 74, 77, 74, 77], 61) := by decide +kernel
theorem dX3_mixedGroupOf_68 : decode cX3_mixedGroupOf 68 = .ok (.iload_n 0, 1) := by decide +kernel
theorem dX3_mixedGroupOf_69 : decode cX3_mixedGroupOf 69 = .ok (.invokestatic 25, 3) := by decide +kernel
theorem dX3_mixedGroupOf_72 : decode cX3_mixedGroupOf 72 = .ok (.ireturn, 1) := by decide +kernel
theorem dX3_mixedGroupOf_73 : decode cX3_mixedGroupOf 73 = .ok (.iload_n 0, 1) := by decide +kernel
theorem dX3_mixedGroupOf_74 : decode cX3_mixedGroupOf 74 = .ok (.invokestatic 28, 3) := by decide +kernel
theorem dX3_mixedGroupOf_77 : decode cX3_mixedGroupOf 77 = .ok (.ireturn, 1) := by decide +kernel
theorem dX3_mixedGroupOf_78 : decode cX3_mixedGroupOf 78 = .ok (.bipush 8, 2) := by decide +kernel
theorem dX3_mixedGroupOf_80 : decode cX3_mixedGroupOf 80 = .ok (.ireturn, 1) := by decide +kernel
theorem dX3_mixedGroupOf_81 : decode cX3_mixedGroupOf 81 = .ok (.bipush 15, 2) := by decide +kernel
theorem dX3_mixedGroupOf_83 : decode cX3_mixedGroupOf 83 = .ok (.ireturn, 1) := by decide +kernel
theorem dX3_mixedGroupOf_84 : decode cX3_mixedGroupOf 84 = .ok (.bipush 16, 2) := by decide +kernel
theorem dX3_mixedGroupOf_86 : decode cX3_mixedGroupOf 86 = .ok (.ireturn, 1) := by decide +kernel
theorem dX3_mixedGroupOf_87 : decode cX3_mixedGroupOf 87 = .ok (.iconst 3, 1) := by decide +kernel
theorem dX3_mixedGroupOf_88 : decode cX3_mixedGroupOf 88 = .ok (.ireturn, 1) := by decide +kernel
set_option maxRecDepth 20000 in
theorem ggX3_memoryGroupOf_X3_d : GoodIn wsX3_memoryGroupOf wsX3_d := goodIn_r _ [4] (by decide +kernel) (by decide +kernel)
set_option maxRecDepth 20000 in
theorem gX3_memoryGroupOf_X3_d : GoodIn wsX3_memoryGroupOf (va_wsS RX3 31 yX3_d wsX3_d) := goodIn_app (goodIn_of _ (by decide +kernel)) ggX3_memoryGroupOf_X3_d
set_option maxRecDepth 20000 in
theorem ggX3_memoryGroupOf_X3_pointer : GoodIn wsX3_memoryGroupOf wsX3_pointer := goodIn_r _ [7] (by decide +kernel) (by decide +kernel)
set_option maxRecDepth 20000 in
theorem gX3_memoryGroupOf_X3_pointer : GoodIn wsX3_memoryGroupOf (va_wsS RX3 34 yX3_pointer wsX3_pointer) := goodIn_app (goodIn_of _ (by decide +kernel)) ggX3_memoryGroupOf_X3_pointer
set_option maxRecDepth 20000 in
theorem ggX3_memoryGroupOf_X3_isOneOf : GoodIn wsX3_memoryGroupOf wsX3_isOneOf := goodIn_r _ [10] (by decide +kernel) (by decide +kernel)
set_option maxRecDepth 20000 in
theorem gX3_memoryGroupOf_X3_isOneOf : GoodIn wsX3_memoryGroupOf (va_wsS RX3 37 yX3_isOneOf wsX3_isOneOf) := goodIn_app (goodIn_of _ (by decide +kernel)) ggX3_memoryGroupOf_X3_isOneOf
theorem dX3_memoryGroupOf_0 : decode cX3_memoryGroupOf 0 = .ok (.iload_n 0, 1) := by decide +kernel
theorem dX3_memoryGroupOf_1 : decode cX3_memoryGroupOf 1 = .ok (.bipush 15, 2) := by decide +kernel
theorem dX3_memoryGroupOf_3 : decode cX3_memoryGroupOf 3 = .ok (.iand, 1) := by decide +kernel
theorem dX3_memoryGroupOf_4 : decode cX3_memoryGroupOf 4 = .ok (.tableswitch 152 0 15 #[80, 83, 83, 152, 104, 119, 152, 152, 152, 83, 83, 152, 146, 83, 83, 149], 80) := by decide +kernel
theorem dX3_memoryGroupOf_84 : decode cX3_memoryGroupOf 84 = .ok (.bipush 9, 2) := by decide +kernel
theorem dX3_memoryGroupOf_86 : decode cX3_memoryGroupOf 86 = .ok (.ireturn, 1) := by decide +kernel
theorem dX3_memoryGroupOf_87 : decode cX3_memoryGroupOf 87 = .ok (.iload_n 0, 1) := by decide +kernel
theorem dX3_memoryGroupOf_88 : decode cX3_memoryGroupOf 88 = .ok (.invokestatic 31, 3) := by decide +kernel
theorem dX3_memoryGroupOf_91 : decode cX3_memoryGroupOf 91 = .ok (.iload_n 0, 1) := by decide +kernel
theorem dX3_memoryGroupOf_92 : decode cX3_memoryGroupOf 92 = .ok (.invokestatic 34, 3) := by decide +kernel
theorem dX3_memoryGroupOf_95 : decode cX3_memoryGroupOf 95 = .ok (.invokestatic 37, 3) := by decide +kernel
theorem dX3_memoryGroupOf_98 : decode cX3_memoryGroupOf 98 = .ok (.ifCond .eq 7, 3) := by decide +kernel
theorem dX3_memoryGroupOf_101 : decode cX3_memoryGroupOf 101 = .ok (.iconst 0, 1) := by decide +kernel
theorem dX3_memoryGroupOf_102 : decode cX3_memoryGroupOf 102 = .ok (.goto 5, 3) := by decide +kernel
theorem dX3_memoryGroupOf_105 : decode cX3_memoryGroupOf 105 = .ok (.bipush 10, 2) := by decide +kernel
theorem dX3_memoryGroupOf_107 : decode cX3_memoryGroupOf 107 = .ok (.ireturn, 1) := by decide +kernel
theorem dX3_memoryGroupOf_108 : decode cX3_memoryGroupOf 108 = .ok (.iload_n 0, 1) := by decide +kernel
theorem dX3_memoryGroupOf_109 : decode cX3_memoryGroupOf 109 = .ok (.sipush 512, 3) := by decide +kernel
theorem dX3_memoryGroupOf_112 : decode cX3_memoryGroupOf 112 = .ok (.iand, 1) := by decide +kernel
theorem dX3_memoryGroupOf_113 : decode cX3_memoryGroupOf 113 = .ok (.ifCond .ne 8, 3) := by decide +kernel
theorem dX3_memoryGroupOf_116 : decode cX3_memoryGroupOf 116 = .ok (.bipush 13, 2) := by decide +kernel
theorem dX3_memoryGroupOf_118 : decode cX3_memoryGroupOf 118 = .ok (.goto 4, 3) := by decide +kernel
theorem dX3_memoryGroupOf_121 : decode cX3_memoryGroupOf 121 = .ok (.iconst 0, 1) := by decide +kernel
theorem dX3_memoryGroupOf_122 : decode cX3_memoryGroupOf 122 = .ok (.ireturn, 1) := by decide +kernel
theorem dX3_memoryGroupOf_123 : decode cX3_memoryGroupOf 123 = .ok (.iload_n 0, 1) := by decide +kernel
theorem dX3_memoryGroupOf_124 : decode cX3_memoryGroupOf 124 = .ok (.sipush 512, 3) := by decide +kernel
theorem dX3_memoryGroupOf_127 : decode cX3_memoryGroupOf 127 = .ok (.iand, 1) := by decide +kernel
theorem dX3_memoryGroupOf_128 : decode cX3_memoryGroupOf 128 = .ok (.ifCond .ne 20, 3) := by decide +kernel
theorem dX3_memoryGroupOf_131 : decode cX3_memoryGroupOf 131 = .ok (.iload_n 0, 1) := by decide +kernel
theorem dX3_memoryGroupOf_132 : decode cX3_memoryGroupOf 132 = .ok (.invokestatic 31, 3) := by decide +kernel
theorem dX3_memoryGroupOf_135 : decode cX3_memoryGroupOf 135 = .ok (.bipush 30, 2) := by decide +kernel
theorem dX3_memoryGroupOf_137 : decode cX3_memoryGroupOf 137 = .ok (.invokestatic 37, 3) := by decide +kernel
theorem dX3_memoryGroupOf_140 : decode cX3_memoryGroupOf 140 = .ok (.ifCond .ne 8, 3) := by decide +kernel
theorem dX3_memoryGroupOf_143 : decode cX3_memoryGroupOf 143 = .ok (.bipush 13, 2) := by decide +kernel
theorem dX3_memoryGroupOf_145 : decode cX3_memoryGroupOf 145 = .ok (.goto 4, 3) := by decide +kernel
theorem dX3_memoryGroupOf_148 : decode cX3_memoryGroupOf 148 = .ok (.iconst 0, 1) := by decide +kernel
theorem dX3_memoryGroupOf_149 : decode cX3_memoryGroupOf 149 = .ok (.ireturn, 1) := by decide +kernel
theorem dX3_memoryGroupOf_150 : decode cX3_memoryGroupOf 150 = .ok (.bipush 10, 2) := by decide +kernel
theorem dX3_memoryGroupOf_152 : decode cX3_memoryGroupOf 152 = .ok (.ireturn, 1) := by decide +kernel
theorem dX3_memoryGroupOf_153 : decode cX3_memoryGroupOf 153 = .ok (.bipush 11, 2) := by decide +kernel
theorem dX3_memoryGroupOf_155 : decode cX3_memoryGroupOf 155 = .ok (.ireturn, 1) := by decide +kernel
theorem dX3_memoryGroupOf_156 : decode cX3_memoryGroupOf 156 = .ok (.iconst 0, 1) := by decide +kernel
theorem dX3_memoryGroupOf_157 : decode cX3_memoryGroupOf 157 = .ok (.ireturn, 1) := by decide +kernel
theorem dX3_isOneOf_0 : decode cX3_isOneOf 0 = .ok (.iload_n 0, 1) := by decide +kernel
theorem dX3_isOneOf_1 : decode cX3_isOneOf 1 = .ok (.bipush 30, 2) := by decide +kernel
theorem dX3_isOneOf_3 : decode cX3_isOneOf 3 = .ok (.iand, 1) := by decide +kernel
theorem dX3_isOneOf_4 : decode cX3_isOneOf 4 = .ok (.iload_n 1, 1) := by decide +kernel
theorem dX3_isOneOf_5 : decode cX3_isOneOf 5 = .ok (.if_icmp .ne 7, 3) := by decide +kernel
theorem dX3_isOneOf_8 : decode cX3_isOneOf 8 = .ok (.iconst 1, 1) := by decide +kernel
theorem dX3_isOneOf_9 : decode cX3_isOneOf 9 = .ok (.goto 4, 3) := by decide +kernel
theorem dX3_isOneOf_12 : decode cX3_isOneOf 12 = .ok (.iconst 0, 1) := by decide +kernel
theorem dX3_isOneOf_13 : decode cX3_isOneOf 13 = .ok (.ireturn, 1) := by decide +kernel
set_option maxRecDepth 20000 in
theorem ggX3_singleGroupOf_X3_flagGroupOf : GoodIn wsX3_singleGroupOf wsX3_flagGroupOf := goodIn_r _ [4] (by decide +kernel) (by decide +kernel)
set_option maxRecDepth 20000 in
theorem gX3_singleGroupOf_X3_flagGroupOf : GoodIn wsX3_singleGroupOf (va_wsS RX3 41 yX3_flagGroupOf wsX3_flagGroupOf) := goodIn_app (goodIn_of _ (by decide +kernel)) ggX3_singleGroupOf_X3_flagGroupOf
theorem dX3_singleGroupOf_0 : decode cX3_singleGroupOf 0 = .ok (.iload_n 0, 1) := by decide +kernel
theorem dX3_singleGroupOf_1 : decode cX3_singleGroupOf 1 = .ok (.bipush 15, 2) := by decide +kernel
theorem dX3_singleGroupOf_3 : decode cX3_singleGroupOf 3 = .ok (.iand, 1) := by decide +kernel
theorem dX3_singleGroupOf_4 : decode cX3_singleGroupOf 4 = .ok (.tableswitch 89 4 15 #[64, 89, 89, 89, 66, 71, 89, 64, 86, 86, 86, 86], 64) := by decide +kernel
theorem dX3_singleGroupOf_68 : decode cX3_singleGroupOf 68 = .ok (.iconst 0, 1) := by decide +kernel
theorem dX3_singleGroupOf_69 : decode cX3_singleGroupOf 69 = .ok (.ireturn, 1) := by decide +kernel
theorem dX3_singleGroupOf_70 : decode cX3_singleGroupOf 70 = .ok (.iload_n 0, 1) := by decide +kernel
theorem dX3_singleGroupOf_71 : decode cX3_singleGroupOf 71 = .ok (.invokestatic 41, 3) := by decide +kernel
theorem dX3_singleGroupOf_74 : decode cX3_singleGroupOf 74 = .ok (.ireturn, 1) := by decide +kernel
theorem dX3_singleGroupOf_75 : decode cX3_singleGroupOf 75 = .ok (.iload_n 0, 1) := by decide +kernel
theorem dX3_singleGroupOf_76 : decode cX3_singleGroupOf 76 = .ok (.sipush 240, 3) := by decide +kernel
theorem dX3_singleGroupOf_79 : decode cX3_singleGroupOf 79 = .ok (.iand, 1) := by decide +kernel
theorem dX3_singleGroupOf_80 : decode cX3_singleGroupOf 80 = .ok (.ifCond .ne 8, 3) := by decide +kernel
theorem dX3_singleGroupOf_83 : decode cX3_singleGroupOf 83 = .ok (.bipush 22, 2) := by decide +kernel
theorem dX3_singleGroupOf_85 : decode cX3_singleGroupOf 85 = .ok (.goto 4, 3) := by decide +kernel
theorem dX3_singleGroupOf_88 : decode cX3_singleGroupOf 88 = .ok (.iconst 0, 1) := by decide +kernel
theorem dX3_singleGroupOf_89 : decode cX3_singleGroupOf 89 = .ok (.ireturn, 1) := by decide +kernel
theorem dX3_singleGroupOf_90 : decode cX3_singleGroupOf 90 = .ok (.bipush 21, 2) := by decide +kernel
theorem dX3_singleGroupOf_92 : decode cX3_singleGroupOf 92 = .ok (.ireturn, 1) := by decide +kernel
theorem dX3_singleGroupOf_93 : decode cX3_singleGroupOf 93 = .ok (.bipush 6, 2) := by decide +kernel
theorem dX3_singleGroupOf_95 : decode cX3_singleGroupOf 95 = .ok (.ireturn, 1) := by decide +kernel
theorem dX3_flagGroupOf_0 : decode cX3_flagGroupOf 0 = .ok (.iload_n 0, 1) := by decide +kernel
theorem dX3_flagGroupOf_1 : decode cX3_flagGroupOf 1 = .ok (.sipush 256, 3) := by decide +kernel
theorem dX3_flagGroupOf_4 : decode cX3_flagGroupOf 4 = .ok (.iand, 1) := by decide +kernel
theorem dX3_flagGroupOf_5 : decode cX3_flagGroupOf 5 = .ok (.ifCond .ne 6, 3) := by decide +kernel
theorem dX3_flagGroupOf_8 : decode cX3_flagGroupOf 8 = .ok (.bipush 7, 2) := by decide +kernel
theorem dX3_flagGroupOf_10 : decode cX3_flagGroupOf 10 = .ok (.ireturn, 1) := by decide +kernel
theorem dX3_flagGroupOf_11 : decode cX3_flagGroupOf 11 = .ok (.iload_n 0, 1) := by decide +kernel
theorem dX3_flagGroupOf_12 : decode cX3_flagGroupOf 12 = .ok (.sipush 240, 3) := by decide +kernel
theorem dX3_flagGroupOf_15 : decode cX3_flagGroupOf 15 = .ok (.iand, 1) := by decide +kernel
theorem dX3_flagGroupOf_16 : decode cX3_flagGroupOf 16 = .ok (.lookupswitch 42 #[(0, 36), (16, 36), (192, 39)], 36) := by decide +kernel
theorem dX3_flagGroupOf_52 : decode cX3_flagGroupOf 52 = .ok (.bipush 23, 2) := by decide +kernel
theorem dX3_flagGroupOf_54 : decode cX3_flagGroupOf 54 = .ok (.ireturn, 1) := by decide +kernel
theorem dX3_flagGroupOf_55 : decode cX3_flagGroupOf 55 = .ok (.bipush 13, 2) := by decide +kernel
theorem dX3_flagGroupOf_57 : decode cX3_flagGroupOf 57 = .ok (.ireturn, 1) := by decide +kernel
theorem dX3_flagGroupOf_58 : decode cX3_flagGroupOf 58 = .ok (.iconst 0, 1) := by decide +kernel
theorem dX3_flagGroupOf_59 : decode cX3_flagGroupOf 59 = .ok (.ireturn, 1) := by decide +kernel
theorem dX3_highGroupOf_0 : decode cX3_highGroupOf 0 = .ok (.iload_n 0, 1) := by decide +kernel
theorem dX3_highGroupOf_1 : decode cX3_highGroupOf 1 = .ok (.sipush 2048, 3) := by decide +kernel
theorem dX3_highGroupOf_4 : decode cX3_highGroupOf 4 = .ok (.iand, 1) := by decide +kernel
theorem dX3_highGroupOf_5 : decode cX3_highGroupOf 5 = .ok (.ifCond .ne 6, 3) := by decide +kernel
theorem dX3_highGroupOf_8 : decode cX3_highGroupOf 8 = .ok (.bipush 20, 2) := by decide +kernel
theorem dX3_highGroupOf_10 : decode cX3_highGroupOf 10 = .ok (.ireturn, 1) := by decide +kernel
theorem dX3_highGroupOf_11 : decode cX3_highGroupOf 11 = .ok (.iload_n 0, 1) := by decide +kernel
theorem dX3_highGroupOf_12 : decode cX3_highGroupOf 12 = .ok (.bipush 8, 2) := by decide +kernel
theorem dX3_highGroupOf_14 : decode cX3_highGroupOf 14 = .ok (.iand, 1) := by decide +kernel
theorem dX3_highGroupOf_15 : decode cX3_highGroupOf 15 = .ok (.ifCond .eq 5, 3) := by decide +kernel
theorem dX3_highGroupOf_18 : decode cX3_highGroupOf 18 = .ok (.iconst 0, 1) := by decide +kernel
theorem dX3_highGroupOf_19 : decode cX3_highGroupOf 19 = .ok (.ireturn, 1) := by decide +kernel
theorem dX3_highGroupOf_20 : decode cX3_highGroupOf 20 = .ok (.iload_n 0, 1) := by decide +kernel
theorem dX3_highGroupOf_21 : decode cX3_highGroupOf 21 = .ok (.sipush 1024, 3) := by decide +kernel
theorem dX3_highGroupOf_24 : decode cX3_highGroupOf 24 = .ok (.iand, 1) := by decide +kernel
theorem dX3_highGroupOf_25 : decode cX3_highGroupOf 25 = .ok (.ifCond .ne 8, 3) := by decide +kernel
theorem dX3_highGroupOf_28 : decode cX3_highGroupOf 28 = .ok (.bipush 18, 2) := by decide +kernel
theorem dX3_highGroupOf_30 : decode cX3_highGroupOf 30 = .ok (.goto 5, 3) := by decide +kernel
theorem dX3_highGroupOf_33 : decode cX3_highGroupOf 33 = .ok (.bipush 17, 2) := by decide +kernel
theorem dX3_highGroupOf_35 : decode cX3_highGroupOf 35 = .ok (.ireturn, 1) := by decide +kernel
theorem dJ6_numberOfTrailingZeros_0f7a4_0 : decode cJ6_numberOfTrailingZeros_0f7a4 0 = .ok (.iload_n 0, 1) := by decide +kernel
theorem dJ6_numberOfTrailingZeros_0f7a4_1 : decode cJ6_numberOfTrailingZeros_0f7a4 1 = .ok (.iconst (-1), 1) := by decide +kernel
theorem dJ6_numberOfTrailingZeros_0f7a4_2 : decode cJ6_numberOfTrailingZeros_0f7a4 2 = .ok (.ixor, 1) := by decide +kernel
theorem dJ6_numberOfTrailingZeros_0f7a4_3 : decode cJ6_numberOfTrailingZeros_0f7a4 3 = .ok (.iload_n 0, 1) := by decide +kernel
theorem dJ6_numberOfTrailingZeros_0f7a4_4 : decode cJ6_numberOfTrailingZeros_0f7a4 4 = .ok (.iconst 1, 1) := by decide +kernel
theorem dJ6_numberOfTrailingZeros_0f7a4_5 : decode cJ6_numberOfTrailingZeros_0f7a4 5 = .ok (.isub, 1) := by decide +kernel
theorem dJ6_numberOfTrailingZeros_0f7a4_6 : decode cJ6_numberOfTrailingZeros_0f7a4 6 = .ok (.iand, 1) := by decide +kernel
theorem dJ6_numberOfTrailingZeros_0f7a4_7 : decode cJ6_numberOfTrailingZeros_0f7a4 7 = .ok (.istore_n 0, 1) := by decide +kernel
theorem dJ6_numberOfTrailingZeros_0f7a4_8 : decode cJ6_numberOfTrailingZeros_0f7a4 8 = .ok (.iload_n 0, 1) := by decide +kernel
theorem dJ6_numberOfTrailingZeros_0f7a4_9 : decode cJ6_numberOfTrailingZeros_0f7a4 9 = .ok (.ifCond .gt 8, 3) := by decide +kernel
theorem dJ6_numberOfTrailingZeros_0f7a4_12 : decode cJ6_numberOfTrailingZeros_0f7a4 12 = .ok (.iload_n 0, 1) := by decide +kernel
theorem dJ6_numberOfTrailingZeros_0f7a4_13 : decode cJ6_numberOfTrailingZeros_0f7a4 13 = .ok (.bipush 32, 2) := by decide +kernel
theorem dJ6_numberOfTrailingZeros_0f7a4_15 : decode cJ6_numberOfTrailingZeros_0f7a4 15 = .ok (.iand, 1) := by decide +kernel
theorem dJ6_numberOfTrailingZeros_0f7a4_16 : decode cJ6_numberOfTrailingZeros_0f7a4 16 = .ok (.ireturn, 1) := by decide +kernel
theorem dJ6_numberOfTrailingZeros_0f7a4_17 : decode cJ6_numberOfTrailingZeros_0f7a4 17 = .ok (.iconst 1, 1) := by decide +kernel
theorem dJ6_numberOfTrailingZeros_0f7a4_18 : decode cJ6_numberOfTrailingZeros_0f7a4 18 = .ok (.istore_n 1, 1) := by decide +kernel
theorem dJ6_numberOfTrailingZeros_0f7a4_19 : decode cJ6_numberOfTrailingZeros_0f7a4 19 = .ok (.iload_n 0, 1) := by decide +kernel
theorem dJ6_numberOfTrailingZeros_0f7a4_20 : decode cJ6_numberOfTrailingZeros_0f7a4 20 = .ok (.ldc_w 264, 3) := by decide +kernel
theorem dJ6_numberOfTrailingZeros_0f7a4_23 : decode cJ6_numberOfTrailingZeros_0f7a4 23 = .ok (.if_icmp .le 11, 3) := by decide +kernel
theorem dJ6_numberOfTrailingZeros_0f7a4_26 : decode cJ6_numberOfTrailingZeros_0f7a4 26 = .ok (.iinc 1 16, 3) := by decide +kernel
theorem dJ6_numberOfTrailingZeros_0f7a4_29 : decode cJ6_numberOfTrailingZeros_0f7a4 29 = .ok (.iload_n 0, 1) := by decide +kernel
theorem dJ6_numberOfTrailingZeros_0f7a4_30 : decode cJ6_numberOfTrailingZeros_0f7a4 30 = .ok (.bipush 16, 2) := by decide +kernel
theorem dJ6_numberOfTrailingZeros_0f7a4_32 : decode cJ6_numberOfTrailingZeros_0f7a4 32 = .ok (.iushr, 1) := by decide +kernel
theorem dJ6_numberOfTrailingZeros_0f7a4_33 : decode cJ6_numberOfTrailingZeros_0f7a4 33 = .ok (.istore_n 0, 1) := by decide +kernel
theorem dJ6_numberOfTrailingZeros_0f7a4_34 : decode cJ6_numberOfTrailingZeros_0f7a4 34 = .ok (.iload_n 0, 1) := by decide +kernel
theorem dJ6_numberOfTrailingZeros_0f7a4_35 : decode cJ6_numberOfTrailingZeros_0f7a4 35 = .ok (.sipush 256, 3) := by decide +kernel
theorem dJ6_numberOfTrailingZeros_0f7a4_38 : decode cJ6_numberOfTrailingZeros_0f7a4 38 = .ok (.if_icmp .le 11, 3) := by decide +kernel
theorem dJ6_numberOfTrailingZeros_0f7a4_41 : decode cJ6_numberOfTrailingZeros_0f7a4 41 = .ok (.iinc 1 8, 3) := by decide +kernel
theorem dJ6_numberOfTrailingZeros_0f7a4_44 : decode cJ6_numberOfTrailingZeros_0f7a4 44 = .ok (.iload_n 0, 1) := by decide +kernel
theorem dJ6_numberOfTrailingZeros_0f7a4_45 : decode cJ6_numberOfTrailingZeros_0f7a4 45 = .ok (.bipush 8, 2) := by decide +kernel
theorem dJ6_numberOfTrailingZeros_0f7a4_47 : decode cJ6_numberOfTrailingZeros_0f7a4 47 = .ok (.iushr, 1) := by decide +kernel
theorem dJ6_numberOfTrailingZeros_0f7a4_48 : decode cJ6_numberOfTrailingZeros_0f7a4 48 = .ok (.istore_n 0, 1) := by decide +kernel
theorem dJ6_numberOfTrailingZeros_0f7a4_49 : decode cJ6_numberOfTrailingZeros_0f7a4 49 = .ok (.iload_n 0, 1) := by decide +kernel
theorem dJ6_numberOfTrailingZeros_0f7a4_50 : decode cJ6_numberOfTrailingZeros_0f7a4 50 = .ok (.bipush 16, 2) := by decide +kernel
theorem dJ6_numberOfTrailingZeros_0f7a4_52 : decode cJ6_numberOfTrailingZeros_0f7a4 52 = .ok (.if_icmp .le 10, 3) := by decide +kernel
theorem dJ6_numberOfTrailingZeros_0f7a4_55 : decode cJ6_numberOfTrailingZeros_0f7a4 55 = .ok (.iinc 1 4, 3) := by decide +kernel
theorem dJ6_numberOfTrailingZeros_0f7a4_58 : decode cJ6_numberOfTrailingZeros_0f7a4 58 = .ok (.iload_n 0, 1) := by decide +kernel
theorem dJ6_numberOfTrailingZeros_0f7a4_59 : decode cJ6_numberOfTrailingZeros_0f7a4 59 = .ok (.iconst 4, 1) := by decide +kernel
theorem dJ6_numberOfTrailingZeros_0f7a4_60 : decode cJ6_numberOfTrailingZeros_0f7a4 60 = .ok (.iushr, 1) := by decide +kernel
theorem dJ6_numberOfTrailingZeros_0f7a4_61 : decode cJ6_numberOfTrailingZeros_0f7a4 61 = .ok (.istore_n 0, 1) := by decide +kernel
theorem dJ6_numberOfTrailingZeros_0f7a4_62 : decode cJ6_numberOfTrailingZeros_0f7a4 62 = .ok (.iload_n 0, 1) := by decide +kernel
theorem dJ6_numberOfTrailingZeros_0f7a4_63 : decode cJ6_numberOfTrailingZeros_0f7a4 63 = .ok (.iconst 4, 1) := by decide +kernel
theorem dJ6_numberOfTrailingZeros_0f7a4_64 : decode cJ6_numberOfTrailingZeros_0f7a4 64 = .ok (.if_icmp .le 10, 3) := by decide +kernel
theorem dJ6_numberOfTrailingZeros_0f7a4_67 : decode cJ6_numberOfTrailingZeros_0f7a4 67 = .ok (.iinc 1 2, 3) := by decide +kernel
theorem dJ6_numberOfTrailingZeros_0f7a4_70 : decode cJ6_numberOfTrailingZeros_0f7a4 70 = .ok (.iload_n 0, 1) := by decide +kernel
theorem dJ6_numberOfTrailingZeros_0f7a4_71 : decode cJ6_numberOfTrailingZeros_0f7a4 71 = .ok (.iconst 2, 1) := by decide +kernel
theorem dJ6_numberOfTrailingZeros_0f7a4_72 : decode cJ6_numberOfTrailingZeros_0f7a4 72 = .ok (.iushr, 1) := by decide +kernel
theorem dJ6_numberOfTrailingZeros_0f7a4_73 : decode cJ6_numberOfTrailingZeros_0f7a4 73 = .ok (.istore_n 0, 1) := by decide +kernel
theorem dJ6_numberOfTrailingZeros_0f7a4_74 : decode cJ6_numberOfTrailingZeros_0f7a4 74 = .ok (.iload_n 1, 1) := by decide +kernel
theorem dJ6_numberOfTrailingZeros_0f7a4_75 : decode cJ6_numberOfTrailingZeros_0f7a4 75 = .ok (.iload_n 0, 1) := by decide +kernel
theorem dJ6_numberOfTrailingZeros_0f7a4_76 : decode cJ6_numberOfTrailingZeros_0f7a4 76 = .ok (.iconst 1, 1) := by decide +kernel
theorem dJ6_numberOfTrailingZeros_0f7a4_77 : decode cJ6_numberOfTrailingZeros_0f7a4 77 = .ok (.iushr, 1) := by decide +kernel
theorem dJ6_numberOfTrailingZeros_0f7a4_78 : decode cJ6_numberOfTrailingZeros_0f7a4 78 = .ok (.iadd, 1) := by decide +kernel
theorem dJ6_numberOfTrailingZeros_0f7a4_79 : decode cJ6_numberOfTrailingZeros_0f7a4 79 = .ok (.ireturn, 1) := by decide +kernel
end
section
def fX0_get (a1 : Int32) (u : ST) : Int32 :=
  (rD u (a1 &&& (1023 : Int32)))
theorem fiX0_get_wsX00 : ∀ w ∈ wsX00, w ∈ wsX0_get := fun w h => List.mem_cons_of_mem _ (List.mem_append_right _ h)
theorem fmX0_get_9 : Cond.fieldLink RX0 9 "FlagCore$Bytes" "row" "[I" ∈ wsX0_get := List.mem_of_getElem? (i := 1) rfl
abbrev rmX0_get : Room := { frames := 0, cells := 0, slots := 0, locals := 0 }
set_option maxRecDepth 20000 in
theorem cX0_get_ (h : HX) (hE : okE (EX h)) (a1 : Int32) (u : ST) : MX (EX h) yX0_get wsX0_get rmX0_get [.ref (xB h), .int a1] u (tR u (fX0_get a1 u)) := by
  refine MX.of (cc := cX0_get) (maxL := 2) (ret := (some .int)) (lv := [(0, .ref (xB h)), (1, .int a1)]) hE (by decide) rfl (fun _ => rfl) (Nat.le_of_ble_eq_true rfl) rfl (fun K hC => ?_)
  unfold fX0_get
  refine g_aload_n 0 hC dX0_get_0 0 rfl ?_
  refine x_get_row 1 hC fiX0_get_wsX00 fmX0_get_9 dX0_get_1 ?_
  refine g_iload_n 4 hC dX0_get_4 1 rfl ?_
  refine g_sipush 5 hC (1023 : Int32) dX0_get_5 (by decide) ?_
  refine g_iand 8 hC dX0_get_8 ?_
  refine x_ldD 9 hC (vin_1023 _) dX0_get_9 ?_
  exact g_iret 10 hC dX0_get_10
theorem kX0_get {K : KT} {h : HX} {cc : ByteArray} {nL : Nat} {own : String} {Ts : List Cond} {rm : Room} {ret : Option FieldType} {T : ST × Option Value} {u : ST} {lv : List (Nat × Value)} {rest : List Value} {idx : Nat} {a1 : Int32} (pc : Nat) (hC : Cx K (EX h) cc nL own Ts rm ret) (hT : GoodIn Ts (wsV own idx RX0 yX0_get wsX0_get)) (hR : rmX0_get.frames + 1 ≤ rm.frames ∧ 8 + (2 + 11) + rmX0_get.locals ≤ rm.locals) (hdg : decode cc pc = .ok (.invokevirtual idx, 3)) (hcat : (rest.map fun v => v.category).sum ≤ 8) (kk : G K (EX h) nL T u (pc + 3) lv (.int (fX0_get a1 u) :: rest)) : G K (EX h) nL T u pc lv (.int a1 :: .ref (xB h) :: rest) := g_callV (n := 1) pc hC (As := [.int a1]) (rest := rest) (cX0_get_ _ (Cx.ok hC) a1 u) hT rfl rfl rfl (by decide +kernel) hR 2 0 rfl rfl rfl rfl rfl hcat hdg kk

def fX0_set (a1 : Int32) (a2 : Int32) (u : ST) : ST :=
  (wD u (a1 &&& (1023 : Int32)) (a2 &&& (255 : Int32)))
theorem fiX0_set_wsX00 : ∀ w ∈ wsX00, w ∈ wsX0_set := fun w h => List.mem_cons_of_mem _ (List.mem_append_right _ h)
theorem fmX0_set_9 : Cond.fieldLink RX0 9 "FlagCore$Bytes" "row" "[I" ∈ wsX0_set := List.mem_of_getElem? (i := 1) rfl
abbrev rmX0_set : Room := { frames := 0, cells := 0, slots := 0, locals := 0 }
set_option maxRecDepth 20000 in
theorem cX0_set_ (h : HX) (hE : okE (EX h)) (a1 : Int32) (a2 : Int32) (u : ST) : MX (EX h) yX0_set wsX0_set rmX0_set [.ref (xB h), .int a1, .int a2] u (tS (fX0_set a1 a2 u)) := by
  refine MX.of (cc := cX0_set) (maxL := 3) (ret := none) (lv := [(0, .ref (xB h)), (1, .int a1), (2, .int a2)]) hE (by decide) rfl (fun _ => rfl) (Nat.le_of_ble_eq_true rfl) rfl (fun K hC => ?_)
  unfold fX0_set
  refine g_aload_n 0 hC dX0_set_0 0 rfl ?_
  refine x_get_row 1 hC fiX0_set_wsX00 fmX0_set_9 dX0_set_1 ?_
  refine g_iload_n 4 hC dX0_set_4 1 rfl ?_
  refine g_sipush 5 hC (1023 : Int32) dX0_set_5 (by decide) ?_
  refine g_iand 8 hC dX0_set_8 ?_
  refine g_iload_n 9 hC dX0_set_9 2 rfl ?_
  refine g_sipush 10 hC (255 : Int32) dX0_set_10 (by decide) ?_
  refine g_iand 13 hC dX0_set_13 ?_
  refine x_stD 14 hC (vin_1023 _) dX0_set_14 ?_
  exact g_vret 15 hC dX0_set_15
theorem kX0_set {K : KT} {h : HX} {cc : ByteArray} {nL : Nat} {own : String} {Ts : List Cond} {rm : Room} {ret : Option FieldType} {T : ST × Option Value} {u : ST} {lv : List (Nat × Value)} {rest : List Value} {idx : Nat} {a1 : Int32} {a2 : Int32} (pc : Nat) (hC : Cx K (EX h) cc nL own Ts rm ret) (hT : GoodIn Ts (wsV own idx RX0 yX0_set wsX0_set)) (hR : rmX0_set.frames + 1 ≤ rm.frames ∧ 8 + (3 + 11) + rmX0_set.locals ≤ rm.locals) (hdg : decode cc pc = .ok (.invokevirtual idx, 3)) (hcat : (rest.map fun v => v.category).sum ≤ 8) (kk : G K (EX h) nL T (fX0_set a1 a2 u) (pc + 3) lv (rest)) : G K (EX h) nL T u pc lv (.int a2 :: .int a1 :: .ref (xB h) :: rest) := g_callV (n := 2) pc hC (As := [.int a1, .int a2]) (rest := rest) (cX0_set_ _ (Cx.ok hC) a1 a2 u) hT rfl rfl rfl (by decide +kernel) hR 2 0 rfl rfl rfl rfl rfl hcat hdg kk

def fX0_signed (a1 : Int32) (u : ST) : Int32 :=
  (Int8.toInt32 (Int32.toInt8 (rD u (a1 &&& (1023 : Int32)))))
theorem fiX0_signed_wsX00 : ∀ w ∈ wsX00, w ∈ wsX0_signed := fun w h => List.mem_cons_of_mem _ (List.mem_append_right _ h)
theorem fmX0_signed_9 : Cond.fieldLink RX0 9 "FlagCore$Bytes" "row" "[I" ∈ wsX0_signed := List.mem_of_getElem? (i := 1) rfl
abbrev rmX0_signed : Room := { frames := 0, cells := 0, slots := 0, locals := 0 }
set_option maxRecDepth 20000 in
theorem cX0_signed_ (h : HX) (hE : okE (EX h)) (a1 : Int32) (u : ST) : MX (EX h) yX0_signed wsX0_signed rmX0_signed [.ref (xB h), .int a1] u (tR u (fX0_signed a1 u)) := by
  refine MX.of (cc := cX0_signed) (maxL := 2) (ret := (some .int)) (lv := [(0, .ref (xB h)), (1, .int a1)]) hE (by decide) rfl (fun _ => rfl) (Nat.le_of_ble_eq_true rfl) rfl (fun K hC => ?_)
  unfold fX0_signed
  refine g_aload_n 0 hC dX0_signed_0 0 rfl ?_
  refine x_get_row 1 hC fiX0_signed_wsX00 fmX0_signed_9 dX0_signed_1 ?_
  refine g_iload_n 4 hC dX0_signed_4 1 rfl ?_
  refine g_sipush 5 hC (1023 : Int32) dX0_signed_5 (by decide) ?_
  refine g_iand 8 hC dX0_signed_8 ?_
  refine x_ldD 9 hC (vin_1023 _) dX0_signed_9 ?_
  refine g_i2b 10 hC dX0_signed_10 ?_
  exact g_iret 11 hC dX0_signed_11
theorem kX0_signed {K : KT} {h : HX} {cc : ByteArray} {nL : Nat} {own : String} {Ts : List Cond} {rm : Room} {ret : Option FieldType} {T : ST × Option Value} {u : ST} {lv : List (Nat × Value)} {rest : List Value} {idx : Nat} {a1 : Int32} (pc : Nat) (hC : Cx K (EX h) cc nL own Ts rm ret) (hT : GoodIn Ts (wsV own idx RX0 yX0_signed wsX0_signed)) (hR : rmX0_signed.frames + 1 ≤ rm.frames ∧ 8 + (2 + 11) + rmX0_signed.locals ≤ rm.locals) (hdg : decode cc pc = .ok (.invokevirtual idx, 3)) (hcat : (rest.map fun v => v.category).sum ≤ 8) (kk : G K (EX h) nL T u (pc + 3) lv (.int (fX0_signed a1 u) :: rest)) : G K (EX h) nL T u pc lv (.int a1 :: .ref (xB h) :: rest) := g_callV (n := 1) pc hC (As := [.int a1]) (rest := rest) (cX0_signed_ _ (Cx.ok hC) a1 u) hT rfl rfl rfl (by decide +kernel) hR 2 0 rfl rfl rfl rfl rfl hcat hdg kk

def fX0_pair (a1 : Int32) (u : ST) : Int32 :=
  ((rD u (a1 &&& (1023 : Int32))) ||| (jshl (rD u ((a1 + (1 : Int32)) &&& (1023 : Int32))) (8 : Int32)))
theorem fiX0_pair_wsX00 : ∀ w ∈ wsX00, w ∈ wsX0_pair := fun w h => List.mem_cons_of_mem _ (List.mem_append_right _ h)
theorem fmX0_pair_9 : Cond.fieldLink RX0 9 "FlagCore$Bytes" "row" "[I" ∈ wsX0_pair := List.mem_of_getElem? (i := 1) rfl
abbrev rmX0_pair : Room := { frames := 0, cells := 0, slots := 0, locals := 0 }
set_option maxRecDepth 20000 in
theorem cX0_pair_ (h : HX) (hE : okE (EX h)) (a1 : Int32) (u : ST) : MX (EX h) yX0_pair wsX0_pair rmX0_pair [.ref (xB h), .int a1] u (tR u (fX0_pair a1 u)) := by
  refine MX.of (cc := cX0_pair) (maxL := 2) (ret := (some .int)) (lv := [(0, .ref (xB h)), (1, .int a1)]) hE (by decide) rfl (fun _ => rfl) (Nat.le_of_ble_eq_true rfl) rfl (fun K hC => ?_)
  unfold fX0_pair
  refine g_aload_n 0 hC dX0_pair_0 0 rfl ?_
  refine x_get_row 1 hC fiX0_pair_wsX00 fmX0_pair_9 dX0_pair_1 ?_
  refine g_iload_n 4 hC dX0_pair_4 1 rfl ?_
  refine g_sipush 5 hC (1023 : Int32) dX0_pair_5 (by decide) ?_
  refine g_iand 8 hC dX0_pair_8 ?_
  refine x_ldD 9 hC (vin_1023 _) dX0_pair_9 ?_
  refine g_aload_n 10 hC dX0_pair_10 0 rfl ?_
  refine x_get_row 11 hC fiX0_pair_wsX00 fmX0_pair_9 dX0_pair_11 ?_
  refine g_iload_n 14 hC dX0_pair_14 1 rfl ?_
  refine g_iconst 15 hC (1 : Int32) dX0_pair_15 (by decide) ?_
  refine g_iadd 16 hC dX0_pair_16 ?_
  refine g_sipush 17 hC (1023 : Int32) dX0_pair_17 (by decide) ?_
  refine g_iand 20 hC dX0_pair_20 ?_
  refine x_ldD 21 hC (vin_1023 _) dX0_pair_21 ?_
  refine g_bipush 22 hC (8 : Int32) dX0_pair_22 (by decide) ?_
  refine g_ishl 24 hC dX0_pair_24 ?_
  refine g_ior 25 hC dX0_pair_25 ?_
  exact g_iret 26 hC dX0_pair_26
theorem kX0_pair {K : KT} {h : HX} {cc : ByteArray} {nL : Nat} {own : String} {Ts : List Cond} {rm : Room} {ret : Option FieldType} {T : ST × Option Value} {u : ST} {lv : List (Nat × Value)} {rest : List Value} {idx : Nat} {a1 : Int32} (pc : Nat) (hC : Cx K (EX h) cc nL own Ts rm ret) (hT : GoodIn Ts (wsV own idx RX0 yX0_pair wsX0_pair)) (hR : rmX0_pair.frames + 1 ≤ rm.frames ∧ 8 + (2 + 11) + rmX0_pair.locals ≤ rm.locals) (hdg : decode cc pc = .ok (.invokevirtual idx, 3)) (hcat : (rest.map fun v => v.category).sum ≤ 8) (kk : G K (EX h) nL T u (pc + 3) lv (.int (fX0_pair a1 u) :: rest)) : G K (EX h) nL T u pc lv (.int a1 :: .ref (xB h) :: rest) := g_callV (n := 1) pc hC (As := [.int a1]) (rest := rest) (cX0_pair_ _ (Cx.ok hC) a1 u) hT rfl rfl rfl (by decide +kernel) hR 2 0 rfl rfl rfl rfl rfl hcat hdg kk

def fX0_setPair (a1 : Int32) (a2 : Int32) (u : ST) : ST :=
  (wD (wD u (a1 &&& (1023 : Int32)) (a2 &&& (255 : Int32))) ((a1 + (1 : Int32)) &&& (1023 : Int32)) ((jshr a2 (8 : Int32)) &&& (255 : Int32)))
theorem fiX0_setPair_wsX00 : ∀ w ∈ wsX00, w ∈ wsX0_setPair := fun w h => List.mem_cons_of_mem _ (List.mem_append_right _ h)
theorem fmX0_setPair_9 : Cond.fieldLink RX0 9 "FlagCore$Bytes" "row" "[I" ∈ wsX0_setPair := List.mem_of_getElem? (i := 1) rfl
abbrev rmX0_setPair : Room := { frames := 0, cells := 0, slots := 0, locals := 0 }
set_option maxRecDepth 20000 in
theorem cX0_setPair_ (h : HX) (hE : okE (EX h)) (a1 : Int32) (a2 : Int32) (u : ST) : MX (EX h) yX0_setPair wsX0_setPair rmX0_setPair [.ref (xB h), .int a1, .int a2] u (tS (fX0_setPair a1 a2 u)) := by
  refine MX.of (cc := cX0_setPair) (maxL := 3) (ret := none) (lv := [(0, .ref (xB h)), (1, .int a1), (2, .int a2)]) hE (by decide) rfl (fun _ => rfl) (Nat.le_of_ble_eq_true rfl) rfl (fun K hC => ?_)
  unfold fX0_setPair
  refine g_aload_n 0 hC dX0_setPair_0 0 rfl ?_
  refine x_get_row 1 hC fiX0_setPair_wsX00 fmX0_setPair_9 dX0_setPair_1 ?_
  refine g_iload_n 4 hC dX0_setPair_4 1 rfl ?_
  refine g_sipush 5 hC (1023 : Int32) dX0_setPair_5 (by decide) ?_
  refine g_iand 8 hC dX0_setPair_8 ?_
  refine g_iload_n 9 hC dX0_setPair_9 2 rfl ?_
  refine g_sipush 10 hC (255 : Int32) dX0_setPair_10 (by decide) ?_
  refine g_iand 13 hC dX0_setPair_13 ?_
  refine x_stD 14 hC (vin_1023 _) dX0_setPair_14 ?_
  refine g_aload_n 15 hC dX0_setPair_15 0 rfl ?_
  refine x_get_row 16 hC fiX0_setPair_wsX00 fmX0_setPair_9 dX0_setPair_16 ?_
  refine g_iload_n 19 hC dX0_setPair_19 1 rfl ?_
  refine g_iconst 20 hC (1 : Int32) dX0_setPair_20 (by decide) ?_
  refine g_iadd 21 hC dX0_setPair_21 ?_
  refine g_sipush 22 hC (1023 : Int32) dX0_setPair_22 (by decide) ?_
  refine g_iand 25 hC dX0_setPair_25 ?_
  refine g_iload_n 26 hC dX0_setPair_26 2 rfl ?_
  refine g_bipush 27 hC (8 : Int32) dX0_setPair_27 (by decide) ?_
  refine g_ishr 29 hC dX0_setPair_29 ?_
  refine g_sipush 30 hC (255 : Int32) dX0_setPair_30 (by decide) ?_
  refine g_iand 33 hC dX0_setPair_33 ?_
  refine x_stD 34 hC (vin_1023 _) dX0_setPair_34 ?_
  exact g_vret 35 hC dX0_setPair_35
theorem kX0_setPair {K : KT} {h : HX} {cc : ByteArray} {nL : Nat} {own : String} {Ts : List Cond} {rm : Room} {ret : Option FieldType} {T : ST × Option Value} {u : ST} {lv : List (Nat × Value)} {rest : List Value} {idx : Nat} {a1 : Int32} {a2 : Int32} (pc : Nat) (hC : Cx K (EX h) cc nL own Ts rm ret) (hT : GoodIn Ts (wsV own idx RX0 yX0_setPair wsX0_setPair)) (hR : rmX0_setPair.frames + 1 ≤ rm.frames ∧ 8 + (3 + 11) + rmX0_setPair.locals ≤ rm.locals) (hdg : decode cc pc = .ok (.invokevirtual idx, 3)) (hcat : (rest.map fun v => v.category).sum ≤ 8) (kk : G K (EX h) nL T (fX0_setPair a1 a2 u) (pc + 3) lv (rest)) : G K (EX h) nL T u pc lv (.int a2 :: .int a1 :: .ref (xB h) :: rest) := g_callV (n := 2) pc hC (As := [.int a1, .int a2]) (rest := rest) (cX0_setPair_ _ (Cx.ok hC) a1 a2 u) hT rfl rfl rfl (by decide +kernel) hR 2 0 rfl rfl rfl rfl rfl hcat hdg kk

def fX0_bit (a1 : Int32) (a2 : Int32) (u : ST) : Int32 :=
  ((jshr (rD u (a1 &&& (1023 : Int32))) a2) &&& (1 : Int32))
theorem fiX0_bit_wsX00 : ∀ w ∈ wsX00, w ∈ wsX0_bit := fun w h => List.mem_cons_of_mem _ (List.mem_append_right _ h)
theorem fmX0_bit_9 : Cond.fieldLink RX0 9 "FlagCore$Bytes" "row" "[I" ∈ wsX0_bit := List.mem_of_getElem? (i := 1) rfl
abbrev rmX0_bit : Room := { frames := 0, cells := 0, slots := 0, locals := 0 }
set_option maxRecDepth 20000 in
theorem cX0_bit_ (h : HX) (hE : okE (EX h)) (a1 : Int32) (a2 : Int32) (u : ST) : MX (EX h) yX0_bit wsX0_bit rmX0_bit [.ref (xB h), .int a1, .int a2] u (tR u (fX0_bit a1 a2 u)) := by
  refine MX.of (cc := cX0_bit) (maxL := 3) (ret := (some .int)) (lv := [(0, .ref (xB h)), (1, .int a1), (2, .int a2)]) hE (by decide) rfl (fun _ => rfl) (Nat.le_of_ble_eq_true rfl) rfl (fun K hC => ?_)
  unfold fX0_bit
  refine g_aload_n 0 hC dX0_bit_0 0 rfl ?_
  refine x_get_row 1 hC fiX0_bit_wsX00 fmX0_bit_9 dX0_bit_1 ?_
  refine g_iload_n 4 hC dX0_bit_4 1 rfl ?_
  refine g_sipush 5 hC (1023 : Int32) dX0_bit_5 (by decide) ?_
  refine g_iand 8 hC dX0_bit_8 ?_
  refine x_ldD 9 hC (vin_1023 _) dX0_bit_9 ?_
  refine g_iload_n 10 hC dX0_bit_10 2 rfl ?_
  refine g_ishr 11 hC dX0_bit_11 ?_
  refine g_iconst 12 hC (1 : Int32) dX0_bit_12 (by decide) ?_
  refine g_iand 13 hC dX0_bit_13 ?_
  exact g_iret 14 hC dX0_bit_14
theorem kX0_bit {K : KT} {h : HX} {cc : ByteArray} {nL : Nat} {own : String} {Ts : List Cond} {rm : Room} {ret : Option FieldType} {T : ST × Option Value} {u : ST} {lv : List (Nat × Value)} {rest : List Value} {idx : Nat} {a1 : Int32} {a2 : Int32} (pc : Nat) (hC : Cx K (EX h) cc nL own Ts rm ret) (hT : GoodIn Ts (wsV own idx RX0 yX0_bit wsX0_bit)) (hR : rmX0_bit.frames + 1 ≤ rm.frames ∧ 8 + (3 + 11) + rmX0_bit.locals ≤ rm.locals) (hdg : decode cc pc = .ok (.invokevirtual idx, 3)) (hcat : (rest.map fun v => v.category).sum ≤ 8) (kk : G K (EX h) nL T u (pc + 3) lv (.int (fX0_bit a1 a2 u) :: rest)) : G K (EX h) nL T u pc lv (.int a2 :: .int a1 :: .ref (xB h) :: rest) := g_callV (n := 2) pc hC (As := [.int a1, .int a2]) (rest := rest) (cX0_bit_ _ (Cx.ok hC) a1 a2 u) hT rfl rfl rfl (by decide +kernel) hR 2 0 rfl rfl rfl rfl rfl hcat hdg kk

def fX0_setBit (a1 : Int32) (a2 : Int32) (a3 : Int32) (u : ST) : ST :=
  (fX0_set a1 (((fX0_get a1 u) &&& ((jshl (1 : Int32) a2) ^^^ (-1 : Int32))) ||| (jshl a3 a2)) u)
abbrev rmX0_setBit : Room := { frames := 1, cells := 0, slots := 0, locals := 22 }
set_option maxRecDepth 20000 in
theorem cX0_setBit_ (h : HX) (hE : okE (EX h)) (a1 : Int32) (a2 : Int32) (a3 : Int32) (u : ST) : MX (EX h) yX0_setBit wsX0_setBit rmX0_setBit [.ref (xB h), .int a1, .int a2, .int a3] u (tS (fX0_setBit a1 a2 a3 u)) := by
  refine MX.of (cc := cX0_setBit) (maxL := 4) (ret := none) (lv := [(0, .ref (xB h)), (1, .int a1), (2, .int a2), (3, .int a3)]) hE (by decide) rfl (fun _ => rfl) (Nat.le_of_ble_eq_true rfl) rfl (fun K hC => ?_)
  unfold fX0_setBit
  refine g_aload_n 0 hC dX0_setBit_0 0 rfl ?_
  refine g_iload_n 1 hC dX0_setBit_1 1 rfl ?_
  refine g_aload_n 2 hC dX0_setBit_2 0 rfl ?_
  refine g_iload_n 3 hC dX0_setBit_3 1 rfl ?_
  refine kX0_get 4 hC gX0_setBit_X0_get ⟨Nat.le_of_ble_eq_true rfl, Nat.le_of_ble_eq_true rfl⟩ dX0_setBit_4 (Nat.le_of_ble_eq_true rfl) ?_
  refine g_iconst 7 hC (1 : Int32) dX0_setBit_7 (by decide) ?_
  refine g_iload_n 8 hC dX0_setBit_8 2 rfl ?_
  refine g_ishl 9 hC dX0_setBit_9 ?_
  refine g_iconst 10 hC (-1 : Int32) dX0_setBit_10 (by decide) ?_
  refine g_ixor 11 hC dX0_setBit_11 ?_
  refine g_iand 12 hC dX0_setBit_12 ?_
  refine g_iload_n 13 hC dX0_setBit_13 3 rfl ?_
  refine g_iload_n 14 hC dX0_setBit_14 2 rfl ?_
  refine g_ishl 15 hC dX0_setBit_15 ?_
  refine g_ior 16 hC dX0_setBit_16 ?_
  refine kX0_set 17 hC gX0_setBit_X0_set ⟨Nat.le_of_ble_eq_true rfl, Nat.le_of_ble_eq_true rfl⟩ dX0_setBit_17 (Nat.le_of_ble_eq_true rfl) ?_
  exact g_vret 20 hC dX0_setBit_20
theorem kX0_setBit {K : KT} {h : HX} {cc : ByteArray} {nL : Nat} {own : String} {Ts : List Cond} {rm : Room} {ret : Option FieldType} {T : ST × Option Value} {u : ST} {lv : List (Nat × Value)} {rest : List Value} {idx : Nat} {a1 : Int32} {a2 : Int32} {a3 : Int32} (pc : Nat) (hC : Cx K (EX h) cc nL own Ts rm ret) (hT : GoodIn Ts (wsV own idx RX0 yX0_setBit wsX0_setBit)) (hR : rmX0_setBit.frames + 1 ≤ rm.frames ∧ 8 + (4 + 11) + rmX0_setBit.locals ≤ rm.locals) (hdg : decode cc pc = .ok (.invokevirtual idx, 3)) (hcat : (rest.map fun v => v.category).sum ≤ 8) (kk : G K (EX h) nL T (fX0_setBit a1 a2 a3 u) (pc + 3) lv (rest)) : G K (EX h) nL T u pc lv (.int a3 :: .int a2 :: .int a1 :: .ref (xB h) :: rest) := g_callV (n := 3) pc hC (As := [.int a1, .int a2, .int a3]) (rest := rest) (cX0_setBit_ _ (Cx.ok hC) a1 a2 a3 u) hT rfl rfl rfl (by decide +kernel) hR 2 0 rfl rfl rfl rfl rfl hcat hdg kk

def fX0_flag (a1 : Int32) (u : ST) : Int32 :=
  ((jshr (rD u (95 : Int32)) a1) &&& (1 : Int32))
theorem fiX0_flag_wsX00 : ∀ w ∈ wsX00, w ∈ wsX0_flag := fun w h => List.mem_cons_of_mem _ (List.mem_append_right _ h)
theorem fmX0_flag_9 : Cond.fieldLink RX0 9 "FlagCore$Bytes" "row" "[I" ∈ wsX0_flag := List.mem_of_getElem? (i := 1) rfl
abbrev rmX0_flag : Room := { frames := 0, cells := 0, slots := 0, locals := 0 }
set_option maxRecDepth 20000 in
theorem cX0_flag_ (h : HX) (hE : okE (EX h)) (a1 : Int32) (u : ST) : MX (EX h) yX0_flag wsX0_flag rmX0_flag [.ref (xB h), .int a1] u (tR u (fX0_flag a1 u)) := by
  refine MX.of (cc := cX0_flag) (maxL := 2) (ret := (some .int)) (lv := [(0, .ref (xB h)), (1, .int a1)]) hE (by decide) rfl (fun _ => rfl) (Nat.le_of_ble_eq_true rfl) rfl (fun K hC => ?_)
  unfold fX0_flag
  refine g_aload_n 0 hC dX0_flag_0 0 rfl ?_
  refine x_get_row 1 hC fiX0_flag_wsX00 fmX0_flag_9 dX0_flag_1 ?_
  refine g_bipush 4 hC (95 : Int32) dX0_flag_4 (by decide) ?_
  refine x_ldD 6 hC (vp_in_iff.mpr (by decide)) dX0_flag_6 ?_
  refine g_iload_n 7 hC dX0_flag_7 1 rfl ?_
  refine g_ishr 8 hC dX0_flag_8 ?_
  refine g_iconst 9 hC (1 : Int32) dX0_flag_9 (by decide) ?_
  refine g_iand 10 hC dX0_flag_10 ?_
  exact g_iret 11 hC dX0_flag_11
theorem kX0_flag {K : KT} {h : HX} {cc : ByteArray} {nL : Nat} {own : String} {Ts : List Cond} {rm : Room} {ret : Option FieldType} {T : ST × Option Value} {u : ST} {lv : List (Nat × Value)} {rest : List Value} {idx : Nat} {a1 : Int32} (pc : Nat) (hC : Cx K (EX h) cc nL own Ts rm ret) (hT : GoodIn Ts (wsV own idx RX0 yX0_flag wsX0_flag)) (hR : rmX0_flag.frames + 1 ≤ rm.frames ∧ 8 + (2 + 11) + rmX0_flag.locals ≤ rm.locals) (hdg : decode cc pc = .ok (.invokevirtual idx, 3)) (hcat : (rest.map fun v => v.category).sum ≤ 8) (kk : G K (EX h) nL T u (pc + 3) lv (.int (fX0_flag a1 u) :: rest)) : G K (EX h) nL T u pc lv (.int a1 :: .ref (xB h) :: rest) := g_callV (n := 1) pc hC (As := [.int a1]) (rest := rest) (cX0_flag_ _ (Cx.ok hC) a1 u) hT rfl rfl rfl (by decide +kernel) hR 2 0 rfl rfl rfl rfl rfl hcat hdg kk

def fX0_setFlag (a1 : Int32) (a2 : Int32) (u : ST) : ST :=
  (fX0_setBit (95 : Int32) a1 a2 u)
abbrev rmX0_setFlag : Room := { frames := 2, cells := 0, slots := 0, locals := 45 }
set_option maxRecDepth 20000 in
theorem cX0_setFlag_ (h : HX) (hE : okE (EX h)) (a1 : Int32) (a2 : Int32) (u : ST) : MX (EX h) yX0_setFlag wsX0_setFlag rmX0_setFlag [.ref (xB h), .int a1, .int a2] u (tS (fX0_setFlag a1 a2 u)) := by
  refine MX.of (cc := cX0_setFlag) (maxL := 3) (ret := none) (lv := [(0, .ref (xB h)), (1, .int a1), (2, .int a2)]) hE (by decide) rfl (fun _ => rfl) (Nat.le_of_ble_eq_true rfl) rfl (fun K hC => ?_)
  unfold fX0_setFlag
  refine g_aload_n 0 hC dX0_setFlag_0 0 rfl ?_
  refine g_bipush 1 hC (95 : Int32) dX0_setFlag_1 (by decide) ?_
  refine g_iload_n 3 hC dX0_setFlag_3 1 rfl ?_
  refine g_iload_n 4 hC dX0_setFlag_4 2 rfl ?_
  refine kX0_setBit 5 hC gX0_setFlag_X0_setBit ⟨Nat.le_of_ble_eq_true rfl, Nat.le_of_ble_eq_true rfl⟩ dX0_setFlag_5 (Nat.le_of_ble_eq_true rfl) ?_
  exact g_vret 8 hC dX0_setFlag_8
theorem kX0_setFlag {K : KT} {h : HX} {cc : ByteArray} {nL : Nat} {own : String} {Ts : List Cond} {rm : Room} {ret : Option FieldType} {T : ST × Option Value} {u : ST} {lv : List (Nat × Value)} {rest : List Value} {idx : Nat} {a1 : Int32} {a2 : Int32} (pc : Nat) (hC : Cx K (EX h) cc nL own Ts rm ret) (hT : GoodIn Ts (wsV own idx RX0 yX0_setFlag wsX0_setFlag)) (hR : rmX0_setFlag.frames + 1 ≤ rm.frames ∧ 8 + (3 + 11) + rmX0_setFlag.locals ≤ rm.locals) (hdg : decode cc pc = .ok (.invokevirtual idx, 3)) (hcat : (rest.map fun v => v.category).sum ≤ 8) (kk : G K (EX h) nL T (fX0_setFlag a1 a2 u) (pc + 3) lv (rest)) : G K (EX h) nL T u pc lv (.int a2 :: .int a1 :: .ref (xB h) :: rest) := g_callV (n := 2) pc hC (As := [.int a1, .int a2]) (rest := rest) (cX0_setFlag_ _ (Cx.ok hC) a1 a2 u) hT rfl rfl rfl (by decide +kernel) hR 2 0 rfl rfl rfl rfl rfl hcat hdg kk

def fX0_setFlags (a1 : Int32) (a2 : Int32) (u : ST) : ST :=
  (wD u (95 : Int32) (((rD u (95 : Int32)) &&& (a1 ^^^ (-1 : Int32))) ||| (a2 &&& a1)))
theorem fiX0_setFlags_wsX00 : ∀ w ∈ wsX00, w ∈ wsX0_setFlags := fun w h => List.mem_cons_of_mem _ (List.mem_append_right _ h)
theorem fmX0_setFlags_9 : Cond.fieldLink RX0 9 "FlagCore$Bytes" "row" "[I" ∈ wsX0_setFlags := List.mem_of_getElem? (i := 1) rfl
abbrev rmX0_setFlags : Room := { frames := 0, cells := 0, slots := 0, locals := 0 }
set_option maxRecDepth 20000 in
theorem cX0_setFlags_ (h : HX) (hE : okE (EX h)) (a1 : Int32) (a2 : Int32) (u : ST) : MX (EX h) yX0_setFlags wsX0_setFlags rmX0_setFlags [.ref (xB h), .int a1, .int a2] u (tS (fX0_setFlags a1 a2 u)) := by
  refine MX.of (cc := cX0_setFlags) (maxL := 3) (ret := none) (lv := [(0, .ref (xB h)), (1, .int a1), (2, .int a2)]) hE (by decide) rfl (fun _ => rfl) (Nat.le_of_ble_eq_true rfl) rfl (fun K hC => ?_)
  unfold fX0_setFlags
  refine g_aload_n 0 hC dX0_setFlags_0 0 rfl ?_
  refine x_get_row 1 hC fiX0_setFlags_wsX00 fmX0_setFlags_9 dX0_setFlags_1 ?_
  refine g_bipush 4 hC (95 : Int32) dX0_setFlags_4 (by decide) ?_
  refine g_aload_n 6 hC dX0_setFlags_6 0 rfl ?_
  refine x_get_row 7 hC fiX0_setFlags_wsX00 fmX0_setFlags_9 dX0_setFlags_7 ?_
  refine g_bipush 10 hC (95 : Int32) dX0_setFlags_10 (by decide) ?_
  refine x_ldD 12 hC (vp_in_iff.mpr (by decide)) dX0_setFlags_12 ?_
  refine g_iload_n 13 hC dX0_setFlags_13 1 rfl ?_
  refine g_iconst 14 hC (-1 : Int32) dX0_setFlags_14 (by decide) ?_
  refine g_ixor 15 hC dX0_setFlags_15 ?_
  refine g_iand 16 hC dX0_setFlags_16 ?_
  refine g_iload_n 17 hC dX0_setFlags_17 2 rfl ?_
  refine g_iload_n 18 hC dX0_setFlags_18 1 rfl ?_
  refine g_iand 19 hC dX0_setFlags_19 ?_
  refine g_ior 20 hC dX0_setFlags_20 ?_
  refine x_stD 21 hC (vp_in_iff.mpr (by decide)) dX0_setFlags_21 ?_
  exact g_vret 22 hC dX0_setFlags_22
theorem kX0_setFlags {K : KT} {h : HX} {cc : ByteArray} {nL : Nat} {own : String} {Ts : List Cond} {rm : Room} {ret : Option FieldType} {T : ST × Option Value} {u : ST} {lv : List (Nat × Value)} {rest : List Value} {idx : Nat} {a1 : Int32} {a2 : Int32} (pc : Nat) (hC : Cx K (EX h) cc nL own Ts rm ret) (hT : GoodIn Ts (wsV own idx RX0 yX0_setFlags wsX0_setFlags)) (hR : rmX0_setFlags.frames + 1 ≤ rm.frames ∧ 8 + (3 + 11) + rmX0_setFlags.locals ≤ rm.locals) (hdg : decode cc pc = .ok (.invokevirtual idx, 3)) (hcat : (rest.map fun v => v.category).sum ≤ 8) (kk : G K (EX h) nL T (fX0_setFlags a1 a2 u) (pc + 3) lv (rest)) : G K (EX h) nL T u pc lv (.int a2 :: .int a1 :: .ref (xB h) :: rest) := g_callV (n := 2) pc hC (As := [.int a1, .int a2]) (rest := rest) (cX0_setFlags_ _ (Cx.ok hC) a1 a2 u) hT rfl rfl rfl (by decide +kernel) hR 2 0 rfl rfl rfl rfl rfl hcat hdg kk

def fX0_push (a1 : Int32) (u : ST) : ST :=
  (fX0_setPair (93 : Int32) ((fX0_pair (93 : Int32) u) - (1 : Int32)) (fX0_set (fX0_pair (93 : Int32) u) a1 u))
abbrev rmX0_push : Room := { frames := 1, cells := 0, slots := 0, locals := 22 }
set_option maxRecDepth 20000 in
theorem cX0_push_ (h : HX) (hE : okE (EX h)) (a1 : Int32) (u : ST) : MX (EX h) yX0_push wsX0_push rmX0_push [.ref (xB h), .int a1] u (tS (fX0_push a1 u)) := by
  refine MX.of (cc := cX0_push) (maxL := 3) (ret := none) (lv := [(0, .ref (xB h)), (1, .int a1)]) hE (by decide) rfl (fun _ => rfl) (Nat.le_of_ble_eq_true rfl) rfl (fun K hC => ?_)
  unfold fX0_push
  refine g_aload_n 0 hC dX0_push_0 0 rfl ?_
  refine g_bipush 1 hC (93 : Int32) dX0_push_1 (by decide) ?_
  refine kX0_pair 3 hC gX0_push_X0_pair ⟨Nat.le_of_ble_eq_true rfl, Nat.le_of_ble_eq_true rfl⟩ dX0_push_3 (Nat.le_of_ble_eq_true rfl) ?_
  refine g_istore_n 6 hC dX0_push_6 (by decide) [(2, .int ((fX0_pair (93 : Int32) u))), (0, .ref (xB h)), (1, .int a1)] rfl ?_
  refine g_aload_n 7 hC dX0_push_7 1 rfl ?_
  refine g_iload_n 8 hC dX0_push_8 0 rfl ?_
  refine g_iload_n 9 hC dX0_push_9 2 rfl ?_
  refine kX0_set 10 hC gX0_push_X0_set ⟨Nat.le_of_ble_eq_true rfl, Nat.le_of_ble_eq_true rfl⟩ dX0_push_10 (Nat.le_of_ble_eq_true rfl) ?_
  refine g_aload_n 13 hC dX0_push_13 1 rfl ?_
  refine g_bipush 14 hC (93 : Int32) dX0_push_14 (by decide) ?_
  refine g_iload_n 16 hC dX0_push_16 0 rfl ?_
  refine g_iconst 17 hC (1 : Int32) dX0_push_17 (by decide) ?_
  refine g_isub 18 hC dX0_push_18 ?_
  refine kX0_setPair 19 hC gX0_push_X0_setPair ⟨Nat.le_of_ble_eq_true rfl, Nat.le_of_ble_eq_true rfl⟩ dX0_push_19 (Nat.le_of_ble_eq_true rfl) ?_
  exact g_vret 22 hC dX0_push_22
theorem kX0_push {K : KT} {h : HX} {cc : ByteArray} {nL : Nat} {own : String} {Ts : List Cond} {rm : Room} {ret : Option FieldType} {T : ST × Option Value} {u : ST} {lv : List (Nat × Value)} {rest : List Value} {idx : Nat} {a1 : Int32} (pc : Nat) (hC : Cx K (EX h) cc nL own Ts rm ret) (hT : GoodIn Ts (wsV own idx RX0 yX0_push wsX0_push)) (hR : rmX0_push.frames + 1 ≤ rm.frames ∧ 8 + (3 + 11) + rmX0_push.locals ≤ rm.locals) (hdg : decode cc pc = .ok (.invokevirtual idx, 3)) (hcat : (rest.map fun v => v.category).sum ≤ 8) (kk : G K (EX h) nL T (fX0_push a1 u) (pc + 3) lv (rest)) : G K (EX h) nL T u pc lv (.int a1 :: .ref (xB h) :: rest) := g_callV (n := 1) pc hC (As := [.int a1]) (rest := rest) (cX0_push_ _ (Cx.ok hC) a1 u) hT rfl rfl rfl (by decide +kernel) hR 2 0 rfl rfl rfl rfl rfl hcat hdg kk

def fX0_stacks (a1 : Int32) (u : ST) : ST × Int32 :=
  if (fX0_pair (93 : Int32) u) < (1 : Int32) then
    (u, (0 : Int32))
  else
    if (fX0_pair (93 : Int32) u) ≤ (1023 : Int32) then
      ((fX0_setPair (93 : Int32) ((fX0_pair (93 : Int32) u) - (2 : Int32)) (fX0_set ((fX0_pair (93 : Int32) u) - (1 : Int32)) (jshr a1 (8 : Int32)) (fX0_set (fX0_pair (93 : Int32) u) a1 u))), (1 : Int32))
    else
      (u, (0 : Int32))
abbrev rmX0_stacks : Room := { frames := 1, cells := 0, slots := 0, locals := 22 }
set_option maxRecDepth 20000 in
theorem cX0_stacks_ (h : HX) (hE : okE (EX h)) (a1 : Int32) (u : ST) : MX (EX h) yX0_stacks wsX0_stacks rmX0_stacks [.ref (xB h), .int a1] u (tW (fX0_stacks a1 u)) := by
  refine MX.of (cc := cX0_stacks) (maxL := 3) (ret := (some .boolean)) (lv := [(0, .ref (xB h)), (1, .int a1)]) hE (by decide) rfl (fun _ => rfl) (Nat.le_of_ble_eq_true rfl) rfl (fun K hC => ?_)
  unfold fX0_stacks
  refine g_aload_n 0 hC dX0_stacks_0 0 rfl ?_
  refine g_bipush 1 hC (93 : Int32) dX0_stacks_1 (by decide) ?_
  refine kX0_pair 3 hC gX0_stacks_X0_pair ⟨Nat.le_of_ble_eq_true rfl, Nat.le_of_ble_eq_true rfl⟩ dX0_stacks_3 (Nat.le_of_ble_eq_true rfl) ?_
  refine g_istore_n 6 hC dX0_stacks_6 (by decide) [(2, .int ((fX0_pair (93 : Int32) u))), (0, .ref (xB h)), (1, .int a1)] rfl ?_
  refine g_iload_n 7 hC dX0_stacks_7 0 rfl ?_
  refine g_iconst 8 hC (1 : Int32) dX0_stacks_8 (by decide) ?_
  refine g_icmp_ltT (tW) 9 hC 19 dX0_stacks_9 (by decide) (fun h1 => ?_) (fun h1 => ?_)
  · skip
    refine g_iconst 19 hC (0 : Int32) dX0_stacks_19 (by decide) ?_
    exact g_zret 20 hC nb0 dX0_stacks_20
  · skip
    refine g_iload_n 12 hC dX0_stacks_12 0 rfl ?_
    refine g_sipush 13 hC (1023 : Int32) dX0_stacks_13 (by decide) ?_
    refine g_icmp_leT (tW) 16 hC 21 dX0_stacks_16 (by decide) (fun h2 => ?_) (fun h2 => ?_)
    · skip
      refine g_aload_n 21 hC dX0_stacks_21 1 rfl ?_
      refine g_iload_n 22 hC dX0_stacks_22 0 rfl ?_
      refine g_iload_n 23 hC dX0_stacks_23 2 rfl ?_
      refine kX0_set 24 hC gX0_stacks_X0_set ⟨Nat.le_of_ble_eq_true rfl, Nat.le_of_ble_eq_true rfl⟩ dX0_stacks_24 (Nat.le_of_ble_eq_true rfl) ?_
      refine g_aload_n 27 hC dX0_stacks_27 1 rfl ?_
      refine g_iload_n 28 hC dX0_stacks_28 0 rfl ?_
      refine g_iconst 29 hC (1 : Int32) dX0_stacks_29 (by decide) ?_
      refine g_isub 30 hC dX0_stacks_30 ?_
      refine g_iload_n 31 hC dX0_stacks_31 2 rfl ?_
      refine g_bipush 32 hC (8 : Int32) dX0_stacks_32 (by decide) ?_
      refine g_ishr 34 hC dX0_stacks_34 ?_
      refine kX0_set 35 hC gX0_stacks_X0_set ⟨Nat.le_of_ble_eq_true rfl, Nat.le_of_ble_eq_true rfl⟩ dX0_stacks_35 (Nat.le_of_ble_eq_true rfl) ?_
      refine g_aload_n 38 hC dX0_stacks_38 1 rfl ?_
      refine g_bipush 39 hC (93 : Int32) dX0_stacks_39 (by decide) ?_
      refine g_iload_n 41 hC dX0_stacks_41 0 rfl ?_
      refine g_iconst 42 hC (2 : Int32) dX0_stacks_42 (by decide) ?_
      refine g_isub 43 hC dX0_stacks_43 ?_
      refine kX0_setPair 44 hC gX0_stacks_X0_setPair ⟨Nat.le_of_ble_eq_true rfl, Nat.le_of_ble_eq_true rfl⟩ dX0_stacks_44 (Nat.le_of_ble_eq_true rfl) ?_
      refine g_iconst 47 hC (1 : Int32) dX0_stacks_47 (by decide) ?_
      exact g_zret 48 hC nb1 dX0_stacks_48
    · skip
      refine g_iconst 19 hC (0 : Int32) dX0_stacks_19 (by decide) ?_
      exact g_zret 20 hC nb0 dX0_stacks_20
theorem kX0_stacks {K : KT} {h : HX} {cc : ByteArray} {nL : Nat} {own : String} {Ts : List Cond} {rm : Room} {ret : Option FieldType} {T : ST × Option Value} {u : ST} {lv : List (Nat × Value)} {rest : List Value} {idx : Nat} {a1 : Int32} (pc : Nat) (hC : Cx K (EX h) cc nL own Ts rm ret) (hT : GoodIn Ts (wsV own idx RX0 yX0_stacks wsX0_stacks)) (hR : rmX0_stacks.frames + 1 ≤ rm.frames ∧ 8 + (3 + 11) + rmX0_stacks.locals ≤ rm.locals) (hdg : decode cc pc = .ok (.invokevirtual idx, 3)) (hcat : (rest.map fun v => v.category).sum ≤ 8) (kk : G K (EX h) nL T (fX0_stacks a1 u).1 (pc + 3) lv (.int (fX0_stacks a1 u).2 :: rest)) : G K (EX h) nL T u pc lv (.int a1 :: .ref (xB h) :: rest) := g_callV (n := 1) pc hC (As := [.int a1]) (rest := rest) (cX0_stacks_ _ (Cx.ok hC) a1 u) hT rfl rfl rfl (by decide +kernel) hR 2 0 rfl rfl rfl rfl rfl hcat hdg kk

def fX0_pull (u : ST) : ST × Int32 :=
  ((fX0_setPair (93 : Int32) ((fX0_pair (93 : Int32) u) + (1 : Int32)) u), (fX0_get ((fX0_pair (93 : Int32) u) + (1 : Int32)) (fX0_setPair (93 : Int32) ((fX0_pair (93 : Int32) u) + (1 : Int32)) u)))
abbrev rmX0_pull : Room := { frames := 1, cells := 0, slots := 0, locals := 22 }
set_option maxRecDepth 20000 in
theorem cX0_pull_ (h : HX) (hE : okE (EX h)) (u : ST) : MX (EX h) yX0_pull wsX0_pull rmX0_pull [.ref (xB h)] u (tW (fX0_pull u)) := by
  refine MX.of (cc := cX0_pull) (maxL := 2) (ret := (some .int)) (lv := [(0, .ref (xB h))]) hE (by decide) rfl (fun _ => rfl) (Nat.le_of_ble_eq_true rfl) rfl (fun K hC => ?_)
  unfold fX0_pull
  refine g_aload_n 0 hC dX0_pull_0 0 rfl ?_
  refine g_bipush 1 hC (93 : Int32) dX0_pull_1 (by decide) ?_
  refine kX0_pair 3 hC gX0_pull_X0_pair ⟨Nat.le_of_ble_eq_true rfl, Nat.le_of_ble_eq_true rfl⟩ dX0_pull_3 (Nat.le_of_ble_eq_true rfl) ?_
  refine g_iconst 6 hC (1 : Int32) dX0_pull_6 (by decide) ?_
  refine g_iadd 7 hC dX0_pull_7 ?_
  refine g_istore_n 8 hC dX0_pull_8 (by decide) [(1, .int (((fX0_pair (93 : Int32) u) + (1 : Int32)))), (0, .ref (xB h))] rfl ?_
  refine g_aload_n 9 hC dX0_pull_9 1 rfl ?_
  refine g_bipush 10 hC (93 : Int32) dX0_pull_10 (by decide) ?_
  refine g_iload_n 12 hC dX0_pull_12 0 rfl ?_
  refine kX0_setPair 13 hC gX0_pull_X0_setPair ⟨Nat.le_of_ble_eq_true rfl, Nat.le_of_ble_eq_true rfl⟩ dX0_pull_13 (Nat.le_of_ble_eq_true rfl) ?_
  refine g_aload_n 16 hC dX0_pull_16 1 rfl ?_
  refine g_iload_n 17 hC dX0_pull_17 0 rfl ?_
  refine kX0_get 18 hC gX0_pull_X0_get ⟨Nat.le_of_ble_eq_true rfl, Nat.le_of_ble_eq_true rfl⟩ dX0_pull_18 (Nat.le_of_ble_eq_true rfl) ?_
  exact g_iret 21 hC dX0_pull_21
theorem kX0_pull {K : KT} {h : HX} {cc : ByteArray} {nL : Nat} {own : String} {Ts : List Cond} {rm : Room} {ret : Option FieldType} {T : ST × Option Value} {u : ST} {lv : List (Nat × Value)} {rest : List Value} {idx : Nat} (pc : Nat) (hC : Cx K (EX h) cc nL own Ts rm ret) (hT : GoodIn Ts (wsV own idx RX0 yX0_pull wsX0_pull)) (hR : rmX0_pull.frames + 1 ≤ rm.frames ∧ 8 + (2 + 11) + rmX0_pull.locals ≤ rm.locals) (hdg : decode cc pc = .ok (.invokevirtual idx, 3)) (hcat : (rest.map fun v => v.category).sum ≤ 8) (kk : G K (EX h) nL T (fX0_pull u).1 (pc + 3) lv (.int (fX0_pull u).2 :: rest)) : G K (EX h) nL T u pc lv (.ref (xB h) :: rest) := g_callV (n := 0) pc hC (As := []) (rest := rest) (cX0_pull_ _ (Cx.ok hC) u) hT rfl rfl rfl (by decide +kernel) hR 2 0 rfl rfl rfl rfl rfl hcat hdg kk

def fX2_signs (a0 : Int32) (a1 : Int32) : Int32 :=
  ((((if a0 = 0 then (2 : Int32) else (0 : Int32)) ||| (jshl ((jshr a0 (7 : Int32)) &&& (1 : Int32)) (2 : Int32))) ||| (jshl (if a1 = 0 then (0 : Int32) else (1 : Int32)) (3 : Int32))) ||| (jshl (((jshr a0 (7 : Int32)) &&& (1 : Int32)) ^^^ (if a1 = 0 then (0 : Int32) else (1 : Int32))) (4 : Int32)))
abbrev rmX2_signs : Room := { frames := 0, cells := 0, slots := 0, locals := 0 }
set_option maxRecDepth 20000 in
theorem cX2_signs_ (E : EV) (hE : okE E) (a0 : Int32) (a1 : Int32) (u : ST) : MX E yX2_signs wsX2_signs rmX2_signs [.int a0, .int a1] u (tR u (fX2_signs a0 a1)) := by
  refine MX.of (cc := cX2_signs) (maxL := 4) (ret := (some .int)) (lv := [(0, .int a0), (1, .int a1)]) hE (by decide) rfl (fun _ => rfl) (Nat.le_of_ble_eq_true rfl) rfl (fun K hC => ?_)
  unfold fX2_signs
  refine g_iload_n 0 hC dX2_signs_0 0 rfl ?_
  refine g_bipush 1 hC (7 : Int32) dX2_signs_1 (by decide) ?_
  refine g_ishr 3 hC dX2_signs_3 ?_
  refine g_iconst 4 hC (1 : Int32) dX2_signs_4 (by decide) ?_
  refine g_iand 5 hC dX2_signs_5 ?_
  refine g_istore_n 6 hC dX2_signs_6 (by decide) [(2, .int (((jshr a0 (7 : Int32)) &&& (1 : Int32)))), (0, .int a0), (1, .int a1)] rfl ?_
  refine g_iload_n 7 hC dX2_signs_7 2 rfl ?_
  refine g_cut 16 (if a1 = 0 then (0 : Int32) else (1 : Int32)) [] ?_ (fun J2 => ?_)
  · skip
    refine g_istore_n 16 hC dX2_signs_16 (by decide) [(3, .int ((if a1 = 0 then (0 : Int32) else (1 : Int32)))), (2, .int (((jshr a0 (7 : Int32)) &&& (1 : Int32)))), (0, .int a0), (1, .int a1)] rfl ?_
    refine g_iload_n 17 hC dX2_signs_17 2 rfl ?_
    refine g_cut 26 (if a0 = 0 then (2 : Int32) else (0 : Int32)) [] ?_ (fun J4 => ?_)
    · skip
      refine g_iload_n 26 hC dX2_signs_26 1 rfl ?_
      refine g_iconst 27 hC (2 : Int32) dX2_signs_27 (by decide) ?_
      refine g_ishl 28 hC dX2_signs_28 ?_
      refine g_ior 29 hC dX2_signs_29 ?_
      refine g_iload_n 30 hC dX2_signs_30 0 rfl ?_
      refine g_iconst 31 hC (3 : Int32) dX2_signs_31 (by decide) ?_
      refine g_ishl 32 hC dX2_signs_32 ?_
      refine g_ior 33 hC dX2_signs_33 ?_
      refine g_iload_n 34 hC dX2_signs_34 1 rfl ?_
      refine g_iload_n 35 hC dX2_signs_35 0 rfl ?_
      refine g_ixor 36 hC dX2_signs_36 ?_
      refine g_iconst 37 hC (4 : Int32) dX2_signs_37 (by decide) ?_
      refine g_ishl 38 hC dX2_signs_38 ?_
      refine g_ior 39 hC dX2_signs_39 ?_
      exact g_iret 40 hC dX2_signs_40
    · skip
      refine g_if_ne 18 hC 25 dX2_signs_18 (by decide) (fun h3 => ?_) (fun h3 => ?_)
      · skip
        refine g_iconst 25 hC (0 : Int32) dX2_signs_25 (by decide) ?_
        exact J4 _ (Eq.symm (if_neg h3))
      · skip
        refine g_iconst 21 hC (2 : Int32) dX2_signs_21 (by decide) ?_
        refine g_goto 22 hC 26 dX2_signs_22 (by decide) ?_
        exact J4 _ (Eq.symm (if_pos h3))
  · skip
    refine g_if_eq 8 hC 15 dX2_signs_8 (by decide) (fun h1 => ?_) (fun h1 => ?_)
    · skip
      refine g_iconst 15 hC (0 : Int32) dX2_signs_15 (by decide) ?_
      exact J2 _ (Eq.symm (if_pos h1))
    · skip
      refine g_iconst 11 hC (1 : Int32) dX2_signs_11 (by decide) ?_
      refine g_goto 12 hC 16 dX2_signs_12 (by decide) ?_
      exact J2 _ (Eq.symm (if_neg h1))
theorem kX2_signs {K : KT} {E : EV} {cc : ByteArray} {nL : Nat} {own : String} {Ts : List Cond} {rm : Room} {ret : Option FieldType} {T : ST × Option Value} {u : ST} {lv : List (Nat × Value)} {rest : List Value} {idx : Nat} {a0 : Int32} {a1 : Int32} (pc : Nat) (hC : Cx K E cc nL own Ts rm ret) (hT : GoodIn Ts (va_wsS own idx yX2_signs wsX2_signs)) (hR : rmX2_signs.frames + 1 ≤ rm.frames ∧ 8 + (4 + 11) + rmX2_signs.locals ≤ rm.locals) (hdg : decode cc pc = .ok (.invokestatic idx, 3)) (hcat : (rest.map fun v => v.category).sum ≤ 8) (kk : G K E nL T u (pc + 3) lv (.int (fX2_signs a0 a1) :: rest)) : G K E nL T u pc lv (.int a1 :: .int a0 :: rest) := g_callS (n := 2) pc hC (As := [.int a0, .int a1]) (rest := rest) (cX2_signs_ _ (Cx.ok hC) a0 a1 u) hT rfl rfl rfl (by decide +kernel) hR rfl rfl hcat hdg kk

def fX2_sum (a1 : Int32) (a2 : Int32) (a3 : Int32) (u : ST) : ST × Int32 :=
  ((fX0_setFlags (63 : Int32) (((fX2_signs (((a1 + a2) + a3) &&& (255 : Int32)) (if (((a1 ^^^ (((a1 + a2) + a3) &&& (255 : Int32))) &&& (a2 ^^^ (((a1 + a2) + a3) &&& (255 : Int32)))) &&& (128 : Int32)) = 0 then (0 : Int32) else (1 : Int32))) ||| (if ((a1 + a2) + a3) ≤ (255 : Int32) then (0 : Int32) else (1 : Int32))) ||| (if (((a1 &&& (15 : Int32)) + (a2 &&& (15 : Int32))) + a3) ≤ (15 : Int32) then (0 : Int32) else (32 : Int32))) u), (((a1 + a2) + a3) &&& (255 : Int32)))
theorem fiX2_sum_wsX20 : ∀ w ∈ wsX20, w ∈ wsX2_sum := fun w h => List.mem_cons_of_mem _ (List.mem_append_left _ (List.mem_append_right _ h))
theorem fmX2_sum_13 : Cond.fieldLink RX2 13 "FlagCore$Sums" "bytes" "LFlagCore$Bytes;" ∈ wsX2_sum := List.mem_of_getElem? (i := 1) rfl
abbrev rmX2_sum : Room := { frames := 1, cells := 0, slots := 0, locals := 23 }
set_option maxRecDepth 20000 in
theorem cX2_sum_ (h : HX) (hE : okE (EX h)) (a1 : Int32) (a2 : Int32) (a3 : Int32) (u : ST) : MX (EX h) yX2_sum wsX2_sum rmX2_sum [.ref (xS h), .int a1, .int a2, .int a3] u (tW (fX2_sum a1 a2 a3 u)) := by
  refine MX.of (cc := cX2_sum) (maxL := 8) (ret := (some .int)) (lv := [(0, .ref (xS h)), (1, .int a1), (2, .int a2), (3, .int a3)]) hE (by decide) rfl (fun _ => rfl) (Nat.le_of_ble_eq_true rfl) rfl (fun K hC => ?_)
  unfold fX2_sum
  refine g_iload_n 0 hC dX2_sum_0 1 rfl ?_
  refine g_iload_n 1 hC dX2_sum_1 2 rfl ?_
  refine g_iadd 2 hC dX2_sum_2 ?_
  refine g_iload_n 3 hC dX2_sum_3 3 rfl ?_
  refine g_iadd 4 hC dX2_sum_4 ?_
  refine g_istore 5 hC dX2_sum_5 (by decide) [(4, .int (((a1 + a2) + a3))), (0, .ref (xS h)), (1, .int a1), (2, .int a2), (3, .int a3)] rfl ?_
  refine g_iload 7 hC dX2_sum_7 0 rfl ?_
  refine g_sipush 9 hC (255 : Int32) dX2_sum_9 (by decide) ?_
  refine g_iand 12 hC dX2_sum_12 ?_
  refine g_istore 13 hC dX2_sum_13 (by decide) [(5, .int ((((a1 + a2) + a3) &&& (255 : Int32)))), (4, .int (((a1 + a2) + a3))), (0, .ref (xS h)), (1, .int a1), (2, .int a2), (3, .int a3)] rfl ?_
  refine g_iload_n 15 hC dX2_sum_15 3 rfl ?_
  refine g_bipush 16 hC (15 : Int32) dX2_sum_16 (by decide) ?_
  refine g_iand 18 hC dX2_sum_18 ?_
  refine g_iload_n 19 hC dX2_sum_19 4 rfl ?_
  refine g_bipush 20 hC (15 : Int32) dX2_sum_20 (by decide) ?_
  refine g_iand 22 hC dX2_sum_22 ?_
  refine g_iadd 23 hC dX2_sum_23 ?_
  refine g_iload_n 24 hC dX2_sum_24 5 rfl ?_
  refine g_iadd 25 hC dX2_sum_25 ?_
  refine g_istore 26 hC dX2_sum_26 (by decide) [(6, .int ((((a1 &&& (15 : Int32)) + (a2 &&& (15 : Int32))) + a3))), (5, .int ((((a1 + a2) + a3) &&& (255 : Int32)))), (4, .int (((a1 + a2) + a3))), (0, .ref (xS h)), (1, .int a1), (2, .int a2), (3, .int a3)] rfl ?_
  refine g_iload_n 28 hC dX2_sum_28 4 rfl ?_
  refine g_iload 29 hC dX2_sum_29 1 rfl ?_
  refine g_ixor 31 hC dX2_sum_31 ?_
  refine g_iload_n 32 hC dX2_sum_32 5 rfl ?_
  refine g_iload 33 hC dX2_sum_33 1 rfl ?_
  refine g_ixor 35 hC dX2_sum_35 ?_
  refine g_iand 36 hC dX2_sum_36 ?_
  refine g_sipush 37 hC (128 : Int32) dX2_sum_37 (by decide) ?_
  refine g_iand 40 hC dX2_sum_40 ?_
  refine g_cut 49 (if (((a1 ^^^ (((a1 + a2) + a3) &&& (255 : Int32))) &&& (a2 ^^^ (((a1 + a2) + a3) &&& (255 : Int32)))) &&& (128 : Int32)) = 0 then (0 : Int32) else (1 : Int32)) [] ?_ (fun J2 => ?_)
  · skip
    refine g_istore 49 hC dX2_sum_49 (by decide) [(7, .int ((if (((a1 ^^^ (((a1 + a2) + a3) &&& (255 : Int32))) &&& (a2 ^^^ (((a1 + a2) + a3) &&& (255 : Int32)))) &&& (128 : Int32)) = 0 then (0 : Int32) else (1 : Int32)))), (6, .int ((((a1 &&& (15 : Int32)) + (a2 &&& (15 : Int32))) + a3))), (5, .int ((((a1 + a2) + a3) &&& (255 : Int32)))), (4, .int (((a1 + a2) + a3))), (0, .ref (xS h)), (1, .int a1), (2, .int a2), (3, .int a3)] rfl ?_
    refine g_aload_n 51 hC dX2_sum_51 4 rfl ?_
    refine x_get_sbytes 52 hC fiX2_sum_wsX20 fmX2_sum_13 dX2_sum_52 ?_
    refine g_bipush 55 hC (63 : Int32) dX2_sum_55 (by decide) ?_
    refine g_iload 57 hC dX2_sum_57 2 rfl ?_
    refine g_iload 59 hC dX2_sum_59 0 rfl ?_
    refine kX2_signs 61 hC gX2_sum_X2_signs ⟨Nat.le_of_ble_eq_true rfl, Nat.le_of_ble_eq_true rfl⟩ dX2_sum_61 (Nat.le_of_ble_eq_true rfl) ?_
    refine g_iload 64 hC dX2_sum_64 3 rfl ?_
    refine g_sipush 66 hC (255 : Int32) dX2_sum_66 (by decide) ?_
    refine g_cut 77 (if ((a1 + a2) + a3) ≤ (255 : Int32) then (0 : Int32) else (1 : Int32)) [.int ((fX2_signs (((a1 + a2) + a3) &&& (255 : Int32)) (if (((a1 ^^^ (((a1 + a2) + a3) &&& (255 : Int32))) &&& (a2 ^^^ (((a1 + a2) + a3) &&& (255 : Int32)))) &&& (128 : Int32)) = 0 then (0 : Int32) else (1 : Int32)))), .int ((63 : Int32)), .ref (xB h)] ?_ (fun J4 => ?_)
    · skip
      refine g_ior 77 hC dX2_sum_77 ?_
      refine g_iload 78 hC dX2_sum_78 1 rfl ?_
      refine g_bipush 80 hC (15 : Int32) dX2_sum_80 (by decide) ?_
      refine g_cut 91 (if (((a1 &&& (15 : Int32)) + (a2 &&& (15 : Int32))) + a3) ≤ (15 : Int32) then (0 : Int32) else (32 : Int32)) [.int (((fX2_signs (((a1 + a2) + a3) &&& (255 : Int32)) (if (((a1 ^^^ (((a1 + a2) + a3) &&& (255 : Int32))) &&& (a2 ^^^ (((a1 + a2) + a3) &&& (255 : Int32)))) &&& (128 : Int32)) = 0 then (0 : Int32) else (1 : Int32))) ||| (if ((a1 + a2) + a3) ≤ (255 : Int32) then (0 : Int32) else (1 : Int32)))), .int ((63 : Int32)), .ref (xB h)] ?_ (fun J6 => ?_)
      · skip
        refine g_ior 91 hC dX2_sum_91 ?_
        refine kX0_setFlags 92 hC gX2_sum_X0_setFlags ⟨Nat.le_of_ble_eq_true rfl, Nat.le_of_ble_eq_true rfl⟩ dX2_sum_92 (Nat.le_of_ble_eq_true rfl) ?_
        refine g_iload 95 hC dX2_sum_95 2 rfl ?_
        exact g_iret 97 hC dX2_sum_97
      · skip
        refine g_icmp_le 82 hC 90 dX2_sum_82 (by decide) (fun h5 => ?_) (fun h5 => ?_)
        · skip
          refine g_iconst 90 hC (0 : Int32) dX2_sum_90 (by decide) ?_
          exact J6 _ (Eq.symm (if_pos h5))
        · skip
          refine g_bipush 85 hC (32 : Int32) dX2_sum_85 (by decide) ?_
          refine g_goto 87 hC 91 dX2_sum_87 (by decide) ?_
          exact J6 _ (Eq.symm (if_neg h5))
    · skip
      refine g_icmp_le 69 hC 76 dX2_sum_69 (by decide) (fun h3 => ?_) (fun h3 => ?_)
      · skip
        refine g_iconst 76 hC (0 : Int32) dX2_sum_76 (by decide) ?_
        exact J4 _ (Eq.symm (if_pos h3))
      · skip
        refine g_iconst 72 hC (1 : Int32) dX2_sum_72 (by decide) ?_
        refine g_goto 73 hC 77 dX2_sum_73 (by decide) ?_
        exact J4 _ (Eq.symm (if_neg h3))
  · skip
    refine g_if_eq 41 hC 48 dX2_sum_41 (by decide) (fun h1 => ?_) (fun h1 => ?_)
    · skip
      refine g_iconst 48 hC (0 : Int32) dX2_sum_48 (by decide) ?_
      exact J2 _ (Eq.symm (if_pos h1))
    · skip
      refine g_iconst 44 hC (1 : Int32) dX2_sum_44 (by decide) ?_
      refine g_goto 45 hC 49 dX2_sum_45 (by decide) ?_
      exact J2 _ (Eq.symm (if_neg h1))
theorem kX2_sum {K : KT} {h : HX} {cc : ByteArray} {nL : Nat} {own : String} {Ts : List Cond} {rm : Room} {ret : Option FieldType} {T : ST × Option Value} {u : ST} {lv : List (Nat × Value)} {rest : List Value} {idx : Nat} {a1 : Int32} {a2 : Int32} {a3 : Int32} (pc : Nat) (hC : Cx K (EX h) cc nL own Ts rm ret) (hT : GoodIn Ts (wsV own idx RX2 yX2_sum wsX2_sum)) (hR : rmX2_sum.frames + 1 ≤ rm.frames ∧ 8 + (8 + 11) + rmX2_sum.locals ≤ rm.locals) (hdg : decode cc pc = .ok (.invokevirtual idx, 3)) (hcat : (rest.map fun v => v.category).sum ≤ 8) (kk : G K (EX h) nL T (fX2_sum a1 a2 a3 u).1 (pc + 3) lv (.int (fX2_sum a1 a2 a3 u).2 :: rest)) : G K (EX h) nL T u pc lv (.int a3 :: .int a2 :: .int a1 :: .ref (xS h) :: rest) := g_callV (n := 3) pc hC (As := [.int a1, .int a2, .int a3]) (rest := rest) (cX2_sum_ _ (Cx.ok hC) a1 a2 a3 u) hT rfl rfl rfl (by decide +kernel) hR 4 1 rfl rfl rfl rfl rfl hcat hdg kk

def fX2_subtract (a1 : Int32) (a2 : Int32) (a3 : Int32) (a4 : Int32) (u : ST) : ST × Int32 :=
  ((fX0_setFlags ((a4 ||| (1 : Int32)) ||| (32 : Int32)) (((fX2_signs (((a1 - a2) - a3) &&& (255 : Int32)) (if (((a1 ^^^ a2) &&& (a1 ^^^ (((a1 - a2) - a3) &&& (255 : Int32)))) &&& (128 : Int32)) = 0 then (0 : Int32) else (1 : Int32))) ||| (if 0 ≤ ((a1 - a2) - a3) then (0 : Int32) else (1 : Int32))) ||| (if 0 ≤ (((a1 &&& (15 : Int32)) - (a2 &&& (15 : Int32))) - a3) then (0 : Int32) else (32 : Int32))) u), (((a1 - a2) - a3) &&& (255 : Int32)))
theorem fiX2_subtract_wsX20 : ∀ w ∈ wsX20, w ∈ wsX2_subtract := fun w h => List.mem_cons_of_mem _ (List.mem_append_left _ (List.mem_append_right _ h))
theorem fmX2_subtract_13 : Cond.fieldLink RX2 13 "FlagCore$Sums" "bytes" "LFlagCore$Bytes;" ∈ wsX2_subtract := List.mem_of_getElem? (i := 1) rfl
abbrev rmX2_subtract : Room := { frames := 1, cells := 0, slots := 0, locals := 23 }
set_option maxRecDepth 20000 in
theorem cX2_subtract_ (h : HX) (hE : okE (EX h)) (a1 : Int32) (a2 : Int32) (a3 : Int32) (a4 : Int32) (u : ST) : MX (EX h) yX2_subtract wsX2_subtract rmX2_subtract [.ref (xS h), .int a1, .int a2, .int a3, .int a4] u (tW (fX2_subtract a1 a2 a3 a4 u)) := by
  refine MX.of (cc := cX2_subtract) (maxL := 9) (ret := (some .int)) (lv := [(0, .ref (xS h)), (1, .int a1), (2, .int a2), (3, .int a3), (4, .int a4)]) hE (by decide) rfl (fun _ => rfl) (Nat.le_of_ble_eq_true rfl) rfl (fun K hC => ?_)
  unfold fX2_subtract
  refine g_iload_n 0 hC dX2_subtract_0 1 rfl ?_
  refine g_iload_n 1 hC dX2_subtract_1 2 rfl ?_
  refine g_isub 2 hC dX2_subtract_2 ?_
  refine g_iload_n 3 hC dX2_subtract_3 3 rfl ?_
  refine g_isub 4 hC dX2_subtract_4 ?_
  refine g_istore 5 hC dX2_subtract_5 (by decide) [(5, .int (((a1 - a2) - a3))), (0, .ref (xS h)), (1, .int a1), (2, .int a2), (3, .int a3), (4, .int a4)] rfl ?_
  refine g_iload 7 hC dX2_subtract_7 0 rfl ?_
  refine g_sipush 9 hC (255 : Int32) dX2_subtract_9 (by decide) ?_
  refine g_iand 12 hC dX2_subtract_12 ?_
  refine g_istore 13 hC dX2_subtract_13 (by decide) [(6, .int ((((a1 - a2) - a3) &&& (255 : Int32)))), (5, .int (((a1 - a2) - a3))), (0, .ref (xS h)), (1, .int a1), (2, .int a2), (3, .int a3), (4, .int a4)] rfl ?_
  refine g_iload_n 15 hC dX2_subtract_15 3 rfl ?_
  refine g_bipush 16 hC (15 : Int32) dX2_subtract_16 (by decide) ?_
  refine g_iand 18 hC dX2_subtract_18 ?_
  refine g_iload_n 19 hC dX2_subtract_19 4 rfl ?_
  refine g_bipush 20 hC (15 : Int32) dX2_subtract_20 (by decide) ?_
  refine g_iand 22 hC dX2_subtract_22 ?_
  refine g_isub 23 hC dX2_subtract_23 ?_
  refine g_iload_n 24 hC dX2_subtract_24 5 rfl ?_
  refine g_isub 25 hC dX2_subtract_25 ?_
  refine g_istore 26 hC dX2_subtract_26 (by decide) [(7, .int ((((a1 &&& (15 : Int32)) - (a2 &&& (15 : Int32))) - a3))), (6, .int ((((a1 - a2) - a3) &&& (255 : Int32)))), (5, .int (((a1 - a2) - a3))), (0, .ref (xS h)), (1, .int a1), (2, .int a2), (3, .int a3), (4, .int a4)] rfl ?_
  refine g_iload_n 28 hC dX2_subtract_28 4 rfl ?_
  refine g_iload_n 29 hC dX2_subtract_29 5 rfl ?_
  refine g_ixor 30 hC dX2_subtract_30 ?_
  refine g_iload_n 31 hC dX2_subtract_31 4 rfl ?_
  refine g_iload 32 hC dX2_subtract_32 1 rfl ?_
  refine g_ixor 34 hC dX2_subtract_34 ?_
  refine g_iand 35 hC dX2_subtract_35 ?_
  refine g_sipush 36 hC (128 : Int32) dX2_subtract_36 (by decide) ?_
  refine g_iand 39 hC dX2_subtract_39 ?_
  refine g_cut 48 (if (((a1 ^^^ a2) &&& (a1 ^^^ (((a1 - a2) - a3) &&& (255 : Int32)))) &&& (128 : Int32)) = 0 then (0 : Int32) else (1 : Int32)) [] ?_ (fun J2 => ?_)
  · skip
    refine g_istore 48 hC dX2_subtract_48 (by decide) [(8, .int ((if (((a1 ^^^ a2) &&& (a1 ^^^ (((a1 - a2) - a3) &&& (255 : Int32)))) &&& (128 : Int32)) = 0 then (0 : Int32) else (1 : Int32)))), (7, .int ((((a1 &&& (15 : Int32)) - (a2 &&& (15 : Int32))) - a3))), (6, .int ((((a1 - a2) - a3) &&& (255 : Int32)))), (5, .int (((a1 - a2) - a3))), (0, .ref (xS h)), (1, .int a1), (2, .int a2), (3, .int a3), (4, .int a4)] rfl ?_
    refine g_aload_n 50 hC dX2_subtract_50 4 rfl ?_
    refine x_get_sbytes 51 hC fiX2_subtract_wsX20 fmX2_subtract_13 dX2_subtract_51 ?_
    refine g_iload 54 hC dX2_subtract_54 8 rfl ?_
    refine g_iconst 56 hC (1 : Int32) dX2_subtract_56 (by decide) ?_
    refine g_ior 57 hC dX2_subtract_57 ?_
    refine g_bipush 58 hC (32 : Int32) dX2_subtract_58 (by decide) ?_
    refine g_ior 60 hC dX2_subtract_60 ?_
    refine g_iload 61 hC dX2_subtract_61 2 rfl ?_
    refine g_iload 63 hC dX2_subtract_63 0 rfl ?_
    refine kX2_signs 65 hC gX2_subtract_X2_signs ⟨Nat.le_of_ble_eq_true rfl, Nat.le_of_ble_eq_true rfl⟩ dX2_subtract_65 (Nat.le_of_ble_eq_true rfl) ?_
    refine g_iload 68 hC dX2_subtract_68 3 rfl ?_
    refine g_cut 78 (if 0 ≤ ((a1 - a2) - a3) then (0 : Int32) else (1 : Int32)) [.int ((fX2_signs (((a1 - a2) - a3) &&& (255 : Int32)) (if (((a1 ^^^ a2) &&& (a1 ^^^ (((a1 - a2) - a3) &&& (255 : Int32)))) &&& (128 : Int32)) = 0 then (0 : Int32) else (1 : Int32)))), .int (((a4 ||| (1 : Int32)) ||| (32 : Int32))), .ref (xB h)] ?_ (fun J4 => ?_)
    · skip
      refine g_ior 78 hC dX2_subtract_78 ?_
      refine g_iload 79 hC dX2_subtract_79 1 rfl ?_
      refine g_cut 90 (if 0 ≤ (((a1 &&& (15 : Int32)) - (a2 &&& (15 : Int32))) - a3) then (0 : Int32) else (32 : Int32)) [.int (((fX2_signs (((a1 - a2) - a3) &&& (255 : Int32)) (if (((a1 ^^^ a2) &&& (a1 ^^^ (((a1 - a2) - a3) &&& (255 : Int32)))) &&& (128 : Int32)) = 0 then (0 : Int32) else (1 : Int32))) ||| (if 0 ≤ ((a1 - a2) - a3) then (0 : Int32) else (1 : Int32)))), .int (((a4 ||| (1 : Int32)) ||| (32 : Int32))), .ref (xB h)] ?_ (fun J6 => ?_)
      · skip
        refine g_ior 90 hC dX2_subtract_90 ?_
        refine kX0_setFlags 91 hC gX2_subtract_X0_setFlags ⟨Nat.le_of_ble_eq_true rfl, Nat.le_of_ble_eq_true rfl⟩ dX2_subtract_91 (Nat.le_of_ble_eq_true rfl) ?_
        refine g_iload 94 hC dX2_subtract_94 2 rfl ?_
        exact g_iret 96 hC dX2_subtract_96
      · skip
        refine g_if_ge 81 hC 89 dX2_subtract_81 (by decide) (fun h5 => ?_) (fun h5 => ?_)
        · skip
          refine g_iconst 89 hC (0 : Int32) dX2_subtract_89 (by decide) ?_
          exact J6 _ (Eq.symm (if_pos h5))
        · skip
          refine g_bipush 84 hC (32 : Int32) dX2_subtract_84 (by decide) ?_
          refine g_goto 86 hC 90 dX2_subtract_86 (by decide) ?_
          exact J6 _ (Eq.symm (if_neg h5))
    · skip
      refine g_if_ge 70 hC 77 dX2_subtract_70 (by decide) (fun h3 => ?_) (fun h3 => ?_)
      · skip
        refine g_iconst 77 hC (0 : Int32) dX2_subtract_77 (by decide) ?_
        exact J4 _ (Eq.symm (if_pos h3))
      · skip
        refine g_iconst 73 hC (1 : Int32) dX2_subtract_73 (by decide) ?_
        refine g_goto 74 hC 78 dX2_subtract_74 (by decide) ?_
        exact J4 _ (Eq.symm (if_neg h3))
  · skip
    refine g_if_eq 40 hC 47 dX2_subtract_40 (by decide) (fun h1 => ?_) (fun h1 => ?_)
    · skip
      refine g_iconst 47 hC (0 : Int32) dX2_subtract_47 (by decide) ?_
      exact J2 _ (Eq.symm (if_pos h1))
    · skip
      refine g_iconst 43 hC (1 : Int32) dX2_subtract_43 (by decide) ?_
      refine g_goto 44 hC 48 dX2_subtract_44 (by decide) ?_
      exact J2 _ (Eq.symm (if_neg h1))
theorem kX2_subtract {K : KT} {h : HX} {cc : ByteArray} {nL : Nat} {own : String} {Ts : List Cond} {rm : Room} {ret : Option FieldType} {T : ST × Option Value} {u : ST} {lv : List (Nat × Value)} {rest : List Value} {idx : Nat} {a1 : Int32} {a2 : Int32} {a3 : Int32} {a4 : Int32} (pc : Nat) (hC : Cx K (EX h) cc nL own Ts rm ret) (hT : GoodIn Ts (wsV own idx RX2 yX2_subtract wsX2_subtract)) (hR : rmX2_subtract.frames + 1 ≤ rm.frames ∧ 8 + (9 + 11) + rmX2_subtract.locals ≤ rm.locals) (hdg : decode cc pc = .ok (.invokevirtual idx, 3)) (hcat : (rest.map fun v => v.category).sum ≤ 8) (kk : G K (EX h) nL T (fX2_subtract a1 a2 a3 a4 u).1 (pc + 3) lv (.int (fX2_subtract a1 a2 a3 a4 u).2 :: rest)) : G K (EX h) nL T u pc lv (.int a4 :: .int a3 :: .int a2 :: .int a1 :: .ref (xS h) :: rest) := g_callV (n := 4) pc hC (As := [.int a1, .int a2, .int a3, .int a4]) (rest := rest) (cX2_subtract_ _ (Cx.ok hC) a1 a2 a3 a4 u) hT rfl rfl rfl (by decide +kernel) hR 4 1 rfl rfl rfl rfl rfl hcat hdg kk

def fX2_difference (a1 : Int32) (a2 : Int32) (u : ST) : ST × Int32 :=
  (fX2_subtract a1 a2 (0 : Int32) (30 : Int32) u)
abbrev rmX2_difference : Room := { frames := 2, cells := 0, slots := 0, locals := 51 }
set_option maxRecDepth 20000 in
theorem cX2_difference_ (h : HX) (hE : okE (EX h)) (a1 : Int32) (a2 : Int32) (u : ST) : MX (EX h) yX2_difference wsX2_difference rmX2_difference [.ref (xS h), .int a1, .int a2] u (tW (fX2_difference a1 a2 u)) := by
  refine MX.of (cc := cX2_difference) (maxL := 3) (ret := (some .int)) (lv := [(0, .ref (xS h)), (1, .int a1), (2, .int a2)]) hE (by decide) rfl (fun _ => rfl) (Nat.le_of_ble_eq_true rfl) rfl (fun K hC => ?_)
  unfold fX2_difference
  refine g_aload_n 0 hC dX2_difference_0 0 rfl ?_
  refine g_iload_n 1 hC dX2_difference_1 1 rfl ?_
  refine g_iload_n 2 hC dX2_difference_2 2 rfl ?_
  refine g_iconst 3 hC (0 : Int32) dX2_difference_3 (by decide) ?_
  refine g_bipush 4 hC (30 : Int32) dX2_difference_4 (by decide) ?_
  refine kX2_subtract 6 hC gX2_difference_X2_subtract ⟨Nat.le_of_ble_eq_true rfl, Nat.le_of_ble_eq_true rfl⟩ dX2_difference_6 (Nat.le_of_ble_eq_true rfl) ?_
  exact g_iret 9 hC dX2_difference_9
theorem kX2_difference {K : KT} {h : HX} {cc : ByteArray} {nL : Nat} {own : String} {Ts : List Cond} {rm : Room} {ret : Option FieldType} {T : ST × Option Value} {u : ST} {lv : List (Nat × Value)} {rest : List Value} {idx : Nat} {a1 : Int32} {a2 : Int32} (pc : Nat) (hC : Cx K (EX h) cc nL own Ts rm ret) (hT : GoodIn Ts (wsV own idx RX2 yX2_difference wsX2_difference)) (hR : rmX2_difference.frames + 1 ≤ rm.frames ∧ 8 + (3 + 11) + rmX2_difference.locals ≤ rm.locals) (hdg : decode cc pc = .ok (.invokevirtual idx, 3)) (hcat : (rest.map fun v => v.category).sum ≤ 8) (kk : G K (EX h) nL T (fX2_difference a1 a2 u).1 (pc + 3) lv (.int (fX2_difference a1 a2 u).2 :: rest)) : G K (EX h) nL T u pc lv (.int a2 :: .int a1 :: .ref (xS h) :: rest) := g_callV (n := 2) pc hC (As := [.int a1, .int a2]) (rest := rest) (cX2_difference_ _ (Cx.ok hC) a1 a2 u) hT rfl rfl rfl (by decide +kernel) hR 4 1 rfl rfl rfl rfl rfl hcat hdg kk

def fX2_differenceOn (a1 : Int32) (a2 : Int32) (a3 : Int32) (u : ST) : ST × Int32 :=
  (fX2_subtract a1 a2 a3 (if (fX0_flag (1 : Int32) u) = (1 : Int32) then (30 : Int32) else (28 : Int32)) u)
theorem fiX2_differenceOn_wsX20 : ∀ w ∈ wsX20, w ∈ wsX2_differenceOn := fun w h => List.mem_cons_of_mem _ (List.mem_append_left _ (List.mem_append_right _ h))
theorem fmX2_differenceOn_13 : Cond.fieldLink RX2 13 "FlagCore$Sums" "bytes" "LFlagCore$Bytes;" ∈ wsX2_differenceOn := List.mem_of_getElem? (i := 1) rfl
abbrev rmX2_differenceOn : Room := { frames := 2, cells := 0, slots := 0, locals := 51 }
set_option maxRecDepth 20000 in
theorem cX2_differenceOn_ (h : HX) (hE : okE (EX h)) (a1 : Int32) (a2 : Int32) (a3 : Int32) (u : ST) : MX (EX h) yX2_differenceOn wsX2_differenceOn rmX2_differenceOn [.ref (xS h), .int a1, .int a2, .int a3] u (tW (fX2_differenceOn a1 a2 a3 u)) := by
  refine MX.of (cc := cX2_differenceOn) (maxL := 5) (ret := (some .int)) (lv := [(0, .ref (xS h)), (1, .int a1), (2, .int a2), (3, .int a3)]) hE (by decide) rfl (fun _ => rfl) (Nat.le_of_ble_eq_true rfl) rfl (fun K hC => ?_)
  unfold fX2_differenceOn
  refine g_aload_n 0 hC dX2_differenceOn_0 0 rfl ?_
  refine x_get_sbytes 1 hC fiX2_differenceOn_wsX20 fmX2_differenceOn_13 dX2_differenceOn_1 ?_
  refine g_iconst 4 hC (1 : Int32) dX2_differenceOn_4 (by decide) ?_
  refine kX0_flag 5 hC gX2_differenceOn_X0_flag ⟨Nat.le_of_ble_eq_true rfl, Nat.le_of_ble_eq_true rfl⟩ dX2_differenceOn_5 (Nat.le_of_ble_eq_true rfl) ?_
  refine g_iconst 8 hC (1 : Int32) dX2_differenceOn_8 (by decide) ?_
  refine g_cut 19 (if (fX0_flag (1 : Int32) u) = (1 : Int32) then (30 : Int32) else (28 : Int32)) [] ?_ (fun J2 => ?_)
  · skip
    refine g_istore 19 hC dX2_differenceOn_19 (by decide) [(4, .int ((if (fX0_flag (1 : Int32) u) = (1 : Int32) then (30 : Int32) else (28 : Int32)))), (0, .ref (xS h)), (1, .int a1), (2, .int a2), (3, .int a3)] rfl ?_
    refine g_aload_n 21 hC dX2_differenceOn_21 1 rfl ?_
    refine g_iload_n 22 hC dX2_differenceOn_22 2 rfl ?_
    refine g_iload_n 23 hC dX2_differenceOn_23 3 rfl ?_
    refine g_iload_n 24 hC dX2_differenceOn_24 4 rfl ?_
    refine g_iload 25 hC dX2_differenceOn_25 0 rfl ?_
    refine kX2_subtract 27 hC gX2_differenceOn_X2_subtract ⟨Nat.le_of_ble_eq_true rfl, Nat.le_of_ble_eq_true rfl⟩ dX2_differenceOn_27 (Nat.le_of_ble_eq_true rfl) ?_
    exact g_iret 30 hC dX2_differenceOn_30
  · skip
    refine g_icmp_ne 9 hC 17 dX2_differenceOn_9 (by decide) (fun h1 => ?_) (fun h1 => ?_)
    · skip
      refine g_bipush 17 hC (28 : Int32) dX2_differenceOn_17 (by decide) ?_
      exact J2 _ (Eq.symm (if_neg h1))
    · skip
      refine g_bipush 12 hC (30 : Int32) dX2_differenceOn_12 (by decide) ?_
      refine g_goto 14 hC 19 dX2_differenceOn_14 (by decide) ?_
      exact J2 _ (Eq.symm (if_pos h1))
theorem kX2_differenceOn {K : KT} {h : HX} {cc : ByteArray} {nL : Nat} {own : String} {Ts : List Cond} {rm : Room} {ret : Option FieldType} {T : ST × Option Value} {u : ST} {lv : List (Nat × Value)} {rest : List Value} {idx : Nat} {a1 : Int32} {a2 : Int32} {a3 : Int32} (pc : Nat) (hC : Cx K (EX h) cc nL own Ts rm ret) (hT : GoodIn Ts (wsV own idx RX2 yX2_differenceOn wsX2_differenceOn)) (hR : rmX2_differenceOn.frames + 1 ≤ rm.frames ∧ 8 + (5 + 11) + rmX2_differenceOn.locals ≤ rm.locals) (hdg : decode cc pc = .ok (.invokevirtual idx, 3)) (hcat : (rest.map fun v => v.category).sum ≤ 8) (kk : G K (EX h) nL T (fX2_differenceOn a1 a2 a3 u).1 (pc + 3) lv (.int (fX2_differenceOn a1 a2 a3 u).2 :: rest)) : G K (EX h) nL T u pc lv (.int a3 :: .int a2 :: .int a1 :: .ref (xS h) :: rest) := g_callV (n := 3) pc hC (As := [.int a1, .int a2, .int a3]) (rest := rest) (cX2_differenceOn_ _ (Cx.ok hC) a1 a2 a3 u) hT rfl rfl rfl (by decide +kernel) hR 4 1 rfl rfl rfl rfl rfl hcat hdg kk

def fX2_logic (a1 : Int32) (u : ST) : ST × Int32 :=
  ((fX0_setFlags (30 : Int32) (fX2_signs a1 (0 : Int32)) u), a1)
theorem fiX2_logic_wsX20 : ∀ w ∈ wsX20, w ∈ wsX2_logic := fun w h => List.mem_cons_of_mem _ (List.mem_append_left _ (List.mem_append_right _ h))
theorem fmX2_logic_13 : Cond.fieldLink RX2 13 "FlagCore$Sums" "bytes" "LFlagCore$Bytes;" ∈ wsX2_logic := List.mem_of_getElem? (i := 1) rfl
abbrev rmX2_logic : Room := { frames := 1, cells := 0, slots := 0, locals := 23 }
set_option maxRecDepth 20000 in
theorem cX2_logic_ (h : HX) (hE : okE (EX h)) (a1 : Int32) (u : ST) : MX (EX h) yX2_logic wsX2_logic rmX2_logic [.ref (xS h), .int a1] u (tW (fX2_logic a1 u)) := by
  refine MX.of (cc := cX2_logic) (maxL := 2) (ret := (some .int)) (lv := [(0, .ref (xS h)), (1, .int a1)]) hE (by decide) rfl (fun _ => rfl) (Nat.le_of_ble_eq_true rfl) rfl (fun K hC => ?_)
  unfold fX2_logic
  refine g_aload_n 0 hC dX2_logic_0 0 rfl ?_
  refine x_get_sbytes 1 hC fiX2_logic_wsX20 fmX2_logic_13 dX2_logic_1 ?_
  refine g_bipush 4 hC (30 : Int32) dX2_logic_4 (by decide) ?_
  refine g_iload_n 6 hC dX2_logic_6 1 rfl ?_
  refine g_iconst 7 hC (0 : Int32) dX2_logic_7 (by decide) ?_
  refine kX2_signs 8 hC gX2_logic_X2_signs ⟨Nat.le_of_ble_eq_true rfl, Nat.le_of_ble_eq_true rfl⟩ dX2_logic_8 (Nat.le_of_ble_eq_true rfl) ?_
  refine kX0_setFlags 11 hC gX2_logic_X0_setFlags ⟨Nat.le_of_ble_eq_true rfl, Nat.le_of_ble_eq_true rfl⟩ dX2_logic_11 (Nat.le_of_ble_eq_true rfl) ?_
  refine g_iload_n 14 hC dX2_logic_14 1 rfl ?_
  exact g_iret 15 hC dX2_logic_15
theorem kX2_logic {K : KT} {h : HX} {cc : ByteArray} {nL : Nat} {own : String} {Ts : List Cond} {rm : Room} {ret : Option FieldType} {T : ST × Option Value} {u : ST} {lv : List (Nat × Value)} {rest : List Value} {idx : Nat} {a1 : Int32} (pc : Nat) (hC : Cx K (EX h) cc nL own Ts rm ret) (hT : GoodIn Ts (wsV own idx RX2 yX2_logic wsX2_logic)) (hR : rmX2_logic.frames + 1 ≤ rm.frames ∧ 8 + (2 + 11) + rmX2_logic.locals ≤ rm.locals) (hdg : decode cc pc = .ok (.invokevirtual idx, 3)) (hcat : (rest.map fun v => v.category).sum ≤ 8) (kk : G K (EX h) nL T (fX2_logic a1 u).1 (pc + 3) lv (.int (fX2_logic a1 u).2 :: rest)) : G K (EX h) nL T u pc lv (.int a1 :: .ref (xS h) :: rest) := g_callV (n := 1) pc hC (As := [.int a1]) (rest := rest) (cX2_logic_ _ (Cx.ok hC) a1 u) hT rfl rfl rfl (by decide +kernel) hR 4 1 rfl rfl rfl rfl rfl hcat hdg kk

def fX2_inverse (a1 : Int32) (u : ST) : ST × Int32 :=
  ((fX0_setFlags (31 : Int32) ((fX2_signs ((255 : Int32) - a1) (0 : Int32)) ||| (1 : Int32)) u), ((255 : Int32) - a1))
theorem fiX2_inverse_wsX20 : ∀ w ∈ wsX20, w ∈ wsX2_inverse := fun w h => List.mem_cons_of_mem _ (List.mem_append_left _ (List.mem_append_right _ h))
theorem fmX2_inverse_13 : Cond.fieldLink RX2 13 "FlagCore$Sums" "bytes" "LFlagCore$Bytes;" ∈ wsX2_inverse := List.mem_of_getElem? (i := 1) rfl
abbrev rmX2_inverse : Room := { frames := 1, cells := 0, slots := 0, locals := 23 }
set_option maxRecDepth 20000 in
theorem cX2_inverse_ (h : HX) (hE : okE (EX h)) (a1 : Int32) (u : ST) : MX (EX h) yX2_inverse wsX2_inverse rmX2_inverse [.ref (xS h), .int a1] u (tW (fX2_inverse a1 u)) := by
  refine MX.of (cc := cX2_inverse) (maxL := 3) (ret := (some .int)) (lv := [(0, .ref (xS h)), (1, .int a1)]) hE (by decide) rfl (fun _ => rfl) (Nat.le_of_ble_eq_true rfl) rfl (fun K hC => ?_)
  unfold fX2_inverse
  refine g_sipush 0 hC (255 : Int32) dX2_inverse_0 (by decide) ?_
  refine g_iload_n 3 hC dX2_inverse_3 1 rfl ?_
  refine g_isub 4 hC dX2_inverse_4 ?_
  refine g_istore_n 5 hC dX2_inverse_5 (by decide) [(2, .int (((255 : Int32) - a1))), (0, .ref (xS h)), (1, .int a1)] rfl ?_
  refine g_aload_n 6 hC dX2_inverse_6 1 rfl ?_
  refine x_get_sbytes 7 hC fiX2_inverse_wsX20 fmX2_inverse_13 dX2_inverse_7 ?_
  refine g_bipush 10 hC (31 : Int32) dX2_inverse_10 (by decide) ?_
  refine g_iload_n 12 hC dX2_inverse_12 0 rfl ?_
  refine g_iconst 13 hC (0 : Int32) dX2_inverse_13 (by decide) ?_
  refine kX2_signs 14 hC gX2_inverse_X2_signs ⟨Nat.le_of_ble_eq_true rfl, Nat.le_of_ble_eq_true rfl⟩ dX2_inverse_14 (Nat.le_of_ble_eq_true rfl) ?_
  refine g_iconst 17 hC (1 : Int32) dX2_inverse_17 (by decide) ?_
  refine g_ior 18 hC dX2_inverse_18 ?_
  refine kX0_setFlags 19 hC gX2_inverse_X0_setFlags ⟨Nat.le_of_ble_eq_true rfl, Nat.le_of_ble_eq_true rfl⟩ dX2_inverse_19 (Nat.le_of_ble_eq_true rfl) ?_
  refine g_iload_n 22 hC dX2_inverse_22 0 rfl ?_
  exact g_iret 23 hC dX2_inverse_23
theorem kX2_inverse {K : KT} {h : HX} {cc : ByteArray} {nL : Nat} {own : String} {Ts : List Cond} {rm : Room} {ret : Option FieldType} {T : ST × Option Value} {u : ST} {lv : List (Nat × Value)} {rest : List Value} {idx : Nat} {a1 : Int32} (pc : Nat) (hC : Cx K (EX h) cc nL own Ts rm ret) (hT : GoodIn Ts (wsV own idx RX2 yX2_inverse wsX2_inverse)) (hR : rmX2_inverse.frames + 1 ≤ rm.frames ∧ 8 + (3 + 11) + rmX2_inverse.locals ≤ rm.locals) (hdg : decode cc pc = .ok (.invokevirtual idx, 3)) (hcat : (rest.map fun v => v.category).sum ≤ 8) (kk : G K (EX h) nL T (fX2_inverse a1 u).1 (pc + 3) lv (.int (fX2_inverse a1 u).2 :: rest)) : G K (EX h) nL T u pc lv (.int a1 :: .ref (xS h) :: rest) := g_callV (n := 1) pc hC (As := [.int a1]) (rest := rest) (cX2_inverse_ _ (Cx.ok hC) a1 u) hT rfl rfl rfl (by decide +kernel) hR 4 1 rfl rfl rfl rfl rfl hcat hdg kk

def fX2_more (a1 : Int32) (u : ST) : ST × Int32 :=
  ((fX0_setFlags (30 : Int32) (fX2_signs ((a1 + (1 : Int32)) &&& (255 : Int32)) (if ((a1 + (1 : Int32)) &&& (255 : Int32)) = (128 : Int32) then (1 : Int32) else (0 : Int32))) u), ((a1 + (1 : Int32)) &&& (255 : Int32)))
theorem fiX2_more_wsX20 : ∀ w ∈ wsX20, w ∈ wsX2_more := fun w h => List.mem_cons_of_mem _ (List.mem_append_left _ (List.mem_append_right _ h))
theorem fmX2_more_13 : Cond.fieldLink RX2 13 "FlagCore$Sums" "bytes" "LFlagCore$Bytes;" ∈ wsX2_more := List.mem_of_getElem? (i := 1) rfl
abbrev rmX2_more : Room := { frames := 1, cells := 0, slots := 0, locals := 23 }
set_option maxRecDepth 20000 in
theorem cX2_more_ (h : HX) (hE : okE (EX h)) (a1 : Int32) (u : ST) : MX (EX h) yX2_more wsX2_more rmX2_more [.ref (xS h), .int a1] u (tW (fX2_more a1 u)) := by
  refine MX.of (cc := cX2_more) (maxL := 3) (ret := (some .int)) (lv := [(0, .ref (xS h)), (1, .int a1)]) hE (by decide) rfl (fun _ => rfl) (Nat.le_of_ble_eq_true rfl) rfl (fun K hC => ?_)
  unfold fX2_more
  refine g_iload_n 0 hC dX2_more_0 1 rfl ?_
  refine g_iconst 1 hC (1 : Int32) dX2_more_1 (by decide) ?_
  refine g_iadd 2 hC dX2_more_2 ?_
  refine g_sipush 3 hC (255 : Int32) dX2_more_3 (by decide) ?_
  refine g_iand 6 hC dX2_more_6 ?_
  refine g_istore_n 7 hC dX2_more_7 (by decide) [(2, .int (((a1 + (1 : Int32)) &&& (255 : Int32)))), (0, .ref (xS h)), (1, .int a1)] rfl ?_
  refine g_aload_n 8 hC dX2_more_8 1 rfl ?_
  refine x_get_sbytes 9 hC fiX2_more_wsX20 fmX2_more_13 dX2_more_9 ?_
  refine g_bipush 12 hC (30 : Int32) dX2_more_12 (by decide) ?_
  refine g_iload_n 14 hC dX2_more_14 0 rfl ?_
  refine g_iload_n 15 hC dX2_more_15 0 rfl ?_
  refine g_sipush 16 hC (128 : Int32) dX2_more_16 (by decide) ?_
  refine g_cut 27 (if ((a1 + (1 : Int32)) &&& (255 : Int32)) = (128 : Int32) then (1 : Int32) else (0 : Int32)) [.int (((a1 + (1 : Int32)) &&& (255 : Int32))), .int ((30 : Int32)), .ref (xB h)] ?_ (fun J2 => ?_)
  · skip
    refine kX2_signs 27 hC gX2_more_X2_signs ⟨Nat.le_of_ble_eq_true rfl, Nat.le_of_ble_eq_true rfl⟩ dX2_more_27 (Nat.le_of_ble_eq_true rfl) ?_
    refine kX0_setFlags 30 hC gX2_more_X0_setFlags ⟨Nat.le_of_ble_eq_true rfl, Nat.le_of_ble_eq_true rfl⟩ dX2_more_30 (Nat.le_of_ble_eq_true rfl) ?_
    refine g_iload_n 33 hC dX2_more_33 0 rfl ?_
    exact g_iret 34 hC dX2_more_34
  · skip
    refine g_icmp_ne 19 hC 26 dX2_more_19 (by decide) (fun h1 => ?_) (fun h1 => ?_)
    · skip
      refine g_iconst 26 hC (0 : Int32) dX2_more_26 (by decide) ?_
      exact J2 _ (Eq.symm (if_neg h1))
    · skip
      refine g_iconst 22 hC (1 : Int32) dX2_more_22 (by decide) ?_
      refine g_goto 23 hC 27 dX2_more_23 (by decide) ?_
      exact J2 _ (Eq.symm (if_pos h1))
theorem kX2_more {K : KT} {h : HX} {cc : ByteArray} {nL : Nat} {own : String} {Ts : List Cond} {rm : Room} {ret : Option FieldType} {T : ST × Option Value} {u : ST} {lv : List (Nat × Value)} {rest : List Value} {idx : Nat} {a1 : Int32} (pc : Nat) (hC : Cx K (EX h) cc nL own Ts rm ret) (hT : GoodIn Ts (wsV own idx RX2 yX2_more wsX2_more)) (hR : rmX2_more.frames + 1 ≤ rm.frames ∧ 8 + (3 + 11) + rmX2_more.locals ≤ rm.locals) (hdg : decode cc pc = .ok (.invokevirtual idx, 3)) (hcat : (rest.map fun v => v.category).sum ≤ 8) (kk : G K (EX h) nL T (fX2_more a1 u).1 (pc + 3) lv (.int (fX2_more a1 u).2 :: rest)) : G K (EX h) nL T u pc lv (.int a1 :: .ref (xS h) :: rest) := g_callV (n := 1) pc hC (As := [.int a1]) (rest := rest) (cX2_more_ _ (Cx.ok hC) a1 u) hT rfl rfl rfl (by decide +kernel) hR 4 1 rfl rfl rfl rfl rfl hcat hdg kk

def fX2_less (a1 : Int32) (u : ST) : ST × Int32 :=
  ((fX0_setFlags (30 : Int32) (fX2_signs ((a1 - (1 : Int32)) &&& (255 : Int32)) (if ((a1 - (1 : Int32)) &&& (255 : Int32)) = (127 : Int32) then (1 : Int32) else (0 : Int32))) u), ((a1 - (1 : Int32)) &&& (255 : Int32)))
theorem fiX2_less_wsX20 : ∀ w ∈ wsX20, w ∈ wsX2_less := fun w h => List.mem_cons_of_mem _ (List.mem_append_left _ (List.mem_append_right _ h))
theorem fmX2_less_13 : Cond.fieldLink RX2 13 "FlagCore$Sums" "bytes" "LFlagCore$Bytes;" ∈ wsX2_less := List.mem_of_getElem? (i := 1) rfl
abbrev rmX2_less : Room := { frames := 1, cells := 0, slots := 0, locals := 23 }
set_option maxRecDepth 20000 in
theorem cX2_less_ (h : HX) (hE : okE (EX h)) (a1 : Int32) (u : ST) : MX (EX h) yX2_less wsX2_less rmX2_less [.ref (xS h), .int a1] u (tW (fX2_less a1 u)) := by
  refine MX.of (cc := cX2_less) (maxL := 3) (ret := (some .int)) (lv := [(0, .ref (xS h)), (1, .int a1)]) hE (by decide) rfl (fun _ => rfl) (Nat.le_of_ble_eq_true rfl) rfl (fun K hC => ?_)
  unfold fX2_less
  refine g_iload_n 0 hC dX2_less_0 1 rfl ?_
  refine g_iconst 1 hC (1 : Int32) dX2_less_1 (by decide) ?_
  refine g_isub 2 hC dX2_less_2 ?_
  refine g_sipush 3 hC (255 : Int32) dX2_less_3 (by decide) ?_
  refine g_iand 6 hC dX2_less_6 ?_
  refine g_istore_n 7 hC dX2_less_7 (by decide) [(2, .int (((a1 - (1 : Int32)) &&& (255 : Int32)))), (0, .ref (xS h)), (1, .int a1)] rfl ?_
  refine g_aload_n 8 hC dX2_less_8 1 rfl ?_
  refine x_get_sbytes 9 hC fiX2_less_wsX20 fmX2_less_13 dX2_less_9 ?_
  refine g_bipush 12 hC (30 : Int32) dX2_less_12 (by decide) ?_
  refine g_iload_n 14 hC dX2_less_14 0 rfl ?_
  refine g_iload_n 15 hC dX2_less_15 0 rfl ?_
  refine g_bipush 16 hC (127 : Int32) dX2_less_16 (by decide) ?_
  refine g_cut 26 (if ((a1 - (1 : Int32)) &&& (255 : Int32)) = (127 : Int32) then (1 : Int32) else (0 : Int32)) [.int (((a1 - (1 : Int32)) &&& (255 : Int32))), .int ((30 : Int32)), .ref (xB h)] ?_ (fun J2 => ?_)
  · skip
    refine kX2_signs 26 hC gX2_less_X2_signs ⟨Nat.le_of_ble_eq_true rfl, Nat.le_of_ble_eq_true rfl⟩ dX2_less_26 (Nat.le_of_ble_eq_true rfl) ?_
    refine kX0_setFlags 29 hC gX2_less_X0_setFlags ⟨Nat.le_of_ble_eq_true rfl, Nat.le_of_ble_eq_true rfl⟩ dX2_less_29 (Nat.le_of_ble_eq_true rfl) ?_
    refine g_iload_n 32 hC dX2_less_32 0 rfl ?_
    exact g_iret 33 hC dX2_less_33
  · skip
    refine g_icmp_ne 18 hC 25 dX2_less_18 (by decide) (fun h1 => ?_) (fun h1 => ?_)
    · skip
      refine g_iconst 25 hC (0 : Int32) dX2_less_25 (by decide) ?_
      exact J2 _ (Eq.symm (if_neg h1))
    · skip
      refine g_iconst 21 hC (1 : Int32) dX2_less_21 (by decide) ?_
      refine g_goto 22 hC 26 dX2_less_22 (by decide) ?_
      exact J2 _ (Eq.symm (if_pos h1))
theorem kX2_less {K : KT} {h : HX} {cc : ByteArray} {nL : Nat} {own : String} {Ts : List Cond} {rm : Room} {ret : Option FieldType} {T : ST × Option Value} {u : ST} {lv : List (Nat × Value)} {rest : List Value} {idx : Nat} {a1 : Int32} (pc : Nat) (hC : Cx K (EX h) cc nL own Ts rm ret) (hT : GoodIn Ts (wsV own idx RX2 yX2_less wsX2_less)) (hR : rmX2_less.frames + 1 ≤ rm.frames ∧ 8 + (3 + 11) + rmX2_less.locals ≤ rm.locals) (hdg : decode cc pc = .ok (.invokevirtual idx, 3)) (hcat : (rest.map fun v => v.category).sum ≤ 8) (kk : G K (EX h) nL T (fX2_less a1 u).1 (pc + 3) lv (.int (fX2_less a1 u).2 :: rest)) : G K (EX h) nL T u pc lv (.int a1 :: .ref (xS h) :: rest) := g_callV (n := 1) pc hC (As := [.int a1]) (rest := rest) (cX2_less_ _ (Cx.ok hC) a1 u) hT rfl rfl rfl (by decide +kernel) hR 4 1 rfl rfl rfl rfl rfl hcat hdg kk

def fX2_right (a1 : Int32) (a2 : Int32) (u : ST) : ST × Int32 :=
  ((fX0_setFlags (31 : Int32) ((fX2_signs ((jshr a1 (1 : Int32)) ||| (jshl a2 (7 : Int32))) (if a2 = (a1 &&& (1 : Int32)) then (0 : Int32) else (1 : Int32))) ||| (if (a1 &&& (1 : Int32)) = (1 : Int32) then (1 : Int32) else (0 : Int32))) u), ((jshr a1 (1 : Int32)) ||| (jshl a2 (7 : Int32))))
theorem fiX2_right_wsX20 : ∀ w ∈ wsX20, w ∈ wsX2_right := fun w h => List.mem_cons_of_mem _ (List.mem_append_left _ (List.mem_append_right _ h))
theorem fmX2_right_13 : Cond.fieldLink RX2 13 "FlagCore$Sums" "bytes" "LFlagCore$Bytes;" ∈ wsX2_right := List.mem_of_getElem? (i := 1) rfl
abbrev rmX2_right : Room := { frames := 1, cells := 0, slots := 0, locals := 23 }
set_option maxRecDepth 20000 in
theorem cX2_right_ (h : HX) (hE : okE (EX h)) (a1 : Int32) (a2 : Int32) (u : ST) : MX (EX h) yX2_right wsX2_right rmX2_right [.ref (xS h), .int a1, .int a2] u (tW (fX2_right a1 a2 u)) := by
  refine MX.of (cc := cX2_right) (maxL := 5) (ret := (some .int)) (lv := [(0, .ref (xS h)), (1, .int a1), (2, .int a2)]) hE (by decide) rfl (fun _ => rfl) (Nat.le_of_ble_eq_true rfl) rfl (fun K hC => ?_)
  unfold fX2_right
  refine g_iload_n 0 hC dX2_right_0 1 rfl ?_
  refine g_iconst 1 hC (1 : Int32) dX2_right_1 (by decide) ?_
  refine g_ishr 2 hC dX2_right_2 ?_
  refine g_iload_n 3 hC dX2_right_3 2 rfl ?_
  refine g_bipush 4 hC (7 : Int32) dX2_right_4 (by decide) ?_
  refine g_ishl 6 hC dX2_right_6 ?_
  refine g_ior 7 hC dX2_right_7 ?_
  refine g_istore_n 8 hC dX2_right_8 (by decide) [(3, .int (((jshr a1 (1 : Int32)) ||| (jshl a2 (7 : Int32))))), (0, .ref (xS h)), (1, .int a1), (2, .int a2)] rfl ?_
  refine g_iload_n 9 hC dX2_right_9 2 rfl ?_
  refine g_iconst 10 hC (1 : Int32) dX2_right_10 (by decide) ?_
  refine g_iand 11 hC dX2_right_11 ?_
  refine g_istore 12 hC dX2_right_12 (by decide) [(4, .int ((a1 &&& (1 : Int32)))), (3, .int (((jshr a1 (1 : Int32)) ||| (jshl a2 (7 : Int32))))), (0, .ref (xS h)), (1, .int a1), (2, .int a2)] rfl ?_
  refine g_aload_n 14 hC dX2_right_14 2 rfl ?_
  refine x_get_sbytes 15 hC fiX2_right_wsX20 fmX2_right_13 dX2_right_15 ?_
  refine g_bipush 18 hC (31 : Int32) dX2_right_18 (by decide) ?_
  refine g_iload_n 20 hC dX2_right_20 1 rfl ?_
  refine g_iload_n 21 hC dX2_right_21 4 rfl ?_
  refine g_iload 22 hC dX2_right_22 0 rfl ?_
  refine g_cut 32 (if a2 = (a1 &&& (1 : Int32)) then (0 : Int32) else (1 : Int32)) [.int (((jshr a1 (1 : Int32)) ||| (jshl a2 (7 : Int32)))), .int ((31 : Int32)), .ref (xB h)] ?_ (fun J2 => ?_)
  · skip
    refine kX2_signs 32 hC gX2_right_X2_signs ⟨Nat.le_of_ble_eq_true rfl, Nat.le_of_ble_eq_true rfl⟩ dX2_right_32 (Nat.le_of_ble_eq_true rfl) ?_
    refine g_iload 35 hC dX2_right_35 0 rfl ?_
    refine g_iconst 37 hC (1 : Int32) dX2_right_37 (by decide) ?_
    refine g_cut 46 (if (a1 &&& (1 : Int32)) = (1 : Int32) then (1 : Int32) else (0 : Int32)) [.int ((fX2_signs ((jshr a1 (1 : Int32)) ||| (jshl a2 (7 : Int32))) (if a2 = (a1 &&& (1 : Int32)) then (0 : Int32) else (1 : Int32)))), .int ((31 : Int32)), .ref (xB h)] ?_ (fun J4 => ?_)
    · skip
      refine g_ior 46 hC dX2_right_46 ?_
      refine kX0_setFlags 47 hC gX2_right_X0_setFlags ⟨Nat.le_of_ble_eq_true rfl, Nat.le_of_ble_eq_true rfl⟩ dX2_right_47 (Nat.le_of_ble_eq_true rfl) ?_
      refine g_iload_n 50 hC dX2_right_50 1 rfl ?_
      exact g_iret 51 hC dX2_right_51
    · skip
      refine g_icmp_ne 38 hC 45 dX2_right_38 (by decide) (fun h3 => ?_) (fun h3 => ?_)
      · skip
        refine g_iconst 45 hC (0 : Int32) dX2_right_45 (by decide) ?_
        exact J4 _ (Eq.symm (if_neg h3))
      · skip
        refine g_iconst 41 hC (1 : Int32) dX2_right_41 (by decide) ?_
        refine g_goto 42 hC 46 dX2_right_42 (by decide) ?_
        exact J4 _ (Eq.symm (if_pos h3))
  · skip
    refine g_icmp_eq 24 hC 31 dX2_right_24 (by decide) (fun h1 => ?_) (fun h1 => ?_)
    · skip
      refine g_iconst 31 hC (0 : Int32) dX2_right_31 (by decide) ?_
      exact J2 _ (Eq.symm (if_pos h1))
    · skip
      refine g_iconst 27 hC (1 : Int32) dX2_right_27 (by decide) ?_
      refine g_goto 28 hC 32 dX2_right_28 (by decide) ?_
      exact J2 _ (Eq.symm (if_neg h1))
theorem kX2_right {K : KT} {h : HX} {cc : ByteArray} {nL : Nat} {own : String} {Ts : List Cond} {rm : Room} {ret : Option FieldType} {T : ST × Option Value} {u : ST} {lv : List (Nat × Value)} {rest : List Value} {idx : Nat} {a1 : Int32} {a2 : Int32} (pc : Nat) (hC : Cx K (EX h) cc nL own Ts rm ret) (hT : GoodIn Ts (wsV own idx RX2 yX2_right wsX2_right)) (hR : rmX2_right.frames + 1 ≤ rm.frames ∧ 8 + (5 + 11) + rmX2_right.locals ≤ rm.locals) (hdg : decode cc pc = .ok (.invokevirtual idx, 3)) (hcat : (rest.map fun v => v.category).sum ≤ 8) (kk : G K (EX h) nL T (fX2_right a1 a2 u).1 (pc + 3) lv (.int (fX2_right a1 a2 u).2 :: rest)) : G K (EX h) nL T u pc lv (.int a2 :: .int a1 :: .ref (xS h) :: rest) := g_callV (n := 2) pc hC (As := [.int a1, .int a2]) (rest := rest) (cX2_right_ _ (Cx.ok hC) a1 a2 u) hT rfl rfl rfl (by decide +kernel) hR 4 1 rfl rfl rfl rfl rfl hcat hdg kk

def fX2_pairFlags (a1 : Int32) (a2 : Int32) (a3 : Int32) (u : ST) : ST :=
  (fX0_setFlags (31 : Int32) ((((fX2_signs (jshr a1 (8 : Int32)) (if (a2 &&& (32768 : Int32)) = 0 then (0 : Int32) else (1 : Int32))) &&& (-3 : Int32)) ||| (if a1 = 0 then (2 : Int32) else (0 : Int32))) ||| (if (a3 &&& (32768 : Int32)) = 0 then (0 : Int32) else (1 : Int32))) u)
theorem cmX2_pairFlags_40 : Jvm.Cond.constant RX2 40 (32768 : Int32) ∈ wsX2_pairFlags := List.mem_of_getElem? (i := 1) rfl
theorem fiX2_pairFlags_wsX20 : ∀ w ∈ wsX20, w ∈ wsX2_pairFlags := fun w h => List.mem_cons_of_mem _ (List.mem_append_left _ (List.mem_append_right _ h))
theorem fmX2_pairFlags_13 : Cond.fieldLink RX2 13 "FlagCore$Sums" "bytes" "LFlagCore$Bytes;" ∈ wsX2_pairFlags := List.mem_of_getElem? (i := 2) rfl
abbrev rmX2_pairFlags : Room := { frames := 1, cells := 0, slots := 0, locals := 23 }
set_option maxRecDepth 20000 in
theorem cX2_pairFlags_ (h : HX) (hE : okE (EX h)) (a1 : Int32) (a2 : Int32) (a3 : Int32) (u : ST) : MX (EX h) yX2_pairFlags wsX2_pairFlags rmX2_pairFlags [.ref (xS h), .int a1, .int a2, .int a3] u (tS (fX2_pairFlags a1 a2 a3 u)) := by
  refine MX.of (cc := cX2_pairFlags) (maxL := 5) (ret := none) (lv := [(0, .ref (xS h)), (1, .int a1), (2, .int a2), (3, .int a3)]) hE (by decide) rfl (fun _ => rfl) (Nat.le_of_ble_eq_true rfl) rfl (fun K hC => ?_)
  unfold fX2_pairFlags
  refine g_iload_n 0 hC dX2_pairFlags_0 1 rfl ?_
  refine g_bipush 1 hC (8 : Int32) dX2_pairFlags_1 (by decide) ?_
  refine g_ishr 3 hC dX2_pairFlags_3 ?_
  refine g_iload_n 4 hC dX2_pairFlags_4 2 rfl ?_
  refine g_ldc 5 hC (32768 : Int32) dX2_pairFlags_5 cmX2_pairFlags_40 ?_
  refine g_iand 7 hC dX2_pairFlags_7 ?_
  refine g_cut 16 (if (a2 &&& (32768 : Int32)) = 0 then (0 : Int32) else (1 : Int32)) [.int ((jshr a1 (8 : Int32)))] ?_ (fun J2 => ?_)
  · skip
    refine kX2_signs 16 hC gX2_pairFlags_X2_signs ⟨Nat.le_of_ble_eq_true rfl, Nat.le_of_ble_eq_true rfl⟩ dX2_pairFlags_16 (Nat.le_of_ble_eq_true rfl) ?_
    refine g_bipush 19 hC (-3 : Int32) dX2_pairFlags_19 (by decide) ?_
    refine g_iand 21 hC dX2_pairFlags_21 ?_
    refine g_istore 22 hC dX2_pairFlags_22 (by decide) [(4, .int (((fX2_signs (jshr a1 (8 : Int32)) (if (a2 &&& (32768 : Int32)) = 0 then (0 : Int32) else (1 : Int32))) &&& (-3 : Int32)))), (0, .ref (xS h)), (1, .int a1), (2, .int a2), (3, .int a3)] rfl ?_
    refine g_aload_n 24 hC dX2_pairFlags_24 1 rfl ?_
    refine x_get_sbytes 25 hC fiX2_pairFlags_wsX20 fmX2_pairFlags_13 dX2_pairFlags_25 ?_
    refine g_bipush 28 hC (31 : Int32) dX2_pairFlags_28 (by decide) ?_
    refine g_iload 30 hC dX2_pairFlags_30 0 rfl ?_
    refine g_iload_n 32 hC dX2_pairFlags_32 2 rfl ?_
    refine g_cut 41 (if a1 = 0 then (2 : Int32) else (0 : Int32)) [.int (((fX2_signs (jshr a1 (8 : Int32)) (if (a2 &&& (32768 : Int32)) = 0 then (0 : Int32) else (1 : Int32))) &&& (-3 : Int32))), .int ((31 : Int32)), .ref (xB h)] ?_ (fun J4 => ?_)
    · skip
      refine g_ior 41 hC dX2_pairFlags_41 ?_
      refine g_iload_n 42 hC dX2_pairFlags_42 4 rfl ?_
      refine g_ldc 43 hC (32768 : Int32) dX2_pairFlags_43 cmX2_pairFlags_40 ?_
      refine g_iand 45 hC dX2_pairFlags_45 ?_
      refine g_cut 54 (if (a3 &&& (32768 : Int32)) = 0 then (0 : Int32) else (1 : Int32)) [.int ((((fX2_signs (jshr a1 (8 : Int32)) (if (a2 &&& (32768 : Int32)) = 0 then (0 : Int32) else (1 : Int32))) &&& (-3 : Int32)) ||| (if a1 = 0 then (2 : Int32) else (0 : Int32)))), .int ((31 : Int32)), .ref (xB h)] ?_ (fun J6 => ?_)
      · skip
        refine g_ior 54 hC dX2_pairFlags_54 ?_
        refine kX0_setFlags 55 hC gX2_pairFlags_X0_setFlags ⟨Nat.le_of_ble_eq_true rfl, Nat.le_of_ble_eq_true rfl⟩ dX2_pairFlags_55 (Nat.le_of_ble_eq_true rfl) ?_
        exact g_vret 58 hC dX2_pairFlags_58
      · skip
        refine g_if_eq 46 hC 53 dX2_pairFlags_46 (by decide) (fun h5 => ?_) (fun h5 => ?_)
        · skip
          refine g_iconst 53 hC (0 : Int32) dX2_pairFlags_53 (by decide) ?_
          exact J6 _ (Eq.symm (if_pos h5))
        · skip
          refine g_iconst 49 hC (1 : Int32) dX2_pairFlags_49 (by decide) ?_
          refine g_goto 50 hC 54 dX2_pairFlags_50 (by decide) ?_
          exact J6 _ (Eq.symm (if_neg h5))
    · skip
      refine g_if_ne 33 hC 40 dX2_pairFlags_33 (by decide) (fun h3 => ?_) (fun h3 => ?_)
      · skip
        refine g_iconst 40 hC (0 : Int32) dX2_pairFlags_40 (by decide) ?_
        exact J4 _ (Eq.symm (if_neg h3))
      · skip
        refine g_iconst 36 hC (2 : Int32) dX2_pairFlags_36 (by decide) ?_
        refine g_goto 37 hC 41 dX2_pairFlags_37 (by decide) ?_
        exact J4 _ (Eq.symm (if_pos h3))
  · skip
    refine g_if_eq 8 hC 15 dX2_pairFlags_8 (by decide) (fun h1 => ?_) (fun h1 => ?_)
    · skip
      refine g_iconst 15 hC (0 : Int32) dX2_pairFlags_15 (by decide) ?_
      exact J2 _ (Eq.symm (if_pos h1))
    · skip
      refine g_iconst 11 hC (1 : Int32) dX2_pairFlags_11 (by decide) ?_
      refine g_goto 12 hC 16 dX2_pairFlags_12 (by decide) ?_
      exact J2 _ (Eq.symm (if_neg h1))
theorem kX2_pairFlags {K : KT} {h : HX} {cc : ByteArray} {nL : Nat} {own : String} {Ts : List Cond} {rm : Room} {ret : Option FieldType} {T : ST × Option Value} {u : ST} {lv : List (Nat × Value)} {rest : List Value} {idx : Nat} {a1 : Int32} {a2 : Int32} {a3 : Int32} (pc : Nat) (hC : Cx K (EX h) cc nL own Ts rm ret) (hT : GoodIn Ts (wsV own idx RX2 yX2_pairFlags wsX2_pairFlags)) (hR : rmX2_pairFlags.frames + 1 ≤ rm.frames ∧ 8 + (5 + 11) + rmX2_pairFlags.locals ≤ rm.locals) (hdg : decode cc pc = .ok (.invokevirtual idx, 3)) (hcat : (rest.map fun v => v.category).sum ≤ 8) (kk : G K (EX h) nL T (fX2_pairFlags a1 a2 a3 u) (pc + 3) lv (rest)) : G K (EX h) nL T u pc lv (.int a3 :: .int a2 :: .int a1 :: .ref (xS h) :: rest) := g_callV (n := 3) pc hC (As := [.int a1, .int a2, .int a3]) (rest := rest) (cX2_pairFlags_ _ (Cx.ok hC) a1 a2 a3 u) hT rfl rfl rfl (by decide +kernel) hR 4 1 rfl rfl rfl rfl rfl hcat hdg kk

def fX2_pairMore (a1 : Int32) (a2 : Int32) (u : ST) : ST × Int32 :=
  ((fX2_pairFlags ((a1 + a2) &&& (65535 : Int32)) ((a1 ^^^ (-1 : Int32)) &&& ((a1 + a2) &&& (65535 : Int32))) (a1 &&& (((a1 + a2) &&& (65535 : Int32)) ^^^ (-1 : Int32))) u), ((a1 + a2) &&& (65535 : Int32)))
theorem cmX2_pairMore_35 : Jvm.Cond.constant RX2 35 (65535 : Int32) ∈ wsX2_pairMore := List.mem_of_getElem? (i := 1) rfl
abbrev rmX2_pairMore : Room := { frames := 2, cells := 0, slots := 0, locals := 47 }
set_option maxRecDepth 20000 in
theorem cX2_pairMore_ (h : HX) (hE : okE (EX h)) (a1 : Int32) (a2 : Int32) (u : ST) : MX (EX h) yX2_pairMore wsX2_pairMore rmX2_pairMore [.ref (xS h), .int a1, .int a2] u (tW (fX2_pairMore a1 a2 u)) := by
  refine MX.of (cc := cX2_pairMore) (maxL := 4) (ret := (some .int)) (lv := [(0, .ref (xS h)), (1, .int a1), (2, .int a2)]) hE (by decide) rfl (fun _ => rfl) (Nat.le_of_ble_eq_true rfl) rfl (fun K hC => ?_)
  unfold fX2_pairMore
  refine g_iload_n 0 hC dX2_pairMore_0 1 rfl ?_
  refine g_iload_n 1 hC dX2_pairMore_1 2 rfl ?_
  refine g_iadd 2 hC dX2_pairMore_2 ?_
  refine g_ldc 3 hC (65535 : Int32) dX2_pairMore_3 cmX2_pairMore_35 ?_
  refine g_iand 5 hC dX2_pairMore_5 ?_
  refine g_istore_n 6 hC dX2_pairMore_6 (by decide) [(3, .int (((a1 + a2) &&& (65535 : Int32)))), (0, .ref (xS h)), (1, .int a1), (2, .int a2)] rfl ?_
  refine g_aload_n 7 hC dX2_pairMore_7 1 rfl ?_
  refine g_iload_n 8 hC dX2_pairMore_8 0 rfl ?_
  refine g_iload_n 9 hC dX2_pairMore_9 2 rfl ?_
  refine g_iconst 10 hC (-1 : Int32) dX2_pairMore_10 (by decide) ?_
  refine g_ixor 11 hC dX2_pairMore_11 ?_
  refine g_iload_n 12 hC dX2_pairMore_12 0 rfl ?_
  refine g_iand 13 hC dX2_pairMore_13 ?_
  refine g_iload_n 14 hC dX2_pairMore_14 2 rfl ?_
  refine g_iload_n 15 hC dX2_pairMore_15 0 rfl ?_
  refine g_iconst 16 hC (-1 : Int32) dX2_pairMore_16 (by decide) ?_
  refine g_ixor 17 hC dX2_pairMore_17 ?_
  refine g_iand 18 hC dX2_pairMore_18 ?_
  refine kX2_pairFlags 19 hC gX2_pairMore_X2_pairFlags ⟨Nat.le_of_ble_eq_true rfl, Nat.le_of_ble_eq_true rfl⟩ dX2_pairMore_19 (Nat.le_of_ble_eq_true rfl) ?_
  refine g_iload_n 22 hC dX2_pairMore_22 0 rfl ?_
  exact g_iret 23 hC dX2_pairMore_23
theorem kX2_pairMore {K : KT} {h : HX} {cc : ByteArray} {nL : Nat} {own : String} {Ts : List Cond} {rm : Room} {ret : Option FieldType} {T : ST × Option Value} {u : ST} {lv : List (Nat × Value)} {rest : List Value} {idx : Nat} {a1 : Int32} {a2 : Int32} (pc : Nat) (hC : Cx K (EX h) cc nL own Ts rm ret) (hT : GoodIn Ts (wsV own idx RX2 yX2_pairMore wsX2_pairMore)) (hR : rmX2_pairMore.frames + 1 ≤ rm.frames ∧ 8 + (4 + 11) + rmX2_pairMore.locals ≤ rm.locals) (hdg : decode cc pc = .ok (.invokevirtual idx, 3)) (hcat : (rest.map fun v => v.category).sum ≤ 8) (kk : G K (EX h) nL T (fX2_pairMore a1 a2 u).1 (pc + 3) lv (.int (fX2_pairMore a1 a2 u).2 :: rest)) : G K (EX h) nL T u pc lv (.int a2 :: .int a1 :: .ref (xS h) :: rest) := g_callV (n := 2) pc hC (As := [.int a1, .int a2]) (rest := rest) (cX2_pairMore_ _ (Cx.ok hC) a1 a2 u) hT rfl rfl rfl (by decide +kernel) hR 4 1 rfl rfl rfl rfl rfl hcat hdg kk

def fX2_pairLess (a1 : Int32) (a2 : Int32) (u : ST) : ST × Int32 :=
  ((fX2_pairFlags ((a1 - a2) &&& (65535 : Int32)) (a1 &&& (((a1 - a2) &&& (65535 : Int32)) ^^^ (-1 : Int32))) ((a1 ^^^ (-1 : Int32)) &&& ((a1 - a2) &&& (65535 : Int32))) u), ((a1 - a2) &&& (65535 : Int32)))
theorem cmX2_pairLess_35 : Jvm.Cond.constant RX2 35 (65535 : Int32) ∈ wsX2_pairLess := List.mem_of_getElem? (i := 1) rfl
abbrev rmX2_pairLess : Room := { frames := 2, cells := 0, slots := 0, locals := 47 }
set_option maxRecDepth 20000 in
theorem cX2_pairLess_ (h : HX) (hE : okE (EX h)) (a1 : Int32) (a2 : Int32) (u : ST) : MX (EX h) yX2_pairLess wsX2_pairLess rmX2_pairLess [.ref (xS h), .int a1, .int a2] u (tW (fX2_pairLess a1 a2 u)) := by
  refine MX.of (cc := cX2_pairLess) (maxL := 4) (ret := (some .int)) (lv := [(0, .ref (xS h)), (1, .int a1), (2, .int a2)]) hE (by decide) rfl (fun _ => rfl) (Nat.le_of_ble_eq_true rfl) rfl (fun K hC => ?_)
  unfold fX2_pairLess
  refine g_iload_n 0 hC dX2_pairLess_0 1 rfl ?_
  refine g_iload_n 1 hC dX2_pairLess_1 2 rfl ?_
  refine g_isub 2 hC dX2_pairLess_2 ?_
  refine g_ldc 3 hC (65535 : Int32) dX2_pairLess_3 cmX2_pairLess_35 ?_
  refine g_iand 5 hC dX2_pairLess_5 ?_
  refine g_istore_n 6 hC dX2_pairLess_6 (by decide) [(3, .int (((a1 - a2) &&& (65535 : Int32)))), (0, .ref (xS h)), (1, .int a1), (2, .int a2)] rfl ?_
  refine g_aload_n 7 hC dX2_pairLess_7 1 rfl ?_
  refine g_iload_n 8 hC dX2_pairLess_8 0 rfl ?_
  refine g_iload_n 9 hC dX2_pairLess_9 2 rfl ?_
  refine g_iload_n 10 hC dX2_pairLess_10 0 rfl ?_
  refine g_iconst 11 hC (-1 : Int32) dX2_pairLess_11 (by decide) ?_
  refine g_ixor 12 hC dX2_pairLess_12 ?_
  refine g_iand 13 hC dX2_pairLess_13 ?_
  refine g_iload_n 14 hC dX2_pairLess_14 2 rfl ?_
  refine g_iconst 15 hC (-1 : Int32) dX2_pairLess_15 (by decide) ?_
  refine g_ixor 16 hC dX2_pairLess_16 ?_
  refine g_iload_n 17 hC dX2_pairLess_17 0 rfl ?_
  refine g_iand 18 hC dX2_pairLess_18 ?_
  refine kX2_pairFlags 19 hC gX2_pairLess_X2_pairFlags ⟨Nat.le_of_ble_eq_true rfl, Nat.le_of_ble_eq_true rfl⟩ dX2_pairLess_19 (Nat.le_of_ble_eq_true rfl) ?_
  refine g_iload_n 22 hC dX2_pairLess_22 0 rfl ?_
  exact g_iret 23 hC dX2_pairLess_23
theorem kX2_pairLess {K : KT} {h : HX} {cc : ByteArray} {nL : Nat} {own : String} {Ts : List Cond} {rm : Room} {ret : Option FieldType} {T : ST × Option Value} {u : ST} {lv : List (Nat × Value)} {rest : List Value} {idx : Nat} {a1 : Int32} {a2 : Int32} (pc : Nat) (hC : Cx K (EX h) cc nL own Ts rm ret) (hT : GoodIn Ts (wsV own idx RX2 yX2_pairLess wsX2_pairLess)) (hR : rmX2_pairLess.frames + 1 ≤ rm.frames ∧ 8 + (4 + 11) + rmX2_pairLess.locals ≤ rm.locals) (hdg : decode cc pc = .ok (.invokevirtual idx, 3)) (hcat : (rest.map fun v => v.category).sum ≤ 8) (kk : G K (EX h) nL T (fX2_pairLess a1 a2 u).1 (pc + 3) lv (.int (fX2_pairLess a1 a2 u).2 :: rest)) : G K (EX h) nL T u pc lv (.int a2 :: .int a1 :: .ref (xS h) :: rest) := g_callV (n := 2) pc hC (As := [.int a1, .int a2]) (rest := rest) (cX2_pairLess_ _ (Cx.ok hC) a1 a2 u) hT rfl rfl rfl (by decide +kernel) hR 4 1 rfl rfl rfl rfl rfl hcat hdg kk

def fX2_keepProduct (a1 : Int32) (a2 : Int32) (u : ST) : ST :=
  (fX0_setFlags (3 : Int32) ((if (a1 &&& (32768 : Int32)) = 0 then (0 : Int32) else (1 : Int32)) ||| (if (a2 &&& (65535 : Int32)) = 0 then (2 : Int32) else (0 : Int32))) (fX0_setPair (0 : Int32) a2 u))
theorem fiX2_keepProduct_wsX20 : ∀ w ∈ wsX20, w ∈ wsX2_keepProduct := fun w h => List.mem_cons_of_mem _ (List.mem_append_left _ (List.mem_append_right _ h))
theorem fmX2_keepProduct_13 : Cond.fieldLink RX2 13 "FlagCore$Sums" "bytes" "LFlagCore$Bytes;" ∈ wsX2_keepProduct := List.mem_of_getElem? (i := 1) rfl
theorem cmX2_keepProduct_40 : Jvm.Cond.constant RX2 40 (32768 : Int32) ∈ wsX2_keepProduct := List.mem_of_getElem? (i := 2) rfl
theorem cmX2_keepProduct_35 : Jvm.Cond.constant RX2 35 (65535 : Int32) ∈ wsX2_keepProduct := List.mem_of_getElem? (i := 3) rfl
abbrev rmX2_keepProduct : Room := { frames := 1, cells := 0, slots := 0, locals := 22 }
set_option maxRecDepth 20000 in
theorem cX2_keepProduct_ (h : HX) (hE : okE (EX h)) (a1 : Int32) (a2 : Int32) (u : ST) : MX (EX h) yX2_keepProduct wsX2_keepProduct rmX2_keepProduct [.ref (xS h), .int a1, .int a2] u (tS (fX2_keepProduct a1 a2 u)) := by
  refine MX.of (cc := cX2_keepProduct) (maxL := 3) (ret := none) (lv := [(0, .ref (xS h)), (1, .int a1), (2, .int a2)]) hE (by decide) rfl (fun _ => rfl) (Nat.le_of_ble_eq_true rfl) rfl (fun K hC => ?_)
  unfold fX2_keepProduct
  refine g_aload_n 0 hC dX2_keepProduct_0 0 rfl ?_
  refine x_get_sbytes 1 hC fiX2_keepProduct_wsX20 fmX2_keepProduct_13 dX2_keepProduct_1 ?_
  refine g_iconst 4 hC (0 : Int32) dX2_keepProduct_4 (by decide) ?_
  refine g_iload_n 5 hC dX2_keepProduct_5 2 rfl ?_
  refine kX0_setPair 6 hC gX2_keepProduct_X0_setPair ⟨Nat.le_of_ble_eq_true rfl, Nat.le_of_ble_eq_true rfl⟩ dX2_keepProduct_6 (Nat.le_of_ble_eq_true rfl) ?_
  refine g_aload_n 9 hC dX2_keepProduct_9 0 rfl ?_
  refine x_get_sbytes 10 hC fiX2_keepProduct_wsX20 fmX2_keepProduct_13 dX2_keepProduct_10 ?_
  refine g_iconst 13 hC (3 : Int32) dX2_keepProduct_13 (by decide) ?_
  refine g_iload_n 14 hC dX2_keepProduct_14 1 rfl ?_
  refine g_ldc 15 hC (32768 : Int32) dX2_keepProduct_15 cmX2_keepProduct_40 ?_
  refine g_iand 17 hC dX2_keepProduct_17 ?_
  refine g_cut 26 (if (a1 &&& (32768 : Int32)) = 0 then (0 : Int32) else (1 : Int32)) [.int ((3 : Int32)), .ref (xB h)] ?_ (fun J2 => ?_)
  · skip
    refine g_iload_n 26 hC dX2_keepProduct_26 2 rfl ?_
    refine g_ldc 27 hC (65535 : Int32) dX2_keepProduct_27 cmX2_keepProduct_35 ?_
    refine g_iand 29 hC dX2_keepProduct_29 ?_
    refine g_cut 38 (if (a2 &&& (65535 : Int32)) = 0 then (2 : Int32) else (0 : Int32)) [.int ((if (a1 &&& (32768 : Int32)) = 0 then (0 : Int32) else (1 : Int32))), .int ((3 : Int32)), .ref (xB h)] ?_ (fun J4 => ?_)
    · skip
      refine g_ior 38 hC dX2_keepProduct_38 ?_
      refine kX0_setFlags 39 hC gX2_keepProduct_X0_setFlags ⟨Nat.le_of_ble_eq_true rfl, Nat.le_of_ble_eq_true rfl⟩ dX2_keepProduct_39 (Nat.le_of_ble_eq_true rfl) ?_
      exact g_vret 42 hC dX2_keepProduct_42
    · skip
      refine g_if_ne 30 hC 37 dX2_keepProduct_30 (by decide) (fun h3 => ?_) (fun h3 => ?_)
      · skip
        refine g_iconst 37 hC (0 : Int32) dX2_keepProduct_37 (by decide) ?_
        exact J4 _ (Eq.symm (if_neg h3))
      · skip
        refine g_iconst 33 hC (2 : Int32) dX2_keepProduct_33 (by decide) ?_
        refine g_goto 34 hC 38 dX2_keepProduct_34 (by decide) ?_
        exact J4 _ (Eq.symm (if_pos h3))
  · skip
    refine g_if_eq 18 hC 25 dX2_keepProduct_18 (by decide) (fun h1 => ?_) (fun h1 => ?_)
    · skip
      refine g_iconst 25 hC (0 : Int32) dX2_keepProduct_25 (by decide) ?_
      exact J2 _ (Eq.symm (if_pos h1))
    · skip
      refine g_iconst 21 hC (1 : Int32) dX2_keepProduct_21 (by decide) ?_
      refine g_goto 22 hC 26 dX2_keepProduct_22 (by decide) ?_
      exact J2 _ (Eq.symm (if_neg h1))
theorem kX2_keepProduct {K : KT} {h : HX} {cc : ByteArray} {nL : Nat} {own : String} {Ts : List Cond} {rm : Room} {ret : Option FieldType} {T : ST × Option Value} {u : ST} {lv : List (Nat × Value)} {rest : List Value} {idx : Nat} {a1 : Int32} {a2 : Int32} (pc : Nat) (hC : Cx K (EX h) cc nL own Ts rm ret) (hT : GoodIn Ts (wsV own idx RX2 yX2_keepProduct wsX2_keepProduct)) (hR : rmX2_keepProduct.frames + 1 ≤ rm.frames ∧ 8 + (3 + 11) + rmX2_keepProduct.locals ≤ rm.locals) (hdg : decode cc pc = .ok (.invokevirtual idx, 3)) (hcat : (rest.map fun v => v.category).sum ≤ 8) (kk : G K (EX h) nL T (fX2_keepProduct a1 a2 u) (pc + 3) lv (rest)) : G K (EX h) nL T u pc lv (.int a2 :: .int a1 :: .ref (xS h) :: rest) := g_callV (n := 2) pc hC (As := [.int a1, .int a2]) (rest := rest) (cX2_keepProduct_ _ (Cx.ok hC) a1 a2 u) hT rfl rfl rfl (by decide +kernel) hR 4 1 rfl rfl rfl rfl rfl hcat hdg kk

def fX2_product (a1 : Int32) (u : ST) : ST :=
  (fX2_keepProduct a1 a1 u)
abbrev rmX2_product : Room := { frames := 2, cells := 0, slots := 0, locals := 44 }
set_option maxRecDepth 20000 in
theorem cX2_product_ (h : HX) (hE : okE (EX h)) (a1 : Int32) (u : ST) : MX (EX h) yX2_product wsX2_product rmX2_product [.ref (xS h), .int a1] u (tS (fX2_product a1 u)) := by
  refine MX.of (cc := cX2_product) (maxL := 2) (ret := none) (lv := [(0, .ref (xS h)), (1, .int a1)]) hE (by decide) rfl (fun _ => rfl) (Nat.le_of_ble_eq_true rfl) rfl (fun K hC => ?_)
  unfold fX2_product
  refine g_aload_n 0 hC dX2_product_0 0 rfl ?_
  refine g_iload_n 1 hC dX2_product_1 1 rfl ?_
  refine g_iload_n 2 hC dX2_product_2 1 rfl ?_
  refine kX2_keepProduct 3 hC gX2_product_X2_keepProduct ⟨Nat.le_of_ble_eq_true rfl, Nat.le_of_ble_eq_true rfl⟩ dX2_product_3 (Nat.le_of_ble_eq_true rfl) ?_
  exact g_vret 6 hC dX2_product_6
theorem kX2_product {K : KT} {h : HX} {cc : ByteArray} {nL : Nat} {own : String} {Ts : List Cond} {rm : Room} {ret : Option FieldType} {T : ST × Option Value} {u : ST} {lv : List (Nat × Value)} {rest : List Value} {idx : Nat} {a1 : Int32} (pc : Nat) (hC : Cx K (EX h) cc nL own Ts rm ret) (hT : GoodIn Ts (wsV own idx RX2 yX2_product wsX2_product)) (hR : rmX2_product.frames + 1 ≤ rm.frames ∧ 8 + (2 + 11) + rmX2_product.locals ≤ rm.locals) (hdg : decode cc pc = .ok (.invokevirtual idx, 3)) (hcat : (rest.map fun v => v.category).sum ≤ 8) (kk : G K (EX h) nL T (fX2_product a1 u) (pc + 3) lv (rest)) : G K (EX h) nL T u pc lv (.int a1 :: .ref (xS h) :: rest) := g_callV (n := 1) pc hC (As := [.int a1]) (rest := rest) (cX2_product_ _ (Cx.ok hC) a1 u) hT rfl rfl rfl (by decide +kernel) hR 4 1 rfl rfl rfl rfl rfl hcat hdg kk

def fX2_fraction (a1 : Int32) (u : ST) : ST :=
  (fX2_keepProduct a1 (jshl a1 (1 : Int32)) u)
abbrev rmX2_fraction : Room := { frames := 2, cells := 0, slots := 0, locals := 44 }
set_option maxRecDepth 20000 in
theorem cX2_fraction_ (h : HX) (hE : okE (EX h)) (a1 : Int32) (u : ST) : MX (EX h) yX2_fraction wsX2_fraction rmX2_fraction [.ref (xS h), .int a1] u (tS (fX2_fraction a1 u)) := by
  refine MX.of (cc := cX2_fraction) (maxL := 2) (ret := none) (lv := [(0, .ref (xS h)), (1, .int a1)]) hE (by decide) rfl (fun _ => rfl) (Nat.le_of_ble_eq_true rfl) rfl (fun K hC => ?_)
  unfold fX2_fraction
  refine g_aload_n 0 hC dX2_fraction_0 0 rfl ?_
  refine g_iload_n 1 hC dX2_fraction_1 1 rfl ?_
  refine g_iload_n 2 hC dX2_fraction_2 1 rfl ?_
  refine g_iconst 3 hC (1 : Int32) dX2_fraction_3 (by decide) ?_
  refine g_ishl 4 hC dX2_fraction_4 ?_
  refine kX2_keepProduct 5 hC gX2_fraction_X2_keepProduct ⟨Nat.le_of_ble_eq_true rfl, Nat.le_of_ble_eq_true rfl⟩ dX2_fraction_5 (Nat.le_of_ble_eq_true rfl) ?_
  exact g_vret 8 hC dX2_fraction_8
theorem kX2_fraction {K : KT} {h : HX} {cc : ByteArray} {nL : Nat} {own : String} {Ts : List Cond} {rm : Room} {ret : Option FieldType} {T : ST × Option Value} {u : ST} {lv : List (Nat × Value)} {rest : List Value} {idx : Nat} {a1 : Int32} (pc : Nat) (hC : Cx K (EX h) cc nL own Ts rm ret) (hT : GoodIn Ts (wsV own idx RX2 yX2_fraction wsX2_fraction)) (hR : rmX2_fraction.frames + 1 ≤ rm.frames ∧ 8 + (2 + 11) + rmX2_fraction.locals ≤ rm.locals) (hdg : decode cc pc = .ok (.invokevirtual idx, 3)) (hcat : (rest.map fun v => v.category).sum ≤ 8) (kk : G K (EX h) nL T (fX2_fraction a1 u) (pc + 3) lv (rest)) : G K (EX h) nL T u pc lv (.int a1 :: .ref (xS h) :: rest) := g_callV (n := 1) pc hC (As := [.int a1]) (rest := rest) (cX2_fraction_ _ (Cx.ok hC) a1 u) hT rfl rfl rfl (by decide +kernel) hR 4 1 rfl rfl rfl rfl rfl hcat hdg kk
end
section
def fX3_d (a0 : Int32) : Int32 :=
  ((jshr a0 (4 : Int32)) &&& (31 : Int32))
abbrev rmX3_d : Room := { frames := 0, cells := 0, slots := 0, locals := 0 }
set_option maxRecDepth 20000 in
theorem cX3_d_ (E : EV) (hE : okE E) (a0 : Int32) (u : ST) : MX E yX3_d wsX3_d rmX3_d [.int a0] u (tR u (fX3_d a0)) := by
  refine MX.of (cc := cX3_d) (maxL := 1) (ret := (some .int)) (lv := [(0, .int a0)]) hE (by decide) rfl (fun _ => rfl) (Nat.le_of_ble_eq_true rfl) rfl (fun K hC => ?_)
  unfold fX3_d
  refine g_iload_n 0 hC dX3_d_0 0 rfl ?_
  refine g_iconst 1 hC (4 : Int32) dX3_d_1 (by decide) ?_
  refine g_ishr 2 hC dX3_d_2 ?_
  refine g_bipush 3 hC (31 : Int32) dX3_d_3 (by decide) ?_
  refine g_iand 5 hC dX3_d_5 ?_
  exact g_iret 6 hC dX3_d_6
theorem kX3_d {K : KT} {E : EV} {cc : ByteArray} {nL : Nat} {own : String} {Ts : List Cond} {rm : Room} {ret : Option FieldType} {T : ST × Option Value} {u : ST} {lv : List (Nat × Value)} {rest : List Value} {idx : Nat} {a0 : Int32} (pc : Nat) (hC : Cx K E cc nL own Ts rm ret) (hT : GoodIn Ts (va_wsS own idx yX3_d wsX3_d)) (hR : rmX3_d.frames + 1 ≤ rm.frames ∧ 8 + (1 + 11) + rmX3_d.locals ≤ rm.locals) (hdg : decode cc pc = .ok (.invokestatic idx, 3)) (hcat : (rest.map fun v => v.category).sum ≤ 8) (kk : G K E nL T u (pc + 3) lv (.int (fX3_d a0) :: rest)) : G K E nL T u pc lv (.int a0 :: rest) := g_callS (n := 1) pc hC (As := [.int a0]) (rest := rest) (cX3_d_ _ (Cx.ok hC) a0 u) hT rfl rfl rfl (by decide +kernel) hR rfl rfl hcat hdg kk

def fX3_r (a0 : Int32) : Int32 :=
  (((jshr a0 (5 : Int32)) &&& (16 : Int32)) ||| (a0 &&& (15 : Int32)))
abbrev rmX3_r : Room := { frames := 0, cells := 0, slots := 0, locals := 0 }
set_option maxRecDepth 20000 in
theorem cX3_r_ (E : EV) (hE : okE E) (a0 : Int32) (u : ST) : MX E yX3_r wsX3_r rmX3_r [.int a0] u (tR u (fX3_r a0)) := by
  refine MX.of (cc := cX3_r) (maxL := 1) (ret := (some .int)) (lv := [(0, .int a0)]) hE (by decide) rfl (fun _ => rfl) (Nat.le_of_ble_eq_true rfl) rfl (fun K hC => ?_)
  unfold fX3_r
  refine g_iload_n 0 hC dX3_r_0 0 rfl ?_
  refine g_iconst 1 hC (5 : Int32) dX3_r_1 (by decide) ?_
  refine g_ishr 2 hC dX3_r_2 ?_
  refine g_bipush 3 hC (16 : Int32) dX3_r_3 (by decide) ?_
  refine g_iand 5 hC dX3_r_5 ?_
  refine g_iload_n 6 hC dX3_r_6 0 rfl ?_
  refine g_bipush 7 hC (15 : Int32) dX3_r_7 (by decide) ?_
  refine g_iand 9 hC dX3_r_9 ?_
  refine g_ior 10 hC dX3_r_10 ?_
  exact g_iret 11 hC dX3_r_11
theorem kX3_r {K : KT} {E : EV} {cc : ByteArray} {nL : Nat} {own : String} {Ts : List Cond} {rm : Room} {ret : Option FieldType} {T : ST × Option Value} {u : ST} {lv : List (Nat × Value)} {rest : List Value} {idx : Nat} {a0 : Int32} (pc : Nat) (hC : Cx K E cc nL own Ts rm ret) (hT : GoodIn Ts (va_wsS own idx yX3_r wsX3_r)) (hR : rmX3_r.frames + 1 ≤ rm.frames ∧ 8 + (1 + 11) + rmX3_r.locals ≤ rm.locals) (hdg : decode cc pc = .ok (.invokestatic idx, 3)) (hcat : (rest.map fun v => v.category).sum ≤ 8) (kk : G K E nL T u (pc + 3) lv (.int (fX3_r a0) :: rest)) : G K E nL T u pc lv (.int a0 :: rest) := g_callS (n := 1) pc hC (As := [.int a0]) (rest := rest) (cX3_r_ _ (Cx.ok hC) a0 u) hT rfl rfl rfl (by decide +kernel) hR rfl rfl hcat hdg kk

def fX3_pointer (a0 : Int32) : Int32 :=
  if ((jshr a0 (2 : Int32)) &&& (3 : Int32)) = (0 : Int32) then
    (30 : Int32)
  else
    if ((jshr a0 (2 : Int32)) &&& (3 : Int32)) = (2 : Int32) then
      (28 : Int32)
    else
      (26 : Int32)
abbrev rmX3_pointer : Room := { frames := 0, cells := 0, slots := 0, locals := 0 }
set_option maxRecDepth 20000 in
theorem cX3_pointer_ (E : EV) (hE : okE E) (a0 : Int32) (u : ST) : MX E yX3_pointer wsX3_pointer rmX3_pointer [.int a0] u (tR u (fX3_pointer a0)) := by
  refine MX.of (cc := cX3_pointer) (maxL := 1) (ret := (some .int)) (lv := [(0, .int a0)]) hE (by decide) rfl (fun _ => rfl) (Nat.le_of_ble_eq_true rfl) rfl (fun K hC => ?_)
  unfold fX3_pointer
  refine g_iload_n 0 hC dX3_pointer_0 0 rfl ?_
  refine g_iconst 1 hC (2 : Int32) dX3_pointer_1 (by decide) ?_
  refine g_ishr 2 hC dX3_pointer_2 ?_
  refine g_iconst 3 hC (3 : Int32) dX3_pointer_3 (by decide) ?_
  refine g_iand 4 hC dX3_pointer_4 ?_
  refine g_byT (tR u) (fun h1 => ?_) (fun h1 => ?_)
  · refine g_ls 5 hC (27) 32 dX3_pointer_5 (by decide) (by rw [h1]; decide) (by decide) ?_
    refine g_bipush 32 hC (30 : Int32) dX3_pointer_32 (by decide) ?_
    exact g_iret 34 hC dX3_pointer_34
  · skip
    refine g_byT (tR u) (fun h2 => ?_) (fun h2 => ?_)
    · refine g_ls 5 hC (30) 35 dX3_pointer_5 (by decide) (by rw [h2]; decide) (by decide) ?_
      refine g_bipush 35 hC (28 : Int32) dX3_pointer_35 (by decide) ?_
      exact g_iret 37 hC dX3_pointer_37
    · skip
      refine g_ls 5 hC (33) 38 dX3_pointer_5 (by decide) ((lv_osw h1 (a := 0) (by decide)).trans ((lv_osw h2 (a := 2) (by decide)).trans rfl)) (by decide) ?_
      refine g_bipush 38 hC (26 : Int32) dX3_pointer_38 (by decide) ?_
      exact g_iret 40 hC dX3_pointer_40
theorem kX3_pointer {K : KT} {E : EV} {cc : ByteArray} {nL : Nat} {own : String} {Ts : List Cond} {rm : Room} {ret : Option FieldType} {T : ST × Option Value} {u : ST} {lv : List (Nat × Value)} {rest : List Value} {idx : Nat} {a0 : Int32} (pc : Nat) (hC : Cx K E cc nL own Ts rm ret) (hT : GoodIn Ts (va_wsS own idx yX3_pointer wsX3_pointer)) (hR : rmX3_pointer.frames + 1 ≤ rm.frames ∧ 8 + (1 + 11) + rmX3_pointer.locals ≤ rm.locals) (hdg : decode cc pc = .ok (.invokestatic idx, 3)) (hcat : (rest.map fun v => v.category).sum ≤ 8) (kk : G K E nL T u (pc + 3) lv (.int (fX3_pointer a0) :: rest)) : G K E nL T u pc lv (.int a0 :: rest) := g_callS (n := 1) pc hC (As := [.int a0]) (rest := rest) (cX3_pointer_ _ (Cx.ok hC) a0 u) hT rfl rfl rfl (by decide +kernel) hR rfl rfl hcat hdg kk

def fX3_hasNext (a0 : Int32) : Int32 :=
  (if (a0 &&& (64527 : Int32)) = (36864 : Int32) then (1 : Int32) else (if (a0 &&& (65036 : Int32)) = (37900 : Int32) then (1 : Int32) else (0 : Int32)))
theorem cmX3_hasNext_9 : Jvm.Cond.constant RX3 9 (64527 : Int32) ∈ wsX3_hasNext := List.mem_of_getElem? (i := 1) rfl
theorem cmX3_hasNext_10 : Jvm.Cond.constant RX3 10 (36864 : Int32) ∈ wsX3_hasNext := List.mem_of_getElem? (i := 2) rfl
theorem cmX3_hasNext_11 : Jvm.Cond.constant RX3 11 (65036 : Int32) ∈ wsX3_hasNext := List.mem_of_getElem? (i := 3) rfl
theorem cmX3_hasNext_12 : Jvm.Cond.constant RX3 12 (37900 : Int32) ∈ wsX3_hasNext := List.mem_of_getElem? (i := 4) rfl
abbrev rmX3_hasNext : Room := { frames := 0, cells := 0, slots := 0, locals := 0 }
set_option maxRecDepth 20000 in
theorem cX3_hasNext_ (E : EV) (hE : okE E) (a0 : Int32) (u : ST) : MX E yX3_hasNext wsX3_hasNext rmX3_hasNext [.int a0] u (tR u (fX3_hasNext a0)) := by
  refine MX.of (cc := cX3_hasNext) (maxL := 1) (ret := (some .boolean)) (lv := [(0, .int a0)]) hE (by decide) rfl (fun _ => rfl) (Nat.le_of_ble_eq_true rfl) rfl (fun K hC => ?_)
  unfold fX3_hasNext
  refine g_iload_n 0 hC dX3_hasNext_0 0 rfl ?_
  refine g_ldc 1 hC (64527 : Int32) dX3_hasNext_1 cmX3_hasNext_9 ?_
  refine g_iand 3 hC dX3_hasNext_3 ?_
  refine g_ldc 4 hC (36864 : Int32) dX3_hasNext_4 cmX3_hasNext_10 ?_
  refine g_cut 23 (if (a0 &&& (64527 : Int32)) = (36864 : Int32) then (1 : Int32) else (if (a0 &&& (65036 : Int32)) = (37900 : Int32) then (1 : Int32) else (0 : Int32))) [] ?_ (fun J3 => ?_)
  · skip
    exact g_zret 23 hC (nbI nb1 (nbI nb1 nb0)) dX3_hasNext_23
  · skip
    refine g_icmp_eq 6 hC 18 dX3_hasNext_6 (by decide) (fun h1 => ?_) (fun h1 => ?_)
    · skip
      refine g_iconst 18 hC (1 : Int32) dX3_hasNext_18 (by decide) ?_
      refine g_goto 19 hC 23 dX3_hasNext_19 (by decide) ?_
      exact J3 _ (Eq.symm (if_pos h1))
    · skip
      refine g_iload_n 9 hC dX3_hasNext_9 0 rfl ?_
      refine g_ldc 10 hC (65036 : Int32) dX3_hasNext_10 cmX3_hasNext_11 ?_
      refine g_iand 12 hC dX3_hasNext_12 ?_
      refine g_ldc 13 hC (37900 : Int32) dX3_hasNext_13 cmX3_hasNext_12 ?_
      refine g_icmp_ne 15 hC 22 dX3_hasNext_15 (by decide) (fun h2 => ?_) (fun h2 => ?_)
      · skip
        refine g_iconst 22 hC (0 : Int32) dX3_hasNext_22 (by decide) ?_
        exact J3 _ (Eq.symm (Eq.trans (if_neg h1) (if_neg h2)))
      · skip
        refine g_iconst 18 hC (1 : Int32) dX3_hasNext_18 (by decide) ?_
        refine g_goto 19 hC 23 dX3_hasNext_19 (by decide) ?_
        exact J3 _ (Eq.symm (Eq.trans (if_neg h1) (if_pos h2)))
theorem kX3_hasNext {K : KT} {E : EV} {cc : ByteArray} {nL : Nat} {own : String} {Ts : List Cond} {rm : Room} {ret : Option FieldType} {T : ST × Option Value} {u : ST} {lv : List (Nat × Value)} {rest : List Value} {idx : Nat} {a0 : Int32} (pc : Nat) (hC : Cx K E cc nL own Ts rm ret) (hT : GoodIn Ts (va_wsS own idx yX3_hasNext wsX3_hasNext)) (hR : rmX3_hasNext.frames + 1 ≤ rm.frames ∧ 8 + (1 + 11) + rmX3_hasNext.locals ≤ rm.locals) (hdg : decode cc pc = .ok (.invokestatic idx, 3)) (hcat : (rest.map fun v => v.category).sum ≤ 8) (kk : G K E nL T u (pc + 3) lv (.int (fX3_hasNext a0) :: rest)) : G K E nL T u pc lv (.int a0 :: rest) := g_callS (n := 1) pc hC (As := [.int a0]) (rest := rest) (cX3_hasNext_ _ (Cx.ok hC) a0 u) hT rfl rfl rfl (by decide +kernel) hR rfl rfl hcat hdg kk

def fX3_lowGroupOf (a0 : Int32) : Int32 :=
  if a0 = 0 then
    (1 : Int32)
  else
    if (jshr a0 (8 : Int32)) = (0 : Int32) then
      (0 : Int32)
    else
      if (jshr a0 (8 : Int32)) = (1 : Int32) then
        (2 : Int32)
      else
        if (jshr a0 (8 : Int32)) = (2 : Int32) then
          (3 : Int32)
        else
          if (jshr a0 (8 : Int32)) = (3 : Int32) then
            (3 : Int32)
          else
            (4 : Int32)
abbrev rmX3_lowGroupOf : Room := { frames := 0, cells := 0, slots := 0, locals := 0 }
set_option maxRecDepth 20000 in
theorem cX3_lowGroupOf_ (E : EV) (hE : okE E) (a0 : Int32) (u : ST) : MX E yX3_lowGroupOf wsX3_lowGroupOf rmX3_lowGroupOf [.int a0] u (tR u (fX3_lowGroupOf a0)) := by
  refine MX.of (cc := cX3_lowGroupOf) (maxL := 1) (ret := (some .int)) (lv := [(0, .int a0)]) hE (by decide) rfl (fun _ => rfl) (Nat.le_of_ble_eq_true rfl) rfl (fun K hC => ?_)
  unfold fX3_lowGroupOf
  refine g_iload_n 0 hC dX3_lowGroupOf_0 0 rfl ?_
  refine g_if_neT (tR u) 1 hC 6 dX3_lowGroupOf_1 (by decide) (fun h1 => ?_) (fun h1 => ?_)
  · skip
    refine g_iload_n 6 hC dX3_lowGroupOf_6 0 rfl ?_
    refine g_bipush 7 hC (8 : Int32) dX3_lowGroupOf_7 (by decide) ?_
    refine g_ishr 9 hC dX3_lowGroupOf_9 ?_
    refine g_byT (tR u) (fun h2 => ?_) (fun h2 => ?_)
    · refine g_tsIn 10 hC (0 : Int32) (30) 40 h2 dX3_lowGroupOf_10 (by decide) (by decide) (by decide) (by decide) ?_
      refine g_iconst 40 hC (0 : Int32) dX3_lowGroupOf_40 (by decide) ?_
      exact g_iret 41 hC dX3_lowGroupOf_41
    · skip
      refine g_byT (tR u) (fun h3 => ?_) (fun h3 => ?_)
      · refine g_tsIn 10 hC (1 : Int32) (32) 42 h3 dX3_lowGroupOf_10 (by decide) (by decide) (by decide) (by decide) ?_
        refine g_iconst 42 hC (2 : Int32) dX3_lowGroupOf_42 (by decide) ?_
        exact g_iret 43 hC dX3_lowGroupOf_43
      · skip
        refine g_byT (tR u) (fun h4 => ?_) (fun h4 => ?_)
        · refine g_tsIn 10 hC (2 : Int32) (34) 44 h4 dX3_lowGroupOf_10 (by decide) (by decide) (by decide) (by decide) ?_
          refine g_iconst 44 hC (3 : Int32) dX3_lowGroupOf_44 (by decide) ?_
          exact g_iret 45 hC dX3_lowGroupOf_45
        · skip
          refine g_byT (tR u) (fun h5 => ?_) (fun h5 => ?_)
          · refine g_tsIn 10 hC (3 : Int32) (34) 44 h5 dX3_lowGroupOf_10 (by decide) (by decide) (by decide) (by decide) ?_
            refine g_iconst 44 hC (3 : Int32) dX3_lowGroupOf_44 (by decide) ?_
            exact g_iret 45 hC dX3_lowGroupOf_45
          · skip
            refine g_tsOut 10 hC 46 dX3_lowGroupOf_10 (by have n0 := lv_neT h2 (a := 0) (by decide); have n1 := lv_neT h3 (a := 1) (by decide); have n2 := lv_neT h4 (a := 2) (by decide); have n3 := lv_neT h5 (a := 3) (by decide); omega) (by decide) ?_
            refine g_iconst 46 hC (4 : Int32) dX3_lowGroupOf_46 (by decide) ?_
            exact g_iret 47 hC dX3_lowGroupOf_47
  · skip
    refine g_iconst 4 hC (1 : Int32) dX3_lowGroupOf_4 (by decide) ?_
    exact g_iret 5 hC dX3_lowGroupOf_5
theorem kX3_lowGroupOf {K : KT} {E : EV} {cc : ByteArray} {nL : Nat} {own : String} {Ts : List Cond} {rm : Room} {ret : Option FieldType} {T : ST × Option Value} {u : ST} {lv : List (Nat × Value)} {rest : List Value} {idx : Nat} {a0 : Int32} (pc : Nat) (hC : Cx K E cc nL own Ts rm ret) (hT : GoodIn Ts (va_wsS own idx yX3_lowGroupOf wsX3_lowGroupOf)) (hR : rmX3_lowGroupOf.frames + 1 ≤ rm.frames ∧ 8 + (1 + 11) + rmX3_lowGroupOf.locals ≤ rm.locals) (hdg : decode cc pc = .ok (.invokestatic idx, 3)) (hcat : (rest.map fun v => v.category).sum ≤ 8) (kk : G K E nL T u (pc + 3) lv (.int (fX3_lowGroupOf a0) :: rest)) : G K E nL T u pc lv (.int a0 :: rest) := g_callS (n := 1) pc hC (As := [.int a0]) (rest := rest) (cX3_lowGroupOf_ _ (Cx.ok hC) a0 u) hT rfl rfl rfl (by decide +kernel) hR rfl rfl hcat hdg kk

def fX3_isOneOf (a0 : Int32) (a1 : Int32) : Int32 :=
  (if (a0 &&& (30 : Int32)) = a1 then (1 : Int32) else (0 : Int32))
abbrev rmX3_isOneOf : Room := { frames := 0, cells := 0, slots := 0, locals := 0 }
set_option maxRecDepth 20000 in
theorem cX3_isOneOf_ (E : EV) (hE : okE E) (a0 : Int32) (a1 : Int32) (u : ST) : MX E yX3_isOneOf wsX3_isOneOf rmX3_isOneOf [.int a0, .int a1] u (tR u (fX3_isOneOf a0 a1)) := by
  refine MX.of (cc := cX3_isOneOf) (maxL := 2) (ret := (some .boolean)) (lv := [(0, .int a0), (1, .int a1)]) hE (by decide) rfl (fun _ => rfl) (Nat.le_of_ble_eq_true rfl) rfl (fun K hC => ?_)
  unfold fX3_isOneOf
  refine g_iload_n 0 hC dX3_isOneOf_0 0 rfl ?_
  refine g_bipush 1 hC (30 : Int32) dX3_isOneOf_1 (by decide) ?_
  refine g_iand 3 hC dX3_isOneOf_3 ?_
  refine g_iload_n 4 hC dX3_isOneOf_4 1 rfl ?_
  refine g_cut 13 (if (a0 &&& (30 : Int32)) = a1 then (1 : Int32) else (0 : Int32)) [] ?_ (fun J2 => ?_)
  · skip
    exact g_zret 13 hC (nbI nb1 nb0) dX3_isOneOf_13
  · skip
    refine g_icmp_ne 5 hC 12 dX3_isOneOf_5 (by decide) (fun h1 => ?_) (fun h1 => ?_)
    · skip
      refine g_iconst 12 hC (0 : Int32) dX3_isOneOf_12 (by decide) ?_
      exact J2 _ (Eq.symm (if_neg h1))
    · skip
      refine g_iconst 8 hC (1 : Int32) dX3_isOneOf_8 (by decide) ?_
      refine g_goto 9 hC 13 dX3_isOneOf_9 (by decide) ?_
      exact J2 _ (Eq.symm (if_pos h1))
theorem kX3_isOneOf {K : KT} {E : EV} {cc : ByteArray} {nL : Nat} {own : String} {Ts : List Cond} {rm : Room} {ret : Option FieldType} {T : ST × Option Value} {u : ST} {lv : List (Nat × Value)} {rest : List Value} {idx : Nat} {a0 : Int32} {a1 : Int32} (pc : Nat) (hC : Cx K E cc nL own Ts rm ret) (hT : GoodIn Ts (va_wsS own idx yX3_isOneOf wsX3_isOneOf)) (hR : rmX3_isOneOf.frames + 1 ≤ rm.frames ∧ 8 + (2 + 11) + rmX3_isOneOf.locals ≤ rm.locals) (hdg : decode cc pc = .ok (.invokestatic idx, 3)) (hcat : (rest.map fun v => v.category).sum ≤ 8) (kk : G K E nL T u (pc + 3) lv (.int (fX3_isOneOf a0 a1) :: rest)) : G K E nL T u pc lv (.int a1 :: .int a0 :: rest) := g_callS (n := 2) pc hC (As := [.int a0, .int a1]) (rest := rest) (cX3_isOneOf_ _ (Cx.ok hC) a0 a1 u) hT rfl rfl rfl (by decide +kernel) hR rfl rfl hcat hdg kk

def fX3_memoryGroupOf (a0 : Int32) : Int32 :=
  if (a0 &&& (15 : Int32)) = (0 : Int32) then
    (9 : Int32)
  else
    if (a0 &&& (15 : Int32)) = (1 : Int32) then
      (if (fX3_isOneOf (fX3_d a0) (fX3_pointer a0)) = 0 then (10 : Int32) else (0 : Int32))
    else
      if (a0 &&& (15 : Int32)) = (2 : Int32) then
        (if (fX3_isOneOf (fX3_d a0) (fX3_pointer a0)) = 0 then (10 : Int32) else (0 : Int32))
      else
        if (a0 &&& (15 : Int32)) = (3 : Int32) then
          (0 : Int32)
        else
          if (a0 &&& (15 : Int32)) = (4 : Int32) then
            (if (a0 &&& (512 : Int32)) = 0 then (13 : Int32) else (0 : Int32))
          else
            if (a0 &&& (15 : Int32)) = (5 : Int32) then
              (if (a0 &&& (512 : Int32)) = 0 then (if (fX3_isOneOf (fX3_d a0) (30 : Int32)) = 0 then (13 : Int32) else (0 : Int32)) else (0 : Int32))
            else
              if (a0 &&& (15 : Int32)) = (6 : Int32) then
                (0 : Int32)
              else
                if (a0 &&& (15 : Int32)) = (7 : Int32) then
                  (0 : Int32)
                else
                  if (a0 &&& (15 : Int32)) = (8 : Int32) then
                    (0 : Int32)
                  else
                    if (a0 &&& (15 : Int32)) = (9 : Int32) then
                      (if (fX3_isOneOf (fX3_d a0) (fX3_pointer a0)) = 0 then (10 : Int32) else (0 : Int32))
                    else
                      if (a0 &&& (15 : Int32)) = (10 : Int32) then
                        (if (fX3_isOneOf (fX3_d a0) (fX3_pointer a0)) = 0 then (10 : Int32) else (0 : Int32))
                      else
                        if (a0 &&& (15 : Int32)) = (11 : Int32) then
                          (0 : Int32)
                        else
                          if (a0 &&& (15 : Int32)) = (12 : Int32) then
                            (10 : Int32)
                          else
                            if (a0 &&& (15 : Int32)) = (13 : Int32) then
                              (if (fX3_isOneOf (fX3_d a0) (fX3_pointer a0)) = 0 then (10 : Int32) else (0 : Int32))
                            else
                              if (a0 &&& (15 : Int32)) = (14 : Int32) then
                                (if (fX3_isOneOf (fX3_d a0) (fX3_pointer a0)) = 0 then (10 : Int32) else (0 : Int32))
                              else
                                if (a0 &&& (15 : Int32)) = (15 : Int32) then
                                  (11 : Int32)
                                else
                                  (0 : Int32)
abbrev rmX3_memoryGroupOf : Room := { frames := 1, cells := 0, slots := 0, locals := 21 }
set_option maxRecDepth 20000 in
theorem cX3_memoryGroupOf_ (E : EV) (hE : okE E) (a0 : Int32) (u : ST) : MX E yX3_memoryGroupOf wsX3_memoryGroupOf rmX3_memoryGroupOf [.int a0] u (tR u (fX3_memoryGroupOf a0)) := by
  refine MX.of (cc := cX3_memoryGroupOf) (maxL := 1) (ret := (some .int)) (lv := [(0, .int a0)]) hE (by decide) rfl (fun _ => rfl) (Nat.le_of_ble_eq_true rfl) rfl (fun K hC => ?_)
  unfold fX3_memoryGroupOf
  refine g_iload_n 0 hC dX3_memoryGroupOf_0 0 rfl ?_
  refine g_bipush 1 hC (15 : Int32) dX3_memoryGroupOf_1 (by decide) ?_
  refine g_iand 3 hC dX3_memoryGroupOf_3 ?_
  refine g_byT (tR u) (fun h1 => ?_) (fun h1 => ?_)
  · refine g_tsIn 4 hC (0 : Int32) (80) 84 h1 dX3_memoryGroupOf_4 (by decide) (by decide) (by decide) (by decide) ?_
    refine g_bipush 84 hC (9 : Int32) dX3_memoryGroupOf_84 (by decide) ?_
    exact g_iret 86 hC dX3_memoryGroupOf_86
  · skip
    refine g_byT (tR u) (fun h2 => ?_) (fun h2 => ?_)
    · refine g_tsIn 4 hC (1 : Int32) (83) 87 h2 dX3_memoryGroupOf_4 (by decide) (by decide) (by decide) (by decide) ?_
      refine g_iload_n 87 hC dX3_memoryGroupOf_87 0 rfl ?_
      refine kX3_d 88 hC gX3_memoryGroupOf_X3_d ⟨Nat.le_of_ble_eq_true rfl, Nat.le_of_ble_eq_true rfl⟩ dX3_memoryGroupOf_88 (Nat.le_of_ble_eq_true rfl) ?_
      refine g_iload_n 91 hC dX3_memoryGroupOf_91 0 rfl ?_
      refine kX3_pointer 92 hC gX3_memoryGroupOf_X3_pointer ⟨Nat.le_of_ble_eq_true rfl, Nat.le_of_ble_eq_true rfl⟩ dX3_memoryGroupOf_92 (Nat.le_of_ble_eq_true rfl) ?_
      refine kX3_isOneOf 95 hC gX3_memoryGroupOf_X3_isOneOf ⟨Nat.le_of_ble_eq_true rfl, Nat.le_of_ble_eq_true rfl⟩ dX3_memoryGroupOf_95 (Nat.le_of_ble_eq_true rfl) ?_
      refine g_cut 107 (if (fX3_isOneOf (fX3_d a0) (fX3_pointer a0)) = 0 then (10 : Int32) else (0 : Int32)) [] ?_ (fun J4 => ?_)
      · skip
        exact g_iret 107 hC dX3_memoryGroupOf_107
      · skip
        refine g_if_eq 98 hC 105 dX3_memoryGroupOf_98 (by decide) (fun h3 => ?_) (fun h3 => ?_)
        · skip
          refine g_bipush 105 hC (10 : Int32) dX3_memoryGroupOf_105 (by decide) ?_
          exact J4 _ (Eq.symm (if_pos h3))
        · skip
          refine g_iconst 101 hC (0 : Int32) dX3_memoryGroupOf_101 (by decide) ?_
          refine g_goto 102 hC 107 dX3_memoryGroupOf_102 (by decide) ?_
          exact J4 _ (Eq.symm (if_neg h3))
    · skip
      refine g_byT (tR u) (fun h5 => ?_) (fun h5 => ?_)
      · refine g_tsIn 4 hC (2 : Int32) (83) 87 h5 dX3_memoryGroupOf_4 (by decide) (by decide) (by decide) (by decide) ?_
        refine g_iload_n 87 hC dX3_memoryGroupOf_87 0 rfl ?_
        refine kX3_d 88 hC gX3_memoryGroupOf_X3_d ⟨Nat.le_of_ble_eq_true rfl, Nat.le_of_ble_eq_true rfl⟩ dX3_memoryGroupOf_88 (Nat.le_of_ble_eq_true rfl) ?_
        refine g_iload_n 91 hC dX3_memoryGroupOf_91 0 rfl ?_
        refine kX3_pointer 92 hC gX3_memoryGroupOf_X3_pointer ⟨Nat.le_of_ble_eq_true rfl, Nat.le_of_ble_eq_true rfl⟩ dX3_memoryGroupOf_92 (Nat.le_of_ble_eq_true rfl) ?_
        refine kX3_isOneOf 95 hC gX3_memoryGroupOf_X3_isOneOf ⟨Nat.le_of_ble_eq_true rfl, Nat.le_of_ble_eq_true rfl⟩ dX3_memoryGroupOf_95 (Nat.le_of_ble_eq_true rfl) ?_
        refine g_cut 107 (if (fX3_isOneOf (fX3_d a0) (fX3_pointer a0)) = 0 then (10 : Int32) else (0 : Int32)) [] ?_ (fun J7 => ?_)
        · skip
          exact g_iret 107 hC dX3_memoryGroupOf_107
        · skip
          refine g_if_eq 98 hC 105 dX3_memoryGroupOf_98 (by decide) (fun h6 => ?_) (fun h6 => ?_)
          · skip
            refine g_bipush 105 hC (10 : Int32) dX3_memoryGroupOf_105 (by decide) ?_
            exact J7 _ (Eq.symm (if_pos h6))
          · skip
            refine g_iconst 101 hC (0 : Int32) dX3_memoryGroupOf_101 (by decide) ?_
            refine g_goto 102 hC 107 dX3_memoryGroupOf_102 (by decide) ?_
            exact J7 _ (Eq.symm (if_neg h6))
      · skip
        refine g_byT (tR u) (fun h8 => ?_) (fun h8 => ?_)
        · refine g_tsIn 4 hC (3 : Int32) (152) 156 h8 dX3_memoryGroupOf_4 (by decide) (by decide) (by decide) (by decide) ?_
          refine g_iconst 156 hC (0 : Int32) dX3_memoryGroupOf_156 (by decide) ?_
          exact g_iret 157 hC dX3_memoryGroupOf_157
        · skip
          refine g_byT (tR u) (fun h9 => ?_) (fun h9 => ?_)
          · refine g_tsIn 4 hC (4 : Int32) (104) 108 h9 dX3_memoryGroupOf_4 (by decide) (by decide) (by decide) (by decide) ?_
            refine g_iload_n 108 hC dX3_memoryGroupOf_108 0 rfl ?_
            refine g_sipush 109 hC (512 : Int32) dX3_memoryGroupOf_109 (by decide) ?_
            refine g_iand 112 hC dX3_memoryGroupOf_112 ?_
            refine g_cut 122 (if (a0 &&& (512 : Int32)) = 0 then (13 : Int32) else (0 : Int32)) [] ?_ (fun J11 => ?_)
            · skip
              exact g_iret 122 hC dX3_memoryGroupOf_122
            · skip
              refine g_if_ne 113 hC 121 dX3_memoryGroupOf_113 (by decide) (fun h10 => ?_) (fun h10 => ?_)
              · skip
                refine g_iconst 121 hC (0 : Int32) dX3_memoryGroupOf_121 (by decide) ?_
                exact J11 _ (Eq.symm (if_neg h10))
              · skip
                refine g_bipush 116 hC (13 : Int32) dX3_memoryGroupOf_116 (by decide) ?_
                refine g_goto 118 hC 122 dX3_memoryGroupOf_118 (by decide) ?_
                exact J11 _ (Eq.symm (if_pos h10))
          · skip
            refine g_byT (tR u) (fun h12 => ?_) (fun h12 => ?_)
            · refine g_tsIn 4 hC (5 : Int32) (119) 123 h12 dX3_memoryGroupOf_4 (by decide) (by decide) (by decide) (by decide) ?_
              refine g_iload_n 123 hC dX3_memoryGroupOf_123 0 rfl ?_
              refine g_sipush 124 hC (512 : Int32) dX3_memoryGroupOf_124 (by decide) ?_
              refine g_iand 127 hC dX3_memoryGroupOf_127 ?_
              refine g_cut 149 (if (a0 &&& (512 : Int32)) = 0 then (if (fX3_isOneOf (fX3_d a0) (30 : Int32)) = 0 then (13 : Int32) else (0 : Int32)) else (0 : Int32)) [] ?_ (fun J15 => ?_)
              · skip
                exact g_iret 149 hC dX3_memoryGroupOf_149
              · skip
                refine g_if_ne 128 hC 148 dX3_memoryGroupOf_128 (by decide) (fun h13 => ?_) (fun h13 => ?_)
                · skip
                  refine g_iconst 148 hC (0 : Int32) dX3_memoryGroupOf_148 (by decide) ?_
                  exact J15 _ (Eq.symm (if_neg h13))
                · skip
                  refine g_iload_n 131 hC dX3_memoryGroupOf_131 0 rfl ?_
                  refine kX3_d 132 hC gX3_memoryGroupOf_X3_d ⟨Nat.le_of_ble_eq_true rfl, Nat.le_of_ble_eq_true rfl⟩ dX3_memoryGroupOf_132 (Nat.le_of_ble_eq_true rfl) ?_
                  refine g_bipush 135 hC (30 : Int32) dX3_memoryGroupOf_135 (by decide) ?_
                  refine kX3_isOneOf 137 hC gX3_memoryGroupOf_X3_isOneOf ⟨Nat.le_of_ble_eq_true rfl, Nat.le_of_ble_eq_true rfl⟩ dX3_memoryGroupOf_137 (Nat.le_of_ble_eq_true rfl) ?_
                  refine g_if_ne 140 hC 148 dX3_memoryGroupOf_140 (by decide) (fun h14 => ?_) (fun h14 => ?_)
                  · skip
                    refine g_iconst 148 hC (0 : Int32) dX3_memoryGroupOf_148 (by decide) ?_
                    exact J15 _ (Eq.symm (Eq.trans (if_pos h13) (if_neg h14)))
                  · skip
                    refine g_bipush 143 hC (13 : Int32) dX3_memoryGroupOf_143 (by decide) ?_
                    refine g_goto 145 hC 149 dX3_memoryGroupOf_145 (by decide) ?_
                    exact J15 _ (Eq.symm (Eq.trans (if_pos h13) (if_pos h14)))
            · skip
              refine g_byT (tR u) (fun h16 => ?_) (fun h16 => ?_)
              · refine g_tsIn 4 hC (6 : Int32) (152) 156 h16 dX3_memoryGroupOf_4 (by decide) (by decide) (by decide) (by decide) ?_
                refine g_iconst 156 hC (0 : Int32) dX3_memoryGroupOf_156 (by decide) ?_
                exact g_iret 157 hC dX3_memoryGroupOf_157
              · skip
                refine g_byT (tR u) (fun h17 => ?_) (fun h17 => ?_)
                · refine g_tsIn 4 hC (7 : Int32) (152) 156 h17 dX3_memoryGroupOf_4 (by decide) (by decide) (by decide) (by decide) ?_
                  refine g_iconst 156 hC (0 : Int32) dX3_memoryGroupOf_156 (by decide) ?_
                  exact g_iret 157 hC dX3_memoryGroupOf_157
                · skip
                  refine g_byT (tR u) (fun h18 => ?_) (fun h18 => ?_)
                  · refine g_tsIn 4 hC (8 : Int32) (152) 156 h18 dX3_memoryGroupOf_4 (by decide) (by decide) (by decide) (by decide) ?_
                    refine g_iconst 156 hC (0 : Int32) dX3_memoryGroupOf_156 (by decide) ?_
                    exact g_iret 157 hC dX3_memoryGroupOf_157
                  · skip
                    refine g_byT (tR u) (fun h19 => ?_) (fun h19 => ?_)
                    · refine g_tsIn 4 hC (9 : Int32) (83) 87 h19 dX3_memoryGroupOf_4 (by decide) (by decide) (by decide) (by decide) ?_
                      refine g_iload_n 87 hC dX3_memoryGroupOf_87 0 rfl ?_
                      refine kX3_d 88 hC gX3_memoryGroupOf_X3_d ⟨Nat.le_of_ble_eq_true rfl, Nat.le_of_ble_eq_true rfl⟩ dX3_memoryGroupOf_88 (Nat.le_of_ble_eq_true rfl) ?_
                      refine g_iload_n 91 hC dX3_memoryGroupOf_91 0 rfl ?_
                      refine kX3_pointer 92 hC gX3_memoryGroupOf_X3_pointer ⟨Nat.le_of_ble_eq_true rfl, Nat.le_of_ble_eq_true rfl⟩ dX3_memoryGroupOf_92 (Nat.le_of_ble_eq_true rfl) ?_
                      refine kX3_isOneOf 95 hC gX3_memoryGroupOf_X3_isOneOf ⟨Nat.le_of_ble_eq_true rfl, Nat.le_of_ble_eq_true rfl⟩ dX3_memoryGroupOf_95 (Nat.le_of_ble_eq_true rfl) ?_
                      refine g_cut 107 (if (fX3_isOneOf (fX3_d a0) (fX3_pointer a0)) = 0 then (10 : Int32) else (0 : Int32)) [] ?_ (fun J21 => ?_)
                      · skip
                        exact g_iret 107 hC dX3_memoryGroupOf_107
                      · skip
                        refine g_if_eq 98 hC 105 dX3_memoryGroupOf_98 (by decide) (fun h20 => ?_) (fun h20 => ?_)
                        · skip
                          refine g_bipush 105 hC (10 : Int32) dX3_memoryGroupOf_105 (by decide) ?_
                          exact J21 _ (Eq.symm (if_pos h20))
                        · skip
                          refine g_iconst 101 hC (0 : Int32) dX3_memoryGroupOf_101 (by decide) ?_
                          refine g_goto 102 hC 107 dX3_memoryGroupOf_102 (by decide) ?_
                          exact J21 _ (Eq.symm (if_neg h20))
                    · skip
                      refine g_byT (tR u) (fun h22 => ?_) (fun h22 => ?_)
                      · refine g_tsIn 4 hC (10 : Int32) (83) 87 h22 dX3_memoryGroupOf_4 (by decide) (by decide) (by decide) (by decide) ?_
                        refine g_iload_n 87 hC dX3_memoryGroupOf_87 0 rfl ?_
                        refine kX3_d 88 hC gX3_memoryGroupOf_X3_d ⟨Nat.le_of_ble_eq_true rfl, Nat.le_of_ble_eq_true rfl⟩ dX3_memoryGroupOf_88 (Nat.le_of_ble_eq_true rfl) ?_
                        refine g_iload_n 91 hC dX3_memoryGroupOf_91 0 rfl ?_
                        refine kX3_pointer 92 hC gX3_memoryGroupOf_X3_pointer ⟨Nat.le_of_ble_eq_true rfl, Nat.le_of_ble_eq_true rfl⟩ dX3_memoryGroupOf_92 (Nat.le_of_ble_eq_true rfl) ?_
                        refine kX3_isOneOf 95 hC gX3_memoryGroupOf_X3_isOneOf ⟨Nat.le_of_ble_eq_true rfl, Nat.le_of_ble_eq_true rfl⟩ dX3_memoryGroupOf_95 (Nat.le_of_ble_eq_true rfl) ?_
                        refine g_cut 107 (if (fX3_isOneOf (fX3_d a0) (fX3_pointer a0)) = 0 then (10 : Int32) else (0 : Int32)) [] ?_ (fun J24 => ?_)
                        · skip
                          exact g_iret 107 hC dX3_memoryGroupOf_107
                        · skip
                          refine g_if_eq 98 hC 105 dX3_memoryGroupOf_98 (by decide) (fun h23 => ?_) (fun h23 => ?_)
                          · skip
                            refine g_bipush 105 hC (10 : Int32) dX3_memoryGroupOf_105 (by decide) ?_
                            exact J24 _ (Eq.symm (if_pos h23))
                          · skip
                            refine g_iconst 101 hC (0 : Int32) dX3_memoryGroupOf_101 (by decide) ?_
                            refine g_goto 102 hC 107 dX3_memoryGroupOf_102 (by decide) ?_
                            exact J24 _ (Eq.symm (if_neg h23))
                      · skip
                        refine g_byT (tR u) (fun h25 => ?_) (fun h25 => ?_)
                        · refine g_tsIn 4 hC (11 : Int32) (152) 156 h25 dX3_memoryGroupOf_4 (by decide) (by decide) (by decide) (by decide) ?_
                          refine g_iconst 156 hC (0 : Int32) dX3_memoryGroupOf_156 (by decide) ?_
                          exact g_iret 157 hC dX3_memoryGroupOf_157
                        · skip
                          refine g_byT (tR u) (fun h26 => ?_) (fun h26 => ?_)
                          · refine g_tsIn 4 hC (12 : Int32) (146) 150 h26 dX3_memoryGroupOf_4 (by decide) (by decide) (by decide) (by decide) ?_
                            refine g_bipush 150 hC (10 : Int32) dX3_memoryGroupOf_150 (by decide) ?_
                            exact g_iret 152 hC dX3_memoryGroupOf_152
                          · skip
                            refine g_byT (tR u) (fun h27 => ?_) (fun h27 => ?_)
                            · refine g_tsIn 4 hC (13 : Int32) (83) 87 h27 dX3_memoryGroupOf_4 (by decide) (by decide) (by decide) (by decide) ?_
                              refine g_iload_n 87 hC dX3_memoryGroupOf_87 0 rfl ?_
                              refine kX3_d 88 hC gX3_memoryGroupOf_X3_d ⟨Nat.le_of_ble_eq_true rfl, Nat.le_of_ble_eq_true rfl⟩ dX3_memoryGroupOf_88 (Nat.le_of_ble_eq_true rfl) ?_
                              refine g_iload_n 91 hC dX3_memoryGroupOf_91 0 rfl ?_
                              refine kX3_pointer 92 hC gX3_memoryGroupOf_X3_pointer ⟨Nat.le_of_ble_eq_true rfl, Nat.le_of_ble_eq_true rfl⟩ dX3_memoryGroupOf_92 (Nat.le_of_ble_eq_true rfl) ?_
                              refine kX3_isOneOf 95 hC gX3_memoryGroupOf_X3_isOneOf ⟨Nat.le_of_ble_eq_true rfl, Nat.le_of_ble_eq_true rfl⟩ dX3_memoryGroupOf_95 (Nat.le_of_ble_eq_true rfl) ?_
                              refine g_cut 107 (if (fX3_isOneOf (fX3_d a0) (fX3_pointer a0)) = 0 then (10 : Int32) else (0 : Int32)) [] ?_ (fun J29 => ?_)
                              · skip
                                exact g_iret 107 hC dX3_memoryGroupOf_107
                              · skip
                                refine g_if_eq 98 hC 105 dX3_memoryGroupOf_98 (by decide) (fun h28 => ?_) (fun h28 => ?_)
                                · skip
                                  refine g_bipush 105 hC (10 : Int32) dX3_memoryGroupOf_105 (by decide) ?_
                                  exact J29 _ (Eq.symm (if_pos h28))
                                · skip
                                  refine g_iconst 101 hC (0 : Int32) dX3_memoryGroupOf_101 (by decide) ?_
                                  refine g_goto 102 hC 107 dX3_memoryGroupOf_102 (by decide) ?_
                                  exact J29 _ (Eq.symm (if_neg h28))
                            · skip
                              refine g_byT (tR u) (fun h30 => ?_) (fun h30 => ?_)
                              · refine g_tsIn 4 hC (14 : Int32) (83) 87 h30 dX3_memoryGroupOf_4 (by decide) (by decide) (by decide) (by decide) ?_
                                refine g_iload_n 87 hC dX3_memoryGroupOf_87 0 rfl ?_
                                refine kX3_d 88 hC gX3_memoryGroupOf_X3_d ⟨Nat.le_of_ble_eq_true rfl, Nat.le_of_ble_eq_true rfl⟩ dX3_memoryGroupOf_88 (Nat.le_of_ble_eq_true rfl) ?_
                                refine g_iload_n 91 hC dX3_memoryGroupOf_91 0 rfl ?_
                                refine kX3_pointer 92 hC gX3_memoryGroupOf_X3_pointer ⟨Nat.le_of_ble_eq_true rfl, Nat.le_of_ble_eq_true rfl⟩ dX3_memoryGroupOf_92 (Nat.le_of_ble_eq_true rfl) ?_
                                refine kX3_isOneOf 95 hC gX3_memoryGroupOf_X3_isOneOf ⟨Nat.le_of_ble_eq_true rfl, Nat.le_of_ble_eq_true rfl⟩ dX3_memoryGroupOf_95 (Nat.le_of_ble_eq_true rfl) ?_
                                refine g_cut 107 (if (fX3_isOneOf (fX3_d a0) (fX3_pointer a0)) = 0 then (10 : Int32) else (0 : Int32)) [] ?_ (fun J32 => ?_)
                                · skip
                                  exact g_iret 107 hC dX3_memoryGroupOf_107
                                · skip
                                  refine g_if_eq 98 hC 105 dX3_memoryGroupOf_98 (by decide) (fun h31 => ?_) (fun h31 => ?_)
                                  · skip
                                    refine g_bipush 105 hC (10 : Int32) dX3_memoryGroupOf_105 (by decide) ?_
                                    exact J32 _ (Eq.symm (if_pos h31))
                                  · skip
                                    refine g_iconst 101 hC (0 : Int32) dX3_memoryGroupOf_101 (by decide) ?_
                                    refine g_goto 102 hC 107 dX3_memoryGroupOf_102 (by decide) ?_
                                    exact J32 _ (Eq.symm (if_neg h31))
                              · skip
                                refine g_byT (tR u) (fun h33 => ?_) (fun h33 => ?_)
                                · refine g_tsIn 4 hC (15 : Int32) (149) 153 h33 dX3_memoryGroupOf_4 (by decide) (by decide) (by decide) (by decide) ?_
                                  refine g_bipush 153 hC (11 : Int32) dX3_memoryGroupOf_153 (by decide) ?_
                                  exact g_iret 155 hC dX3_memoryGroupOf_155
                                · skip
                                  refine g_tsOut 4 hC 156 dX3_memoryGroupOf_4 (by have n0 := lv_neT h1 (a := 0) (by decide); have n1 := lv_neT h2 (a := 1) (by decide); have n2 := lv_neT h5 (a := 2) (by decide); have n3 := lv_neT h8 (a := 3) (by decide); have n4 := lv_neT h9 (a := 4) (by decide); have n5 := lv_neT h12 (a := 5) (by decide); have n6 := lv_neT h16 (a := 6) (by decide); have n7 := lv_neT h17 (a := 7) (by decide); have n8 := lv_neT h18 (a := 8) (by decide); have n9 := lv_neT h19 (a := 9) (by decide); have n10 := lv_neT h22 (a := 10) (by decide); have n11 := lv_neT h25 (a := 11) (by decide); have n12 := lv_neT h26 (a := 12) (by decide); have n13 := lv_neT h27 (a := 13) (by decide); have n14 := lv_neT h30 (a := 14) (by decide); have n15 := lv_neT h33 (a := 15) (by decide); omega) (by decide) ?_
                                  refine g_iconst 156 hC (0 : Int32) dX3_memoryGroupOf_156 (by decide) ?_
                                  exact g_iret 157 hC dX3_memoryGroupOf_157
theorem kX3_memoryGroupOf {K : KT} {E : EV} {cc : ByteArray} {nL : Nat} {own : String} {Ts : List Cond} {rm : Room} {ret : Option FieldType} {T : ST × Option Value} {u : ST} {lv : List (Nat × Value)} {rest : List Value} {idx : Nat} {a0 : Int32} (pc : Nat) (hC : Cx K E cc nL own Ts rm ret) (hT : GoodIn Ts (va_wsS own idx yX3_memoryGroupOf wsX3_memoryGroupOf)) (hR : rmX3_memoryGroupOf.frames + 1 ≤ rm.frames ∧ 8 + (1 + 11) + rmX3_memoryGroupOf.locals ≤ rm.locals) (hdg : decode cc pc = .ok (.invokestatic idx, 3)) (hcat : (rest.map fun v => v.category).sum ≤ 8) (kk : G K E nL T u (pc + 3) lv (.int (fX3_memoryGroupOf a0) :: rest)) : G K E nL T u pc lv (.int a0 :: rest) := g_callS (n := 1) pc hC (As := [.int a0]) (rest := rest) (cX3_memoryGroupOf_ _ (Cx.ok hC) a0 u) hT rfl rfl rfl (by decide +kernel) hR rfl rfl hcat hdg kk

def fX3_flagGroupOf (a0 : Int32) : Int32 :=
  if (a0 &&& (256 : Int32)) = 0 then
    (7 : Int32)
  else
    if (a0 &&& (240 : Int32)) = (0 : Int32) then
      (23 : Int32)
    else
      if (a0 &&& (240 : Int32)) = (16 : Int32) then
        (23 : Int32)
      else
        if (a0 &&& (240 : Int32)) = (192 : Int32) then
          (13 : Int32)
        else
          (0 : Int32)
abbrev rmX3_flagGroupOf : Room := { frames := 0, cells := 0, slots := 0, locals := 0 }
set_option maxRecDepth 20000 in
theorem cX3_flagGroupOf_ (E : EV) (hE : okE E) (a0 : Int32) (u : ST) : MX E yX3_flagGroupOf wsX3_flagGroupOf rmX3_flagGroupOf [.int a0] u (tR u (fX3_flagGroupOf a0)) := by
  refine MX.of (cc := cX3_flagGroupOf) (maxL := 1) (ret := (some .int)) (lv := [(0, .int a0)]) hE (by decide) rfl (fun _ => rfl) (Nat.le_of_ble_eq_true rfl) rfl (fun K hC => ?_)
  unfold fX3_flagGroupOf
  refine g_iload_n 0 hC dX3_flagGroupOf_0 0 rfl ?_
  refine g_sipush 1 hC (256 : Int32) dX3_flagGroupOf_1 (by decide) ?_
  refine g_iand 4 hC dX3_flagGroupOf_4 ?_
  refine g_if_neT (tR u) 5 hC 11 dX3_flagGroupOf_5 (by decide) (fun h1 => ?_) (fun h1 => ?_)
  · skip
    refine g_iload_n 11 hC dX3_flagGroupOf_11 0 rfl ?_
    refine g_sipush 12 hC (240 : Int32) dX3_flagGroupOf_12 (by decide) ?_
    refine g_iand 15 hC dX3_flagGroupOf_15 ?_
    refine g_byT (tR u) (fun h2 => ?_) (fun h2 => ?_)
    · refine g_ls 16 hC (36) 52 dX3_flagGroupOf_16 (by decide) (by rw [h2]; decide) (by decide) ?_
      refine g_bipush 52 hC (23 : Int32) dX3_flagGroupOf_52 (by decide) ?_
      exact g_iret 54 hC dX3_flagGroupOf_54
    · skip
      refine g_byT (tR u) (fun h3 => ?_) (fun h3 => ?_)
      · refine g_ls 16 hC (36) 52 dX3_flagGroupOf_16 (by decide) (by rw [h3]; decide) (by decide) ?_
        refine g_bipush 52 hC (23 : Int32) dX3_flagGroupOf_52 (by decide) ?_
        exact g_iret 54 hC dX3_flagGroupOf_54
      · skip
        refine g_byT (tR u) (fun h4 => ?_) (fun h4 => ?_)
        · refine g_ls 16 hC (39) 55 dX3_flagGroupOf_16 (by decide) (by rw [h4]; decide) (by decide) ?_
          refine g_bipush 55 hC (13 : Int32) dX3_flagGroupOf_55 (by decide) ?_
          exact g_iret 57 hC dX3_flagGroupOf_57
        · skip
          refine g_ls 16 hC (42) 58 dX3_flagGroupOf_16 (by decide) ((lv_osw h2 (a := 0) (by decide)).trans ((lv_osw h3 (a := 16) (by decide)).trans ((lv_osw h4 (a := 192) (by decide)).trans rfl))) (by decide) ?_
          refine g_iconst 58 hC (0 : Int32) dX3_flagGroupOf_58 (by decide) ?_
          exact g_iret 59 hC dX3_flagGroupOf_59
  · skip
    refine g_bipush 8 hC (7 : Int32) dX3_flagGroupOf_8 (by decide) ?_
    exact g_iret 10 hC dX3_flagGroupOf_10
theorem kX3_flagGroupOf {K : KT} {E : EV} {cc : ByteArray} {nL : Nat} {own : String} {Ts : List Cond} {rm : Room} {ret : Option FieldType} {T : ST × Option Value} {u : ST} {lv : List (Nat × Value)} {rest : List Value} {idx : Nat} {a0 : Int32} (pc : Nat) (hC : Cx K E cc nL own Ts rm ret) (hT : GoodIn Ts (va_wsS own idx yX3_flagGroupOf wsX3_flagGroupOf)) (hR : rmX3_flagGroupOf.frames + 1 ≤ rm.frames ∧ 8 + (1 + 11) + rmX3_flagGroupOf.locals ≤ rm.locals) (hdg : decode cc pc = .ok (.invokestatic idx, 3)) (hcat : (rest.map fun v => v.category).sum ≤ 8) (kk : G K E nL T u (pc + 3) lv (.int (fX3_flagGroupOf a0) :: rest)) : G K E nL T u pc lv (.int a0 :: rest) := g_callS (n := 1) pc hC (As := [.int a0]) (rest := rest) (cX3_flagGroupOf_ _ (Cx.ok hC) a0 u) hT rfl rfl rfl (by decide +kernel) hR rfl rfl hcat hdg kk

def fX3_singleGroupOf (a0 : Int32) : Int32 :=
  if (a0 &&& (15 : Int32)) = (4 : Int32) then
    (0 : Int32)
  else
    if (a0 &&& (15 : Int32)) = (5 : Int32) then
      (6 : Int32)
    else
      if (a0 &&& (15 : Int32)) = (6 : Int32) then
        (6 : Int32)
      else
        if (a0 &&& (15 : Int32)) = (7 : Int32) then
          (6 : Int32)
        else
          if (a0 &&& (15 : Int32)) = (8 : Int32) then
            (fX3_flagGroupOf a0)
          else
            if (a0 &&& (15 : Int32)) = (9 : Int32) then
              (if (a0 &&& (240 : Int32)) = 0 then (22 : Int32) else (0 : Int32))
            else
              if (a0 &&& (15 : Int32)) = (10 : Int32) then
                (6 : Int32)
              else
                if (a0 &&& (15 : Int32)) = (11 : Int32) then
                  (0 : Int32)
                else
                  if (a0 &&& (15 : Int32)) = (12 : Int32) then
                    (21 : Int32)
                  else
                    if (a0 &&& (15 : Int32)) = (13 : Int32) then
                      (21 : Int32)
                    else
                      if (a0 &&& (15 : Int32)) = (14 : Int32) then
                        (21 : Int32)
                      else
                        if (a0 &&& (15 : Int32)) = (15 : Int32) then
                          (21 : Int32)
                        else
                          (6 : Int32)
abbrev rmX3_singleGroupOf : Room := { frames := 1, cells := 0, slots := 0, locals := 20 }
set_option maxRecDepth 20000 in
theorem cX3_singleGroupOf_ (E : EV) (hE : okE E) (a0 : Int32) (u : ST) : MX E yX3_singleGroupOf wsX3_singleGroupOf rmX3_singleGroupOf [.int a0] u (tR u (fX3_singleGroupOf a0)) := by
  refine MX.of (cc := cX3_singleGroupOf) (maxL := 1) (ret := (some .int)) (lv := [(0, .int a0)]) hE (by decide) rfl (fun _ => rfl) (Nat.le_of_ble_eq_true rfl) rfl (fun K hC => ?_)
  unfold fX3_singleGroupOf
  refine g_iload_n 0 hC dX3_singleGroupOf_0 0 rfl ?_
  refine g_bipush 1 hC (15 : Int32) dX3_singleGroupOf_1 (by decide) ?_
  refine g_iand 3 hC dX3_singleGroupOf_3 ?_
  refine g_byT (tR u) (fun h1 => ?_) (fun h1 => ?_)
  · refine g_tsIn 4 hC (4 : Int32) (64) 68 h1 dX3_singleGroupOf_4 (by decide) (by decide) (by decide) (by decide) ?_
    refine g_iconst 68 hC (0 : Int32) dX3_singleGroupOf_68 (by decide) ?_
    exact g_iret 69 hC dX3_singleGroupOf_69
  · skip
    refine g_byT (tR u) (fun h2 => ?_) (fun h2 => ?_)
    · refine g_tsIn 4 hC (5 : Int32) (89) 93 h2 dX3_singleGroupOf_4 (by decide) (by decide) (by decide) (by decide) ?_
      refine g_bipush 93 hC (6 : Int32) dX3_singleGroupOf_93 (by decide) ?_
      exact g_iret 95 hC dX3_singleGroupOf_95
    · skip
      refine g_byT (tR u) (fun h3 => ?_) (fun h3 => ?_)
      · refine g_tsIn 4 hC (6 : Int32) (89) 93 h3 dX3_singleGroupOf_4 (by decide) (by decide) (by decide) (by decide) ?_
        refine g_bipush 93 hC (6 : Int32) dX3_singleGroupOf_93 (by decide) ?_
        exact g_iret 95 hC dX3_singleGroupOf_95
      · skip
        refine g_byT (tR u) (fun h4 => ?_) (fun h4 => ?_)
        · refine g_tsIn 4 hC (7 : Int32) (89) 93 h4 dX3_singleGroupOf_4 (by decide) (by decide) (by decide) (by decide) ?_
          refine g_bipush 93 hC (6 : Int32) dX3_singleGroupOf_93 (by decide) ?_
          exact g_iret 95 hC dX3_singleGroupOf_95
        · skip
          refine g_byT (tR u) (fun h5 => ?_) (fun h5 => ?_)
          · refine g_tsIn 4 hC (8 : Int32) (66) 70 h5 dX3_singleGroupOf_4 (by decide) (by decide) (by decide) (by decide) ?_
            refine g_iload_n 70 hC dX3_singleGroupOf_70 0 rfl ?_
            refine kX3_flagGroupOf 71 hC gX3_singleGroupOf_X3_flagGroupOf ⟨Nat.le_of_ble_eq_true rfl, Nat.le_of_ble_eq_true rfl⟩ dX3_singleGroupOf_71 (Nat.le_of_ble_eq_true rfl) ?_
            exact g_iret 74 hC dX3_singleGroupOf_74
          · skip
            refine g_byT (tR u) (fun h6 => ?_) (fun h6 => ?_)
            · refine g_tsIn 4 hC (9 : Int32) (71) 75 h6 dX3_singleGroupOf_4 (by decide) (by decide) (by decide) (by decide) ?_
              refine g_iload_n 75 hC dX3_singleGroupOf_75 0 rfl ?_
              refine g_sipush 76 hC (240 : Int32) dX3_singleGroupOf_76 (by decide) ?_
              refine g_iand 79 hC dX3_singleGroupOf_79 ?_
              refine g_cut 89 (if (a0 &&& (240 : Int32)) = 0 then (22 : Int32) else (0 : Int32)) [] ?_ (fun J8 => ?_)
              · skip
                exact g_iret 89 hC dX3_singleGroupOf_89
              · skip
                refine g_if_ne 80 hC 88 dX3_singleGroupOf_80 (by decide) (fun h7 => ?_) (fun h7 => ?_)
                · skip
                  refine g_iconst 88 hC (0 : Int32) dX3_singleGroupOf_88 (by decide) ?_
                  exact J8 _ (Eq.symm (if_neg h7))
                · skip
                  refine g_bipush 83 hC (22 : Int32) dX3_singleGroupOf_83 (by decide) ?_
                  refine g_goto 85 hC 89 dX3_singleGroupOf_85 (by decide) ?_
                  exact J8 _ (Eq.symm (if_pos h7))
            · skip
              refine g_byT (tR u) (fun h9 => ?_) (fun h9 => ?_)
              · refine g_tsIn 4 hC (10 : Int32) (89) 93 h9 dX3_singleGroupOf_4 (by decide) (by decide) (by decide) (by decide) ?_
                refine g_bipush 93 hC (6 : Int32) dX3_singleGroupOf_93 (by decide) ?_
                exact g_iret 95 hC dX3_singleGroupOf_95
              · skip
                refine g_byT (tR u) (fun h10 => ?_) (fun h10 => ?_)
                · refine g_tsIn 4 hC (11 : Int32) (64) 68 h10 dX3_singleGroupOf_4 (by decide) (by decide) (by decide) (by decide) ?_
                  refine g_iconst 68 hC (0 : Int32) dX3_singleGroupOf_68 (by decide) ?_
                  exact g_iret 69 hC dX3_singleGroupOf_69
                · skip
                  refine g_byT (tR u) (fun h11 => ?_) (fun h11 => ?_)
                  · refine g_tsIn 4 hC (12 : Int32) (86) 90 h11 dX3_singleGroupOf_4 (by decide) (by decide) (by decide) (by decide) ?_
                    refine g_bipush 90 hC (21 : Int32) dX3_singleGroupOf_90 (by decide) ?_
                    exact g_iret 92 hC dX3_singleGroupOf_92
                  · skip
                    refine g_byT (tR u) (fun h12 => ?_) (fun h12 => ?_)
                    · refine g_tsIn 4 hC (13 : Int32) (86) 90 h12 dX3_singleGroupOf_4 (by decide) (by decide) (by decide) (by decide) ?_
                      refine g_bipush 90 hC (21 : Int32) dX3_singleGroupOf_90 (by decide) ?_
                      exact g_iret 92 hC dX3_singleGroupOf_92
                    · skip
                      refine g_byT (tR u) (fun h13 => ?_) (fun h13 => ?_)
                      · refine g_tsIn 4 hC (14 : Int32) (86) 90 h13 dX3_singleGroupOf_4 (by decide) (by decide) (by decide) (by decide) ?_
                        refine g_bipush 90 hC (21 : Int32) dX3_singleGroupOf_90 (by decide) ?_
                        exact g_iret 92 hC dX3_singleGroupOf_92
                      · skip
                        refine g_byT (tR u) (fun h14 => ?_) (fun h14 => ?_)
                        · refine g_tsIn 4 hC (15 : Int32) (86) 90 h14 dX3_singleGroupOf_4 (by decide) (by decide) (by decide) (by decide) ?_
                          refine g_bipush 90 hC (21 : Int32) dX3_singleGroupOf_90 (by decide) ?_
                          exact g_iret 92 hC dX3_singleGroupOf_92
                        · skip
                          refine g_tsOut 4 hC 93 dX3_singleGroupOf_4 (by have n0 := lv_neT h1 (a := 4) (by decide); have n1 := lv_neT h2 (a := 5) (by decide); have n2 := lv_neT h3 (a := 6) (by decide); have n3 := lv_neT h4 (a := 7) (by decide); have n4 := lv_neT h5 (a := 8) (by decide); have n5 := lv_neT h6 (a := 9) (by decide); have n6 := lv_neT h9 (a := 10) (by decide); have n7 := lv_neT h10 (a := 11) (by decide); have n8 := lv_neT h11 (a := 12) (by decide); have n9 := lv_neT h12 (a := 13) (by decide); have n10 := lv_neT h13 (a := 14) (by decide); have n11 := lv_neT h14 (a := 15) (by decide); omega) (by decide) ?_
                          refine g_bipush 93 hC (6 : Int32) dX3_singleGroupOf_93 (by decide) ?_
                          exact g_iret 95 hC dX3_singleGroupOf_95
theorem kX3_singleGroupOf {K : KT} {E : EV} {cc : ByteArray} {nL : Nat} {own : String} {Ts : List Cond} {rm : Room} {ret : Option FieldType} {T : ST × Option Value} {u : ST} {lv : List (Nat × Value)} {rest : List Value} {idx : Nat} {a0 : Int32} (pc : Nat) (hC : Cx K E cc nL own Ts rm ret) (hT : GoodIn Ts (va_wsS own idx yX3_singleGroupOf wsX3_singleGroupOf)) (hR : rmX3_singleGroupOf.frames + 1 ≤ rm.frames ∧ 8 + (1 + 11) + rmX3_singleGroupOf.locals ≤ rm.locals) (hdg : decode cc pc = .ok (.invokestatic idx, 3)) (hcat : (rest.map fun v => v.category).sum ≤ 8) (kk : G K E nL T u (pc + 3) lv (.int (fX3_singleGroupOf a0) :: rest)) : G K E nL T u pc lv (.int a0 :: rest) := g_callS (n := 1) pc hC (As := [.int a0]) (rest := rest) (cX3_singleGroupOf_ _ (Cx.ok hC) a0 u) hT rfl rfl rfl (by decide +kernel) hR rfl rfl hcat hdg kk

def fX3_mixedGroupOf (a0 : Int32) : Int32 :=
  if ((jshr a0 (8 : Int32)) &&& (15 : Int32)) = (0 : Int32) then
    (fX3_memoryGroupOf a0)
  else
    if ((jshr a0 (8 : Int32)) &&& (15 : Int32)) = (1 : Int32) then
      (fX3_memoryGroupOf a0)
    else
      if ((jshr a0 (8 : Int32)) &&& (15 : Int32)) = (2 : Int32) then
        (fX3_memoryGroupOf a0)
      else
        if ((jshr a0 (8 : Int32)) &&& (15 : Int32)) = (3 : Int32) then
          (fX3_memoryGroupOf a0)
        else
          if ((jshr a0 (8 : Int32)) &&& (15 : Int32)) = (4 : Int32) then
            (fX3_singleGroupOf a0)
          else
            if ((jshr a0 (8 : Int32)) &&& (15 : Int32)) = (5 : Int32) then
              (fX3_singleGroupOf a0)
            else
              if ((jshr a0 (8 : Int32)) &&& (15 : Int32)) = (6 : Int32) then
                (8 : Int32)
              else
                if ((jshr a0 (8 : Int32)) &&& (15 : Int32)) = (7 : Int32) then
                  (8 : Int32)
                else
                  if ((jshr a0 (8 : Int32)) &&& (15 : Int32)) = (8 : Int32) then
                    (15 : Int32)
                  else
                    if ((jshr a0 (8 : Int32)) &&& (15 : Int32)) = (9 : Int32) then
                      (16 : Int32)
                    else
                      if ((jshr a0 (8 : Int32)) &&& (15 : Int32)) = (10 : Int32) then
                        (15 : Int32)
                      else
                        if ((jshr a0 (8 : Int32)) &&& (15 : Int32)) = (11 : Int32) then
                          (16 : Int32)
                        else
                          (3 : Int32)
abbrev rmX3_mixedGroupOf : Room := { frames := 2, cells := 0, slots := 0, locals := 41 }
set_option maxRecDepth 20000 in
theorem cX3_mixedGroupOf_ (E : EV) (hE : okE E) (a0 : Int32) (u : ST) : MX E yX3_mixedGroupOf wsX3_mixedGroupOf rmX3_mixedGroupOf [.int a0] u (tR u (fX3_mixedGroupOf a0)) := by
  refine MX.of (cc := cX3_mixedGroupOf) (maxL := 1) (ret := (some .int)) (lv := [(0, .int a0)]) hE (by decide) rfl (fun _ => rfl) (Nat.le_of_ble_eq_true rfl) rfl (fun K hC => ?_)
  unfold fX3_mixedGroupOf
  refine g_iload_n 0 hC dX3_mixedGroupOf_0 0 rfl ?_
  refine g_bipush 1 hC (8 : Int32) dX3_mixedGroupOf_1 (by decide) ?_
  refine g_ishr 3 hC dX3_mixedGroupOf_3 ?_
  refine g_bipush 4 hC (15 : Int32) dX3_mixedGroupOf_4 (by decide) ?_
  refine g_iand 6 hC dX3_mixedGroupOf_6 ?_
  refine g_byT (tR u) (fun h1 => ?_) (fun h1 => ?_)
  · refine g_tsIn 7 hC (0 : Int32) (61) 68 h1 dX3_mixedGroupOf_7 (by decide) (by decide) (by decide) (by decide) ?_
    refine g_iload_n 68 hC dX3_mixedGroupOf_68 0 rfl ?_
    refine kX3_memoryGroupOf 69 hC gX3_mixedGroupOf_X3_memoryGroupOf ⟨Nat.le_of_ble_eq_true rfl, Nat.le_of_ble_eq_true rfl⟩ dX3_mixedGroupOf_69 (Nat.le_of_ble_eq_true rfl) ?_
    exact g_iret 72 hC dX3_mixedGroupOf_72
  · skip
    refine g_byT (tR u) (fun h2 => ?_) (fun h2 => ?_)
    · refine g_tsIn 7 hC (1 : Int32) (61) 68 h2 dX3_mixedGroupOf_7 (by decide) (by decide) (by decide) (by decide) ?_
      refine g_iload_n 68 hC dX3_mixedGroupOf_68 0 rfl ?_
      refine kX3_memoryGroupOf 69 hC gX3_mixedGroupOf_X3_memoryGroupOf ⟨Nat.le_of_ble_eq_true rfl, Nat.le_of_ble_eq_true rfl⟩ dX3_mixedGroupOf_69 (Nat.le_of_ble_eq_true rfl) ?_
      exact g_iret 72 hC dX3_mixedGroupOf_72
    · skip
      refine g_byT (tR u) (fun h3 => ?_) (fun h3 => ?_)
      · refine g_tsIn 7 hC (2 : Int32) (61) 68 h3 dX3_mixedGroupOf_7 (by decide) (by decide) (by decide) (by decide) ?_
        refine g_iload_n 68 hC dX3_mixedGroupOf_68 0 rfl ?_
        refine kX3_memoryGroupOf 69 hC gX3_mixedGroupOf_X3_memoryGroupOf ⟨Nat.le_of_ble_eq_true rfl, Nat.le_of_ble_eq_true rfl⟩ dX3_mixedGroupOf_69 (Nat.le_of_ble_eq_true rfl) ?_
        exact g_iret 72 hC dX3_mixedGroupOf_72
      · skip
        refine g_byT (tR u) (fun h4 => ?_) (fun h4 => ?_)
        · refine g_tsIn 7 hC (3 : Int32) (61) 68 h4 dX3_mixedGroupOf_7 (by decide) (by decide) (by decide) (by decide) ?_
          refine g_iload_n 68 hC dX3_mixedGroupOf_68 0 rfl ?_
          refine kX3_memoryGroupOf 69 hC gX3_mixedGroupOf_X3_memoryGroupOf ⟨Nat.le_of_ble_eq_true rfl, Nat.le_of_ble_eq_true rfl⟩ dX3_mixedGroupOf_69 (Nat.le_of_ble_eq_true rfl) ?_
          exact g_iret 72 hC dX3_mixedGroupOf_72
        · skip
          refine g_byT (tR u) (fun h5 => ?_) (fun h5 => ?_)
          · refine g_tsIn 7 hC (4 : Int32) (66) 73 h5 dX3_mixedGroupOf_7 (by decide) (by decide) (by decide) (by decide) ?_
            refine g_iload_n 73 hC dX3_mixedGroupOf_73 0 rfl ?_
            refine kX3_singleGroupOf 74 hC gX3_mixedGroupOf_X3_singleGroupOf ⟨Nat.le_of_ble_eq_true rfl, Nat.le_of_ble_eq_true rfl⟩ dX3_mixedGroupOf_74 (Nat.le_of_ble_eq_true rfl) ?_
            exact g_iret 77 hC dX3_mixedGroupOf_77
          · skip
            refine g_byT (tR u) (fun h6 => ?_) (fun h6 => ?_)
            · refine g_tsIn 7 hC (5 : Int32) (66) 73 h6 dX3_mixedGroupOf_7 (by decide) (by decide) (by decide) (by decide) ?_
              refine g_iload_n 73 hC dX3_mixedGroupOf_73 0 rfl ?_
              refine kX3_singleGroupOf 74 hC gX3_mixedGroupOf_X3_singleGroupOf ⟨Nat.le_of_ble_eq_true rfl, Nat.le_of_ble_eq_true rfl⟩ dX3_mixedGroupOf_74 (Nat.le_of_ble_eq_true rfl) ?_
              exact g_iret 77 hC dX3_mixedGroupOf_77
            · skip
              refine g_byT (tR u) (fun h7 => ?_) (fun h7 => ?_)
              · refine g_tsIn 7 hC (6 : Int32) (71) 78 h7 dX3_mixedGroupOf_7 (by decide) (by decide) (by decide) (by decide) ?_
                refine g_bipush 78 hC (8 : Int32) dX3_mixedGroupOf_78 (by decide) ?_
                exact g_iret 80 hC dX3_mixedGroupOf_80
              · skip
                refine g_byT (tR u) (fun h8 => ?_) (fun h8 => ?_)
                · refine g_tsIn 7 hC (7 : Int32) (71) 78 h8 dX3_mixedGroupOf_7 (by decide) (by decide) (by decide) (by decide) ?_
                  refine g_bipush 78 hC (8 : Int32) dX3_mixedGroupOf_78 (by decide) ?_
                  exact g_iret 80 hC dX3_mixedGroupOf_80
                · skip
                  refine g_byT (tR u) (fun h9 => ?_) (fun h9 => ?_)
                  · refine g_tsIn 7 hC (8 : Int32) (74) 81 h9 dX3_mixedGroupOf_7 (by decide) (by decide) (by decide) (by decide) ?_
                    refine g_bipush 81 hC (15 : Int32) dX3_mixedGroupOf_81 (by decide) ?_
                    exact g_iret 83 hC dX3_mixedGroupOf_83
                  · skip
                    refine g_byT (tR u) (fun h10 => ?_) (fun h10 => ?_)
                    · refine g_tsIn 7 hC (9 : Int32) (77) 84 h10 dX3_mixedGroupOf_7 (by decide) (by decide) (by decide) (by decide) ?_
                      refine g_bipush 84 hC (16 : Int32) dX3_mixedGroupOf_84 (by decide) ?_
                      exact g_iret 86 hC dX3_mixedGroupOf_86
                    · skip
                      refine g_byT (tR u) (fun h11 => ?_) (fun h11 => ?_)
                      · refine g_tsIn 7 hC (10 : Int32) (74) 81 h11 dX3_mixedGroupOf_7 (by decide) (by decide) (by decide) (by decide) ?_
                        refine g_bipush 81 hC (15 : Int32) dX3_mixedGroupOf_81 (by decide) ?_
                        exact g_iret 83 hC dX3_mixedGroupOf_83
                      · skip
                        refine g_byT (tR u) (fun h12 => ?_) (fun h12 => ?_)
                        · refine g_tsIn 7 hC (11 : Int32) (77) 84 h12 dX3_mixedGroupOf_7 (by decide) (by decide) (by decide) (by decide) ?_
                          refine g_bipush 84 hC (16 : Int32) dX3_mixedGroupOf_84 (by decide) ?_
                          exact g_iret 86 hC dX3_mixedGroupOf_86
                        · skip
                          refine g_tsOut 7 hC 87 dX3_mixedGroupOf_7 (by have n0 := lv_neT h1 (a := 0) (by decide); have n1 := lv_neT h2 (a := 1) (by decide); have n2 := lv_neT h3 (a := 2) (by decide); have n3 := lv_neT h4 (a := 3) (by decide); have n4 := lv_neT h5 (a := 4) (by decide); have n5 := lv_neT h6 (a := 5) (by decide); have n6 := lv_neT h7 (a := 6) (by decide); have n7 := lv_neT h8 (a := 7) (by decide); have n8 := lv_neT h9 (a := 8) (by decide); have n9 := lv_neT h10 (a := 9) (by decide); have n10 := lv_neT h11 (a := 10) (by decide); have n11 := lv_neT h12 (a := 11) (by decide); omega) (by decide) ?_
                          refine g_iconst 87 hC (3 : Int32) dX3_mixedGroupOf_87 (by decide) ?_
                          exact g_iret 88 hC dX3_mixedGroupOf_88
theorem kX3_mixedGroupOf {K : KT} {E : EV} {cc : ByteArray} {nL : Nat} {own : String} {Ts : List Cond} {rm : Room} {ret : Option FieldType} {T : ST × Option Value} {u : ST} {lv : List (Nat × Value)} {rest : List Value} {idx : Nat} {a0 : Int32} (pc : Nat) (hC : Cx K E cc nL own Ts rm ret) (hT : GoodIn Ts (va_wsS own idx yX3_mixedGroupOf wsX3_mixedGroupOf)) (hR : rmX3_mixedGroupOf.frames + 1 ≤ rm.frames ∧ 8 + (1 + 11) + rmX3_mixedGroupOf.locals ≤ rm.locals) (hdg : decode cc pc = .ok (.invokestatic idx, 3)) (hcat : (rest.map fun v => v.category).sum ≤ 8) (kk : G K E nL T u (pc + 3) lv (.int (fX3_mixedGroupOf a0) :: rest)) : G K E nL T u pc lv (.int a0 :: rest) := g_callS (n := 1) pc hC (As := [.int a0]) (rest := rest) (cX3_mixedGroupOf_ _ (Cx.ok hC) a0 u) hT rfl rfl rfl (by decide +kernel) hR rfl rfl hcat hdg kk

def fX3_highGroupOf (a0 : Int32) : Int32 :=
  if (a0 &&& (2048 : Int32)) = 0 then
    (20 : Int32)
  else
    if (a0 &&& (8 : Int32)) = 0 then
      (if (a0 &&& (1024 : Int32)) = 0 then (18 : Int32) else (17 : Int32))
    else
      (0 : Int32)
abbrev rmX3_highGroupOf : Room := { frames := 0, cells := 0, slots := 0, locals := 0 }
set_option maxRecDepth 20000 in
theorem cX3_highGroupOf_ (E : EV) (hE : okE E) (a0 : Int32) (u : ST) : MX E yX3_highGroupOf wsX3_highGroupOf rmX3_highGroupOf [.int a0] u (tR u (fX3_highGroupOf a0)) := by
  refine MX.of (cc := cX3_highGroupOf) (maxL := 1) (ret := (some .int)) (lv := [(0, .int a0)]) hE (by decide) rfl (fun _ => rfl) (Nat.le_of_ble_eq_true rfl) rfl (fun K hC => ?_)
  unfold fX3_highGroupOf
  refine g_iload_n 0 hC dX3_highGroupOf_0 0 rfl ?_
  refine g_sipush 1 hC (2048 : Int32) dX3_highGroupOf_1 (by decide) ?_
  refine g_iand 4 hC dX3_highGroupOf_4 ?_
  refine g_if_neT (tR u) 5 hC 11 dX3_highGroupOf_5 (by decide) (fun h1 => ?_) (fun h1 => ?_)
  · skip
    refine g_iload_n 11 hC dX3_highGroupOf_11 0 rfl ?_
    refine g_bipush 12 hC (8 : Int32) dX3_highGroupOf_12 (by decide) ?_
    refine g_iand 14 hC dX3_highGroupOf_14 ?_
    refine g_if_eqT (tR u) 15 hC 20 dX3_highGroupOf_15 (by decide) (fun h2 => ?_) (fun h2 => ?_)
    · skip
      refine g_iload_n 20 hC dX3_highGroupOf_20 0 rfl ?_
      refine g_sipush 21 hC (1024 : Int32) dX3_highGroupOf_21 (by decide) ?_
      refine g_iand 24 hC dX3_highGroupOf_24 ?_
      refine g_cut 35 (if (a0 &&& (1024 : Int32)) = 0 then (18 : Int32) else (17 : Int32)) [] ?_ (fun J4 => ?_)
      · skip
        exact g_iret 35 hC dX3_highGroupOf_35
      · skip
        refine g_if_ne 25 hC 33 dX3_highGroupOf_25 (by decide) (fun h3 => ?_) (fun h3 => ?_)
        · skip
          refine g_bipush 33 hC (17 : Int32) dX3_highGroupOf_33 (by decide) ?_
          exact J4 _ (Eq.symm (if_neg h3))
        · skip
          refine g_bipush 28 hC (18 : Int32) dX3_highGroupOf_28 (by decide) ?_
          refine g_goto 30 hC 35 dX3_highGroupOf_30 (by decide) ?_
          exact J4 _ (Eq.symm (if_pos h3))
    · skip
      refine g_iconst 18 hC (0 : Int32) dX3_highGroupOf_18 (by decide) ?_
      exact g_iret 19 hC dX3_highGroupOf_19
  · skip
    refine g_bipush 8 hC (20 : Int32) dX3_highGroupOf_8 (by decide) ?_
    exact g_iret 10 hC dX3_highGroupOf_10
theorem kX3_highGroupOf {K : KT} {E : EV} {cc : ByteArray} {nL : Nat} {own : String} {Ts : List Cond} {rm : Room} {ret : Option FieldType} {T : ST × Option Value} {u : ST} {lv : List (Nat × Value)} {rest : List Value} {idx : Nat} {a0 : Int32} (pc : Nat) (hC : Cx K E cc nL own Ts rm ret) (hT : GoodIn Ts (va_wsS own idx yX3_highGroupOf wsX3_highGroupOf)) (hR : rmX3_highGroupOf.frames + 1 ≤ rm.frames ∧ 8 + (1 + 11) + rmX3_highGroupOf.locals ≤ rm.locals) (hdg : decode cc pc = .ok (.invokestatic idx, 3)) (hcat : (rest.map fun v => v.category).sum ≤ 8) (kk : G K E nL T u (pc + 3) lv (.int (fX3_highGroupOf a0) :: rest)) : G K E nL T u pc lv (.int a0 :: rest) := g_callS (n := 1) pc hC (As := [.int a0]) (rest := rest) (cX3_highGroupOf_ _ (Cx.ok hC) a0 u) hT rfl rfl rfl (by decide +kernel) hR rfl rfl hcat hdg kk

def fX3_groupOf (a0 : Int32) : Int32 :=
  if (jshr a0 (12 : Int32)) = (0 : Int32) then
    (fX3_lowGroupOf a0)
  else
    if (jshr a0 (12 : Int32)) = (1 : Int32) then
      (4 : Int32)
    else
      if (jshr a0 (12 : Int32)) = (2 : Int32) then
        (4 : Int32)
      else
        if (jshr a0 (12 : Int32)) = (3 : Int32) then
          (5 : Int32)
        else
          if (jshr a0 (12 : Int32)) = (4 : Int32) then
            (5 : Int32)
          else
            if (jshr a0 (12 : Int32)) = (5 : Int32) then
              (5 : Int32)
            else
              if (jshr a0 (12 : Int32)) = (6 : Int32) then
                (5 : Int32)
              else
                if (jshr a0 (12 : Int32)) = (7 : Int32) then
                  (5 : Int32)
                else
                  if (jshr a0 (12 : Int32)) = (8 : Int32) then
                    (12 : Int32)
                  else
                    if (jshr a0 (12 : Int32)) = (9 : Int32) then
                      (fX3_mixedGroupOf a0)
                    else
                      if (jshr a0 (12 : Int32)) = (10 : Int32) then
                        (12 : Int32)
                      else
                        if (jshr a0 (12 : Int32)) = (11 : Int32) then
                          (14 : Int32)
                        else
                          if (jshr a0 (12 : Int32)) = (12 : Int32) then
                            (19 : Int32)
                          else
                            if (jshr a0 (12 : Int32)) = (13 : Int32) then
                              (19 : Int32)
                            else
                              if (jshr a0 (12 : Int32)) = (14 : Int32) then
                                (5 : Int32)
                              else
                                if (jshr a0 (12 : Int32)) = (15 : Int32) then
                                  (fX3_highGroupOf a0)
                                else
                                  (5 : Int32)
abbrev rmX3_groupOf : Room := { frames := 3, cells := 0, slots := 0, locals := 61 }
set_option maxRecDepth 20000 in
theorem cX3_groupOf_ (E : EV) (hE : okE E) (a0 : Int32) (u : ST) : MX E yX3_groupOf wsX3_groupOf rmX3_groupOf [.int a0] u (tR u (fX3_groupOf a0)) := by
  refine MX.of (cc := cX3_groupOf) (maxL := 1) (ret := (some .int)) (lv := [(0, .int a0)]) hE (by decide) rfl (fun _ => rfl) (Nat.le_of_ble_eq_true rfl) rfl (fun K hC => ?_)
  unfold fX3_groupOf
  refine g_iload_n 0 hC dX3_groupOf_0 0 rfl ?_
  refine g_bipush 1 hC (12 : Int32) dX3_groupOf_1 (by decide) ?_
  refine g_ishr 3 hC dX3_groupOf_3 ?_
  refine g_byT (tR u) (fun h1 => ?_) (fun h1 => ?_)
  · refine g_tsIn 4 hC (0 : Int32) (80) 84 h1 dX3_groupOf_4 (by decide) (by decide) (by decide) (by decide) ?_
    refine g_iload_n 84 hC dX3_groupOf_84 0 rfl ?_
    refine kX3_lowGroupOf 85 hC gX3_groupOf_X3_lowGroupOf ⟨Nat.le_of_ble_eq_true rfl, Nat.le_of_ble_eq_true rfl⟩ dX3_groupOf_85 (Nat.le_of_ble_eq_true rfl) ?_
    exact g_iret 88 hC dX3_groupOf_88
  · skip
    refine g_byT (tR u) (fun h2 => ?_) (fun h2 => ?_)
    · refine g_tsIn 4 hC (1 : Int32) (85) 89 h2 dX3_groupOf_4 (by decide) (by decide) (by decide) (by decide) ?_
      refine g_iconst 89 hC (4 : Int32) dX3_groupOf_89 (by decide) ?_
      exact g_iret 90 hC dX3_groupOf_90
    · skip
      refine g_byT (tR u) (fun h3 => ?_) (fun h3 => ?_)
      · refine g_tsIn 4 hC (2 : Int32) (85) 89 h3 dX3_groupOf_4 (by decide) (by decide) (by decide) (by decide) ?_
        refine g_iconst 89 hC (4 : Int32) dX3_groupOf_89 (by decide) ?_
        exact g_iret 90 hC dX3_groupOf_90
      · skip
        refine g_byT (tR u) (fun h4 => ?_) (fun h4 => ?_)
        · refine g_tsIn 4 hC (3 : Int32) (106) 110 h4 dX3_groupOf_4 (by decide) (by decide) (by decide) (by decide) ?_
          refine g_iconst 110 hC (5 : Int32) dX3_groupOf_110 (by decide) ?_
          exact g_iret 111 hC dX3_groupOf_111
        · skip
          refine g_byT (tR u) (fun h5 => ?_) (fun h5 => ?_)
          · refine g_tsIn 4 hC (4 : Int32) (106) 110 h5 dX3_groupOf_4 (by decide) (by decide) (by decide) (by decide) ?_
            refine g_iconst 110 hC (5 : Int32) dX3_groupOf_110 (by decide) ?_
            exact g_iret 111 hC dX3_groupOf_111
          · skip
            refine g_byT (tR u) (fun h6 => ?_) (fun h6 => ?_)
            · refine g_tsIn 4 hC (5 : Int32) (106) 110 h6 dX3_groupOf_4 (by decide) (by decide) (by decide) (by decide) ?_
              refine g_iconst 110 hC (5 : Int32) dX3_groupOf_110 (by decide) ?_
              exact g_iret 111 hC dX3_groupOf_111
            · skip
              refine g_byT (tR u) (fun h7 => ?_) (fun h7 => ?_)
              · refine g_tsIn 4 hC (6 : Int32) (106) 110 h7 dX3_groupOf_4 (by decide) (by decide) (by decide) (by decide) ?_
                refine g_iconst 110 hC (5 : Int32) dX3_groupOf_110 (by decide) ?_
                exact g_iret 111 hC dX3_groupOf_111
              · skip
                refine g_byT (tR u) (fun h8 => ?_) (fun h8 => ?_)
                · refine g_tsIn 4 hC (7 : Int32) (106) 110 h8 dX3_groupOf_4 (by decide) (by decide) (by decide) (by decide) ?_
                  refine g_iconst 110 hC (5 : Int32) dX3_groupOf_110 (by decide) ?_
                  exact g_iret 111 hC dX3_groupOf_111
                · skip
                  refine g_byT (tR u) (fun h9 => ?_) (fun h9 => ?_)
                  · refine g_tsIn 4 hC (8 : Int32) (87) 91 h9 dX3_groupOf_4 (by decide) (by decide) (by decide) (by decide) ?_
                    refine g_bipush 91 hC (12 : Int32) dX3_groupOf_91 (by decide) ?_
                    exact g_iret 93 hC dX3_groupOf_93
                  · skip
                    refine g_byT (tR u) (fun h10 => ?_) (fun h10 => ?_)
                    · refine g_tsIn 4 hC (9 : Int32) (90) 94 h10 dX3_groupOf_4 (by decide) (by decide) (by decide) (by decide) ?_
                      refine g_iload_n 94 hC dX3_groupOf_94 0 rfl ?_
                      refine kX3_mixedGroupOf 95 hC gX3_groupOf_X3_mixedGroupOf ⟨Nat.le_of_ble_eq_true rfl, Nat.le_of_ble_eq_true rfl⟩ dX3_groupOf_95 (Nat.le_of_ble_eq_true rfl) ?_
                      exact g_iret 98 hC dX3_groupOf_98
                    · skip
                      refine g_byT (tR u) (fun h11 => ?_) (fun h11 => ?_)
                      · refine g_tsIn 4 hC (10 : Int32) (87) 91 h11 dX3_groupOf_4 (by decide) (by decide) (by decide) (by decide) ?_
                        refine g_bipush 91 hC (12 : Int32) dX3_groupOf_91 (by decide) ?_
                        exact g_iret 93 hC dX3_groupOf_93
                      · skip
                        refine g_byT (tR u) (fun h12 => ?_) (fun h12 => ?_)
                        · refine g_tsIn 4 hC (11 : Int32) (95) 99 h12 dX3_groupOf_4 (by decide) (by decide) (by decide) (by decide) ?_
                          refine g_bipush 99 hC (14 : Int32) dX3_groupOf_99 (by decide) ?_
                          exact g_iret 101 hC dX3_groupOf_101
                        · skip
                          refine g_byT (tR u) (fun h13 => ?_) (fun h13 => ?_)
                          · refine g_tsIn 4 hC (12 : Int32) (98) 102 h13 dX3_groupOf_4 (by decide) (by decide) (by decide) (by decide) ?_
                            refine g_bipush 102 hC (19 : Int32) dX3_groupOf_102 (by decide) ?_
                            exact g_iret 104 hC dX3_groupOf_104
                          · skip
                            refine g_byT (tR u) (fun h14 => ?_) (fun h14 => ?_)
                            · refine g_tsIn 4 hC (13 : Int32) (98) 102 h14 dX3_groupOf_4 (by decide) (by decide) (by decide) (by decide) ?_
                              refine g_bipush 102 hC (19 : Int32) dX3_groupOf_102 (by decide) ?_
                              exact g_iret 104 hC dX3_groupOf_104
                            · skip
                              refine g_byT (tR u) (fun h15 => ?_) (fun h15 => ?_)
                              · refine g_tsIn 4 hC (14 : Int32) (106) 110 h15 dX3_groupOf_4 (by decide) (by decide) (by decide) (by decide) ?_
                                refine g_iconst 110 hC (5 : Int32) dX3_groupOf_110 (by decide) ?_
                                exact g_iret 111 hC dX3_groupOf_111
                              · skip
                                refine g_byT (tR u) (fun h16 => ?_) (fun h16 => ?_)
                                · refine g_tsIn 4 hC (15 : Int32) (101) 105 h16 dX3_groupOf_4 (by decide) (by decide) (by decide) (by decide) ?_
                                  refine g_iload_n 105 hC dX3_groupOf_105 0 rfl ?_
                                  refine kX3_highGroupOf 106 hC gX3_groupOf_X3_highGroupOf ⟨Nat.le_of_ble_eq_true rfl, Nat.le_of_ble_eq_true rfl⟩ dX3_groupOf_106 (Nat.le_of_ble_eq_true rfl) ?_
                                  exact g_iret 109 hC dX3_groupOf_109
                                · skip
                                  refine g_tsOut 4 hC 110 dX3_groupOf_4 (by have n0 := lv_neT h1 (a := 0) (by decide); have n1 := lv_neT h2 (a := 1) (by decide); have n2 := lv_neT h3 (a := 2) (by decide); have n3 := lv_neT h4 (a := 3) (by decide); have n4 := lv_neT h5 (a := 4) (by decide); have n5 := lv_neT h6 (a := 5) (by decide); have n6 := lv_neT h7 (a := 6) (by decide); have n7 := lv_neT h8 (a := 7) (by decide); have n8 := lv_neT h9 (a := 8) (by decide); have n9 := lv_neT h10 (a := 9) (by decide); have n10 := lv_neT h11 (a := 10) (by decide); have n11 := lv_neT h12 (a := 11) (by decide); have n12 := lv_neT h13 (a := 12) (by decide); have n13 := lv_neT h14 (a := 13) (by decide); have n14 := lv_neT h15 (a := 14) (by decide); have n15 := lv_neT h16 (a := 15) (by decide); omega) (by decide) ?_
                                  refine g_iconst 110 hC (5 : Int32) dX3_groupOf_110 (by decide) ?_
                                  exact g_iret 111 hC dX3_groupOf_111
theorem kX3_groupOf {K : KT} {E : EV} {cc : ByteArray} {nL : Nat} {own : String} {Ts : List Cond} {rm : Room} {ret : Option FieldType} {T : ST × Option Value} {u : ST} {lv : List (Nat × Value)} {rest : List Value} {idx : Nat} {a0 : Int32} (pc : Nat) (hC : Cx K E cc nL own Ts rm ret) (hT : GoodIn Ts (va_wsS own idx yX3_groupOf wsX3_groupOf)) (hR : rmX3_groupOf.frames + 1 ≤ rm.frames ∧ 8 + (1 + 11) + rmX3_groupOf.locals ≤ rm.locals) (hdg : decode cc pc = .ok (.invokestatic idx, 3)) (hcat : (rest.map fun v => v.category).sum ≤ 8) (kk : G K E nL T u (pc + 3) lv (.int (fX3_groupOf a0) :: rest)) : G K E nL T u pc lv (.int a0 :: rest) := g_callS (n := 1) pc hC (As := [.int a0]) (rest := rest) (cX3_groupOf_ _ (Cx.ok hC) a0 u) hT rfl rfl rfl (by decide +kernel) hR rfl rfl hcat hdg kk

def fJ6_numberOfTrailingZeros_0f7a4 (a0 : Int32) : Int32 :=
  if 0 < ((a0 ^^^ (-1 : Int32)) &&& (a0 - (1 : Int32))) then
    if ((a0 ^^^ (-1 : Int32)) &&& (a0 - (1 : Int32))) ≤ (65536 : Int32) then
      if ((a0 ^^^ (-1 : Int32)) &&& (a0 - (1 : Int32))) ≤ (256 : Int32) then
        if ((a0 ^^^ (-1 : Int32)) &&& (a0 - (1 : Int32))) ≤ (16 : Int32) then
          if ((a0 ^^^ (-1 : Int32)) &&& (a0 - (1 : Int32))) ≤ (4 : Int32) then
            ((1 : Int32) + (jushr ((a0 ^^^ (-1 : Int32)) &&& (a0 - (1 : Int32))) (1 : Int32)))
          else
            (((1 : Int32) + (2 : Int32)) + (jushr (jushr ((a0 ^^^ (-1 : Int32)) &&& (a0 - (1 : Int32))) (2 : Int32)) (1 : Int32)))
        else
          if (jushr ((a0 ^^^ (-1 : Int32)) &&& (a0 - (1 : Int32))) (4 : Int32)) ≤ (4 : Int32) then
            (((1 : Int32) + (4 : Int32)) + (jushr (jushr ((a0 ^^^ (-1 : Int32)) &&& (a0 - (1 : Int32))) (4 : Int32)) (1 : Int32)))
          else
            ((((1 : Int32) + (4 : Int32)) + (2 : Int32)) + (jushr (jushr (jushr ((a0 ^^^ (-1 : Int32)) &&& (a0 - (1 : Int32))) (4 : Int32)) (2 : Int32)) (1 : Int32)))
      else
        if (jushr ((a0 ^^^ (-1 : Int32)) &&& (a0 - (1 : Int32))) (8 : Int32)) ≤ (16 : Int32) then
          if (jushr ((a0 ^^^ (-1 : Int32)) &&& (a0 - (1 : Int32))) (8 : Int32)) ≤ (4 : Int32) then
            (((1 : Int32) + (8 : Int32)) + (jushr (jushr ((a0 ^^^ (-1 : Int32)) &&& (a0 - (1 : Int32))) (8 : Int32)) (1 : Int32)))
          else
            ((((1 : Int32) + (8 : Int32)) + (2 : Int32)) + (jushr (jushr (jushr ((a0 ^^^ (-1 : Int32)) &&& (a0 - (1 : Int32))) (8 : Int32)) (2 : Int32)) (1 : Int32)))
        else
          if (jushr (jushr ((a0 ^^^ (-1 : Int32)) &&& (a0 - (1 : Int32))) (8 : Int32)) (4 : Int32)) ≤ (4 : Int32) then
            ((((1 : Int32) + (8 : Int32)) + (4 : Int32)) + (jushr (jushr (jushr ((a0 ^^^ (-1 : Int32)) &&& (a0 - (1 : Int32))) (8 : Int32)) (4 : Int32)) (1 : Int32)))
          else
            (((((1 : Int32) + (8 : Int32)) + (4 : Int32)) + (2 : Int32)) + (jushr (jushr (jushr (jushr ((a0 ^^^ (-1 : Int32)) &&& (a0 - (1 : Int32))) (8 : Int32)) (4 : Int32)) (2 : Int32)) (1 : Int32)))
    else
      if (jushr ((a0 ^^^ (-1 : Int32)) &&& (a0 - (1 : Int32))) (16 : Int32)) ≤ (256 : Int32) then
        if (jushr ((a0 ^^^ (-1 : Int32)) &&& (a0 - (1 : Int32))) (16 : Int32)) ≤ (16 : Int32) then
          if (jushr ((a0 ^^^ (-1 : Int32)) &&& (a0 - (1 : Int32))) (16 : Int32)) ≤ (4 : Int32) then
            (((1 : Int32) + (16 : Int32)) + (jushr (jushr ((a0 ^^^ (-1 : Int32)) &&& (a0 - (1 : Int32))) (16 : Int32)) (1 : Int32)))
          else
            ((((1 : Int32) + (16 : Int32)) + (2 : Int32)) + (jushr (jushr (jushr ((a0 ^^^ (-1 : Int32)) &&& (a0 - (1 : Int32))) (16 : Int32)) (2 : Int32)) (1 : Int32)))
        else
          if (jushr (jushr ((a0 ^^^ (-1 : Int32)) &&& (a0 - (1 : Int32))) (16 : Int32)) (4 : Int32)) ≤ (4 : Int32) then
            ((((1 : Int32) + (16 : Int32)) + (4 : Int32)) + (jushr (jushr (jushr ((a0 ^^^ (-1 : Int32)) &&& (a0 - (1 : Int32))) (16 : Int32)) (4 : Int32)) (1 : Int32)))
          else
            (((((1 : Int32) + (16 : Int32)) + (4 : Int32)) + (2 : Int32)) + (jushr (jushr (jushr (jushr ((a0 ^^^ (-1 : Int32)) &&& (a0 - (1 : Int32))) (16 : Int32)) (4 : Int32)) (2 : Int32)) (1 : Int32)))
      else
        if (jushr (jushr ((a0 ^^^ (-1 : Int32)) &&& (a0 - (1 : Int32))) (16 : Int32)) (8 : Int32)) ≤ (16 : Int32) then
          if (jushr (jushr ((a0 ^^^ (-1 : Int32)) &&& (a0 - (1 : Int32))) (16 : Int32)) (8 : Int32)) ≤ (4 : Int32) then
            ((((1 : Int32) + (16 : Int32)) + (8 : Int32)) + (jushr (jushr (jushr ((a0 ^^^ (-1 : Int32)) &&& (a0 - (1 : Int32))) (16 : Int32)) (8 : Int32)) (1 : Int32)))
          else
            (((((1 : Int32) + (16 : Int32)) + (8 : Int32)) + (2 : Int32)) + (jushr (jushr (jushr (jushr ((a0 ^^^ (-1 : Int32)) &&& (a0 - (1 : Int32))) (16 : Int32)) (8 : Int32)) (2 : Int32)) (1 : Int32)))
        else
          if (jushr (jushr (jushr ((a0 ^^^ (-1 : Int32)) &&& (a0 - (1 : Int32))) (16 : Int32)) (8 : Int32)) (4 : Int32)) ≤ (4 : Int32) then
            (((((1 : Int32) + (16 : Int32)) + (8 : Int32)) + (4 : Int32)) + (jushr (jushr (jushr (jushr ((a0 ^^^ (-1 : Int32)) &&& (a0 - (1 : Int32))) (16 : Int32)) (8 : Int32)) (4 : Int32)) (1 : Int32)))
          else
            ((((((1 : Int32) + (16 : Int32)) + (8 : Int32)) + (4 : Int32)) + (2 : Int32)) + (jushr (jushr (jushr (jushr (jushr ((a0 ^^^ (-1 : Int32)) &&& (a0 - (1 : Int32))) (16 : Int32)) (8 : Int32)) (4 : Int32)) (2 : Int32)) (1 : Int32)))
  else
    (((a0 ^^^ (-1 : Int32)) &&& (a0 - (1 : Int32))) &&& (32 : Int32))
theorem cmJ6_numberOfTrailingZeros_0f7a4_264 : Jvm.Cond.constant RJ6 264 (65536 : Int32) ∈ wsJ6_numberOfTrailingZeros_0f7a4 := List.mem_of_getElem? (i := 1) rfl
abbrev rmJ6_numberOfTrailingZeros_0f7a4 : Room := { frames := 0, cells := 0, slots := 0, locals := 0 }
set_option maxRecDepth 20000 in
theorem cJ6_numberOfTrailingZeros_0f7a4_ (E : EV) (hE : okE E) (a0 : Int32) (u : ST) : MX E yJ6_numberOfTrailingZeros_0f7a4 wsJ6_numberOfTrailingZeros_0f7a4 rmJ6_numberOfTrailingZeros_0f7a4 [.int a0] u (tR u (fJ6_numberOfTrailingZeros_0f7a4 a0)) := by
  refine MX.of (cc := cJ6_numberOfTrailingZeros_0f7a4) (maxL := 2) (ret := (some .int)) (lv := [(0, .int a0)]) hE (by decide) rfl (fun _ => rfl) (Nat.le_of_ble_eq_true rfl) rfl (fun K hC => ?_)
  unfold fJ6_numberOfTrailingZeros_0f7a4
  refine g_iload_n 0 hC dJ6_numberOfTrailingZeros_0f7a4_0 0 rfl ?_
  refine g_iconst 1 hC (-1 : Int32) dJ6_numberOfTrailingZeros_0f7a4_1 (by decide) ?_
  refine g_ixor 2 hC dJ6_numberOfTrailingZeros_0f7a4_2 ?_
  refine g_iload_n 3 hC dJ6_numberOfTrailingZeros_0f7a4_3 0 rfl ?_
  refine g_iconst 4 hC (1 : Int32) dJ6_numberOfTrailingZeros_0f7a4_4 (by decide) ?_
  refine g_isub 5 hC dJ6_numberOfTrailingZeros_0f7a4_5 ?_
  refine g_iand 6 hC dJ6_numberOfTrailingZeros_0f7a4_6 ?_
  refine g_istore_n 7 hC dJ6_numberOfTrailingZeros_0f7a4_7 (by decide) [(0, .int (((a0 ^^^ (-1 : Int32)) &&& (a0 - (1 : Int32)))))] rfl ?_
  refine g_iload_n 8 hC dJ6_numberOfTrailingZeros_0f7a4_8 0 rfl ?_
  refine g_if_gtT (tR u) 9 hC 17 dJ6_numberOfTrailingZeros_0f7a4_9 (by decide) (fun h1 => ?_) (fun h1 => ?_)
  · skip
    refine g_iconst 17 hC (1 : Int32) dJ6_numberOfTrailingZeros_0f7a4_17 (by decide) ?_
    refine g_istore_n 18 hC dJ6_numberOfTrailingZeros_0f7a4_18 (by decide) [(1, .int ((1 : Int32))), (0, .int (((a0 ^^^ (-1 : Int32)) &&& (a0 - (1 : Int32)))))] rfl ?_
    refine g_iload_n 19 hC dJ6_numberOfTrailingZeros_0f7a4_19 1 rfl ?_
    refine g_ldc_w 20 hC (65536 : Int32) dJ6_numberOfTrailingZeros_0f7a4_20 cmJ6_numberOfTrailingZeros_0f7a4_264 ?_
    refine g_icmp_leT (tR u) 23 hC 34 dJ6_numberOfTrailingZeros_0f7a4_23 (by decide) (fun h2 => ?_) (fun h2 => ?_)
    · skip
      refine g_iload_n 34 hC dJ6_numberOfTrailingZeros_0f7a4_34 1 rfl ?_
      refine g_sipush 35 hC (256 : Int32) dJ6_numberOfTrailingZeros_0f7a4_35 (by decide) ?_
      refine g_icmp_leT (tR u) 38 hC 49 dJ6_numberOfTrailingZeros_0f7a4_38 (by decide) (fun h3 => ?_) (fun h3 => ?_)
      · skip
        refine g_iload_n 49 hC dJ6_numberOfTrailingZeros_0f7a4_49 1 rfl ?_
        refine g_bipush 50 hC (16 : Int32) dJ6_numberOfTrailingZeros_0f7a4_50 (by decide) ?_
        refine g_icmp_leT (tR u) 52 hC 62 dJ6_numberOfTrailingZeros_0f7a4_52 (by decide) (fun h4 => ?_) (fun h4 => ?_)
        · skip
          refine g_iload_n 62 hC dJ6_numberOfTrailingZeros_0f7a4_62 1 rfl ?_
          refine g_iconst 63 hC (4 : Int32) dJ6_numberOfTrailingZeros_0f7a4_63 (by decide) ?_
          refine g_icmp_leT (tR u) 64 hC 74 dJ6_numberOfTrailingZeros_0f7a4_64 (by decide) (fun h5 => ?_) (fun h5 => ?_)
          · skip
            refine g_iload_n 74 hC dJ6_numberOfTrailingZeros_0f7a4_74 0 rfl ?_
            refine g_iload_n 75 hC dJ6_numberOfTrailingZeros_0f7a4_75 1 rfl ?_
            refine g_iconst 76 hC (1 : Int32) dJ6_numberOfTrailingZeros_0f7a4_76 (by decide) ?_
            refine g_iushr 77 hC dJ6_numberOfTrailingZeros_0f7a4_77 ?_
            refine g_iadd 78 hC dJ6_numberOfTrailingZeros_0f7a4_78 ?_
            exact g_iret 79 hC dJ6_numberOfTrailingZeros_0f7a4_79
          · skip
            refine g_iinc 67 hC ((1 : Int32) + (2 : Int32)) dJ6_numberOfTrailingZeros_0f7a4_67 (by decide) 0 rfl rfl [(1, .int (((1 : Int32) + (2 : Int32)))), (0, .int (((a0 ^^^ (-1 : Int32)) &&& (a0 - (1 : Int32)))))] rfl ?_
            refine g_iload_n 70 hC dJ6_numberOfTrailingZeros_0f7a4_70 1 rfl ?_
            refine g_iconst 71 hC (2 : Int32) dJ6_numberOfTrailingZeros_0f7a4_71 (by decide) ?_
            refine g_iushr 72 hC dJ6_numberOfTrailingZeros_0f7a4_72 ?_
            refine g_istore_n 73 hC dJ6_numberOfTrailingZeros_0f7a4_73 (by decide) [(0, .int ((jushr ((a0 ^^^ (-1 : Int32)) &&& (a0 - (1 : Int32))) (2 : Int32)))), (1, .int (((1 : Int32) + (2 : Int32))))] rfl ?_
            refine g_iload_n 74 hC dJ6_numberOfTrailingZeros_0f7a4_74 1 rfl ?_
            refine g_iload_n 75 hC dJ6_numberOfTrailingZeros_0f7a4_75 0 rfl ?_
            refine g_iconst 76 hC (1 : Int32) dJ6_numberOfTrailingZeros_0f7a4_76 (by decide) ?_
            refine g_iushr 77 hC dJ6_numberOfTrailingZeros_0f7a4_77 ?_
            refine g_iadd 78 hC dJ6_numberOfTrailingZeros_0f7a4_78 ?_
            exact g_iret 79 hC dJ6_numberOfTrailingZeros_0f7a4_79
        · skip
          refine g_iinc 55 hC ((1 : Int32) + (4 : Int32)) dJ6_numberOfTrailingZeros_0f7a4_55 (by decide) 0 rfl rfl [(1, .int (((1 : Int32) + (4 : Int32)))), (0, .int (((a0 ^^^ (-1 : Int32)) &&& (a0 - (1 : Int32)))))] rfl ?_
          refine g_iload_n 58 hC dJ6_numberOfTrailingZeros_0f7a4_58 1 rfl ?_
          refine g_iconst 59 hC (4 : Int32) dJ6_numberOfTrailingZeros_0f7a4_59 (by decide) ?_
          refine g_iushr 60 hC dJ6_numberOfTrailingZeros_0f7a4_60 ?_
          refine g_istore_n 61 hC dJ6_numberOfTrailingZeros_0f7a4_61 (by decide) [(0, .int ((jushr ((a0 ^^^ (-1 : Int32)) &&& (a0 - (1 : Int32))) (4 : Int32)))), (1, .int (((1 : Int32) + (4 : Int32))))] rfl ?_
          refine g_iload_n 62 hC dJ6_numberOfTrailingZeros_0f7a4_62 0 rfl ?_
          refine g_iconst 63 hC (4 : Int32) dJ6_numberOfTrailingZeros_0f7a4_63 (by decide) ?_
          refine g_icmp_leT (tR u) 64 hC 74 dJ6_numberOfTrailingZeros_0f7a4_64 (by decide) (fun h6 => ?_) (fun h6 => ?_)
          · skip
            refine g_iload_n 74 hC dJ6_numberOfTrailingZeros_0f7a4_74 1 rfl ?_
            refine g_iload_n 75 hC dJ6_numberOfTrailingZeros_0f7a4_75 0 rfl ?_
            refine g_iconst 76 hC (1 : Int32) dJ6_numberOfTrailingZeros_0f7a4_76 (by decide) ?_
            refine g_iushr 77 hC dJ6_numberOfTrailingZeros_0f7a4_77 ?_
            refine g_iadd 78 hC dJ6_numberOfTrailingZeros_0f7a4_78 ?_
            exact g_iret 79 hC dJ6_numberOfTrailingZeros_0f7a4_79
          · skip
            refine g_iinc 67 hC (((1 : Int32) + (4 : Int32)) + (2 : Int32)) dJ6_numberOfTrailingZeros_0f7a4_67 (by decide) 1 rfl rfl [(1, .int ((((1 : Int32) + (4 : Int32)) + (2 : Int32)))), (0, .int ((jushr ((a0 ^^^ (-1 : Int32)) &&& (a0 - (1 : Int32))) (4 : Int32))))] rfl ?_
            refine g_iload_n 70 hC dJ6_numberOfTrailingZeros_0f7a4_70 1 rfl ?_
            refine g_iconst 71 hC (2 : Int32) dJ6_numberOfTrailingZeros_0f7a4_71 (by decide) ?_
            refine g_iushr 72 hC dJ6_numberOfTrailingZeros_0f7a4_72 ?_
            refine g_istore_n 73 hC dJ6_numberOfTrailingZeros_0f7a4_73 (by decide) [(0, .int ((jushr (jushr ((a0 ^^^ (-1 : Int32)) &&& (a0 - (1 : Int32))) (4 : Int32)) (2 : Int32)))), (1, .int ((((1 : Int32) + (4 : Int32)) + (2 : Int32))))] rfl ?_
            refine g_iload_n 74 hC dJ6_numberOfTrailingZeros_0f7a4_74 1 rfl ?_
            refine g_iload_n 75 hC dJ6_numberOfTrailingZeros_0f7a4_75 0 rfl ?_
            refine g_iconst 76 hC (1 : Int32) dJ6_numberOfTrailingZeros_0f7a4_76 (by decide) ?_
            refine g_iushr 77 hC dJ6_numberOfTrailingZeros_0f7a4_77 ?_
            refine g_iadd 78 hC dJ6_numberOfTrailingZeros_0f7a4_78 ?_
            exact g_iret 79 hC dJ6_numberOfTrailingZeros_0f7a4_79
      · skip
        refine g_iinc 41 hC ((1 : Int32) + (8 : Int32)) dJ6_numberOfTrailingZeros_0f7a4_41 (by decide) 0 rfl rfl [(1, .int (((1 : Int32) + (8 : Int32)))), (0, .int (((a0 ^^^ (-1 : Int32)) &&& (a0 - (1 : Int32)))))] rfl ?_
        refine g_iload_n 44 hC dJ6_numberOfTrailingZeros_0f7a4_44 1 rfl ?_
        refine g_bipush 45 hC (8 : Int32) dJ6_numberOfTrailingZeros_0f7a4_45 (by decide) ?_
        refine g_iushr 47 hC dJ6_numberOfTrailingZeros_0f7a4_47 ?_
        refine g_istore_n 48 hC dJ6_numberOfTrailingZeros_0f7a4_48 (by decide) [(0, .int ((jushr ((a0 ^^^ (-1 : Int32)) &&& (a0 - (1 : Int32))) (8 : Int32)))), (1, .int (((1 : Int32) + (8 : Int32))))] rfl ?_
        refine g_iload_n 49 hC dJ6_numberOfTrailingZeros_0f7a4_49 0 rfl ?_
        refine g_bipush 50 hC (16 : Int32) dJ6_numberOfTrailingZeros_0f7a4_50 (by decide) ?_
        refine g_icmp_leT (tR u) 52 hC 62 dJ6_numberOfTrailingZeros_0f7a4_52 (by decide) (fun h7 => ?_) (fun h7 => ?_)
        · skip
          refine g_iload_n 62 hC dJ6_numberOfTrailingZeros_0f7a4_62 0 rfl ?_
          refine g_iconst 63 hC (4 : Int32) dJ6_numberOfTrailingZeros_0f7a4_63 (by decide) ?_
          refine g_icmp_leT (tR u) 64 hC 74 dJ6_numberOfTrailingZeros_0f7a4_64 (by decide) (fun h8 => ?_) (fun h8 => ?_)
          · skip
            refine g_iload_n 74 hC dJ6_numberOfTrailingZeros_0f7a4_74 1 rfl ?_
            refine g_iload_n 75 hC dJ6_numberOfTrailingZeros_0f7a4_75 0 rfl ?_
            refine g_iconst 76 hC (1 : Int32) dJ6_numberOfTrailingZeros_0f7a4_76 (by decide) ?_
            refine g_iushr 77 hC dJ6_numberOfTrailingZeros_0f7a4_77 ?_
            refine g_iadd 78 hC dJ6_numberOfTrailingZeros_0f7a4_78 ?_
            exact g_iret 79 hC dJ6_numberOfTrailingZeros_0f7a4_79
          · skip
            refine g_iinc 67 hC (((1 : Int32) + (8 : Int32)) + (2 : Int32)) dJ6_numberOfTrailingZeros_0f7a4_67 (by decide) 1 rfl rfl [(1, .int ((((1 : Int32) + (8 : Int32)) + (2 : Int32)))), (0, .int ((jushr ((a0 ^^^ (-1 : Int32)) &&& (a0 - (1 : Int32))) (8 : Int32))))] rfl ?_
            refine g_iload_n 70 hC dJ6_numberOfTrailingZeros_0f7a4_70 1 rfl ?_
            refine g_iconst 71 hC (2 : Int32) dJ6_numberOfTrailingZeros_0f7a4_71 (by decide) ?_
            refine g_iushr 72 hC dJ6_numberOfTrailingZeros_0f7a4_72 ?_
            refine g_istore_n 73 hC dJ6_numberOfTrailingZeros_0f7a4_73 (by decide) [(0, .int ((jushr (jushr ((a0 ^^^ (-1 : Int32)) &&& (a0 - (1 : Int32))) (8 : Int32)) (2 : Int32)))), (1, .int ((((1 : Int32) + (8 : Int32)) + (2 : Int32))))] rfl ?_
            refine g_iload_n 74 hC dJ6_numberOfTrailingZeros_0f7a4_74 1 rfl ?_
            refine g_iload_n 75 hC dJ6_numberOfTrailingZeros_0f7a4_75 0 rfl ?_
            refine g_iconst 76 hC (1 : Int32) dJ6_numberOfTrailingZeros_0f7a4_76 (by decide) ?_
            refine g_iushr 77 hC dJ6_numberOfTrailingZeros_0f7a4_77 ?_
            refine g_iadd 78 hC dJ6_numberOfTrailingZeros_0f7a4_78 ?_
            exact g_iret 79 hC dJ6_numberOfTrailingZeros_0f7a4_79
        · skip
          refine g_iinc 55 hC (((1 : Int32) + (8 : Int32)) + (4 : Int32)) dJ6_numberOfTrailingZeros_0f7a4_55 (by decide) 1 rfl rfl [(1, .int ((((1 : Int32) + (8 : Int32)) + (4 : Int32)))), (0, .int ((jushr ((a0 ^^^ (-1 : Int32)) &&& (a0 - (1 : Int32))) (8 : Int32))))] rfl ?_
          refine g_iload_n 58 hC dJ6_numberOfTrailingZeros_0f7a4_58 1 rfl ?_
          refine g_iconst 59 hC (4 : Int32) dJ6_numberOfTrailingZeros_0f7a4_59 (by decide) ?_
          refine g_iushr 60 hC dJ6_numberOfTrailingZeros_0f7a4_60 ?_
          refine g_istore_n 61 hC dJ6_numberOfTrailingZeros_0f7a4_61 (by decide) [(0, .int ((jushr (jushr ((a0 ^^^ (-1 : Int32)) &&& (a0 - (1 : Int32))) (8 : Int32)) (4 : Int32)))), (1, .int ((((1 : Int32) + (8 : Int32)) + (4 : Int32))))] rfl ?_
          refine g_iload_n 62 hC dJ6_numberOfTrailingZeros_0f7a4_62 0 rfl ?_
          refine g_iconst 63 hC (4 : Int32) dJ6_numberOfTrailingZeros_0f7a4_63 (by decide) ?_
          refine g_icmp_leT (tR u) 64 hC 74 dJ6_numberOfTrailingZeros_0f7a4_64 (by decide) (fun h9 => ?_) (fun h9 => ?_)
          · skip
            refine g_iload_n 74 hC dJ6_numberOfTrailingZeros_0f7a4_74 1 rfl ?_
            refine g_iload_n 75 hC dJ6_numberOfTrailingZeros_0f7a4_75 0 rfl ?_
            refine g_iconst 76 hC (1 : Int32) dJ6_numberOfTrailingZeros_0f7a4_76 (by decide) ?_
            refine g_iushr 77 hC dJ6_numberOfTrailingZeros_0f7a4_77 ?_
            refine g_iadd 78 hC dJ6_numberOfTrailingZeros_0f7a4_78 ?_
            exact g_iret 79 hC dJ6_numberOfTrailingZeros_0f7a4_79
          · skip
            refine g_iinc 67 hC ((((1 : Int32) + (8 : Int32)) + (4 : Int32)) + (2 : Int32)) dJ6_numberOfTrailingZeros_0f7a4_67 (by decide) 1 rfl rfl [(1, .int (((((1 : Int32) + (8 : Int32)) + (4 : Int32)) + (2 : Int32)))), (0, .int ((jushr (jushr ((a0 ^^^ (-1 : Int32)) &&& (a0 - (1 : Int32))) (8 : Int32)) (4 : Int32))))] rfl ?_
            refine g_iload_n 70 hC dJ6_numberOfTrailingZeros_0f7a4_70 1 rfl ?_
            refine g_iconst 71 hC (2 : Int32) dJ6_numberOfTrailingZeros_0f7a4_71 (by decide) ?_
            refine g_iushr 72 hC dJ6_numberOfTrailingZeros_0f7a4_72 ?_
            refine g_istore_n 73 hC dJ6_numberOfTrailingZeros_0f7a4_73 (by decide) [(0, .int ((jushr (jushr (jushr ((a0 ^^^ (-1 : Int32)) &&& (a0 - (1 : Int32))) (8 : Int32)) (4 : Int32)) (2 : Int32)))), (1, .int (((((1 : Int32) + (8 : Int32)) + (4 : Int32)) + (2 : Int32))))] rfl ?_
            refine g_iload_n 74 hC dJ6_numberOfTrailingZeros_0f7a4_74 1 rfl ?_
            refine g_iload_n 75 hC dJ6_numberOfTrailingZeros_0f7a4_75 0 rfl ?_
            refine g_iconst 76 hC (1 : Int32) dJ6_numberOfTrailingZeros_0f7a4_76 (by decide) ?_
            refine g_iushr 77 hC dJ6_numberOfTrailingZeros_0f7a4_77 ?_
            refine g_iadd 78 hC dJ6_numberOfTrailingZeros_0f7a4_78 ?_
            exact g_iret 79 hC dJ6_numberOfTrailingZeros_0f7a4_79
    · skip
      refine g_iinc 26 hC ((1 : Int32) + (16 : Int32)) dJ6_numberOfTrailingZeros_0f7a4_26 (by decide) 0 rfl rfl [(1, .int (((1 : Int32) + (16 : Int32)))), (0, .int (((a0 ^^^ (-1 : Int32)) &&& (a0 - (1 : Int32)))))] rfl ?_
      refine g_iload_n 29 hC dJ6_numberOfTrailingZeros_0f7a4_29 1 rfl ?_
      refine g_bipush 30 hC (16 : Int32) dJ6_numberOfTrailingZeros_0f7a4_30 (by decide) ?_
      refine g_iushr 32 hC dJ6_numberOfTrailingZeros_0f7a4_32 ?_
      refine g_istore_n 33 hC dJ6_numberOfTrailingZeros_0f7a4_33 (by decide) [(0, .int ((jushr ((a0 ^^^ (-1 : Int32)) &&& (a0 - (1 : Int32))) (16 : Int32)))), (1, .int (((1 : Int32) + (16 : Int32))))] rfl ?_
      refine g_iload_n 34 hC dJ6_numberOfTrailingZeros_0f7a4_34 0 rfl ?_
      refine g_sipush 35 hC (256 : Int32) dJ6_numberOfTrailingZeros_0f7a4_35 (by decide) ?_
      refine g_icmp_leT (tR u) 38 hC 49 dJ6_numberOfTrailingZeros_0f7a4_38 (by decide) (fun h10 => ?_) (fun h10 => ?_)
      · skip
        refine g_iload_n 49 hC dJ6_numberOfTrailingZeros_0f7a4_49 0 rfl ?_
        refine g_bipush 50 hC (16 : Int32) dJ6_numberOfTrailingZeros_0f7a4_50 (by decide) ?_
        refine g_icmp_leT (tR u) 52 hC 62 dJ6_numberOfTrailingZeros_0f7a4_52 (by decide) (fun h11 => ?_) (fun h11 => ?_)
        · skip
          refine g_iload_n 62 hC dJ6_numberOfTrailingZeros_0f7a4_62 0 rfl ?_
          refine g_iconst 63 hC (4 : Int32) dJ6_numberOfTrailingZeros_0f7a4_63 (by decide) ?_
          refine g_icmp_leT (tR u) 64 hC 74 dJ6_numberOfTrailingZeros_0f7a4_64 (by decide) (fun h12 => ?_) (fun h12 => ?_)
          · skip
            refine g_iload_n 74 hC dJ6_numberOfTrailingZeros_0f7a4_74 1 rfl ?_
            refine g_iload_n 75 hC dJ6_numberOfTrailingZeros_0f7a4_75 0 rfl ?_
            refine g_iconst 76 hC (1 : Int32) dJ6_numberOfTrailingZeros_0f7a4_76 (by decide) ?_
            refine g_iushr 77 hC dJ6_numberOfTrailingZeros_0f7a4_77 ?_
            refine g_iadd 78 hC dJ6_numberOfTrailingZeros_0f7a4_78 ?_
            exact g_iret 79 hC dJ6_numberOfTrailingZeros_0f7a4_79
          · skip
            refine g_iinc 67 hC (((1 : Int32) + (16 : Int32)) + (2 : Int32)) dJ6_numberOfTrailingZeros_0f7a4_67 (by decide) 1 rfl rfl [(1, .int ((((1 : Int32) + (16 : Int32)) + (2 : Int32)))), (0, .int ((jushr ((a0 ^^^ (-1 : Int32)) &&& (a0 - (1 : Int32))) (16 : Int32))))] rfl ?_
            refine g_iload_n 70 hC dJ6_numberOfTrailingZeros_0f7a4_70 1 rfl ?_
            refine g_iconst 71 hC (2 : Int32) dJ6_numberOfTrailingZeros_0f7a4_71 (by decide) ?_
            refine g_iushr 72 hC dJ6_numberOfTrailingZeros_0f7a4_72 ?_
            refine g_istore_n 73 hC dJ6_numberOfTrailingZeros_0f7a4_73 (by decide) [(0, .int ((jushr (jushr ((a0 ^^^ (-1 : Int32)) &&& (a0 - (1 : Int32))) (16 : Int32)) (2 : Int32)))), (1, .int ((((1 : Int32) + (16 : Int32)) + (2 : Int32))))] rfl ?_
            refine g_iload_n 74 hC dJ6_numberOfTrailingZeros_0f7a4_74 1 rfl ?_
            refine g_iload_n 75 hC dJ6_numberOfTrailingZeros_0f7a4_75 0 rfl ?_
            refine g_iconst 76 hC (1 : Int32) dJ6_numberOfTrailingZeros_0f7a4_76 (by decide) ?_
            refine g_iushr 77 hC dJ6_numberOfTrailingZeros_0f7a4_77 ?_
            refine g_iadd 78 hC dJ6_numberOfTrailingZeros_0f7a4_78 ?_
            exact g_iret 79 hC dJ6_numberOfTrailingZeros_0f7a4_79
        · skip
          refine g_iinc 55 hC (((1 : Int32) + (16 : Int32)) + (4 : Int32)) dJ6_numberOfTrailingZeros_0f7a4_55 (by decide) 1 rfl rfl [(1, .int ((((1 : Int32) + (16 : Int32)) + (4 : Int32)))), (0, .int ((jushr ((a0 ^^^ (-1 : Int32)) &&& (a0 - (1 : Int32))) (16 : Int32))))] rfl ?_
          refine g_iload_n 58 hC dJ6_numberOfTrailingZeros_0f7a4_58 1 rfl ?_
          refine g_iconst 59 hC (4 : Int32) dJ6_numberOfTrailingZeros_0f7a4_59 (by decide) ?_
          refine g_iushr 60 hC dJ6_numberOfTrailingZeros_0f7a4_60 ?_
          refine g_istore_n 61 hC dJ6_numberOfTrailingZeros_0f7a4_61 (by decide) [(0, .int ((jushr (jushr ((a0 ^^^ (-1 : Int32)) &&& (a0 - (1 : Int32))) (16 : Int32)) (4 : Int32)))), (1, .int ((((1 : Int32) + (16 : Int32)) + (4 : Int32))))] rfl ?_
          refine g_iload_n 62 hC dJ6_numberOfTrailingZeros_0f7a4_62 0 rfl ?_
          refine g_iconst 63 hC (4 : Int32) dJ6_numberOfTrailingZeros_0f7a4_63 (by decide) ?_
          refine g_icmp_leT (tR u) 64 hC 74 dJ6_numberOfTrailingZeros_0f7a4_64 (by decide) (fun h13 => ?_) (fun h13 => ?_)
          · skip
            refine g_iload_n 74 hC dJ6_numberOfTrailingZeros_0f7a4_74 1 rfl ?_
            refine g_iload_n 75 hC dJ6_numberOfTrailingZeros_0f7a4_75 0 rfl ?_
            refine g_iconst 76 hC (1 : Int32) dJ6_numberOfTrailingZeros_0f7a4_76 (by decide) ?_
            refine g_iushr 77 hC dJ6_numberOfTrailingZeros_0f7a4_77 ?_
            refine g_iadd 78 hC dJ6_numberOfTrailingZeros_0f7a4_78 ?_
            exact g_iret 79 hC dJ6_numberOfTrailingZeros_0f7a4_79
          · skip
            refine g_iinc 67 hC ((((1 : Int32) + (16 : Int32)) + (4 : Int32)) + (2 : Int32)) dJ6_numberOfTrailingZeros_0f7a4_67 (by decide) 1 rfl rfl [(1, .int (((((1 : Int32) + (16 : Int32)) + (4 : Int32)) + (2 : Int32)))), (0, .int ((jushr (jushr ((a0 ^^^ (-1 : Int32)) &&& (a0 - (1 : Int32))) (16 : Int32)) (4 : Int32))))] rfl ?_
            refine g_iload_n 70 hC dJ6_numberOfTrailingZeros_0f7a4_70 1 rfl ?_
            refine g_iconst 71 hC (2 : Int32) dJ6_numberOfTrailingZeros_0f7a4_71 (by decide) ?_
            refine g_iushr 72 hC dJ6_numberOfTrailingZeros_0f7a4_72 ?_
            refine g_istore_n 73 hC dJ6_numberOfTrailingZeros_0f7a4_73 (by decide) [(0, .int ((jushr (jushr (jushr ((a0 ^^^ (-1 : Int32)) &&& (a0 - (1 : Int32))) (16 : Int32)) (4 : Int32)) (2 : Int32)))), (1, .int (((((1 : Int32) + (16 : Int32)) + (4 : Int32)) + (2 : Int32))))] rfl ?_
            refine g_iload_n 74 hC dJ6_numberOfTrailingZeros_0f7a4_74 1 rfl ?_
            refine g_iload_n 75 hC dJ6_numberOfTrailingZeros_0f7a4_75 0 rfl ?_
            refine g_iconst 76 hC (1 : Int32) dJ6_numberOfTrailingZeros_0f7a4_76 (by decide) ?_
            refine g_iushr 77 hC dJ6_numberOfTrailingZeros_0f7a4_77 ?_
            refine g_iadd 78 hC dJ6_numberOfTrailingZeros_0f7a4_78 ?_
            exact g_iret 79 hC dJ6_numberOfTrailingZeros_0f7a4_79
      · skip
        refine g_iinc 41 hC (((1 : Int32) + (16 : Int32)) + (8 : Int32)) dJ6_numberOfTrailingZeros_0f7a4_41 (by decide) 1 rfl rfl [(1, .int ((((1 : Int32) + (16 : Int32)) + (8 : Int32)))), (0, .int ((jushr ((a0 ^^^ (-1 : Int32)) &&& (a0 - (1 : Int32))) (16 : Int32))))] rfl ?_
        refine g_iload_n 44 hC dJ6_numberOfTrailingZeros_0f7a4_44 1 rfl ?_
        refine g_bipush 45 hC (8 : Int32) dJ6_numberOfTrailingZeros_0f7a4_45 (by decide) ?_
        refine g_iushr 47 hC dJ6_numberOfTrailingZeros_0f7a4_47 ?_
        refine g_istore_n 48 hC dJ6_numberOfTrailingZeros_0f7a4_48 (by decide) [(0, .int ((jushr (jushr ((a0 ^^^ (-1 : Int32)) &&& (a0 - (1 : Int32))) (16 : Int32)) (8 : Int32)))), (1, .int ((((1 : Int32) + (16 : Int32)) + (8 : Int32))))] rfl ?_
        refine g_iload_n 49 hC dJ6_numberOfTrailingZeros_0f7a4_49 0 rfl ?_
        refine g_bipush 50 hC (16 : Int32) dJ6_numberOfTrailingZeros_0f7a4_50 (by decide) ?_
        refine g_icmp_leT (tR u) 52 hC 62 dJ6_numberOfTrailingZeros_0f7a4_52 (by decide) (fun h14 => ?_) (fun h14 => ?_)
        · skip
          refine g_iload_n 62 hC dJ6_numberOfTrailingZeros_0f7a4_62 0 rfl ?_
          refine g_iconst 63 hC (4 : Int32) dJ6_numberOfTrailingZeros_0f7a4_63 (by decide) ?_
          refine g_icmp_leT (tR u) 64 hC 74 dJ6_numberOfTrailingZeros_0f7a4_64 (by decide) (fun h15 => ?_) (fun h15 => ?_)
          · skip
            refine g_iload_n 74 hC dJ6_numberOfTrailingZeros_0f7a4_74 1 rfl ?_
            refine g_iload_n 75 hC dJ6_numberOfTrailingZeros_0f7a4_75 0 rfl ?_
            refine g_iconst 76 hC (1 : Int32) dJ6_numberOfTrailingZeros_0f7a4_76 (by decide) ?_
            refine g_iushr 77 hC dJ6_numberOfTrailingZeros_0f7a4_77 ?_
            refine g_iadd 78 hC dJ6_numberOfTrailingZeros_0f7a4_78 ?_
            exact g_iret 79 hC dJ6_numberOfTrailingZeros_0f7a4_79
          · skip
            refine g_iinc 67 hC ((((1 : Int32) + (16 : Int32)) + (8 : Int32)) + (2 : Int32)) dJ6_numberOfTrailingZeros_0f7a4_67 (by decide) 1 rfl rfl [(1, .int (((((1 : Int32) + (16 : Int32)) + (8 : Int32)) + (2 : Int32)))), (0, .int ((jushr (jushr ((a0 ^^^ (-1 : Int32)) &&& (a0 - (1 : Int32))) (16 : Int32)) (8 : Int32))))] rfl ?_
            refine g_iload_n 70 hC dJ6_numberOfTrailingZeros_0f7a4_70 1 rfl ?_
            refine g_iconst 71 hC (2 : Int32) dJ6_numberOfTrailingZeros_0f7a4_71 (by decide) ?_
            refine g_iushr 72 hC dJ6_numberOfTrailingZeros_0f7a4_72 ?_
            refine g_istore_n 73 hC dJ6_numberOfTrailingZeros_0f7a4_73 (by decide) [(0, .int ((jushr (jushr (jushr ((a0 ^^^ (-1 : Int32)) &&& (a0 - (1 : Int32))) (16 : Int32)) (8 : Int32)) (2 : Int32)))), (1, .int (((((1 : Int32) + (16 : Int32)) + (8 : Int32)) + (2 : Int32))))] rfl ?_
            refine g_iload_n 74 hC dJ6_numberOfTrailingZeros_0f7a4_74 1 rfl ?_
            refine g_iload_n 75 hC dJ6_numberOfTrailingZeros_0f7a4_75 0 rfl ?_
            refine g_iconst 76 hC (1 : Int32) dJ6_numberOfTrailingZeros_0f7a4_76 (by decide) ?_
            refine g_iushr 77 hC dJ6_numberOfTrailingZeros_0f7a4_77 ?_
            refine g_iadd 78 hC dJ6_numberOfTrailingZeros_0f7a4_78 ?_
            exact g_iret 79 hC dJ6_numberOfTrailingZeros_0f7a4_79
        · skip
          refine g_iinc 55 hC ((((1 : Int32) + (16 : Int32)) + (8 : Int32)) + (4 : Int32)) dJ6_numberOfTrailingZeros_0f7a4_55 (by decide) 1 rfl rfl [(1, .int (((((1 : Int32) + (16 : Int32)) + (8 : Int32)) + (4 : Int32)))), (0, .int ((jushr (jushr ((a0 ^^^ (-1 : Int32)) &&& (a0 - (1 : Int32))) (16 : Int32)) (8 : Int32))))] rfl ?_
          refine g_iload_n 58 hC dJ6_numberOfTrailingZeros_0f7a4_58 1 rfl ?_
          refine g_iconst 59 hC (4 : Int32) dJ6_numberOfTrailingZeros_0f7a4_59 (by decide) ?_
          refine g_iushr 60 hC dJ6_numberOfTrailingZeros_0f7a4_60 ?_
          refine g_istore_n 61 hC dJ6_numberOfTrailingZeros_0f7a4_61 (by decide) [(0, .int ((jushr (jushr (jushr ((a0 ^^^ (-1 : Int32)) &&& (a0 - (1 : Int32))) (16 : Int32)) (8 : Int32)) (4 : Int32)))), (1, .int (((((1 : Int32) + (16 : Int32)) + (8 : Int32)) + (4 : Int32))))] rfl ?_
          refine g_iload_n 62 hC dJ6_numberOfTrailingZeros_0f7a4_62 0 rfl ?_
          refine g_iconst 63 hC (4 : Int32) dJ6_numberOfTrailingZeros_0f7a4_63 (by decide) ?_
          refine g_icmp_leT (tR u) 64 hC 74 dJ6_numberOfTrailingZeros_0f7a4_64 (by decide) (fun h16 => ?_) (fun h16 => ?_)
          · skip
            refine g_iload_n 74 hC dJ6_numberOfTrailingZeros_0f7a4_74 1 rfl ?_
            refine g_iload_n 75 hC dJ6_numberOfTrailingZeros_0f7a4_75 0 rfl ?_
            refine g_iconst 76 hC (1 : Int32) dJ6_numberOfTrailingZeros_0f7a4_76 (by decide) ?_
            refine g_iushr 77 hC dJ6_numberOfTrailingZeros_0f7a4_77 ?_
            refine g_iadd 78 hC dJ6_numberOfTrailingZeros_0f7a4_78 ?_
            exact g_iret 79 hC dJ6_numberOfTrailingZeros_0f7a4_79
          · skip
            refine g_iinc 67 hC (((((1 : Int32) + (16 : Int32)) + (8 : Int32)) + (4 : Int32)) + (2 : Int32)) dJ6_numberOfTrailingZeros_0f7a4_67 (by decide) 1 rfl rfl [(1, .int ((((((1 : Int32) + (16 : Int32)) + (8 : Int32)) + (4 : Int32)) + (2 : Int32)))), (0, .int ((jushr (jushr (jushr ((a0 ^^^ (-1 : Int32)) &&& (a0 - (1 : Int32))) (16 : Int32)) (8 : Int32)) (4 : Int32))))] rfl ?_
            refine g_iload_n 70 hC dJ6_numberOfTrailingZeros_0f7a4_70 1 rfl ?_
            refine g_iconst 71 hC (2 : Int32) dJ6_numberOfTrailingZeros_0f7a4_71 (by decide) ?_
            refine g_iushr 72 hC dJ6_numberOfTrailingZeros_0f7a4_72 ?_
            refine g_istore_n 73 hC dJ6_numberOfTrailingZeros_0f7a4_73 (by decide) [(0, .int ((jushr (jushr (jushr (jushr ((a0 ^^^ (-1 : Int32)) &&& (a0 - (1 : Int32))) (16 : Int32)) (8 : Int32)) (4 : Int32)) (2 : Int32)))), (1, .int ((((((1 : Int32) + (16 : Int32)) + (8 : Int32)) + (4 : Int32)) + (2 : Int32))))] rfl ?_
            refine g_iload_n 74 hC dJ6_numberOfTrailingZeros_0f7a4_74 1 rfl ?_
            refine g_iload_n 75 hC dJ6_numberOfTrailingZeros_0f7a4_75 0 rfl ?_
            refine g_iconst 76 hC (1 : Int32) dJ6_numberOfTrailingZeros_0f7a4_76 (by decide) ?_
            refine g_iushr 77 hC dJ6_numberOfTrailingZeros_0f7a4_77 ?_
            refine g_iadd 78 hC dJ6_numberOfTrailingZeros_0f7a4_78 ?_
            exact g_iret 79 hC dJ6_numberOfTrailingZeros_0f7a4_79
  · skip
    refine g_iload_n 12 hC dJ6_numberOfTrailingZeros_0f7a4_12 0 rfl ?_
    refine g_bipush 13 hC (32 : Int32) dJ6_numberOfTrailingZeros_0f7a4_13 (by decide) ?_
    refine g_iand 15 hC dJ6_numberOfTrailingZeros_0f7a4_15 ?_
    exact g_iret 16 hC dJ6_numberOfTrailingZeros_0f7a4_16
theorem kJ6_numberOfTrailingZeros_0f7a4 {K : KT} {E : EV} {cc : ByteArray} {nL : Nat} {own : String} {Ts : List Cond} {rm : Room} {ret : Option FieldType} {T : ST × Option Value} {u : ST} {lv : List (Nat × Value)} {rest : List Value} {idx : Nat} {a0 : Int32} (pc : Nat) (hC : Cx K E cc nL own Ts rm ret) (hT : GoodIn Ts (va_wsS own idx yJ6_numberOfTrailingZeros_0f7a4 wsJ6_numberOfTrailingZeros_0f7a4)) (hR : rmJ6_numberOfTrailingZeros_0f7a4.frames + 1 ≤ rm.frames ∧ 8 + (2 + 11) + rmJ6_numberOfTrailingZeros_0f7a4.locals ≤ rm.locals) (hdg : decode cc pc = .ok (.invokestatic idx, 3)) (hcat : (rest.map fun v => v.category).sum ≤ 8) (kk : G K E nL T u (pc + 3) lv (.int (fJ6_numberOfTrailingZeros_0f7a4 a0) :: rest)) : G K E nL T u pc lv (.int a0 :: rest) := g_callS (n := 1) pc hC (As := [.int a0]) (rest := rest) (cJ6_numberOfTrailingZeros_0f7a4_ _ (Cx.ok hC) a0 u) hT rfl rfl rfl (by decide +kernel) hR rfl rfl hcat hdg kk
end
section
set_option maxRecDepth 20000 in
theorem ggX4_init_X0_init : GoodIn wsX4_init wsX0_init := goodIn_r _ [21, 22, 2, 3, 4, 23, 37] (by decide +kernel) (by decide +kernel)
set_option maxRecDepth 20000 in
theorem gX4_init_X0_init : GoodIn wsX4_init (wsX0_init) := ggX4_init_X0_init
set_option maxRecDepth 20000 in
theorem ggX4_init_X2_init : GoodIn wsX4_init wsX2_init := goodIn_r _ [26, 27, 2, 3, 28, 38] (by decide +kernel) (by decide +kernel)
set_option maxRecDepth 20000 in
theorem gX4_init_X2_init : GoodIn wsX4_init (wsX2_init) := ggX4_init_X2_init
theorem dX4_init_0 : decode cX4_init 0 = .ok (.aload_n 0, 1) := by decide +kernel
theorem dX4_init_1 : decode cX4_init 1 = .ok (.invokespecial 1, 3) := by decide +kernel
theorem dX4_init_4 : decode cX4_init 4 = .ok (.aload_n 0, 1) := by decide +kernel
theorem dX4_init_5 : decode cX4_init 5 = .ok (.sipush 1024, 3) := by decide +kernel
theorem dX4_init_8 : decode cX4_init 8 = .ok (.newarray .int, 2) := by decide +kernel
theorem dX4_init_10 : decode cX4_init 10 = .ok (.putfield 9, 3) := by decide +kernel
theorem dX4_init_13 : decode cX4_init 13 = .ok (.aload_n 0, 1) := by decide +kernel
theorem dX4_init_14 : decode cX4_init 14 = .ok (.new 13, 3) := by decide +kernel
theorem dX4_init_17 : decode cX4_init 17 = .ok (.dup, 1) := by decide +kernel
theorem dX4_init_18 : decode cX4_init 18 = .ok (.invokespecial 15, 3) := by decide +kernel
theorem dX4_init_21 : decode cX4_init 21 = .ok (.putfield 16, 3) := by decide +kernel
theorem dX4_init_24 : decode cX4_init 24 = .ok (.aload_n 0, 1) := by decide +kernel
theorem dX4_init_25 : decode cX4_init 25 = .ok (.new 20, 3) := by decide +kernel
theorem dX4_init_28 : decode cX4_init 28 = .ok (.dup, 1) := by decide +kernel
theorem dX4_init_29 : decode cX4_init 29 = .ok (.aload_n 0, 1) := by decide +kernel
theorem dX4_init_30 : decode cX4_init 30 = .ok (.getfield 16, 3) := by decide +kernel
theorem dX4_init_33 : decode cX4_init 33 = .ok (.invokespecial 22, 3) := by decide +kernel
theorem dX4_init_36 : decode cX4_init 36 = .ok (.putfield 25, 3) := by decide +kernel
theorem dX4_init_39 : decode cX4_init 39 = .ok (.aload_n 0, 1) := by decide +kernel
theorem dX4_init_40 : decode cX4_init 40 = .ok (.bipush 7, 2) := by decide +kernel
theorem dX4_init_42 : decode cX4_init 42 = .ok (.newarray .int, 2) := by decide +kernel
theorem dX4_init_44 : decode cX4_init 44 = .ok (.putfield 29, 3) := by decide +kernel
theorem dX4_init_47 : decode cX4_init 47 = .ok (.aload_n 0, 1) := by decide +kernel
theorem dX4_init_48 : decode cX4_init 48 = .ok (.iconst 0, 1) := by decide +kernel
theorem dX4_init_49 : decode cX4_init 49 = .ok (.putfield 32, 3) := by decide +kernel
theorem dX4_init_52 : decode cX4_init 52 = .ok (.aload_n 0, 1) := by decide +kernel
theorem dX4_init_53 : decode cX4_init 53 = .ok (.iconst 0, 1) := by decide +kernel
theorem dX4_init_54 : decode cX4_init 54 = .ok (.putfield 36, 3) := by decide +kernel
theorem dX4_init_57 : decode cX4_init 57 = .ok (.aload_n 0, 1) := by decide +kernel
theorem dX4_init_58 : decode cX4_init 58 = .ok (.iconst 0, 1) := by decide +kernel
theorem dX4_init_59 : decode cX4_init 59 = .ok (.putfield 39, 3) := by decide +kernel
theorem dX4_init_62 : decode cX4_init 62 = .ok (.aload_n 0, 1) := by decide +kernel
theorem dX4_init_63 : decode cX4_init 63 = .ok (.iconst 0, 1) := by decide +kernel
theorem dX4_init_64 : decode cX4_init 64 = .ok (.putfield 42, 3) := by decide +kernel
theorem dX4_init_67 : decode cX4_init 67 = .ok (.return_, 1) := by decide +kernel
set_option maxRecDepth 20000 in
theorem ggX4_code_X4_within : GoodIn wsX4_code wsX4_within := goodIn_r _ [6] (by decide +kernel) (by decide +kernel)
set_option maxRecDepth 20000 in
theorem gX4_code_X4_within : GoodIn wsX4_code (va_wsS RX4 46 yX4_within wsX4_within) := goodIn_app (goodIn_of _ (by decide +kernel)) ggX4_code_X4_within
set_option maxRecDepth 20000 in
theorem ggX4_code_X4_cellAt : GoodIn wsX4_code wsX4_cellAt := goodIn_r _ [10, 2, 11, 12, 13, 14, 15, 16, 17, 18] (by decide +kernel) (by decide +kernel)
set_option maxRecDepth 20000 in
theorem gX4_code_X4_cellAt : GoodIn wsX4_code (wsV RX4 51 RX4 yX4_cellAt wsX4_cellAt) := goodIn_app (goodIn_of _ (by decide +kernel)) ggX4_code_X4_cellAt
theorem dX4_code_0 : decode cX4_code 0 = .ok (.iload_n 1, 1) := by decide +kernel
theorem dX4_code_1 : decode cX4_code 1 = .ok (.sipush 1023, 3) := by decide +kernel
theorem dX4_code_4 : decode cX4_code 4 = .ok (.invokestatic 46, 3) := by decide +kernel
theorem dX4_code_7 : decode cX4_code 7 = .ok (.ifCond .eq 12, 3) := by decide +kernel
theorem dX4_code_10 : decode cX4_code 10 = .ok (.iload_n 2, 1) := by decide +kernel
theorem dX4_code_11 : decode cX4_code 11 = .ok (.ldc 50, 2) := by decide +kernel
theorem dX4_code_13 : decode cX4_code 13 = .ok (.invokestatic 46, 3) := by decide +kernel
theorem dX4_code_16 : decode cX4_code 16 = .ok (.ifCond .ne 5, 3) := by decide +kernel
theorem dX4_code_19 : decode cX4_code 19 = .ok (.iconst (-1), 1) := by decide +kernel
theorem dX4_code_20 : decode cX4_code 20 = .ok (.ireturn, 1) := by decide +kernel
theorem dX4_code_21 : decode cX4_code 21 = .ok (.aload_n 0, 1) := by decide +kernel
theorem dX4_code_22 : decode cX4_code 22 = .ok (.iload_n 1, 1) := by decide +kernel
theorem dX4_code_23 : decode cX4_code 23 = .ok (.invokevirtual 51, 3) := by decide +kernel
theorem dX4_code_26 : decode cX4_code 26 = .ok (.istore_n 3, 1) := by decide +kernel
theorem dX4_code_27 : decode cX4_code 27 = .ok (.aload_n 0, 1) := by decide +kernel
theorem dX4_code_28 : decode cX4_code 28 = .ok (.getfield 9, 3) := by decide +kernel
theorem dX4_code_31 : decode cX4_code 31 = .ok (.iload_n 1, 1) := by decide +kernel
theorem dX4_code_32 : decode cX4_code 32 = .ok (.sipush 1023, 3) := by decide +kernel
theorem dX4_code_35 : decode cX4_code 35 = .ok (.iand, 1) := by decide +kernel
theorem dX4_code_36 : decode cX4_code 36 = .ok (.iload_n 2, 1) := by decide +kernel
theorem dX4_code_37 : decode cX4_code 37 = .ok (.iastore, 1) := by decide +kernel
theorem dX4_code_38 : decode cX4_code 38 = .ok (.iload_n 3, 1) := by decide +kernel
theorem dX4_code_39 : decode cX4_code 39 = .ok (.ireturn, 1) := by decide +kernel
set_option maxRecDepth 20000 in
theorem ggX4_load_X4_within : GoodIn wsX4_load wsX4_within := goodIn_r _ [6] (by decide +kernel) (by decide +kernel)
set_option maxRecDepth 20000 in
theorem gX4_load_X4_within : GoodIn wsX4_load (va_wsS RX4 46 yX4_within wsX4_within) := goodIn_app (goodIn_of _ (by decide +kernel)) ggX4_load_X4_within
theorem dX4_load_0 : decode cX4_load 0 = .ok (.iload_n 1, 1) := by decide +kernel
theorem dX4_load_1 : decode cX4_load 1 = .ok (.sipush 1023, 3) := by decide +kernel
theorem dX4_load_4 : decode cX4_load 4 = .ok (.invokestatic 46, 3) := by decide +kernel
theorem dX4_load_7 : decode cX4_load 7 = .ok (.ifCond .ne 5, 3) := by decide +kernel
theorem dX4_load_10 : decode cX4_load 10 = .ok (.iconst (-1), 1) := by decide +kernel
theorem dX4_load_11 : decode cX4_load 11 = .ok (.ireturn, 1) := by decide +kernel
theorem dX4_load_12 : decode cX4_load 12 = .ok (.iconst 0, 1) := by decide +kernel
theorem dX4_load_13 : decode cX4_load 13 = .ok (.istore 4, 2) := by decide +kernel
theorem dX4_load_15 : decode cX4_load 15 = .ok (.iload 4, 2) := by decide +kernel
theorem dX4_load_17 : decode cX4_load 17 = .ok (.iconst 4, 1) := by decide +kernel
theorem dX4_load_18 : decode cX4_load 18 = .ok (.if_icmp .ge 36, 3) := by decide +kernel
theorem dX4_load_21 : decode cX4_load 21 = .ok (.aload_n 0, 1) := by decide +kernel
theorem dX4_load_22 : decode cX4_load 22 = .ok (.getfield 9, 3) := by decide +kernel
theorem dX4_load_25 : decode cX4_load 25 = .ok (.iload_n 1, 1) := by decide +kernel
theorem dX4_load_26 : decode cX4_load 26 = .ok (.iload 4, 2) := by decide +kernel
theorem dX4_load_28 : decode cX4_load 28 = .ok (.iadd, 1) := by decide +kernel
theorem dX4_load_29 : decode cX4_load 29 = .ok (.sipush 1023, 3) := by decide +kernel
theorem dX4_load_32 : decode cX4_load 32 = .ok (.iand, 1) := by decide +kernel
theorem dX4_load_33 : decode cX4_load 33 = .ok (.lload_n 2, 1) := by decide +kernel
theorem dX4_load_34 : decode cX4_load 34 = .ok (.bipush 48, 2) := by decide +kernel
theorem dX4_load_36 : decode cX4_load 36 = .ok (.bipush 16, 2) := by decide +kernel
theorem dX4_load_38 : decode cX4_load 38 = .ok (.iload 4, 2) := by decide +kernel
theorem dX4_load_40 : decode cX4_load 40 = .ok (.imul, 1) := by decide +kernel
theorem dX4_load_41 : decode cX4_load 41 = .ok (.isub, 1) := by decide +kernel
theorem dX4_load_42 : decode cX4_load 42 = .ok (.lshr, 1) := by decide +kernel
theorem dX4_load_43 : decode cX4_load 43 = .ok (.l2i, 1) := by decide +kernel
theorem dX4_load_44 : decode cX4_load 44 = .ok (.ldc 50, 2) := by decide +kernel
theorem dX4_load_46 : decode cX4_load 46 = .ok (.iand, 1) := by decide +kernel
theorem dX4_load_47 : decode cX4_load 47 = .ok (.iastore, 1) := by decide +kernel
theorem dX4_load_48 : decode cX4_load 48 = .ok (.iinc 4 1, 3) := by decide +kernel
theorem dX4_load_51 : decode cX4_load 51 = .ok (.goto (-36), 3) := by decide +kernel
theorem dX4_load_54 : decode cX4_load 54 = .ok (.iconst 1, 1) := by decide +kernel
theorem dX4_load_55 : decode cX4_load 55 = .ok (.ireturn, 1) := by decide +kernel
set_option maxRecDepth 20000 in
theorem ggX4_word_X4_within : GoodIn wsX4_word wsX4_within := goodIn_r _ [4] (by decide +kernel) (by decide +kernel)
set_option maxRecDepth 20000 in
theorem gX4_word_X4_within : GoodIn wsX4_word (va_wsS RX4 46 yX4_within wsX4_within) := goodIn_app (goodIn_of _ (by decide +kernel)) ggX4_word_X4_within
set_option maxRecDepth 20000 in
theorem ggX4_word_X4_cellAt : GoodIn wsX4_word wsX4_cellAt := goodIn_r _ [8, 9, 10, 11, 12, 13, 14, 15, 16, 17] (by decide +kernel) (by decide +kernel)
set_option maxRecDepth 20000 in
theorem gX4_word_X4_cellAt : GoodIn wsX4_word (wsV RX4 51 RX4 yX4_cellAt wsX4_cellAt) := goodIn_app (goodIn_of _ (by decide +kernel)) ggX4_word_X4_cellAt
theorem dX4_word_0 : decode cX4_word 0 = .ok (.iload_n 1, 1) := by decide +kernel
theorem dX4_word_1 : decode cX4_word 1 = .ok (.sipush 1023, 3) := by decide +kernel
theorem dX4_word_4 : decode cX4_word 4 = .ok (.invokestatic 46, 3) := by decide +kernel
theorem dX4_word_7 : decode cX4_word 7 = .ok (.ifCond .eq 11, 3) := by decide +kernel
theorem dX4_word_10 : decode cX4_word 10 = .ok (.aload_n 0, 1) := by decide +kernel
theorem dX4_word_11 : decode cX4_word 11 = .ok (.iload_n 1, 1) := by decide +kernel
theorem dX4_word_12 : decode cX4_word 12 = .ok (.invokevirtual 51, 3) := by decide +kernel
theorem dX4_word_15 : decode cX4_word 15 = .ok (.goto 4, 3) := by decide +kernel
theorem dX4_word_18 : decode cX4_word 18 = .ok (.iconst (-1), 1) := by decide +kernel
theorem dX4_word_19 : decode cX4_word 19 = .ok (.ireturn, 1) := by decide +kernel
set_option maxRecDepth 20000 in
theorem ggX4_put_X4_within : GoodIn wsX4_put wsX4_within := goodIn_r _ [5] (by decide +kernel) (by decide +kernel)
set_option maxRecDepth 20000 in
theorem gX4_put_X4_within : GoodIn wsX4_put (va_wsS RX4 46 yX4_within wsX4_within) := goodIn_app (goodIn_of _ (by decide +kernel)) ggX4_put_X4_within
set_option maxRecDepth 20000 in
theorem ggX4_put_X0_get : GoodIn wsX4_put wsX0_get := goodIn_r _ [10, 11, 24] (by decide +kernel) (by decide +kernel)
set_option maxRecDepth 20000 in
theorem gX4_put_X0_get : GoodIn wsX4_put (wsV RX4 55 RX0 yX0_get wsX0_get) := goodIn_app (goodIn_of _ (by decide +kernel)) ggX4_put_X0_get
set_option maxRecDepth 20000 in
theorem ggX4_put_X0_set : GoodIn wsX4_put wsX0_set := goodIn_r _ [15, 11, 24] (by decide +kernel) (by decide +kernel)
set_option maxRecDepth 20000 in
theorem gX4_put_X0_set : GoodIn wsX4_put (wsV RX4 58 RX0 yX0_set wsX0_set) := goodIn_app (goodIn_of _ (by decide +kernel)) ggX4_put_X0_set
theorem dX4_put_0 : decode cX4_put 0 = .ok (.iload_n 1, 1) := by decide +kernel
theorem dX4_put_1 : decode cX4_put 1 = .ok (.sipush 1023, 3) := by decide +kernel
theorem dX4_put_4 : decode cX4_put 4 = .ok (.invokestatic 46, 3) := by decide +kernel
theorem dX4_put_7 : decode cX4_put 7 = .ok (.ifCond .eq 13, 3) := by decide +kernel
theorem dX4_put_10 : decode cX4_put 10 = .ok (.iload_n 2, 1) := by decide +kernel
theorem dX4_put_11 : decode cX4_put 11 = .ok (.sipush 255, 3) := by decide +kernel
theorem dX4_put_14 : decode cX4_put 14 = .ok (.invokestatic 46, 3) := by decide +kernel
theorem dX4_put_17 : decode cX4_put 17 = .ok (.ifCond .ne 5, 3) := by decide +kernel
theorem dX4_put_20 : decode cX4_put 20 = .ok (.iconst (-1), 1) := by decide +kernel
theorem dX4_put_21 : decode cX4_put 21 = .ok (.ireturn, 1) := by decide +kernel
theorem dX4_put_22 : decode cX4_put 22 = .ok (.aload_n 0, 1) := by decide +kernel
theorem dX4_put_23 : decode cX4_put 23 = .ok (.getfield 16, 3) := by decide +kernel
theorem dX4_put_26 : decode cX4_put 26 = .ok (.iload_n 1, 1) := by decide +kernel
theorem dX4_put_27 : decode cX4_put 27 = .ok (.invokevirtual 55, 3) := by decide +kernel
theorem dX4_put_30 : decode cX4_put 30 = .ok (.istore_n 3, 1) := by decide +kernel
theorem dX4_put_31 : decode cX4_put 31 = .ok (.aload_n 0, 1) := by decide +kernel
theorem dX4_put_32 : decode cX4_put 32 = .ok (.getfield 16, 3) := by decide +kernel
theorem dX4_put_35 : decode cX4_put 35 = .ok (.iload_n 1, 1) := by decide +kernel
theorem dX4_put_36 : decode cX4_put 36 = .ok (.iload_n 2, 1) := by decide +kernel
theorem dX4_put_37 : decode cX4_put 37 = .ok (.invokevirtual 58, 3) := by decide +kernel
theorem dX4_put_40 : decode cX4_put 40 = .ok (.iload_n 3, 1) := by decide +kernel
theorem dX4_put_41 : decode cX4_put 41 = .ok (.ireturn, 1) := by decide +kernel
set_option maxRecDepth 20000 in
theorem ggX4_data_X4_within : GoodIn wsX4_data wsX4_within := goodIn_r _ [5] (by decide +kernel) (by decide +kernel)
set_option maxRecDepth 20000 in
theorem gX4_data_X4_within : GoodIn wsX4_data (va_wsS RX4 46 yX4_within wsX4_within) := goodIn_app (goodIn_of _ (by decide +kernel)) ggX4_data_X4_within
set_option maxRecDepth 20000 in
theorem ggX4_data_X0_get : GoodIn wsX4_data wsX0_get := goodIn_r _ [10, 11, 20] (by decide +kernel) (by decide +kernel)
set_option maxRecDepth 20000 in
theorem gX4_data_X0_get : GoodIn wsX4_data (wsV RX4 55 RX0 yX0_get wsX0_get) := goodIn_app (goodIn_of _ (by decide +kernel)) ggX4_data_X0_get
theorem dX4_data_0 : decode cX4_data 0 = .ok (.iload_n 1, 1) := by decide +kernel
theorem dX4_data_1 : decode cX4_data 1 = .ok (.sipush 1023, 3) := by decide +kernel
theorem dX4_data_4 : decode cX4_data 4 = .ok (.invokestatic 46, 3) := by decide +kernel
theorem dX4_data_7 : decode cX4_data 7 = .ok (.ifCond .eq 14, 3) := by decide +kernel
theorem dX4_data_10 : decode cX4_data 10 = .ok (.aload_n 0, 1) := by decide +kernel
theorem dX4_data_11 : decode cX4_data 11 = .ok (.getfield 16, 3) := by decide +kernel
theorem dX4_data_14 : decode cX4_data 14 = .ok (.iload_n 1, 1) := by decide +kernel
theorem dX4_data_15 : decode cX4_data 15 = .ok (.invokevirtual 55, 3) := by decide +kernel
theorem dX4_data_18 : decode cX4_data 18 = .ok (.goto 4, 3) := by decide +kernel
theorem dX4_data_21 : decode cX4_data 21 = .ok (.iconst (-1), 1) := by decide +kernel
theorem dX4_data_22 : decode cX4_data 22 = .ok (.ireturn, 1) := by decide +kernel
set_option maxRecDepth 20000 in
theorem ggX4_told_X0_pair : GoodIn wsX4_told wsX0_pair := goodIn_r _ [9, 10, 23] (by decide +kernel) (by decide +kernel)
set_option maxRecDepth 20000 in
theorem gX4_told_X0_pair : GoodIn wsX4_told (wsV RX4 62 RX0 yX0_pair wsX0_pair) := goodIn_app (goodIn_of _ (by decide +kernel)) ggX4_told_X0_pair
set_option maxRecDepth 20000 in
theorem ggX4_told_X0_get : GoodIn wsX4_told wsX0_get := goodIn_r _ [14, 10, 23] (by decide +kernel) (by decide +kernel)
set_option maxRecDepth 20000 in
theorem gX4_told_X0_get : GoodIn wsX4_told (wsV RX4 55 RX0 yX0_get wsX0_get) := goodIn_app (goodIn_of _ (by decide +kernel)) ggX4_told_X0_get
theorem dX4_told_0 : decode cX4_told 0 = .ok (.iload_n 1, 1) := by decide +kernel
theorem dX4_told_1 : decode cX4_told 1 = .ok (.tableswitch 120 0 7 #[47, 52, 62, 72, 82, 92, 102, 115], 47) := by decide +kernel
theorem dX4_told_48 : decode cX4_told 48 = .ok (.aload_n 0, 1) := by decide +kernel
theorem dX4_told_49 : decode cX4_told 49 = .ok (.getfield 32, 3) := by decide +kernel
theorem dX4_told_52 : decode cX4_told 52 = .ok (.ireturn, 1) := by decide +kernel
theorem dX4_told_53 : decode cX4_told 53 = .ok (.aload_n 0, 1) := by decide +kernel
theorem dX4_told_54 : decode cX4_told 54 = .ok (.getfield 16, 3) := by decide +kernel
theorem dX4_told_57 : decode cX4_told 57 = .ok (.bipush 93, 2) := by decide +kernel
theorem dX4_told_59 : decode cX4_told 59 = .ok (.invokevirtual 62, 3) := by decide +kernel
theorem dX4_told_62 : decode cX4_told 62 = .ok (.ireturn, 1) := by decide +kernel
theorem dX4_told_63 : decode cX4_told 63 = .ok (.aload_n 0, 1) := by decide +kernel
theorem dX4_told_64 : decode cX4_told 64 = .ok (.getfield 16, 3) := by decide +kernel
theorem dX4_told_67 : decode cX4_told 67 = .ok (.bipush 95, 2) := by decide +kernel
theorem dX4_told_69 : decode cX4_told 69 = .ok (.invokevirtual 55, 3) := by decide +kernel
theorem dX4_told_72 : decode cX4_told 72 = .ok (.ireturn, 1) := by decide +kernel
theorem dX4_told_73 : decode cX4_told 73 = .ok (.aload_n 0, 1) := by decide +kernel
theorem dX4_told_74 : decode cX4_told 74 = .ok (.getfield 16, 3) := by decide +kernel
theorem dX4_told_77 : decode cX4_told 77 = .ok (.bipush 26, 2) := by decide +kernel
theorem dX4_told_79 : decode cX4_told 79 = .ok (.invokevirtual 62, 3) := by decide +kernel
theorem dX4_told_82 : decode cX4_told 82 = .ok (.ireturn, 1) := by decide +kernel
theorem dX4_told_83 : decode cX4_told 83 = .ok (.aload_n 0, 1) := by decide +kernel
theorem dX4_told_84 : decode cX4_told 84 = .ok (.getfield 16, 3) := by decide +kernel
theorem dX4_told_87 : decode cX4_told 87 = .ok (.bipush 28, 2) := by decide +kernel
theorem dX4_told_89 : decode cX4_told 89 = .ok (.invokevirtual 62, 3) := by decide +kernel
theorem dX4_told_92 : decode cX4_told 92 = .ok (.ireturn, 1) := by decide +kernel
theorem dX4_told_93 : decode cX4_told 93 = .ok (.aload_n 0, 1) := by decide +kernel
theorem dX4_told_94 : decode cX4_told 94 = .ok (.getfield 16, 3) := by decide +kernel
theorem dX4_told_97 : decode cX4_told 97 = .ok (.bipush 30, 2) := by decide +kernel
theorem dX4_told_99 : decode cX4_told 99 = .ok (.invokevirtual 62, 3) := by decide +kernel
theorem dX4_told_102 : decode cX4_told 102 = .ok (.ireturn, 1) := by decide +kernel
theorem dX4_told_103 : decode cX4_told 103 = .ok (.aload_n 0, 1) := by decide +kernel
theorem dX4_told_104 : decode cX4_told 104 = .ok (.getfield 42, 3) := by decide +kernel
theorem dX4_told_107 : decode cX4_told 107 = .ok (.ifCond .eq 7, 3) := by decide +kernel
theorem dX4_told_110 : decode cX4_told 110 = .ok (.iconst 1, 1) := by decide +kernel
theorem dX4_told_111 : decode cX4_told 111 = .ok (.goto 4, 3) := by decide +kernel
theorem dX4_told_114 : decode cX4_told 114 = .ok (.iconst 0, 1) := by decide +kernel
theorem dX4_told_115 : decode cX4_told 115 = .ok (.ireturn, 1) := by decide +kernel
theorem dX4_told_116 : decode cX4_told 116 = .ok (.aload_n 0, 1) := by decide +kernel
theorem dX4_told_117 : decode cX4_told 117 = .ok (.getfield 36, 3) := by decide +kernel
theorem dX4_told_120 : decode cX4_told 120 = .ok (.ireturn, 1) := by decide +kernel
theorem dX4_told_121 : decode cX4_told 121 = .ok (.iconst (-1), 1) := by decide +kernel
theorem dX4_told_122 : decode cX4_told 122 = .ok (.ireturn, 1) := by decide +kernel
set_option maxRecDepth 20000 in
theorem ggX4_go_X4_within : GoodIn wsX4_go wsX4_within := goodIn_r _ [5] (by decide +kernel) (by decide +kernel)
set_option maxRecDepth 20000 in
theorem gX4_go_X4_within : GoodIn wsX4_go (va_wsS RX4 46 yX4_within wsX4_within) := goodIn_app (goodIn_of _ (by decide +kernel)) ggX4_go_X4_within
theorem dX4_go_0 : decode cX4_go 0 = .ok (.iload_n 1, 1) := by decide +kernel
theorem dX4_go_1 : decode cX4_go 1 = .ok (.sipush 1023, 3) := by decide +kernel
theorem dX4_go_4 : decode cX4_go 4 = .ok (.invokestatic 46, 3) := by decide +kernel
theorem dX4_go_7 : decode cX4_go 7 = .ok (.ifCond .ne 5, 3) := by decide +kernel
theorem dX4_go_10 : decode cX4_go 10 = .ok (.iconst (-1), 1) := by decide +kernel
theorem dX4_go_11 : decode cX4_go 11 = .ok (.ireturn, 1) := by decide +kernel
theorem dX4_go_12 : decode cX4_go 12 = .ok (.aload_n 0, 1) := by decide +kernel
theorem dX4_go_13 : decode cX4_go 13 = .ok (.getfield 32, 3) := by decide +kernel
theorem dX4_go_16 : decode cX4_go 16 = .ok (.istore_n 2, 1) := by decide +kernel
theorem dX4_go_17 : decode cX4_go 17 = .ok (.aload_n 0, 1) := by decide +kernel
theorem dX4_go_18 : decode cX4_go 18 = .ok (.iload_n 1, 1) := by decide +kernel
theorem dX4_go_19 : decode cX4_go 19 = .ok (.putfield 32, 3) := by decide +kernel
theorem dX4_go_22 : decode cX4_go 22 = .ok (.iload_n 2, 1) := by decide +kernel
theorem dX4_go_23 : decode cX4_go 23 = .ok (.ireturn, 1) := by decide +kernel
theorem dX4_ask_0 : decode cX4_ask 0 = .ok (.iload_n 1, 1) := by decide +kernel
theorem dX4_ask_1 : decode cX4_ask 1 = .ok (.iconst 1, 1) := by decide +kernel
theorem dX4_ask_2 : decode cX4_ask 2 = .ok (.if_icmp .lt 9, 3) := by decide +kernel
theorem dX4_ask_5 : decode cX4_ask 5 = .ok (.iload_n 1, 1) := by decide +kernel
theorem dX4_ask_6 : decode cX4_ask 6 = .ok (.bipush 25, 2) := by decide +kernel
theorem dX4_ask_8 : decode cX4_ask 8 = .ok (.if_icmp .le 5, 3) := by decide +kernel
theorem dX4_ask_11 : decode cX4_ask 11 = .ok (.iconst (-1), 1) := by decide +kernel
theorem dX4_ask_12 : decode cX4_ask 12 = .ok (.ireturn, 1) := by decide +kernel
theorem dX4_ask_13 : decode cX4_ask 13 = .ok (.iconst 1, 1) := by decide +kernel
theorem dX4_ask_14 : decode cX4_ask 14 = .ok (.iload_n 1, 1) := by decide +kernel
theorem dX4_ask_15 : decode cX4_ask 15 = .ok (.ishl, 1) := by decide +kernel
theorem dX4_ask_16 : decode cX4_ask 16 = .ok (.istore_n 2, 1) := by decide +kernel
theorem dX4_ask_17 : decode cX4_ask 17 = .ok (.aload_n 0, 1) := by decide +kernel
theorem dX4_ask_18 : decode cX4_ask 18 = .ok (.getfield 36, 3) := by decide +kernel
theorem dX4_ask_21 : decode cX4_ask 21 = .ok (.iload_n 2, 1) := by decide +kernel
theorem dX4_ask_22 : decode cX4_ask 22 = .ok (.iand, 1) := by decide +kernel
theorem dX4_ask_23 : decode cX4_ask 23 = .ok (.ifCond .eq 5, 3) := by decide +kernel
theorem dX4_ask_26 : decode cX4_ask 26 = .ok (.iconst 0, 1) := by decide +kernel
theorem dX4_ask_27 : decode cX4_ask 27 = .ok (.ireturn, 1) := by decide +kernel
theorem dX4_ask_28 : decode cX4_ask 28 = .ok (.aload_n 0, 1) := by decide +kernel
theorem dX4_ask_29 : decode cX4_ask 29 = .ok (.dup, 1) := by decide +kernel
theorem dX4_ask_30 : decode cX4_ask 30 = .ok (.getfield 36, 3) := by decide +kernel
theorem dX4_ask_33 : decode cX4_ask 33 = .ok (.iload_n 2, 1) := by decide +kernel
theorem dX4_ask_34 : decode cX4_ask 34 = .ok (.ior, 1) := by decide +kernel
theorem dX4_ask_35 : decode cX4_ask 35 = .ok (.putfield 36, 3) := by decide +kernel
theorem dX4_ask_38 : decode cX4_ask 38 = .ok (.iconst 1, 1) := by decide +kernel
theorem dX4_ask_39 : decode cX4_ask 39 = .ok (.ireturn, 1) := by decide +kernel
theorem ggX4_step_X4_advance_h : GoodIn wsX4_step [Cond.code yX4_advance cX4_advance 2 (some .int)] := goodIn_r _ [5] (by decide +kernel) (by decide +kernel)
set_option maxRecDepth 20000 in
theorem ggX4_step_X4_advance_1 : GoodIn wsX4_step wsX4_advance_r1 := goodIn_r _ [6, 7, 8, 9, 10, 11, 12, 13, 14, 15, 16, 17, 18, 19, 20, 21, 22, 4, 23, 24, 25, 26, 27, 28] (by decide +kernel) (by decide +kernel)
set_option maxRecDepth 20000 in
theorem ggX4_step_X4_advance_2 : GoodIn wsX4_step wsX4_advance_r2 := goodIn_r _ [29, 30, 31, 32, 33, 34, 35, 36, 37, 38, 39, 40, 41, 42, 43, 44, 45, 46, 47, 48, 49, 50, 51, 52] (by decide +kernel) (by decide +kernel)
set_option maxRecDepth 20000 in
theorem ggX4_step_X4_advance_3 : GoodIn wsX4_step wsX4_advance_r3 := goodIn_r _ [53, 54, 55, 56, 57, 58, 59, 60, 61, 62, 63, 64, 65, 66, 67, 68, 69, 70, 71, 72, 73, 74, 75, 76] (by decide +kernel) (by decide +kernel)
set_option maxRecDepth 20000 in
theorem ggX4_step_X4_advance_4 : GoodIn wsX4_step wsX4_advance_r4 := goodIn_r _ [77, 78, 79, 80, 81, 82, 83, 84, 85, 86, 87, 88, 89, 90, 91, 92, 93, 94, 95, 96, 97, 98, 99, 100] (by decide +kernel) (by decide +kernel)
set_option maxRecDepth 20000 in
theorem ggX4_step_X4_advance_5 : GoodIn wsX4_step wsX4_advance_r5 := goodIn_r _ [101, 102, 103, 104, 105, 106, 107, 108, 109, 110, 111, 112, 113, 114, 115, 116, 117, 118, 119, 120, 121, 122, 123, 124] (by decide +kernel) (by decide +kernel)
set_option maxRecDepth 20000 in
theorem ggX4_step_X4_advance_6 : GoodIn wsX4_step wsX4_advance_r6 := goodIn_r _ [125, 126, 127, 128, 129, 130, 131, 132, 133, 134, 135, 136, 137, 138, 139, 140, 141, 142, 143, 144, 145, 146, 147, 148] (by decide +kernel) (by decide +kernel)
set_option maxRecDepth 20000 in
theorem ggX4_step_X4_advance_7 : GoodIn wsX4_step wsX4_advance_r7 := goodIn_r _ [149, 150, 151, 152, 153, 154, 155, 156, 157, 158, 159, 160, 161, 162, 163, 164, 165, 166, 167, 168, 169, 170, 171, 172] (by decide +kernel) (by decide +kernel)
set_option maxRecDepth 20000 in
theorem ggX4_step_X4_advance_8 : GoodIn wsX4_step wsX4_advance_r8 := goodIn_r _ [173, 174, 175, 176, 177, 178, 179, 180, 181, 182, 183, 184, 185, 186, 187, 188, 189, 190, 191, 192, 193, 194, 195, 196] (by decide +kernel) (by decide +kernel)
set_option maxRecDepth 20000 in
theorem ggX4_step_X4_advance_9 : GoodIn wsX4_step wsX4_advance_r9 := goodIn_r _ [197, 198, 199, 200, 201, 202, 203, 204, 205, 206, 207, 208, 209, 210, 211, 212, 213, 214, 215, 216, 217, 218, 219, 220] (by decide +kernel) (by decide +kernel)
set_option maxRecDepth 20000 in
theorem ggX4_step_X4_advance_10 : GoodIn wsX4_step wsX4_advance_r10 := goodIn_r _ [221, 222, 223, 224, 225, 226, 227, 228, 229, 230, 231, 232, 233, 234, 235, 236, 237, 238, 239, 240, 241, 242, 243, 244] (by decide +kernel) (by decide +kernel)
set_option maxRecDepth 20000 in
theorem ggX4_step_X4_advance_11 : GoodIn wsX4_step wsX4_advance_r11 := goodIn_r _ [245, 246, 247, 248, 249, 250, 251, 252, 253, 254, 255, 256, 257, 258, 259, 260, 261, 262, 263, 264, 265, 266, 267, 268] (by decide +kernel) (by decide +kernel)
set_option maxRecDepth 20000 in
theorem ggX4_step_X4_advance_12 : GoodIn wsX4_step wsX4_advance_r12 := goodIn_r _ [269, 270, 271, 272, 273, 274, 275, 276, 277, 278, 279, 280, 281, 282, 283, 284, 285, 286, 287, 288, 289, 290, 291, 292] (by decide +kernel) (by decide +kernel)
set_option maxRecDepth 20000 in
theorem ggX4_step_X4_advance_13 : GoodIn wsX4_step wsX4_advance_r13 := goodIn_r _ [293, 294, 295, 296, 297, 298, 299, 300, 301, 302, 303, 304, 305, 306, 307, 308, 309, 310, 311, 312, 313, 314, 315, 316] (by decide +kernel) (by decide +kernel)
set_option maxRecDepth 20000 in
theorem ggX4_step_X4_advance_14 : GoodIn wsX4_step wsX4_advance_r14 := goodIn_r _ [317] (by decide +kernel) (by decide +kernel)
set_option maxRecDepth 20000 in
theorem ggX4_step_X4_advance_15 : GoodIn wsX4_step wsX40 := goodIn_r _ [318, 319, 320, 321, 322, 323, 324, 325] (by decide +kernel) (by decide +kernel)
set_option maxRecDepth 20000 in
theorem ggX4_step_X4_advance_16 : GoodIn wsX4_step wsX00 := goodIn_r _ [326] (by decide +kernel) (by decide +kernel)
set_option maxRecDepth 20000 in
theorem ggX4_step_X4_advance_17 : GoodIn wsX4_step wsX20 := goodIn_r _ [327] (by decide +kernel) (by decide +kernel)
theorem ggX4_step_X4_advance : GoodIn wsX4_step wsX4_advance := goodIn_app (a := [Cond.code yX4_advance cX4_advance 2 (some .int)]) ggX4_step_X4_advance_h (goodIn_app (goodIn_app (goodIn_app (goodIn_app ggX4_step_X4_advance_1 (goodIn_app ggX4_step_X4_advance_2 (goodIn_app ggX4_step_X4_advance_3 (goodIn_app ggX4_step_X4_advance_4 (goodIn_app ggX4_step_X4_advance_5 (goodIn_app ggX4_step_X4_advance_6 (goodIn_app ggX4_step_X4_advance_7 (goodIn_app ggX4_step_X4_advance_8 (goodIn_app ggX4_step_X4_advance_9 (goodIn_app ggX4_step_X4_advance_10 (goodIn_app ggX4_step_X4_advance_11 (goodIn_app ggX4_step_X4_advance_12 (goodIn_app ggX4_step_X4_advance_13 ggX4_step_X4_advance_14))))))))))))) ggX4_step_X4_advance_15) ggX4_step_X4_advance_16) ggX4_step_X4_advance_17)
set_option maxRecDepth 20000 in
theorem gX4_step_X4_advance : GoodIn wsX4_step (wsV RX4 65 RX4 yX4_advance wsX4_advance) := goodIn_app (goodIn_of _ (by decide +kernel)) ggX4_step_X4_advance
theorem dX4_step_0 : decode cX4_step 0 = .ok (.aload_n 0, 1) := by decide +kernel
theorem dX4_step_1 : decode cX4_step 1 = .ok (.invokevirtual 65, 3) := by decide +kernel
theorem dX4_step_4 : decode cX4_step 4 = .ok (.ireturn, 1) := by decide +kernel
theorem ggX4_run_X4_advance_h : GoodIn wsX4_run [Cond.code yX4_advance cX4_advance 2 (some .int)] := goodIn_r _ [5] (by decide +kernel) (by decide +kernel)
set_option maxRecDepth 20000 in
theorem ggX4_run_X4_advance_1 : GoodIn wsX4_run wsX4_advance_r1 := goodIn_r _ [6, 7, 8, 9, 10, 11, 12, 13, 14, 15, 16, 17, 18, 19, 20, 21, 22, 4, 23, 24, 25, 26, 27, 28] (by decide +kernel) (by decide +kernel)
set_option maxRecDepth 20000 in
theorem ggX4_run_X4_advance_2 : GoodIn wsX4_run wsX4_advance_r2 := goodIn_r _ [29, 30, 31, 32, 33, 34, 35, 36, 37, 38, 39, 40, 41, 42, 43, 44, 45, 46, 47, 48, 49, 50, 51, 52] (by decide +kernel) (by decide +kernel)
set_option maxRecDepth 20000 in
theorem ggX4_run_X4_advance_3 : GoodIn wsX4_run wsX4_advance_r3 := goodIn_r _ [53, 54, 55, 56, 57, 58, 59, 60, 61, 62, 63, 64, 65, 66, 67, 68, 69, 70, 71, 72, 73, 74, 75, 76] (by decide +kernel) (by decide +kernel)
set_option maxRecDepth 20000 in
theorem ggX4_run_X4_advance_4 : GoodIn wsX4_run wsX4_advance_r4 := goodIn_r _ [77, 78, 79, 80, 81, 82, 83, 84, 85, 86, 87, 88, 89, 90, 91, 92, 93, 94, 95, 96, 97, 98, 99, 100] (by decide +kernel) (by decide +kernel)
set_option maxRecDepth 20000 in
theorem ggX4_run_X4_advance_5 : GoodIn wsX4_run wsX4_advance_r5 := goodIn_r _ [101, 102, 103, 104, 105, 106, 107, 108, 109, 110, 111, 112, 113, 114, 115, 116, 117, 118, 119, 120, 121, 122, 123, 124] (by decide +kernel) (by decide +kernel)
set_option maxRecDepth 20000 in
theorem ggX4_run_X4_advance_6 : GoodIn wsX4_run wsX4_advance_r6 := goodIn_r _ [125, 126, 127, 128, 129, 130, 131, 132, 133, 134, 135, 136, 137, 138, 139, 140, 141, 142, 143, 144, 145, 146, 147, 148] (by decide +kernel) (by decide +kernel)
set_option maxRecDepth 20000 in
theorem ggX4_run_X4_advance_7 : GoodIn wsX4_run wsX4_advance_r7 := goodIn_r _ [149, 150, 151, 152, 153, 154, 155, 156, 157, 158, 159, 160, 161, 162, 163, 164, 165, 166, 167, 168, 169, 170, 171, 172] (by decide +kernel) (by decide +kernel)
set_option maxRecDepth 20000 in
theorem ggX4_run_X4_advance_8 : GoodIn wsX4_run wsX4_advance_r8 := goodIn_r _ [173, 174, 175, 176, 177, 178, 179, 180, 181, 182, 183, 184, 185, 186, 187, 188, 189, 190, 191, 192, 193, 194, 195, 196] (by decide +kernel) (by decide +kernel)
set_option maxRecDepth 20000 in
theorem ggX4_run_X4_advance_9 : GoodIn wsX4_run wsX4_advance_r9 := goodIn_r _ [197, 198, 199, 200, 201, 202, 203, 204, 205, 206, 207, 208, 209, 210, 211, 212, 213, 214, 215, 216, 217, 218, 219, 220] (by decide +kernel) (by decide +kernel)
set_option maxRecDepth 20000 in
theorem ggX4_run_X4_advance_10 : GoodIn wsX4_run wsX4_advance_r10 := goodIn_r _ [221, 222, 223, 224, 225, 226, 227, 228, 229, 230, 231, 232, 233, 234, 235, 236, 237, 238, 239, 240, 241, 242, 243, 244] (by decide +kernel) (by decide +kernel)
set_option maxRecDepth 20000 in
theorem ggX4_run_X4_advance_11 : GoodIn wsX4_run wsX4_advance_r11 := goodIn_r _ [245, 246, 247, 248, 249, 250, 251, 252, 253, 254, 255, 256, 257, 258, 259, 260, 261, 262, 263, 264, 265, 266, 267, 268] (by decide +kernel) (by decide +kernel)
set_option maxRecDepth 20000 in
theorem ggX4_run_X4_advance_12 : GoodIn wsX4_run wsX4_advance_r12 := goodIn_r _ [269, 270, 271, 272, 273, 274, 275, 276, 277, 278, 279, 280, 281, 282, 283, 284, 285, 286, 287, 288, 289, 290, 291, 292] (by decide +kernel) (by decide +kernel)
set_option maxRecDepth 20000 in
theorem ggX4_run_X4_advance_13 : GoodIn wsX4_run wsX4_advance_r13 := goodIn_r _ [293, 294, 295, 296, 297, 298, 299, 300, 301, 302, 303, 304, 305, 306, 307, 308, 309, 310, 311, 312, 313, 314, 315, 316] (by decide +kernel) (by decide +kernel)
set_option maxRecDepth 20000 in
theorem ggX4_run_X4_advance_14 : GoodIn wsX4_run wsX4_advance_r14 := goodIn_r _ [317] (by decide +kernel) (by decide +kernel)
set_option maxRecDepth 20000 in
theorem ggX4_run_X4_advance_15 : GoodIn wsX4_run wsX40 := goodIn_r _ [318, 319, 320, 321, 322, 323, 324, 325] (by decide +kernel) (by decide +kernel)
set_option maxRecDepth 20000 in
theorem ggX4_run_X4_advance_16 : GoodIn wsX4_run wsX00 := goodIn_r _ [326] (by decide +kernel) (by decide +kernel)
set_option maxRecDepth 20000 in
theorem ggX4_run_X4_advance_17 : GoodIn wsX4_run wsX20 := goodIn_r _ [327] (by decide +kernel) (by decide +kernel)
theorem ggX4_run_X4_advance : GoodIn wsX4_run wsX4_advance := goodIn_app (a := [Cond.code yX4_advance cX4_advance 2 (some .int)]) ggX4_run_X4_advance_h (goodIn_app (goodIn_app (goodIn_app (goodIn_app ggX4_run_X4_advance_1 (goodIn_app ggX4_run_X4_advance_2 (goodIn_app ggX4_run_X4_advance_3 (goodIn_app ggX4_run_X4_advance_4 (goodIn_app ggX4_run_X4_advance_5 (goodIn_app ggX4_run_X4_advance_6 (goodIn_app ggX4_run_X4_advance_7 (goodIn_app ggX4_run_X4_advance_8 (goodIn_app ggX4_run_X4_advance_9 (goodIn_app ggX4_run_X4_advance_10 (goodIn_app ggX4_run_X4_advance_11 (goodIn_app ggX4_run_X4_advance_12 (goodIn_app ggX4_run_X4_advance_13 ggX4_run_X4_advance_14))))))))))))) ggX4_run_X4_advance_15) ggX4_run_X4_advance_16) ggX4_run_X4_advance_17)
set_option maxRecDepth 20000 in
theorem gX4_run_X4_advance : GoodIn wsX4_run (wsV RX4 65 RX4 yX4_advance wsX4_advance) := goodIn_app (goodIn_of _ (by decide +kernel)) ggX4_run_X4_advance
theorem dX4_run_0 : decode cX4_run 0 = .ok (.iload_n 1, 1) := by decide +kernel
theorem dX4_run_1 : decode cX4_run 1 = .ok (.iconst 1, 1) := by decide +kernel
theorem dX4_run_2 : decode cX4_run 2 = .ok (.if_icmp .lt 10, 3) := by decide +kernel
theorem dX4_run_5 : decode cX4_run 5 = .ok (.iload_n 1, 1) := by decide +kernel
theorem dX4_run_6 : decode cX4_run 6 = .ok (.sipush 3000, 3) := by decide +kernel
theorem dX4_run_9 : decode cX4_run 9 = .ok (.if_icmp .le 5, 3) := by decide +kernel
theorem dX4_run_12 : decode cX4_run 12 = .ok (.iconst (-1), 1) := by decide +kernel
theorem dX4_run_13 : decode cX4_run 13 = .ok (.ireturn, 1) := by decide +kernel
theorem dX4_run_14 : decode cX4_run 14 = .ok (.iconst 0, 1) := by decide +kernel
theorem dX4_run_15 : decode cX4_run 15 = .ok (.istore_n 2, 1) := by decide +kernel
theorem dX4_run_16 : decode cX4_run 16 = .ok (.iload_n 2, 1) := by decide +kernel
theorem dX4_run_17 : decode cX4_run 17 = .ok (.iload_n 1, 1) := by decide +kernel
theorem dX4_run_18 : decode cX4_run 18 = .ok (.if_icmp .ge 25, 3) := by decide +kernel
theorem dX4_run_21 : decode cX4_run 21 = .ok (.aload_n 0, 1) := by decide +kernel
theorem dX4_run_22 : decode cX4_run 22 = .ok (.invokevirtual 65, 3) := by decide +kernel
theorem dX4_run_25 : decode cX4_run 25 = .ok (.istore_n 3, 1) := by decide +kernel
theorem dX4_run_26 : decode cX4_run 26 = .ok (.iload_n 3, 1) := by decide +kernel
theorem dX4_run_27 : decode cX4_run 27 = .ok (.ifCond .eq 10, 3) := by decide +kernel
theorem dX4_run_30 : decode cX4_run 30 = .ok (.iload_n 3, 1) := by decide +kernel
theorem dX4_run_31 : decode cX4_run 31 = .ok (.iconst 1, 1) := by decide +kernel
theorem dX4_run_32 : decode cX4_run 32 = .ok (.if_icmp .eq 5, 3) := by decide +kernel
theorem dX4_run_35 : decode cX4_run 35 = .ok (.iload_n 2, 1) := by decide +kernel
theorem dX4_run_36 : decode cX4_run 36 = .ok (.ireturn, 1) := by decide +kernel
theorem dX4_run_37 : decode cX4_run 37 = .ok (.iinc 2 1, 3) := by decide +kernel
theorem dX4_run_40 : decode cX4_run 40 = .ok (.goto (-24), 3) := by decide +kernel
theorem dX4_run_43 : decode cX4_run 43 = .ok (.iload_n 1, 1) := by decide +kernel
theorem dX4_run_44 : decode cX4_run 44 = .ok (.ireturn, 1) := by decide +kernel
theorem dX4_ended_0 : decode cX4_ended 0 = .ok (.aload_n 0, 1) := by decide +kernel
theorem dX4_ended_1 : decode cX4_ended 1 = .ok (.getfield 39, 3) := by decide +kernel
theorem dX4_ended_4 : decode cX4_ended 4 = .ok (.ireturn, 1) := by decide +kernel
set_option maxRecDepth 20000 in
theorem ggX4_reads_X4_within : GoodIn wsX4_reads wsX4_within := goodIn_r _ [5] (by decide +kernel) (by decide +kernel)
set_option maxRecDepth 20000 in
theorem gX4_reads_X4_within : GoodIn wsX4_reads (va_wsS RX4 46 yX4_within wsX4_within) := goodIn_app (goodIn_of _ (by decide +kernel)) ggX4_reads_X4_within
set_option maxRecDepth 20000 in
theorem ggX4_reads_X3_groupOf : GoodIn wsX4_reads wsX3_groupOf := goodIn_r _ [9, 10, 11, 8, 12, 13, 14, 15, 16, 17, 18, 19, 20, 21, 22, 23, 24, 25, 26, 27, 28, 29, 30, 31, 32, 33, 34, 35, 36] (by decide +kernel) (by decide +kernel)
set_option maxRecDepth 20000 in
theorem gX4_reads_X3_groupOf : GoodIn wsX4_reads (va_wsS RX4 69 yX3_groupOf wsX3_groupOf) := goodIn_app (goodIn_of _ (by decide +kernel)) ggX4_reads_X3_groupOf
set_option maxRecDepth 20000 in
theorem ggX4_reads_X3_hasNext : GoodIn wsX4_reads wsX3_hasNext := goodIn_r _ [39, 40, 41, 42, 43] (by decide +kernel) (by decide +kernel)
set_option maxRecDepth 20000 in
theorem gX4_reads_X3_hasNext : GoodIn wsX4_reads (va_wsS RX4 74 yX3_hasNext wsX3_hasNext) := goodIn_app (goodIn_of _ (by decide +kernel)) ggX4_reads_X3_hasNext
theorem dX4_reads_0 : decode cX4_reads 0 = .ok (.iload_n 1, 1) := by decide +kernel
theorem dX4_reads_1 : decode cX4_reads 1 = .ok (.ldc 50, 2) := by decide +kernel
theorem dX4_reads_3 : decode cX4_reads 3 = .ok (.invokestatic 46, 3) := by decide +kernel
theorem dX4_reads_6 : decode cX4_reads 6 = .ok (.ifCond .ne 5, 3) := by decide +kernel
theorem dX4_reads_9 : decode cX4_reads 9 = .ok (.iconst (-1), 1) := by decide +kernel
theorem dX4_reads_10 : decode cX4_reads 10 = .ok (.ireturn, 1) := by decide +kernel
theorem dX4_reads_11 : decode cX4_reads 11 = .ok (.iload_n 2, 1) := by decide +kernel
theorem dX4_reads_12 : decode cX4_reads 12 = .ok (.lookupswitch 54 #[(0, 28), (1, 41)], 28) := by decide +kernel
theorem dX4_reads_40 : decode cX4_reads 40 = .ok (.iload_n 1, 1) := by decide +kernel
theorem dX4_reads_41 : decode cX4_reads 41 = .ok (.invokestatic 69, 3) := by decide +kernel
theorem dX4_reads_44 : decode cX4_reads 44 = .ok (.ifCond .ne 7, 3) := by decide +kernel
theorem dX4_reads_47 : decode cX4_reads 47 = .ok (.iconst 1, 1) := by decide +kernel
theorem dX4_reads_48 : decode cX4_reads 48 = .ok (.goto 4, 3) := by decide +kernel
theorem dX4_reads_51 : decode cX4_reads 51 = .ok (.iconst 0, 1) := by decide +kernel
theorem dX4_reads_52 : decode cX4_reads 52 = .ok (.ireturn, 1) := by decide +kernel
theorem dX4_reads_53 : decode cX4_reads 53 = .ok (.iload_n 1, 1) := by decide +kernel
theorem dX4_reads_54 : decode cX4_reads 54 = .ok (.invokestatic 74, 3) := by decide +kernel
theorem dX4_reads_57 : decode cX4_reads 57 = .ok (.ifCond .eq 7, 3) := by decide +kernel
theorem dX4_reads_60 : decode cX4_reads 60 = .ok (.iconst 1, 1) := by decide +kernel
theorem dX4_reads_61 : decode cX4_reads 61 = .ok (.goto 4, 3) := by decide +kernel
theorem dX4_reads_64 : decode cX4_reads 64 = .ok (.iconst 0, 1) := by decide +kernel
theorem dX4_reads_65 : decode cX4_reads 65 = .ok (.ireturn, 1) := by decide +kernel
theorem dX4_reads_66 : decode cX4_reads 66 = .ok (.iconst (-1), 1) := by decide +kernel
theorem dX4_reads_67 : decode cX4_reads 67 = .ok (.ireturn, 1) := by decide +kernel
set_option maxRecDepth 20000 in
theorem ggX4_digest_X0_get : GoodIn wsX4_digest wsX0_get := goodIn_r _ [7, 8, 17] (by decide +kernel) (by decide +kernel)
set_option maxRecDepth 20000 in
theorem gX4_digest_X0_get : GoodIn wsX4_digest (wsV RX4 55 RX0 yX0_get wsX0_get) := goodIn_app (goodIn_of _ (by decide +kernel)) ggX4_digest_X0_get
theorem dX4_digest_0 : decode cX4_digest 0 = .ok (.bipush 7, 2) := by decide +kernel
theorem dX4_digest_2 : decode cX4_digest 2 = .ok (.istore_n 1, 1) := by decide +kernel
theorem dX4_digest_3 : decode cX4_digest 3 = .ok (.iconst 0, 1) := by decide +kernel
theorem dX4_digest_4 : decode cX4_digest 4 = .ok (.istore_n 2, 1) := by decide +kernel
theorem dX4_digest_5 : decode cX4_digest 5 = .ok (.iload_n 2, 1) := by decide +kernel
theorem dX4_digest_6 : decode cX4_digest 6 = .ok (.sipush 1023, 3) := by decide +kernel
theorem dX4_digest_9 : decode cX4_digest 9 = .ok (.if_icmp .gt 23, 3) := by decide +kernel
theorem dX4_digest_12 : decode cX4_digest 12 = .ok (.bipush 31, 2) := by decide +kernel
theorem dX4_digest_14 : decode cX4_digest 14 = .ok (.iload_n 1, 1) := by decide +kernel
theorem dX4_digest_15 : decode cX4_digest 15 = .ok (.imul, 1) := by decide +kernel
theorem dX4_digest_16 : decode cX4_digest 16 = .ok (.aload_n 0, 1) := by decide +kernel
theorem dX4_digest_17 : decode cX4_digest 17 = .ok (.getfield 16, 3) := by decide +kernel
theorem dX4_digest_20 : decode cX4_digest 20 = .ok (.iload_n 2, 1) := by decide +kernel
theorem dX4_digest_21 : decode cX4_digest 21 = .ok (.invokevirtual 55, 3) := by decide +kernel
theorem dX4_digest_24 : decode cX4_digest 24 = .ok (.iadd, 1) := by decide +kernel
theorem dX4_digest_25 : decode cX4_digest 25 = .ok (.istore_n 1, 1) := by decide +kernel
theorem dX4_digest_26 : decode cX4_digest 26 = .ok (.iinc 2 1, 3) := by decide +kernel
theorem dX4_digest_29 : decode cX4_digest 29 = .ok (.goto (-24), 3) := by decide +kernel
theorem dX4_digest_32 : decode cX4_digest 32 = .ok (.bipush 31, 2) := by decide +kernel
theorem dX4_digest_34 : decode cX4_digest 34 = .ok (.iload_n 1, 1) := by decide +kernel
theorem dX4_digest_35 : decode cX4_digest 35 = .ok (.imul, 1) := by decide +kernel
theorem dX4_digest_36 : decode cX4_digest 36 = .ok (.aload_n 0, 1) := by decide +kernel
theorem dX4_digest_37 : decode cX4_digest 37 = .ok (.getfield 32, 3) := by decide +kernel
theorem dX4_digest_40 : decode cX4_digest 40 = .ok (.iadd, 1) := by decide +kernel
theorem dX4_digest_41 : decode cX4_digest 41 = .ok (.ireturn, 1) := by decide +kernel
theorem dX4_count_0 : decode cX4_count 0 = .ok (.iload_n 1, 1) := by decide +kernel
theorem dX4_count_1 : decode cX4_count 1 = .ok (.ifCond .lt 18, 3) := by decide +kernel
theorem dX4_count_4 : decode cX4_count 4 = .ok (.iload_n 1, 1) := by decide +kernel
theorem dX4_count_5 : decode cX4_count 5 = .ok (.bipush 7, 2) := by decide +kernel
theorem dX4_count_7 : decode cX4_count 7 = .ok (.if_icmp .ge 12, 3) := by decide +kernel
theorem dX4_count_10 : decode cX4_count 10 = .ok (.aload_n 0, 1) := by decide +kernel
theorem dX4_count_11 : decode cX4_count 11 = .ok (.getfield 29, 3) := by decide +kernel
theorem dX4_count_14 : decode cX4_count 14 = .ok (.iload_n 1, 1) := by decide +kernel
theorem dX4_count_15 : decode cX4_count 15 = .ok (.iaload, 1) := by decide +kernel
theorem dX4_count_16 : decode cX4_count 16 = .ok (.goto 4, 3) := by decide +kernel
theorem dX4_count_19 : decode cX4_count 19 = .ok (.iconst (-1), 1) := by decide +kernel
theorem dX4_count_20 : decode cX4_count 20 = .ok (.ireturn, 1) := by decide +kernel
theorem dX4_within_0 : decode cX4_within 0 = .ok (.iload_n 0, 1) := by decide +kernel
theorem dX4_within_1 : decode cX4_within 1 = .ok (.ifCond .lt 12, 3) := by decide +kernel
theorem dX4_within_4 : decode cX4_within 4 = .ok (.iload_n 0, 1) := by decide +kernel
theorem dX4_within_5 : decode cX4_within 5 = .ok (.iload_n 1, 1) := by decide +kernel
theorem dX4_within_6 : decode cX4_within 6 = .ok (.if_icmp .gt 7, 3) := by decide +kernel
theorem dX4_within_9 : decode cX4_within 9 = .ok (.iconst 1, 1) := by decide +kernel
theorem dX4_within_10 : decode cX4_within 10 = .ok (.goto 4, 3) := by decide +kernel
theorem dX4_within_13 : decode cX4_within 13 = .ok (.iconst 0, 1) := by decide +kernel
theorem dX4_within_14 : decode cX4_within 14 = .ok (.ireturn, 1) := by decide +kernel
theorem dX4_cellAt_0 : decode cX4_cellAt 0 = .ok (.aload_n 0, 1) := by decide +kernel
theorem dX4_cellAt_1 : decode cX4_cellAt 1 = .ok (.getfield 9, 3) := by decide +kernel
theorem dX4_cellAt_4 : decode cX4_cellAt 4 = .ok (.iload_n 1, 1) := by decide +kernel
theorem dX4_cellAt_5 : decode cX4_cellAt 5 = .ok (.sipush 1023, 3) := by decide +kernel
theorem dX4_cellAt_8 : decode cX4_cellAt 8 = .ok (.iand, 1) := by decide +kernel
theorem dX4_cellAt_9 : decode cX4_cellAt 9 = .ok (.iaload, 1) := by decide +kernel
theorem dX4_cellAt_10 : decode cX4_cellAt 10 = .ok (.ireturn, 1) := by decide +kernel
set_option maxRecDepth 20000 in
theorem ggX4_advance_X0_flag : GoodIn wsX4_advance wsX0_flag := goodIn_r _ [13, 14, 322] (by decide +kernel) (by decide +kernel)
set_option maxRecDepth 20000 in
theorem gX4_advance_X0_flag : GoodIn wsX4_advance (wsV RX4 80 RX0 yX0_flag wsX0_flag) := goodIn_app (goodIn_of _ (by decide +kernel)) ggX4_advance_X0_flag
set_option maxRecDepth 20000 in
theorem ggX4_advance_X4_enterLeast : GoodIn wsX4_advance wsX4_enterLeast := goodIn_r _ [19, 3, 5, 1, 20, 21, 22, 12, 23, 24, 25, 26, 27, 14, 28, 29, 30, 31, 32, 33, 34, 35, 36, 37, 38, 39, 40, 41, 42, 43, 44, 45, 46, 47, 48, 49, 50, 51, 52, 314, 315, 316, 317, 318, 319, 320, 321, 322] (by decide +kernel) (by decide +kernel)
set_option maxRecDepth 20000 in
theorem gX4_advance_X4_enterLeast : GoodIn wsX4_advance (wsV RX4 83 RX4 yX4_enterLeast wsX4_enterLeast) := goodIn_app (goodIn_of _ (by decide +kernel)) ggX4_advance_X4_enterLeast
set_option maxRecDepth 20000 in
theorem ggX4_advance_X4_cellAt : GoodIn wsX4_advance wsX4_cellAt := goodIn_r _ [56, 57, 314, 315, 316, 317, 318, 319, 320, 321] (by decide +kernel) (by decide +kernel)
set_option maxRecDepth 20000 in
theorem gX4_advance_X4_cellAt : GoodIn wsX4_advance (wsV RX4 51 RX4 yX4_cellAt wsX4_cellAt) := goodIn_app (goodIn_of _ (by decide +kernel)) ggX4_advance_X4_cellAt
theorem ggX4_advance_X4_perform_h : GoodIn wsX4_advance [Cond.code yX4_perform cX4_perform 2 (some .int)] := goodIn_r _ [61] (by decide +kernel) (by decide +kernel)
set_option maxRecDepth 20000 in
theorem ggX4_advance_X4_perform_1 : GoodIn wsX4_advance wsX4_perform_r1 := goodIn_r _ [62, 63, 64, 65, 66, 67, 68, 69, 70, 71, 72, 73, 74, 75, 76, 77, 78, 79, 80, 81, 82, 83, 84, 85] (by decide +kernel) (by decide +kernel)
set_option maxRecDepth 20000 in
theorem ggX4_advance_X4_perform_2 : GoodIn wsX4_advance wsX4_perform_r2 := goodIn_r _ [86, 87, 88, 89, 90, 91, 92, 93, 94, 95, 18, 96, 5, 97, 98, 99, 100, 3, 101, 25, 26, 12, 27, 14] (by decide +kernel) (by decide +kernel)
set_option maxRecDepth 20000 in
theorem ggX4_advance_X4_perform_3 : GoodIn wsX4_advance wsX4_perform_r3 := goodIn_r _ [102, 33, 34, 35, 103, 104, 105, 106, 107, 108, 109, 50, 51, 52, 110, 111, 112, 113, 114, 115, 116, 117, 118, 119] (by decide +kernel) (by decide +kernel)
set_option maxRecDepth 20000 in
theorem ggX4_advance_X4_perform_4 : GoodIn wsX4_advance wsX4_perform_r4 := goodIn_r _ [120, 121, 122, 123, 124, 125, 126, 127, 128, 129, 130, 131, 132, 133, 134, 135, 136, 137, 138, 139, 140, 141, 142, 143] (by decide +kernel) (by decide +kernel)
set_option maxRecDepth 20000 in
theorem ggX4_advance_X4_perform_5 : GoodIn wsX4_advance wsX4_perform_r5 := goodIn_r _ [144, 145, 9, 10, 11, 13, 146, 147, 148, 149, 150, 151, 152, 153, 154, 155, 156, 157, 158, 29, 30, 31, 159, 160] (by decide +kernel) (by decide +kernel)
set_option maxRecDepth 20000 in
theorem ggX4_advance_X4_perform_6 : GoodIn wsX4_advance wsX4_perform_r6 := goodIn_r _ [161, 162, 163, 164, 165, 166, 8, 53, 54, 55, 56, 57, 167, 168, 169, 170, 171, 172, 173, 174, 175, 176, 177, 178] (by decide +kernel) (by decide +kernel)
set_option maxRecDepth 20000 in
theorem ggX4_advance_X4_perform_7 : GoodIn wsX4_advance wsX4_perform_r7 := goodIn_r _ [179, 180, 181, 182, 183, 184, 185, 186, 187, 188, 189, 190, 191, 192, 193, 194, 195, 196, 197, 198, 199, 200, 201, 202] (by decide +kernel) (by decide +kernel)
set_option maxRecDepth 20000 in
theorem ggX4_advance_X4_perform_8 : GoodIn wsX4_advance wsX4_perform_r8 := goodIn_r _ [203, 204, 205, 206, 207, 208, 209, 41, 42, 43, 44, 45, 46, 47, 48, 49, 28, 210, 211, 212, 213, 214, 215, 216] (by decide +kernel) (by decide +kernel)
set_option maxRecDepth 20000 in
theorem ggX4_advance_X4_perform_9 : GoodIn wsX4_advance wsX4_perform_r9 := goodIn_r _ [217, 218, 219, 220, 221, 222, 223, 224, 225, 226, 227, 228, 229, 230, 231, 232, 233, 234, 235, 236, 237, 238, 239, 240] (by decide +kernel) (by decide +kernel)
set_option maxRecDepth 20000 in
theorem ggX4_advance_X4_perform_10 : GoodIn wsX4_advance wsX4_perform_r10 := goodIn_r _ [241, 242, 243, 244, 245, 246, 247, 24, 32, 248, 249, 250, 251, 252, 253, 254, 255, 256, 257, 258, 259, 260, 261, 262] (by decide +kernel) (by decide +kernel)
set_option maxRecDepth 20000 in
theorem ggX4_advance_X4_perform_11 : GoodIn wsX4_advance wsX4_perform_r11 := goodIn_r _ [263, 264, 265, 266, 267, 268, 269, 270, 271, 272, 273, 274, 275, 276, 277, 278, 279, 280, 281, 282, 283, 284, 285, 286] (by decide +kernel) (by decide +kernel)
set_option maxRecDepth 20000 in
theorem ggX4_advance_X4_perform_12 : GoodIn wsX4_advance wsX4_perform_r12 := goodIn_r _ [287, 288, 289, 290, 291, 292, 293, 294, 295, 296, 297, 20, 21, 22, 23, 298, 299, 300, 301, 302, 303, 304, 305, 306] (by decide +kernel) (by decide +kernel)
set_option maxRecDepth 20000 in
theorem ggX4_advance_X4_perform_13 : GoodIn wsX4_advance wsX4_perform_r13 := goodIn_r _ [307, 308, 309, 310, 311, 312, 313, 7] (by decide +kernel) (by decide +kernel)
set_option maxRecDepth 20000 in
theorem ggX4_advance_X4_perform_14 : GoodIn wsX4_advance wsX40 := goodIn_r _ [314, 315, 316, 317, 318, 319, 320, 321] (by decide +kernel) (by decide +kernel)
set_option maxRecDepth 20000 in
theorem ggX4_advance_X4_perform_15 : GoodIn wsX4_advance wsX00 := goodIn_r _ [322] (by decide +kernel) (by decide +kernel)
set_option maxRecDepth 20000 in
theorem ggX4_advance_X4_perform_16 : GoodIn wsX4_advance wsX20 := goodIn_r _ [323] (by decide +kernel) (by decide +kernel)
theorem ggX4_advance_X4_perform : GoodIn wsX4_advance wsX4_perform := goodIn_app (a := [Cond.code yX4_perform cX4_perform 2 (some .int)]) ggX4_advance_X4_perform_h (goodIn_app (goodIn_app (goodIn_app (goodIn_app ggX4_advance_X4_perform_1 (goodIn_app ggX4_advance_X4_perform_2 (goodIn_app ggX4_advance_X4_perform_3 (goodIn_app ggX4_advance_X4_perform_4 (goodIn_app ggX4_advance_X4_perform_5 (goodIn_app ggX4_advance_X4_perform_6 (goodIn_app ggX4_advance_X4_perform_7 (goodIn_app ggX4_advance_X4_perform_8 (goodIn_app ggX4_advance_X4_perform_9 (goodIn_app ggX4_advance_X4_perform_10 (goodIn_app ggX4_advance_X4_perform_11 (goodIn_app ggX4_advance_X4_perform_12 ggX4_advance_X4_perform_13)))))))))))) ggX4_advance_X4_perform_14) ggX4_advance_X4_perform_15) ggX4_advance_X4_perform_16)
set_option maxRecDepth 20000 in
theorem gX4_advance_X4_perform : GoodIn wsX4_advance (wsV RX4 86 RX4 yX4_perform wsX4_perform) := goodIn_app (goodIn_of _ (by decide +kernel)) ggX4_advance_X4_perform
theorem dX4_advance_0 : decode cX4_advance 0 = .ok (.aload_n 0, 1) := by decide +kernel
theorem dX4_advance_1 : decode cX4_advance 1 = .ok (.getfield 36, 3) := by decide +kernel
theorem dX4_advance_4 : decode cX4_advance 4 = .ok (.ifCond .eq 34, 3) := by decide +kernel
theorem dX4_advance_7 : decode cX4_advance 7 = .ok (.aload_n 0, 1) := by decide +kernel
theorem dX4_advance_8 : decode cX4_advance 8 = .ok (.getfield 42, 3) := by decide +kernel
theorem dX4_advance_11 : decode cX4_advance 11 = .ok (.ifCond .ne 27, 3) := by decide +kernel
theorem dX4_advance_14 : decode cX4_advance 14 = .ok (.aload_n 0, 1) := by decide +kernel
theorem dX4_advance_15 : decode cX4_advance 15 = .ok (.getfield 16, 3) := by decide +kernel
theorem dX4_advance_18 : decode cX4_advance 18 = .ok (.bipush 7, 2) := by decide +kernel
theorem dX4_advance_20 : decode cX4_advance 20 = .ok (.invokevirtual 80, 3) := by decide +kernel
theorem dX4_advance_23 : decode cX4_advance 23 = .ok (.iconst 1, 1) := by decide +kernel
theorem dX4_advance_24 : decode cX4_advance 24 = .ok (.if_icmp .ne 14, 3) := by decide +kernel
theorem dX4_advance_27 : decode cX4_advance 27 = .ok (.aload_n 0, 1) := by decide +kernel
theorem dX4_advance_28 : decode cX4_advance 28 = .ok (.aload_n 0, 1) := by decide +kernel
theorem dX4_advance_29 : decode cX4_advance 29 = .ok (.invokevirtual 83, 3) := by decide +kernel
theorem dX4_advance_32 : decode cX4_advance 32 = .ok (.putfield 39, 3) := by decide +kernel
theorem dX4_advance_35 : decode cX4_advance 35 = .ok (.goto 49, 3) := by decide +kernel
theorem dX4_advance_38 : decode cX4_advance 38 = .ok (.aload_n 0, 1) := by decide +kernel
theorem dX4_advance_39 : decode cX4_advance 39 = .ok (.aload_n 0, 1) := by decide +kernel
theorem dX4_advance_40 : decode cX4_advance 40 = .ok (.getfield 32, 3) := by decide +kernel
theorem dX4_advance_43 : decode cX4_advance 43 = .ok (.invokevirtual 51, 3) := by decide +kernel
theorem dX4_advance_46 : decode cX4_advance 46 = .ok (.istore_n 1, 1) := by decide +kernel
theorem dX4_advance_47 : decode cX4_advance 47 = .ok (.aload_n 0, 1) := by decide +kernel
theorem dX4_advance_48 : decode cX4_advance 48 = .ok (.aload_n 0, 1) := by decide +kernel
theorem dX4_advance_49 : decode cX4_advance 49 = .ok (.iload_n 1, 1) := by decide +kernel
theorem dX4_advance_50 : decode cX4_advance 50 = .ok (.invokevirtual 86, 3) := by decide +kernel
theorem dX4_advance_53 : decode cX4_advance 53 = .ok (.putfield 39, 3) := by decide +kernel
theorem dX4_advance_56 : decode cX4_advance 56 = .ok (.aload_n 0, 1) := by decide +kernel
theorem dX4_advance_57 : decode cX4_advance 57 = .ok (.getfield 39, 3) := by decide +kernel
theorem dX4_advance_60 : decode cX4_advance 60 = .ok (.ifCond .ne 24, 3) := by decide +kernel
theorem dX4_advance_63 : decode cX4_advance 63 = .ok (.aload_n 0, 1) := by decide +kernel
theorem dX4_advance_64 : decode cX4_advance 64 = .ok (.iload_n 1, 1) := by decide +kernel
theorem dX4_advance_65 : decode cX4_advance 65 = .ok (.ldc 89, 2) := by decide +kernel
theorem dX4_advance_67 : decode cX4_advance 67 = .ok (.if_icmp .eq 9, 3) := by decide +kernel
theorem dX4_advance_70 : decode cX4_advance 70 = .ok (.iload_n 1, 1) := by decide +kernel
theorem dX4_advance_71 : decode cX4_advance 71 = .ok (.ldc 90, 2) := by decide +kernel
theorem dX4_advance_73 : decode cX4_advance 73 = .ok (.if_icmp .ne 7, 3) := by decide +kernel
theorem dX4_advance_76 : decode cX4_advance 76 = .ok (.iconst 1, 1) := by decide +kernel
theorem dX4_advance_77 : decode cX4_advance 77 = .ok (.goto 4, 3) := by decide +kernel
theorem dX4_advance_80 : decode cX4_advance 80 = .ok (.iconst 0, 1) := by decide +kernel
theorem dX4_advance_81 : decode cX4_advance 81 = .ok (.putfield 42, 3) := by decide +kernel
theorem dX4_advance_84 : decode cX4_advance 84 = .ok (.aload_n 0, 1) := by decide +kernel
theorem dX4_advance_85 : decode cX4_advance 85 = .ok (.getfield 29, 3) := by decide +kernel
theorem dX4_advance_88 : decode cX4_advance 88 = .ok (.aload_n 0, 1) := by decide +kernel
theorem dX4_advance_89 : decode cX4_advance 89 = .ok (.getfield 39, 3) := by decide +kernel
theorem dX4_advance_92 : decode cX4_advance 92 = .ok (.iconst 3, 1) := by decide +kernel
theorem dX4_advance_93 : decode cX4_advance 93 = .ok (.iand, 1) := by decide +kernel
theorem dX4_advance_94 : decode cX4_advance 94 = .ok (.dup2, 1) := by decide +kernel
theorem dX4_advance_95 : decode cX4_advance 95 = .ok (.iaload, 1) := by decide +kernel
theorem dX4_advance_96 : decode cX4_advance 96 = .ok (.iconst 1, 1) := by decide +kernel
theorem dX4_advance_97 : decode cX4_advance 97 = .ok (.iadd, 1) := by decide +kernel
theorem dX4_advance_98 : decode cX4_advance 98 = .ok (.iastore, 1) := by decide +kernel
theorem dX4_advance_99 : decode cX4_advance 99 = .ok (.aload_n 0, 1) := by decide +kernel
theorem dX4_advance_100 : decode cX4_advance 100 = .ok (.getfield 39, 3) := by decide +kernel
theorem dX4_advance_103 : decode cX4_advance 103 = .ok (.ireturn, 1) := by decide +kernel
set_option maxRecDepth 20000 in
theorem ggX4_enterLeast_X0_stacks : GoodIn wsX4_enterLeast wsX0_stacks := goodIn_r _ [8, 9, 10, 11, 7, 12, 13, 14, 15, 16, 17, 18, 19, 20, 21, 47] (by decide +kernel) (by decide +kernel)
set_option maxRecDepth 20000 in
theorem gX4_enterLeast_X0_stacks : GoodIn wsX4_enterLeast (wsV RX4 91 RX0 yX0_stacks wsX0_stacks) := goodIn_app (goodIn_of _ (by decide +kernel)) ggX4_enterLeast_X0_stacks
set_option maxRecDepth 20000 in
theorem ggX4_enterLeast_J6_numberOfTrailingZeros_0f7a4 : GoodIn wsX4_enterLeast wsJ6_numberOfTrailingZeros_0f7a4 := goodIn_r _ [25, 26] (by decide +kernel) (by decide +kernel)
set_option maxRecDepth 20000 in
theorem gX4_enterLeast_J6_numberOfTrailingZeros_0f7a4 : GoodIn wsX4_enterLeast (va_wsS RX4 94 yJ6_numberOfTrailingZeros_0f7a4 wsJ6_numberOfTrailingZeros_0f7a4) := goodIn_app (goodIn_of _ (by decide +kernel)) ggX4_enterLeast_J6_numberOfTrailingZeros_0f7a4
set_option maxRecDepth 20000 in
theorem ggX4_enterLeast_X0_setFlag : GoodIn wsX4_enterLeast wsX0_setFlag := goodIn_r _ [30, 31, 32, 33, 7, 34, 35, 36, 37, 38, 13, 14, 15, 16, 17, 47] (by decide +kernel) (by decide +kernel)
set_option maxRecDepth 20000 in
theorem gX4_enterLeast_X0_setFlag : GoodIn wsX4_enterLeast (wsV RX4 99 RX0 yX0_setFlag wsX0_setFlag) := goodIn_app (goodIn_of _ (by decide +kernel)) ggX4_enterLeast_X0_setFlag
theorem dX4_enterLeast_0 : decode cX4_enterLeast 0 = .ok (.aload_n 0, 1) := by decide +kernel
theorem dX4_enterLeast_1 : decode cX4_enterLeast 1 = .ok (.getfield 16, 3) := by decide +kernel
theorem dX4_enterLeast_4 : decode cX4_enterLeast 4 = .ok (.aload_n 0, 1) := by decide +kernel
theorem dX4_enterLeast_5 : decode cX4_enterLeast 5 = .ok (.getfield 32, 3) := by decide +kernel
theorem dX4_enterLeast_8 : decode cX4_enterLeast 8 = .ok (.invokevirtual 91, 3) := by decide +kernel
theorem dX4_enterLeast_11 : decode cX4_enterLeast 11 = .ok (.ifCond .ne 5, 3) := by decide +kernel
theorem dX4_enterLeast_14 : decode cX4_enterLeast 14 = .ok (.iconst 3, 1) := by decide +kernel
theorem dX4_enterLeast_15 : decode cX4_enterLeast 15 = .ok (.ireturn, 1) := by decide +kernel
theorem dX4_enterLeast_16 : decode cX4_enterLeast 16 = .ok (.aload_n 0, 1) := by decide +kernel
theorem dX4_enterLeast_17 : decode cX4_enterLeast 17 = .ok (.iconst 2, 1) := by decide +kernel
theorem dX4_enterLeast_18 : decode cX4_enterLeast 18 = .ok (.aload_n 0, 1) := by decide +kernel
theorem dX4_enterLeast_19 : decode cX4_enterLeast 19 = .ok (.getfield 36, 3) := by decide +kernel
theorem dX4_enterLeast_22 : decode cX4_enterLeast 22 = .ok (.invokestatic 94, 3) := by decide +kernel
theorem dX4_enterLeast_25 : decode cX4_enterLeast 25 = .ok (.imul, 1) := by decide +kernel
theorem dX4_enterLeast_26 : decode cX4_enterLeast 26 = .ok (.sipush 1023, 3) := by decide +kernel
theorem dX4_enterLeast_29 : decode cX4_enterLeast 29 = .ok (.iand, 1) := by decide +kernel
theorem dX4_enterLeast_30 : decode cX4_enterLeast 30 = .ok (.putfield 32, 3) := by decide +kernel
theorem dX4_enterLeast_33 : decode cX4_enterLeast 33 = .ok (.aload_n 0, 1) := by decide +kernel
theorem dX4_enterLeast_34 : decode cX4_enterLeast 34 = .ok (.dup, 1) := by decide +kernel
theorem dX4_enterLeast_35 : decode cX4_enterLeast 35 = .ok (.getfield 36, 3) := by decide +kernel
theorem dX4_enterLeast_38 : decode cX4_enterLeast 38 = .ok (.aload_n 0, 1) := by decide +kernel
theorem dX4_enterLeast_39 : decode cX4_enterLeast 39 = .ok (.getfield 36, 3) := by decide +kernel
theorem dX4_enterLeast_42 : decode cX4_enterLeast 42 = .ok (.iconst 1, 1) := by decide +kernel
theorem dX4_enterLeast_43 : decode cX4_enterLeast 43 = .ok (.isub, 1) := by decide +kernel
theorem dX4_enterLeast_44 : decode cX4_enterLeast 44 = .ok (.iand, 1) := by decide +kernel
theorem dX4_enterLeast_45 : decode cX4_enterLeast 45 = .ok (.putfield 36, 3) := by decide +kernel
theorem dX4_enterLeast_48 : decode cX4_enterLeast 48 = .ok (.aload_n 0, 1) := by decide +kernel
theorem dX4_enterLeast_49 : decode cX4_enterLeast 49 = .ok (.getfield 16, 3) := by decide +kernel
theorem dX4_enterLeast_52 : decode cX4_enterLeast 52 = .ok (.bipush 7, 2) := by decide +kernel
theorem dX4_enterLeast_54 : decode cX4_enterLeast 54 = .ok (.iconst 0, 1) := by decide +kernel
theorem dX4_enterLeast_55 : decode cX4_enterLeast 55 = .ok (.invokevirtual 99, 3) := by decide +kernel
theorem dX4_enterLeast_58 : decode cX4_enterLeast 58 = .ok (.iconst 1, 1) := by decide +kernel
theorem dX4_enterLeast_59 : decode cX4_enterLeast 59 = .ok (.ireturn, 1) := by decide +kernel
set_option maxRecDepth 20000 in
theorem ggX4_perform_X3_groupOf : GoodIn wsX4_perform wsX3_groupOf := goodIn_r _ [4, 5, 6, 3, 7, 8, 9, 10, 11, 12, 13, 14, 15, 16, 17, 18, 19, 20, 21, 22, 23, 24, 25, 26, 27, 28, 29, 30, 31] (by decide +kernel) (by decide +kernel)
set_option maxRecDepth 20000 in
theorem gX4_perform_X3_groupOf : GoodIn wsX4_perform (va_wsS RX4 69 yX3_groupOf wsX3_groupOf) := goodIn_app (goodIn_of _ (by decide +kernel)) ggX4_perform_X3_groupOf
set_option maxRecDepth 20000 in
theorem ggX4_perform_X4_onward : GoodIn wsX4_perform wsX4_onward := goodIn_r _ [36, 37, 297, 298, 299, 300, 301, 302, 303, 304] (by decide +kernel) (by decide +kernel)
set_option maxRecDepth 20000 in
theorem gX4_perform_X4_onward : GoodIn wsX4_perform (wsV RX4 102 RX4 yX4_onward wsX4_onward) := goodIn_app (goodIn_of _ (by decide +kernel)) ggX4_perform_X4_onward
set_option maxRecDepth 20000 in
theorem ggX4_perform_X4_movePair : GoodIn wsX4_perform wsX4_movePair := goodIn_r _ [41, 42, 43, 44, 45, 46, 47, 48, 49, 50, 51, 52, 32, 33, 34, 35, 36, 37, 297, 298, 299, 300, 301, 302, 303, 304, 305] (by decide +kernel) (by decide +kernel)
set_option maxRecDepth 20000 in
theorem gX4_perform_X4_movePair : GoodIn wsX4_perform (wsV RX4 105 RX4 yX4_movePair wsX4_movePair) := goodIn_app (goodIn_of _ (by decide +kernel)) ggX4_perform_X4_movePair
theorem ggX4_perform_X4_multiply_h : GoodIn wsX4_perform [Cond.code yX4_multiply cX4_multiply 2 (some .int)] := goodIn_r _ [56] (by decide +kernel) (by decide +kernel)
set_option maxRecDepth 20000 in
theorem ggX4_perform_X4_multiply_1 : GoodIn wsX4_perform wsX4_multiply_r1 := goodIn_r _ [57, 42, 58, 15, 3, 16, 59, 60, 61, 46, 62, 48, 63, 64, 65, 66, 67, 68, 69, 70, 71, 72, 73, 74] (by decide +kernel) (by decide +kernel)
set_option maxRecDepth 20000 in
theorem ggX4_perform_X4_multiply_2 : GoodIn wsX4_perform wsX4_multiply_r2 := goodIn_r _ [75, 76, 77, 78, 50, 51, 52, 79, 80, 81, 82, 83, 84, 85, 86, 87, 88, 89, 35, 90, 91, 92, 93, 94] (by decide +kernel) (by decide +kernel)
set_option maxRecDepth 20000 in
theorem ggX4_perform_X4_multiply_3 : GoodIn wsX4_perform wsX4_multiply_r3 := goodIn_r _ [32, 33, 34, 36, 37] (by decide +kernel) (by decide +kernel)
set_option maxRecDepth 20000 in
theorem ggX4_perform_X4_multiply_4 : GoodIn wsX4_perform wsX40 := goodIn_r _ [297, 298, 299, 300, 301, 302, 303, 304] (by decide +kernel) (by decide +kernel)
set_option maxRecDepth 20000 in
theorem ggX4_perform_X4_multiply_5 : GoodIn wsX4_perform wsX00 := goodIn_r _ [305] (by decide +kernel) (by decide +kernel)
set_option maxRecDepth 20000 in
theorem ggX4_perform_X4_multiply_6 : GoodIn wsX4_perform wsX20 := goodIn_r _ [306] (by decide +kernel) (by decide +kernel)
theorem ggX4_perform_X4_multiply : GoodIn wsX4_perform wsX4_multiply := goodIn_app (a := [Cond.code yX4_multiply cX4_multiply 2 (some .int)]) ggX4_perform_X4_multiply_h (goodIn_app (goodIn_app (goodIn_app (goodIn_app ggX4_perform_X4_multiply_1 (goodIn_app ggX4_perform_X4_multiply_2 ggX4_perform_X4_multiply_3)) ggX4_perform_X4_multiply_4) ggX4_perform_X4_multiply_5) ggX4_perform_X4_multiply_6)
set_option maxRecDepth 20000 in
theorem gX4_perform_X4_multiply : GoodIn wsX4_perform (wsV RX4 108 RX4 yX4_multiply wsX4_multiply) := goodIn_app (goodIn_of _ (by decide +kernel)) ggX4_perform_X4_multiply
theorem ggX4_perform_X4_combine_h : GoodIn wsX4_perform [Cond.code yX4_combine cX4_combine 6 (some .int)] := goodIn_r _ [98] (by decide +kernel) (by decide +kernel)
set_option maxRecDepth 20000 in
theorem ggX4_perform_X4_combine_1 : GoodIn wsX4_perform wsX4_combine_r1 := goodIn_r _ [42, 57, 58, 15, 3, 16, 59, 60, 61, 46, 62, 48, 63, 64, 65, 99, 100, 101, 102, 103, 104, 105, 69, 106] (by decide +kernel) (by decide +kernel)
set_option maxRecDepth 20000 in
theorem ggX4_perform_X4_combine_2 : GoodIn wsX4_perform wsX4_combine_r2 := goodIn_r _ [75, 107, 108, 109, 110, 111, 112, 113, 114, 79, 80, 81, 82, 115, 116, 117, 118, 119, 120, 121, 122, 123, 124, 125] (by decide +kernel) (by decide +kernel)
set_option maxRecDepth 20000 in
theorem ggX4_perform_X4_combine_3 : GoodIn wsX4_perform wsX4_combine_r3 := goodIn_r _ [35, 126, 37, 127, 32, 33, 34, 36, 128, 129, 130, 131, 132, 133, 134, 135, 136, 137, 138, 139, 140, 141, 142, 143] (by decide +kernel) (by decide +kernel)
set_option maxRecDepth 20000 in
theorem ggX4_perform_X4_combine_4 : GoodIn wsX4_perform wsX4_combine_r4 := goodIn_r _ [144, 145, 146, 147] (by decide +kernel) (by decide +kernel)
set_option maxRecDepth 20000 in
theorem ggX4_perform_X4_combine_5 : GoodIn wsX4_perform wsX40 := goodIn_r _ [297, 298, 299, 300, 301, 302, 303, 304] (by decide +kernel) (by decide +kernel)
set_option maxRecDepth 20000 in
theorem ggX4_perform_X4_combine_6 : GoodIn wsX4_perform wsX00 := goodIn_r _ [305] (by decide +kernel) (by decide +kernel)
set_option maxRecDepth 20000 in
theorem ggX4_perform_X4_combine_7 : GoodIn wsX4_perform wsX20 := goodIn_r _ [306] (by decide +kernel) (by decide +kernel)
theorem ggX4_perform_X4_combine : GoodIn wsX4_perform wsX4_combine := goodIn_app (a := [Cond.code yX4_combine cX4_combine 6 (some .int)]) ggX4_perform_X4_combine_h (goodIn_app (goodIn_app (goodIn_app (goodIn_app ggX4_perform_X4_combine_1 (goodIn_app ggX4_perform_X4_combine_2 (goodIn_app ggX4_perform_X4_combine_3 ggX4_perform_X4_combine_4))) ggX4_perform_X4_combine_5) ggX4_perform_X4_combine_6) ggX4_perform_X4_combine_7)
set_option maxRecDepth 20000 in
theorem gX4_perform_X4_combine : GoodIn wsX4_perform (wsV RX4 111 RX4 yX4_combine wsX4_combine) := goodIn_app (goodIn_of _ (by decide +kernel)) ggX4_perform_X4_combine
set_option maxRecDepth 20000 in
theorem ggX4_perform_X4_combineWithNumber : GoodIn wsX4_perform wsX4_combineWithNumber := goodIn_r _ [151, 42, 57, 59, 60, 61, 46, 62, 48, 140, 141, 142, 69, 143, 108, 109, 110, 111, 75, 112, 113, 114, 79, 80, 81, 82, 99, 100, 101, 102, 103, 104, 105, 106, 107, 115, 116, 117, 118, 144, 145, 146, 147, 32, 33, 34, 35, 36, 37, 297, 298, 299, 300, 301, 302, 303, 304, 305, 306] (by decide +kernel) (by decide +kernel)
set_option maxRecDepth 20000 in
theorem gX4_perform_X4_combineWithNumber : GoodIn wsX4_perform (wsV RX4 114 RX4 yX4_combineWithNumber wsX4_combineWithNumber) := goodIn_app (goodIn_of _ (by decide +kernel)) ggX4_perform_X4_combineWithNumber
theorem ggX4_perform_X4_change_h : GoodIn wsX4_perform [Cond.code yX4_change cX4_change 4 (some .int)] := goodIn_r _ [155] (by decide +kernel) (by decide +kernel)
set_option maxRecDepth 20000 in
theorem ggX4_perform_X4_change_1 : GoodIn wsX4_perform wsX4_change_r1 := goodIn_r _ [42, 57, 58, 15, 3, 16, 59, 60, 61, 46, 62, 48, 156, 157, 158, 69, 159, 75, 112, 113, 114, 79, 80, 81] (by decide +kernel) (by decide +kernel)
set_option maxRecDepth 20000 in
theorem ggX4_perform_X4_change_2 : GoodIn wsX4_perform wsX4_change_r2 := goodIn_r _ [82, 115, 116, 117, 118, 140, 141, 142, 143, 108, 109, 110, 111, 160, 161, 162, 163, 164, 165, 166, 167, 99, 100, 101] (by decide +kernel) (by decide +kernel)
set_option maxRecDepth 20000 in
theorem ggX4_perform_X4_change_3 : GoodIn wsX4_perform wsX4_change_r3 := goodIn_r _ [102, 168, 169, 170, 171, 32, 33, 34, 35, 36, 37] (by decide +kernel) (by decide +kernel)
set_option maxRecDepth 20000 in
theorem ggX4_perform_X4_change_4 : GoodIn wsX4_perform wsX40 := goodIn_r _ [297, 298, 299, 300, 301, 302, 303, 304] (by decide +kernel) (by decide +kernel)
set_option maxRecDepth 20000 in
theorem ggX4_perform_X4_change_5 : GoodIn wsX4_perform wsX00 := goodIn_r _ [305] (by decide +kernel) (by decide +kernel)
set_option maxRecDepth 20000 in
theorem ggX4_perform_X4_change_6 : GoodIn wsX4_perform wsX20 := goodIn_r _ [306] (by decide +kernel) (by decide +kernel)
theorem ggX4_perform_X4_change : GoodIn wsX4_perform wsX4_change := goodIn_app (a := [Cond.code yX4_change cX4_change 4 (some .int)]) ggX4_perform_X4_change_h (goodIn_app (goodIn_app (goodIn_app (goodIn_app ggX4_perform_X4_change_1 (goodIn_app ggX4_perform_X4_change_2 ggX4_perform_X4_change_3)) ggX4_perform_X4_change_4) ggX4_perform_X4_change_5) ggX4_perform_X4_change_6)
set_option maxRecDepth 20000 in
theorem gX4_perform_X4_change : GoodIn wsX4_perform (wsV RX4 117 RX4 yX4_change wsX4_change) := goodIn_app (goodIn_of _ (by decide +kernel)) ggX4_perform_X4_change
set_option maxRecDepth 20000 in
theorem ggX4_perform_X4_setFlag : GoodIn wsX4_perform wsX4_setFlag := goodIn_r _ [175, 42, 176, 177, 178, 46, 179, 180, 181, 182, 183, 184, 60, 61, 62, 48, 185, 116, 117, 118, 32, 33, 34, 35, 36, 37, 297, 298, 299, 300, 301, 302, 303, 304, 305] (by decide +kernel) (by decide +kernel)
set_option maxRecDepth 20000 in
theorem gX4_perform_X4_setFlag : GoodIn wsX4_perform (wsV RX4 120 RX4 yX4_setFlag wsX4_setFlag) := goodIn_app (goodIn_of _ (by decide +kernel)) ggX4_perform_X4_setFlag
set_option maxRecDepth 20000 in
theorem ggX4_perform_X4_changePair : GoodIn wsX4_perform wsX4_changePair := goodIn_r _ [189, 42, 57, 43, 44, 45, 46, 47, 48, 190, 191, 192, 69, 193, 77, 194, 195, 196, 197, 76, 75, 112, 113, 114, 79, 80, 81, 82, 198, 199, 200, 201, 49, 50, 51, 52, 32, 33, 34, 35, 36, 37, 297, 298, 299, 300, 301, 302, 303, 304, 305, 306] (by decide +kernel) (by decide +kernel)
set_option maxRecDepth 20000 in
theorem gX4_perform_X4_changePair : GoodIn wsX4_perform (wsV RX4 122 RX4 yX4_changePair wsX4_changePair) := goodIn_app (goodIn_of _ (by decide +kernel)) ggX4_perform_X4_changePair
set_option maxRecDepth 20000 in
theorem ggX4_perform_X4_moveAtNext : GoodIn wsX4_perform wsX4_moveAtNext := goodIn_r _ [205, 37, 128, 129, 130, 35, 131, 132, 206, 207, 208, 209, 42, 58, 15, 3, 16, 59, 60, 61, 46, 62, 48, 115, 116, 117, 118, 32, 33, 34, 36, 297, 298, 299, 300, 301, 302, 303, 304, 305] (by decide +kernel) (by decide +kernel)
set_option maxRecDepth 20000 in
theorem gX4_perform_X4_moveAtNext : GoodIn wsX4_perform (wsV RX4 125 RX4 yX4_moveAtNext wsX4_moveAtNext) := goodIn_app (goodIn_of _ (by decide +kernel)) ggX4_perform_X4_moveAtNext
set_option maxRecDepth 20000 in
theorem ggX4_perform_X4_movePointed : GoodIn wsX4_perform wsX4_movePointed := goodIn_r _ [213, 42, 214, 215, 18, 3, 19, 43, 44, 45, 46, 47, 48, 49, 50, 51, 52, 206, 207, 208, 35, 209, 58, 15, 16, 59, 60, 61, 62, 115, 116, 117, 118, 32, 33, 34, 36, 37, 297, 298, 299, 300, 301, 302, 303, 304, 305] (by decide +kernel) (by decide +kernel)
set_option maxRecDepth 20000 in
theorem gX4_perform_X4_movePointed : GoodIn wsX4_perform (wsV RX4 128 RX4 yX4_movePointed wsX4_movePointed) := goodIn_app (goodIn_of _ (by decide +kernel)) ggX4_perform_X4_movePointed
set_option maxRecDepth 20000 in
theorem ggX4_perform_X4_moveStacked : GoodIn wsX4_perform wsX4_moveStacked := goodIn_r _ [219, 42, 214, 43, 44, 45, 46, 47, 48, 58, 15, 3, 16, 220, 221, 222, 223, 224, 225, 50, 51, 52, 184, 60, 61, 62, 115, 116, 117, 118, 59, 226, 227, 228, 229, 185, 32, 33, 34, 35, 36, 37, 297, 298, 299, 300, 301, 302, 303, 304, 305] (by decide +kernel) (by decide +kernel)
set_option maxRecDepth 20000 in
theorem gX4_perform_X4_moveStacked : GoodIn wsX4_perform (wsV RX4 131 RX4 yX4_moveStacked wsX4_moveStacked) := goodIn_app (goodIn_of _ (by decide +kernel)) ggX4_perform_X4_moveStacked
set_option maxRecDepth 20000 in
theorem ggX4_perform_X4_moveBeside : GoodIn wsX4_perform wsX4_moveBeside := goodIn_r _ [233, 42, 214, 43, 44, 45, 46, 47, 48, 206, 207, 208, 35, 209, 58, 15, 3, 16, 59, 60, 61, 62, 115, 116, 117, 118, 32, 33, 34, 36, 37, 297, 298, 299, 300, 301, 302, 303, 304, 305] (by decide +kernel) (by decide +kernel)
set_option maxRecDepth 20000 in
theorem gX4_perform_X4_moveBeside : GoodIn wsX4_perform (wsV RX4 134 RX4 yX4_moveBeside wsX4_moveBeside) := goodIn_app (goodIn_of _ (by decide +kernel)) ggX4_perform_X4_moveBeside
set_option maxRecDepth 20000 in
theorem ggX4_perform_X4_moveFromCode : GoodIn wsX4_perform wsX4_moveFromCode := goodIn_r _ [237, 42, 238, 43, 44, 45, 46, 47, 48, 128, 129, 130, 35, 131, 132, 58, 15, 3, 16, 115, 116, 117, 118, 49, 50, 51, 52, 32, 33, 34, 36, 37, 297, 298, 299, 300, 301, 302, 303, 304, 305] (by decide +kernel) (by decide +kernel)
set_option maxRecDepth 20000 in
theorem gX4_perform_X4_moveFromCode : GoodIn wsX4_perform (wsV RX4 137 RX4 yX4_moveFromCode wsX4_moveFromCode) := goodIn_app (goodIn_of _ (by decide +kernel)) ggX4_perform_X4_moveFromCode
set_option maxRecDepth 20000 in
theorem ggX4_perform_X4_movePort : GoodIn wsX4_perform wsX4_movePort := goodIn_r _ [242, 42, 58, 15, 3, 16, 59, 60, 61, 46, 62, 48, 115, 116, 117, 118, 32, 33, 34, 35, 36, 37, 297, 298, 299, 300, 301, 302, 303, 304, 305] (by decide +kernel) (by decide +kernel)
set_option maxRecDepth 20000 in
theorem gX4_perform_X4_movePort : GoodIn wsX4_perform (wsV RX4 140 RX4 yX4_movePort wsX4_movePort) := goodIn_app (goodIn_of _ (by decide +kernel)) ggX4_perform_X4_movePort
set_option maxRecDepth 20000 in
theorem ggX4_perform_X4_setPortBit : GoodIn wsX4_perform wsX4_setPortBit := goodIn_r _ [246, 42, 247, 181, 182, 46, 183, 184, 60, 61, 62, 48, 185, 116, 117, 118, 32, 33, 34, 35, 36, 37, 297, 298, 299, 300, 301, 302, 303, 304, 305] (by decide +kernel) (by decide +kernel)
set_option maxRecDepth 20000 in
theorem gX4_perform_X4_setPortBit : GoodIn wsX4_perform (wsV RX4 143 RX4 yX4_setPortBit wsX4_setPortBit) := goodIn_app (goodIn_of _ (by decide +kernel)) ggX4_perform_X4_setPortBit
set_option maxRecDepth 20000 in
theorem ggX4_perform_X4_skipByPort : GoodIn wsX4_perform wsX4_skipByPort := goodIn_r _ [251, 42, 252, 253, 254, 46, 255, 48, 123, 124, 125, 35, 126, 37, 127, 32, 33, 34, 36, 128, 129, 130, 131, 132, 133, 134, 3, 135, 136, 137, 138, 139, 297, 298, 299, 300, 301, 302, 303, 304, 305] (by decide +kernel) (by decide +kernel)
set_option maxRecDepth 20000 in
theorem gX4_perform_X4_skipByPort : GoodIn wsX4_perform (wsV RX4 146 RX4 yX4_skipByPort wsX4_skipByPort) := goodIn_app (goodIn_of _ (by decide +kernel)) ggX4_perform_X4_skipByPort
set_option maxRecDepth 20000 in
theorem ggX4_perform_X4_skipByBit : GoodIn wsX4_perform wsX4_skipByBit := goodIn_r _ [259, 42, 58, 15, 3, 16, 252, 253, 254, 46, 255, 48, 123, 124, 125, 35, 126, 37, 127, 32, 33, 34, 36, 128, 129, 130, 131, 132, 133, 134, 135, 136, 137, 138, 139, 297, 298, 299, 300, 301, 302, 303, 304, 305] (by decide +kernel) (by decide +kernel)
set_option maxRecDepth 20000 in
theorem gX4_perform_X4_skipByBit : GoodIn wsX4_perform (wsV RX4 149 RX4 yX4_skipByBit wsX4_skipByBit) := goodIn_app (goodIn_of _ (by decide +kernel)) ggX4_perform_X4_skipByBit
set_option maxRecDepth 20000 in
theorem ggX4_perform_X4_moveBit : GoodIn wsX4_perform wsX4_moveBit := goodIn_r _ [263, 42, 58, 15, 3, 16, 99, 100, 101, 46, 102, 48, 247, 181, 182, 183, 184, 60, 61, 62, 185, 116, 117, 118, 252, 253, 254, 255, 176, 177, 178, 179, 180, 32, 33, 34, 35, 36, 37, 297, 298, 299, 300, 301, 302, 303, 304, 305] (by decide +kernel) (by decide +kernel)
set_option maxRecDepth 20000 in
theorem gX4_perform_X4_moveBit : GoodIn wsX4_perform (wsV RX4 152 RX4 yX4_moveBit wsX4_moveBit) := goodIn_app (goodIn_of _ (by decide +kernel)) ggX4_perform_X4_moveBit
set_option maxRecDepth 20000 in
theorem ggX4_perform_X4_jumpNear : GoodIn wsX4_perform wsX4_jumpNear := goodIn_r _ [267, 37, 268, 269, 270, 35, 271, 272, 273, 274, 275, 42, 127, 276, 277, 278, 46, 279, 224, 44, 45, 47, 48, 185, 116, 117, 118, 225, 50, 51, 52, 297, 298, 299, 300, 301, 302, 303, 304, 305] (by decide +kernel) (by decide +kernel)
set_option maxRecDepth 20000 in
theorem gX4_perform_X4_jumpNear : GoodIn wsX4_perform (wsV RX4 155 RX4 yX4_jumpNear wsX4_jumpNear) := goodIn_app (goodIn_of _ (by decide +kernel)) ggX4_perform_X4_jumpNear
set_option maxRecDepth 20000 in
theorem ggX4_perform_X4_branch : GoodIn wsX4_perform wsX4_branch := goodIn_r _ [283, 42, 99, 100, 101, 46, 102, 48, 32, 33, 34, 35, 36, 37, 297, 298, 299, 300, 301, 302, 303, 304, 305] (by decide +kernel) (by decide +kernel)
set_option maxRecDepth 20000 in
theorem gX4_perform_X4_branch : GoodIn wsX4_perform (wsV RX4 158 RX4 yX4_branch wsX4_branch) := goodIn_app (goodIn_of _ (by decide +kernel)) ggX4_perform_X4_branch
set_option maxRecDepth 20000 in
theorem ggX4_perform_X4_jumpFar : GoodIn wsX4_perform wsX4_jumpFar := goodIn_r _ [287, 37, 128, 129, 130, 35, 131, 132, 268, 269, 270, 271, 272, 273, 274, 275, 42, 127, 276, 277, 278, 46, 279, 224, 44, 45, 47, 48, 185, 116, 117, 118, 225, 50, 51, 52, 297, 298, 299, 300, 301, 302, 303, 304, 305] (by decide +kernel) (by decide +kernel)
set_option maxRecDepth 20000 in
theorem gX4_perform_X4_jumpFar : GoodIn wsX4_perform (wsV RX4 161 RX4 yX4_jumpFar wsX4_jumpFar) := goodIn_app (goodIn_of _ (by decide +kernel)) ggX4_perform_X4_jumpFar
set_option maxRecDepth 20000 in
theorem ggX4_perform_X4_jumpToZ : GoodIn wsX4_perform wsX4_jumpToZ := goodIn_r _ [291, 42, 37, 43, 44, 45, 46, 47, 48, 268, 269, 270, 35, 271, 272, 273, 274, 275, 127, 276, 277, 278, 279, 224, 185, 116, 117, 118, 225, 50, 51, 52, 297, 298, 299, 300, 301, 302, 303, 304, 305] (by decide +kernel) (by decide +kernel)
set_option maxRecDepth 20000 in
theorem gX4_perform_X4_jumpToZ : GoodIn wsX4_perform (wsV RX4 164 RX4 yX4_jumpToZ wsX4_jumpToZ) := goodIn_app (goodIn_of _ (by decide +kernel)) ggX4_perform_X4_jumpToZ
set_option maxRecDepth 20000 in
theorem ggX4_perform_X4_comeBack : GoodIn wsX4_perform wsX4_comeBack := goodIn_r _ [295, 42, 214, 296, 43, 44, 45, 46, 47, 48, 220, 221, 222, 223, 224, 225, 50, 51, 52, 184, 60, 61, 62, 176, 177, 178, 179, 180, 181, 182, 183, 185, 116, 117, 118, 268, 269, 270, 35, 271, 37, 297, 298, 299, 300, 301, 302, 303, 304, 305] (by decide +kernel) (by decide +kernel)
set_option maxRecDepth 20000 in
theorem gX4_perform_X4_comeBack : GoodIn wsX4_perform (wsV RX4 167 RX4 yX4_comeBack wsX4_comeBack) := goodIn_app (goodIn_of _ (by decide +kernel)) ggX4_perform_X4_comeBack
theorem dX4_perform_0 : decode cX4_perform 0 = .ok (.iload_n 1, 1) := by decide +kernel
theorem dX4_perform_1 : decode cX4_perform 1 = .ok (.invokestatic 69, 3) := by decide +kernel
theorem dX4_perform_4 : decode cX4_perform 4 = .ok (.tableswitch 246 1 23 #[108, 114, 120, 126, 132, 138, 144, 150, 156, 162, 168, 174, 180, 186, 192, 198, 204, 210, 216, 222, 228, 234, 240], 108) := by decide +kernel
theorem dX4_perform_112 : decode cX4_perform 112 = .ok (.aload_n 0, 1) := by decide +kernel
theorem dX4_perform_113 : decode cX4_perform 113 = .ok (.iconst 1, 1) := by decide +kernel
theorem dX4_perform_114 : decode cX4_perform 114 = .ok (.invokevirtual 102, 3) := by decide +kernel
theorem dX4_perform_117 : decode cX4_perform 117 = .ok (.ireturn, 1) := by decide +kernel
theorem dX4_perform_118 : decode cX4_perform 118 = .ok (.aload_n 0, 1) := by decide +kernel
theorem dX4_perform_119 : decode cX4_perform 119 = .ok (.iload_n 1, 1) := by decide +kernel
theorem dX4_perform_120 : decode cX4_perform 120 = .ok (.invokevirtual 105, 3) := by decide +kernel
theorem dX4_perform_123 : decode cX4_perform 123 = .ok (.ireturn, 1) := by decide +kernel
theorem dX4_perform_124 : decode cX4_perform 124 = .ok (.aload_n 0, 1) := by decide +kernel
theorem dX4_perform_125 : decode cX4_perform 125 = .ok (.iload_n 1, 1) := by decide +kernel
theorem dX4_perform_126 : decode cX4_perform 126 = .ok (.invokevirtual 108, 3) := by decide +kernel
theorem dX4_perform_129 : decode cX4_perform 129 = .ok (.ireturn, 1) := by decide +kernel
theorem dX4_perform_130 : decode cX4_perform 130 = .ok (.aload_n 0, 1) := by decide +kernel
theorem dX4_perform_131 : decode cX4_perform 131 = .ok (.iload_n 1, 1) := by decide +kernel
theorem dX4_perform_132 : decode cX4_perform 132 = .ok (.invokevirtual 111, 3) := by decide +kernel
theorem dX4_perform_135 : decode cX4_perform 135 = .ok (.ireturn, 1) := by decide +kernel
theorem dX4_perform_136 : decode cX4_perform 136 = .ok (.aload_n 0, 1) := by decide +kernel
theorem dX4_perform_137 : decode cX4_perform 137 = .ok (.iload_n 1, 1) := by decide +kernel
theorem dX4_perform_138 : decode cX4_perform 138 = .ok (.invokevirtual 114, 3) := by decide +kernel
theorem dX4_perform_141 : decode cX4_perform 141 = .ok (.ireturn, 1) := by decide +kernel
theorem dX4_perform_142 : decode cX4_perform 142 = .ok (.aload_n 0, 1) := by decide +kernel
theorem dX4_perform_143 : decode cX4_perform 143 = .ok (.iload_n 1, 1) := by decide +kernel
theorem dX4_perform_144 : decode cX4_perform 144 = .ok (.invokevirtual 117, 3) := by decide +kernel
theorem dX4_perform_147 : decode cX4_perform 147 = .ok (.ireturn, 1) := by decide +kernel
theorem dX4_perform_148 : decode cX4_perform 148 = .ok (.aload_n 0, 1) := by decide +kernel
theorem dX4_perform_149 : decode cX4_perform 149 = .ok (.iload_n 1, 1) := by decide +kernel
theorem dX4_perform_150 : decode cX4_perform 150 = .ok (.invokevirtual 120, 3) := by decide +kernel
theorem dX4_perform_153 : decode cX4_perform 153 = .ok (.ireturn, 1) := by decide +kernel
theorem dX4_perform_154 : decode cX4_perform 154 = .ok (.aload_n 0, 1) := by decide +kernel
theorem dX4_perform_155 : decode cX4_perform 155 = .ok (.iload_n 1, 1) := by decide +kernel
theorem dX4_perform_156 : decode cX4_perform 156 = .ok (.invokevirtual 122, 3) := by decide +kernel
theorem dX4_perform_159 : decode cX4_perform 159 = .ok (.ireturn, 1) := by decide +kernel
theorem dX4_perform_160 : decode cX4_perform 160 = .ok (.aload_n 0, 1) := by decide +kernel
theorem dX4_perform_161 : decode cX4_perform 161 = .ok (.iload_n 1, 1) := by decide +kernel
theorem dX4_perform_162 : decode cX4_perform 162 = .ok (.invokevirtual 125, 3) := by decide +kernel
theorem dX4_perform_165 : decode cX4_perform 165 = .ok (.ireturn, 1) := by decide +kernel
theorem dX4_perform_166 : decode cX4_perform 166 = .ok (.aload_n 0, 1) := by decide +kernel
theorem dX4_perform_167 : decode cX4_perform 167 = .ok (.iload_n 1, 1) := by decide +kernel
theorem dX4_perform_168 : decode cX4_perform 168 = .ok (.invokevirtual 128, 3) := by decide +kernel
theorem dX4_perform_171 : decode cX4_perform 171 = .ok (.ireturn, 1) := by decide +kernel
theorem dX4_perform_172 : decode cX4_perform 172 = .ok (.aload_n 0, 1) := by decide +kernel
theorem dX4_perform_173 : decode cX4_perform 173 = .ok (.iload_n 1, 1) := by decide +kernel
theorem dX4_perform_174 : decode cX4_perform 174 = .ok (.invokevirtual 131, 3) := by decide +kernel
theorem dX4_perform_177 : decode cX4_perform 177 = .ok (.ireturn, 1) := by decide +kernel
theorem dX4_perform_178 : decode cX4_perform 178 = .ok (.aload_n 0, 1) := by decide +kernel
theorem dX4_perform_179 : decode cX4_perform 179 = .ok (.iload_n 1, 1) := by decide +kernel
theorem dX4_perform_180 : decode cX4_perform 180 = .ok (.invokevirtual 134, 3) := by decide +kernel
theorem dX4_perform_183 : decode cX4_perform 183 = .ok (.ireturn, 1) := by decide +kernel
theorem dX4_perform_184 : decode cX4_perform 184 = .ok (.aload_n 0, 1) := by decide +kernel
theorem dX4_perform_185 : decode cX4_perform 185 = .ok (.iload_n 1, 1) := by decide +kernel
theorem dX4_perform_186 : decode cX4_perform 186 = .ok (.invokevirtual 137, 3) := by decide +kernel
theorem dX4_perform_189 : decode cX4_perform 189 = .ok (.ireturn, 1) := by decide +kernel
theorem dX4_perform_190 : decode cX4_perform 190 = .ok (.aload_n 0, 1) := by decide +kernel
theorem dX4_perform_191 : decode cX4_perform 191 = .ok (.iload_n 1, 1) := by decide +kernel
theorem dX4_perform_192 : decode cX4_perform 192 = .ok (.invokevirtual 140, 3) := by decide +kernel
theorem dX4_perform_195 : decode cX4_perform 195 = .ok (.ireturn, 1) := by decide +kernel
theorem dX4_perform_196 : decode cX4_perform 196 = .ok (.aload_n 0, 1) := by decide +kernel
theorem dX4_perform_197 : decode cX4_perform 197 = .ok (.iload_n 1, 1) := by decide +kernel
theorem dX4_perform_198 : decode cX4_perform 198 = .ok (.invokevirtual 143, 3) := by decide +kernel
theorem dX4_perform_201 : decode cX4_perform 201 = .ok (.ireturn, 1) := by decide +kernel
theorem dX4_perform_202 : decode cX4_perform 202 = .ok (.aload_n 0, 1) := by decide +kernel
theorem dX4_perform_203 : decode cX4_perform 203 = .ok (.iload_n 1, 1) := by decide +kernel
theorem dX4_perform_204 : decode cX4_perform 204 = .ok (.invokevirtual 146, 3) := by decide +kernel
theorem dX4_perform_207 : decode cX4_perform 207 = .ok (.ireturn, 1) := by decide +kernel
theorem dX4_perform_208 : decode cX4_perform 208 = .ok (.aload_n 0, 1) := by decide +kernel
theorem dX4_perform_209 : decode cX4_perform 209 = .ok (.iload_n 1, 1) := by decide +kernel
theorem dX4_perform_210 : decode cX4_perform 210 = .ok (.invokevirtual 149, 3) := by decide +kernel
theorem dX4_perform_213 : decode cX4_perform 213 = .ok (.ireturn, 1) := by decide +kernel
theorem dX4_perform_214 : decode cX4_perform 214 = .ok (.aload_n 0, 1) := by decide +kernel
theorem dX4_perform_215 : decode cX4_perform 215 = .ok (.iload_n 1, 1) := by decide +kernel
theorem dX4_perform_216 : decode cX4_perform 216 = .ok (.invokevirtual 152, 3) := by decide +kernel
theorem dX4_perform_219 : decode cX4_perform 219 = .ok (.ireturn, 1) := by decide +kernel
theorem dX4_perform_220 : decode cX4_perform 220 = .ok (.aload_n 0, 1) := by decide +kernel
theorem dX4_perform_221 : decode cX4_perform 221 = .ok (.iload_n 1, 1) := by decide +kernel
theorem dX4_perform_222 : decode cX4_perform 222 = .ok (.invokevirtual 155, 3) := by decide +kernel
theorem dX4_perform_225 : decode cX4_perform 225 = .ok (.ireturn, 1) := by decide +kernel
theorem dX4_perform_226 : decode cX4_perform 226 = .ok (.aload_n 0, 1) := by decide +kernel
theorem dX4_perform_227 : decode cX4_perform 227 = .ok (.iload_n 1, 1) := by decide +kernel
theorem dX4_perform_228 : decode cX4_perform 228 = .ok (.invokevirtual 158, 3) := by decide +kernel
theorem dX4_perform_231 : decode cX4_perform 231 = .ok (.ireturn, 1) := by decide +kernel
theorem dX4_perform_232 : decode cX4_perform 232 = .ok (.aload_n 0, 1) := by decide +kernel
theorem dX4_perform_233 : decode cX4_perform 233 = .ok (.iload_n 1, 1) := by decide +kernel
theorem dX4_perform_234 : decode cX4_perform 234 = .ok (.invokevirtual 161, 3) := by decide +kernel
theorem dX4_perform_237 : decode cX4_perform 237 = .ok (.ireturn, 1) := by decide +kernel
theorem dX4_perform_238 : decode cX4_perform 238 = .ok (.aload_n 0, 1) := by decide +kernel
theorem dX4_perform_239 : decode cX4_perform 239 = .ok (.iload_n 1, 1) := by decide +kernel
theorem dX4_perform_240 : decode cX4_perform 240 = .ok (.invokevirtual 164, 3) := by decide +kernel
theorem dX4_perform_243 : decode cX4_perform 243 = .ok (.ireturn, 1) := by decide +kernel
theorem dX4_perform_244 : decode cX4_perform 244 = .ok (.aload_n 0, 1) := by decide +kernel
theorem dX4_perform_245 : decode cX4_perform 245 = .ok (.iload_n 1, 1) := by decide +kernel
theorem dX4_perform_246 : decode cX4_perform 246 = .ok (.invokevirtual 167, 3) := by decide +kernel
theorem dX4_perform_249 : decode cX4_perform 249 = .ok (.ireturn, 1) := by decide +kernel
theorem dX4_perform_250 : decode cX4_perform 250 = .ok (.iconst 2, 1) := by decide +kernel
theorem dX4_perform_251 : decode cX4_perform 251 = .ok (.ireturn, 1) := by decide +kernel
theorem dX4_onward_0 : decode cX4_onward 0 = .ok (.aload_n 0, 1) := by decide +kernel
theorem dX4_onward_1 : decode cX4_onward 1 = .ok (.aload_n 0, 1) := by decide +kernel
theorem dX4_onward_2 : decode cX4_onward 2 = .ok (.getfield 32, 3) := by decide +kernel
theorem dX4_onward_5 : decode cX4_onward 5 = .ok (.iload_n 1, 1) := by decide +kernel
theorem dX4_onward_6 : decode cX4_onward 6 = .ok (.iadd, 1) := by decide +kernel
theorem dX4_onward_7 : decode cX4_onward 7 = .ok (.sipush 1023, 3) := by decide +kernel
theorem dX4_onward_10 : decode cX4_onward 10 = .ok (.iand, 1) := by decide +kernel
theorem dX4_onward_11 : decode cX4_onward 11 = .ok (.putfield 32, 3) := by decide +kernel
theorem dX4_onward_14 : decode cX4_onward 14 = .ok (.iconst 0, 1) := by decide +kernel
theorem dX4_onward_15 : decode cX4_onward 15 = .ok (.ireturn, 1) := by decide +kernel
theorem dX4_jumpTo_0 : decode cX4_jumpTo 0 = .ok (.aload_n 0, 1) := by decide +kernel
theorem dX4_jumpTo_1 : decode cX4_jumpTo 1 = .ok (.iload_n 1, 1) := by decide +kernel
theorem dX4_jumpTo_2 : decode cX4_jumpTo 2 = .ok (.sipush 1023, 3) := by decide +kernel
theorem dX4_jumpTo_5 : decode cX4_jumpTo 5 = .ok (.iand, 1) := by decide +kernel
theorem dX4_jumpTo_6 : decode cX4_jumpTo 6 = .ok (.putfield 32, 3) := by decide +kernel
theorem dX4_jumpTo_9 : decode cX4_jumpTo 9 = .ok (.iconst 0, 1) := by decide +kernel
theorem dX4_jumpTo_10 : decode cX4_jumpTo 10 = .ok (.ireturn, 1) := by decide +kernel
set_option maxRecDepth 20000 in
theorem ggX4_callTo_X0_stacks : GoodIn wsX4_callTo wsX0_stacks := goodIn_r _ [8, 9, 10, 11, 7, 12, 13, 14, 15, 16, 17, 18, 19, 20, 21, 30] (by decide +kernel) (by decide +kernel)
set_option maxRecDepth 20000 in
theorem gX4_callTo_X0_stacks : GoodIn wsX4_callTo (wsV RX4 91 RX0 yX0_stacks wsX0_stacks) := goodIn_app (goodIn_of _ (by decide +kernel)) ggX4_callTo_X0_stacks
theorem dX4_callTo_0 : decode cX4_callTo 0 = .ok (.aload_n 0, 1) := by decide +kernel
theorem dX4_callTo_1 : decode cX4_callTo 1 = .ok (.getfield 16, 3) := by decide +kernel
theorem dX4_callTo_4 : decode cX4_callTo 4 = .ok (.iload_n 2, 1) := by decide +kernel
theorem dX4_callTo_5 : decode cX4_callTo 5 = .ok (.sipush 1023, 3) := by decide +kernel
theorem dX4_callTo_8 : decode cX4_callTo 8 = .ok (.iand, 1) := by decide +kernel
theorem dX4_callTo_9 : decode cX4_callTo 9 = .ok (.invokevirtual 91, 3) := by decide +kernel
theorem dX4_callTo_12 : decode cX4_callTo 12 = .ok (.ifCond .ne 5, 3) := by decide +kernel
theorem dX4_callTo_15 : decode cX4_callTo 15 = .ok (.iconst 3, 1) := by decide +kernel
theorem dX4_callTo_16 : decode cX4_callTo 16 = .ok (.ireturn, 1) := by decide +kernel
theorem dX4_callTo_17 : decode cX4_callTo 17 = .ok (.aload_n 0, 1) := by decide +kernel
theorem dX4_callTo_18 : decode cX4_callTo 18 = .ok (.getfield 29, 3) := by decide +kernel
theorem dX4_callTo_21 : decode cX4_callTo 21 = .ok (.bipush 6, 2) := by decide +kernel
theorem dX4_callTo_23 : decode cX4_callTo 23 = .ok (.dup2, 1) := by decide +kernel
theorem dX4_callTo_24 : decode cX4_callTo 24 = .ok (.iaload, 1) := by decide +kernel
theorem dX4_callTo_25 : decode cX4_callTo 25 = .ok (.iconst 1, 1) := by decide +kernel
end
section
theorem dX4_callTo_26 : decode cX4_callTo 26 = .ok (.iadd, 1) := by decide +kernel
theorem dX4_callTo_27 : decode cX4_callTo 27 = .ok (.iastore, 1) := by decide +kernel
theorem dX4_callTo_28 : decode cX4_callTo 28 = .ok (.aload_n 0, 1) := by decide +kernel
theorem dX4_callTo_29 : decode cX4_callTo 29 = .ok (.iload_n 1, 1) := by decide +kernel
theorem dX4_callTo_30 : decode cX4_callTo 30 = .ok (.sipush 1023, 3) := by decide +kernel
theorem dX4_callTo_33 : decode cX4_callTo 33 = .ok (.iand, 1) := by decide +kernel
theorem dX4_callTo_34 : decode cX4_callTo 34 = .ok (.putfield 32, 3) := by decide +kernel
theorem dX4_callTo_37 : decode cX4_callTo 37 = .ok (.iconst 0, 1) := by decide +kernel
theorem dX4_callTo_38 : decode cX4_callTo 38 = .ok (.ireturn, 1) := by decide +kernel
set_option maxRecDepth 20000 in
theorem ggX4_skip_X4_onward : GoodIn wsX4_skip wsX4_onward := goodIn_r _ [7, 1, 21, 22, 23, 24, 25, 26, 27, 28] (by decide +kernel) (by decide +kernel)
set_option maxRecDepth 20000 in
theorem gX4_skip_X4_onward : GoodIn wsX4_skip (wsV RX4 102 RX4 yX4_onward wsX4_onward) := goodIn_app (goodIn_of _ (by decide +kernel)) ggX4_skip_X4_onward
set_option maxRecDepth 20000 in
theorem ggX4_skip_X4_cellAt : GoodIn wsX4_skip wsX4_cellAt := goodIn_r _ [11, 12, 21, 22, 23, 24, 25, 26, 27, 28] (by decide +kernel) (by decide +kernel)
set_option maxRecDepth 20000 in
theorem gX4_skip_X4_cellAt : GoodIn wsX4_skip (wsV RX4 51 RX4 yX4_cellAt wsX4_cellAt) := goodIn_app (goodIn_of _ (by decide +kernel)) ggX4_skip_X4_cellAt
set_option maxRecDepth 20000 in
theorem ggX4_skip_X3_hasNext : GoodIn wsX4_skip wsX3_hasNext := goodIn_r _ [16, 17, 18, 19, 20] (by decide +kernel) (by decide +kernel)
set_option maxRecDepth 20000 in
theorem gX4_skip_X3_hasNext : GoodIn wsX4_skip (va_wsS RX4 74 yX3_hasNext wsX3_hasNext) := goodIn_app (goodIn_of _ (by decide +kernel)) ggX4_skip_X3_hasNext
theorem dX4_skip_0 : decode cX4_skip 0 = .ok (.iload_n 1, 1) := by decide +kernel
theorem dX4_skip_1 : decode cX4_skip 1 = .ok (.ifCond .ne 9, 3) := by decide +kernel
theorem dX4_skip_4 : decode cX4_skip 4 = .ok (.aload_n 0, 1) := by decide +kernel
theorem dX4_skip_5 : decode cX4_skip 5 = .ok (.iconst 1, 1) := by decide +kernel
theorem dX4_skip_6 : decode cX4_skip 6 = .ok (.invokevirtual 102, 3) := by decide +kernel
theorem dX4_skip_9 : decode cX4_skip 9 = .ok (.ireturn, 1) := by decide +kernel
theorem dX4_skip_10 : decode cX4_skip 10 = .ok (.aload_n 0, 1) := by decide +kernel
theorem dX4_skip_11 : decode cX4_skip 11 = .ok (.aload_n 0, 1) := by decide +kernel
theorem dX4_skip_12 : decode cX4_skip 12 = .ok (.getfield 32, 3) := by decide +kernel
theorem dX4_skip_15 : decode cX4_skip 15 = .ok (.iconst 1, 1) := by decide +kernel
theorem dX4_skip_16 : decode cX4_skip 16 = .ok (.iadd, 1) := by decide +kernel
theorem dX4_skip_17 : decode cX4_skip 17 = .ok (.invokevirtual 51, 3) := by decide +kernel
theorem dX4_skip_20 : decode cX4_skip 20 = .ok (.invokestatic 74, 3) := by decide +kernel
theorem dX4_skip_23 : decode cX4_skip 23 = .ok (.ifCond .eq 19, 3) := by decide +kernel
theorem dX4_skip_26 : decode cX4_skip 26 = .ok (.aload_n 0, 1) := by decide +kernel
theorem dX4_skip_27 : decode cX4_skip 27 = .ok (.getfield 29, 3) := by decide +kernel
theorem dX4_skip_30 : decode cX4_skip 30 = .ok (.iconst 5, 1) := by decide +kernel
theorem dX4_skip_31 : decode cX4_skip 31 = .ok (.dup2, 1) := by decide +kernel
theorem dX4_skip_32 : decode cX4_skip 32 = .ok (.iaload, 1) := by decide +kernel
theorem dX4_skip_33 : decode cX4_skip 33 = .ok (.iconst 1, 1) := by decide +kernel
theorem dX4_skip_34 : decode cX4_skip 34 = .ok (.iadd, 1) := by decide +kernel
theorem dX4_skip_35 : decode cX4_skip 35 = .ok (.iastore, 1) := by decide +kernel
theorem dX4_skip_36 : decode cX4_skip 36 = .ok (.aload_n 0, 1) := by decide +kernel
theorem dX4_skip_37 : decode cX4_skip 37 = .ok (.iconst 3, 1) := by decide +kernel
theorem dX4_skip_38 : decode cX4_skip 38 = .ok (.invokevirtual 102, 3) := by decide +kernel
theorem dX4_skip_41 : decode cX4_skip 41 = .ok (.ireturn, 1) := by decide +kernel
theorem dX4_skip_42 : decode cX4_skip 42 = .ok (.aload_n 0, 1) := by decide +kernel
theorem dX4_skip_43 : decode cX4_skip 43 = .ok (.getfield 29, 3) := by decide +kernel
theorem dX4_skip_46 : decode cX4_skip 46 = .ok (.iconst 4, 1) := by decide +kernel
theorem dX4_skip_47 : decode cX4_skip 47 = .ok (.dup2, 1) := by decide +kernel
theorem dX4_skip_48 : decode cX4_skip 48 = .ok (.iaload, 1) := by decide +kernel
theorem dX4_skip_49 : decode cX4_skip 49 = .ok (.iconst 1, 1) := by decide +kernel
theorem dX4_skip_50 : decode cX4_skip 50 = .ok (.iadd, 1) := by decide +kernel
theorem dX4_skip_51 : decode cX4_skip 51 = .ok (.iastore, 1) := by decide +kernel
theorem dX4_skip_52 : decode cX4_skip 52 = .ok (.aload_n 0, 1) := by decide +kernel
theorem dX4_skip_53 : decode cX4_skip 53 = .ok (.iconst 2, 1) := by decide +kernel
theorem dX4_skip_54 : decode cX4_skip 54 = .ok (.invokevirtual 102, 3) := by decide +kernel
theorem dX4_skip_57 : decode cX4_skip 57 = .ok (.ireturn, 1) := by decide +kernel
set_option maxRecDepth 20000 in
theorem ggX4_movePair_X0_pair : GoodIn wsX4_movePair wsX0_pair := goodIn_r _ [6, 7, 26] (by decide +kernel) (by decide +kernel)
set_option maxRecDepth 20000 in
theorem gX4_movePair_X0_pair : GoodIn wsX4_movePair (wsV RX4 62 RX0 yX0_pair wsX0_pair) := goodIn_app (goodIn_of _ (by decide +kernel)) ggX4_movePair_X0_pair
set_option maxRecDepth 20000 in
theorem ggX4_movePair_X0_setPair : GoodIn wsX4_movePair wsX0_setPair := goodIn_r _ [11, 7, 26] (by decide +kernel) (by decide +kernel)
set_option maxRecDepth 20000 in
theorem gX4_movePair_X0_setPair : GoodIn wsX4_movePair (wsV RX4 170 RX0 yX0_setPair wsX0_setPair) := goodIn_app (goodIn_of _ (by decide +kernel)) ggX4_movePair_X0_setPair
set_option maxRecDepth 20000 in
theorem ggX4_movePair_X4_onward : GoodIn wsX4_movePair wsX4_onward := goodIn_r _ [16, 17, 18, 19, 20, 21, 22, 23, 24, 25] (by decide +kernel) (by decide +kernel)
set_option maxRecDepth 20000 in
theorem gX4_movePair_X4_onward : GoodIn wsX4_movePair (wsV RX4 102 RX4 yX4_onward wsX4_onward) := goodIn_app (goodIn_of _ (by decide +kernel)) ggX4_movePair_X4_onward
theorem dX4_movePair_0 : decode cX4_movePair 0 = .ok (.aload_n 0, 1) := by decide +kernel
theorem dX4_movePair_1 : decode cX4_movePair 1 = .ok (.getfield 16, 3) := by decide +kernel
theorem dX4_movePair_4 : decode cX4_movePair 4 = .ok (.iconst 2, 1) := by decide +kernel
theorem dX4_movePair_5 : decode cX4_movePair 5 = .ok (.iload_n 1, 1) := by decide +kernel
theorem dX4_movePair_6 : decode cX4_movePair 6 = .ok (.iconst 4, 1) := by decide +kernel
theorem dX4_movePair_7 : decode cX4_movePair 7 = .ok (.ishr, 1) := by decide +kernel
theorem dX4_movePair_8 : decode cX4_movePair 8 = .ok (.bipush 15, 2) := by decide +kernel
theorem dX4_movePair_10 : decode cX4_movePair 10 = .ok (.iand, 1) := by decide +kernel
theorem dX4_movePair_11 : decode cX4_movePair 11 = .ok (.imul, 1) := by decide +kernel
theorem dX4_movePair_12 : decode cX4_movePair 12 = .ok (.aload_n 0, 1) := by decide +kernel
theorem dX4_movePair_13 : decode cX4_movePair 13 = .ok (.getfield 16, 3) := by decide +kernel
theorem dX4_movePair_16 : decode cX4_movePair 16 = .ok (.iconst 2, 1) := by decide +kernel
theorem dX4_movePair_17 : decode cX4_movePair 17 = .ok (.iload_n 1, 1) := by decide +kernel
theorem dX4_movePair_18 : decode cX4_movePair 18 = .ok (.bipush 15, 2) := by decide +kernel
theorem dX4_movePair_20 : decode cX4_movePair 20 = .ok (.iand, 1) := by decide +kernel
theorem dX4_movePair_21 : decode cX4_movePair 21 = .ok (.imul, 1) := by decide +kernel
theorem dX4_movePair_22 : decode cX4_movePair 22 = .ok (.invokevirtual 62, 3) := by decide +kernel
theorem dX4_movePair_25 : decode cX4_movePair 25 = .ok (.invokevirtual 170, 3) := by decide +kernel
theorem dX4_movePair_28 : decode cX4_movePair 28 = .ok (.aload_n 0, 1) := by decide +kernel
theorem dX4_movePair_29 : decode cX4_movePair 29 = .ok (.iconst 1, 1) := by decide +kernel
theorem dX4_movePair_30 : decode cX4_movePair 30 = .ok (.invokevirtual 102, 3) := by decide +kernel
theorem dX4_movePair_33 : decode cX4_movePair 33 = .ok (.ireturn, 1) := by decide +kernel
set_option maxRecDepth 20000 in
theorem ggX4_multiply_X3_d : GoodIn wsX4_multiply wsX3_d := goodIn_r _ [6] (by decide +kernel) (by decide +kernel)
set_option maxRecDepth 20000 in
theorem gX4_multiply_X3_d : GoodIn wsX4_multiply (va_wsS RX4 173 yX3_d wsX3_d) := goodIn_app (goodIn_of _ (by decide +kernel)) ggX4_multiply_X3_d
set_option maxRecDepth 20000 in
theorem ggX4_multiply_X0_get : GoodIn wsX4_multiply wsX0_get := goodIn_r _ [11, 12, 62] (by decide +kernel) (by decide +kernel)
set_option maxRecDepth 20000 in
theorem gX4_multiply_X0_get : GoodIn wsX4_multiply (wsV RX4 55 RX0 yX0_get wsX0_get) := goodIn_app (goodIn_of _ (by decide +kernel)) ggX4_multiply_X0_get
set_option maxRecDepth 20000 in
theorem ggX4_multiply_X3_r : GoodIn wsX4_multiply wsX3_r := goodIn_r _ [15] (by decide +kernel) (by decide +kernel)
set_option maxRecDepth 20000 in
theorem gX4_multiply_X3_r : GoodIn wsX4_multiply (va_wsS RX4 176 yX3_r wsX3_r) := goodIn_app (goodIn_of _ (by decide +kernel)) ggX4_multiply_X3_r
set_option maxRecDepth 20000 in
theorem ggX4_multiply_X2_product : GoodIn wsX4_multiply wsX2_product := goodIn_r _ [20, 21, 22, 23, 19, 24, 25, 26, 27, 28, 29, 30, 10, 31, 12, 32, 33, 34, 35, 63, 62] (by decide +kernel) (by decide +kernel)
set_option maxRecDepth 20000 in
theorem gX4_multiply_X2_product : GoodIn wsX4_multiply (wsV RX4 179 RX2 yX2_product wsX2_product) := goodIn_app (goodIn_of _ (by decide +kernel)) ggX4_multiply_X2_product
set_option maxRecDepth 20000 in
theorem ggX4_multiply_X0_signed : GoodIn wsX4_multiply wsX0_signed := goodIn_r _ [39, 12, 62] (by decide +kernel) (by decide +kernel)
set_option maxRecDepth 20000 in
theorem gX4_multiply_X0_signed : GoodIn wsX4_multiply (wsV RX4 183 RX0 yX0_signed wsX0_signed) := goodIn_app (goodIn_of _ (by decide +kernel)) ggX4_multiply_X0_signed
set_option maxRecDepth 20000 in
theorem ggX4_multiply_X4_multiplyFew : GoodIn wsX4_multiply wsX4_multiplyFew := goodIn_r _ [44, 1, 2, 36, 37, 38, 10, 39, 12, 7, 8, 9, 11, 16, 17, 18, 19, 20, 21, 22, 23, 24, 25, 26, 27, 28, 29, 30, 31, 32, 33, 34, 35, 45, 46, 47, 48, 54, 55, 56, 57, 58, 59, 60, 61, 62, 63] (by decide +kernel) (by decide +kernel)
set_option maxRecDepth 20000 in
theorem gX4_multiply_X4_multiplyFew : GoodIn wsX4_multiply (wsV RX4 186 RX4 yX4_multiplyFew wsX4_multiplyFew) := goodIn_app (goodIn_of _ (by decide +kernel)) ggX4_multiply_X4_multiplyFew
set_option maxRecDepth 20000 in
theorem ggX4_multiply_X4_onward : GoodIn wsX4_multiply wsX4_onward := goodIn_r _ [52, 53, 54, 55, 56, 57, 58, 59, 60, 61] (by decide +kernel) (by decide +kernel)
set_option maxRecDepth 20000 in
theorem gX4_multiply_X4_onward : GoodIn wsX4_multiply (wsV RX4 102 RX4 yX4_onward wsX4_onward) := goodIn_app (goodIn_of _ (by decide +kernel)) ggX4_multiply_X4_onward
theorem dX4_multiply_0 : decode cX4_multiply 0 = .ok (.iload_n 1, 1) := by decide +kernel
theorem dX4_multiply_1 : decode cX4_multiply 1 = .ok (.bipush 12, 2) := by decide +kernel
theorem dX4_multiply_3 : decode cX4_multiply 3 = .ok (.ishr, 1) := by decide +kernel
theorem dX4_multiply_4 : decode cX4_multiply 4 = .ok (.bipush 9, 2) := by decide +kernel
theorem dX4_multiply_6 : decode cX4_multiply 6 = .ok (.if_icmp .ne 36, 3) := by decide +kernel
theorem dX4_multiply_9 : decode cX4_multiply 9 = .ok (.aload_n 0, 1) := by decide +kernel
theorem dX4_multiply_10 : decode cX4_multiply 10 = .ok (.getfield 25, 3) := by decide +kernel
theorem dX4_multiply_13 : decode cX4_multiply 13 = .ok (.aload_n 0, 1) := by decide +kernel
theorem dX4_multiply_14 : decode cX4_multiply 14 = .ok (.getfield 16, 3) := by decide +kernel
theorem dX4_multiply_17 : decode cX4_multiply 17 = .ok (.iload_n 1, 1) := by decide +kernel
theorem dX4_multiply_18 : decode cX4_multiply 18 = .ok (.invokestatic 173, 3) := by decide +kernel
theorem dX4_multiply_21 : decode cX4_multiply 21 = .ok (.invokevirtual 55, 3) := by decide +kernel
theorem dX4_multiply_24 : decode cX4_multiply 24 = .ok (.aload_n 0, 1) := by decide +kernel
theorem dX4_multiply_25 : decode cX4_multiply 25 = .ok (.getfield 16, 3) := by decide +kernel
theorem dX4_multiply_28 : decode cX4_multiply 28 = .ok (.iload_n 1, 1) := by decide +kernel
theorem dX4_multiply_29 : decode cX4_multiply 29 = .ok (.invokestatic 176, 3) := by decide +kernel
theorem dX4_multiply_32 : decode cX4_multiply 32 = .ok (.invokevirtual 55, 3) := by decide +kernel
theorem dX4_multiply_35 : decode cX4_multiply 35 = .ok (.imul, 1) := by decide +kernel
theorem dX4_multiply_36 : decode cX4_multiply 36 = .ok (.invokevirtual 179, 3) := by decide +kernel
theorem dX4_multiply_39 : decode cX4_multiply 39 = .ok (.goto 73, 3) := by decide +kernel
theorem dX4_multiply_42 : decode cX4_multiply 42 = .ok (.iload_n 1, 1) := by decide +kernel
theorem dX4_multiply_43 : decode cX4_multiply 43 = .ok (.bipush 8, 2) := by decide +kernel
theorem dX4_multiply_45 : decode cX4_multiply 45 = .ok (.ishr, 1) := by decide +kernel
theorem dX4_multiply_46 : decode cX4_multiply 46 = .ok (.iconst 2, 1) := by decide +kernel
theorem dX4_multiply_47 : decode cX4_multiply 47 = .ok (.if_icmp .ne 44, 3) := by decide +kernel
theorem dX4_multiply_50 : decode cX4_multiply 50 = .ok (.aload_n 0, 1) := by decide +kernel
theorem dX4_multiply_51 : decode cX4_multiply 51 = .ok (.getfield 25, 3) := by decide +kernel
theorem dX4_multiply_54 : decode cX4_multiply 54 = .ok (.aload_n 0, 1) := by decide +kernel
theorem dX4_multiply_55 : decode cX4_multiply 55 = .ok (.getfield 16, 3) := by decide +kernel
theorem dX4_multiply_58 : decode cX4_multiply 58 = .ok (.bipush 16, 2) := by decide +kernel
theorem dX4_multiply_60 : decode cX4_multiply 60 = .ok (.iload_n 1, 1) := by decide +kernel
theorem dX4_multiply_61 : decode cX4_multiply 61 = .ok (.iconst 4, 1) := by decide +kernel
theorem dX4_multiply_62 : decode cX4_multiply 62 = .ok (.ishr, 1) := by decide +kernel
theorem dX4_multiply_63 : decode cX4_multiply 63 = .ok (.bipush 15, 2) := by decide +kernel
theorem dX4_multiply_65 : decode cX4_multiply 65 = .ok (.iand, 1) := by decide +kernel
theorem dX4_multiply_66 : decode cX4_multiply 66 = .ok (.iadd, 1) := by decide +kernel
theorem dX4_multiply_67 : decode cX4_multiply 67 = .ok (.invokevirtual 183, 3) := by decide +kernel
theorem dX4_multiply_70 : decode cX4_multiply 70 = .ok (.aload_n 0, 1) := by decide +kernel
theorem dX4_multiply_71 : decode cX4_multiply 71 = .ok (.getfield 16, 3) := by decide +kernel
theorem dX4_multiply_74 : decode cX4_multiply 74 = .ok (.bipush 16, 2) := by decide +kernel
theorem dX4_multiply_76 : decode cX4_multiply 76 = .ok (.iload_n 1, 1) := by decide +kernel
theorem dX4_multiply_77 : decode cX4_multiply 77 = .ok (.bipush 15, 2) := by decide +kernel
theorem dX4_multiply_79 : decode cX4_multiply 79 = .ok (.iand, 1) := by decide +kernel
theorem dX4_multiply_80 : decode cX4_multiply 80 = .ok (.iadd, 1) := by decide +kernel
theorem dX4_multiply_81 : decode cX4_multiply 81 = .ok (.invokevirtual 183, 3) := by decide +kernel
theorem dX4_multiply_84 : decode cX4_multiply 84 = .ok (.imul, 1) := by decide +kernel
theorem dX4_multiply_85 : decode cX4_multiply 85 = .ok (.invokevirtual 179, 3) := by decide +kernel
theorem dX4_multiply_88 : decode cX4_multiply 88 = .ok (.goto 24, 3) := by decide +kernel
theorem dX4_multiply_91 : decode cX4_multiply 91 = .ok (.aload_n 0, 1) := by decide +kernel
theorem dX4_multiply_92 : decode cX4_multiply 92 = .ok (.iload_n 1, 1) := by decide +kernel
theorem dX4_multiply_93 : decode cX4_multiply 93 = .ok (.bipush 16, 2) := by decide +kernel
theorem dX4_multiply_95 : decode cX4_multiply 95 = .ok (.iload_n 1, 1) := by decide +kernel
theorem dX4_multiply_96 : decode cX4_multiply 96 = .ok (.iconst 4, 1) := by decide +kernel
theorem dX4_multiply_97 : decode cX4_multiply 97 = .ok (.ishr, 1) := by decide +kernel
theorem dX4_multiply_98 : decode cX4_multiply 98 = .ok (.bipush 7, 2) := by decide +kernel
theorem dX4_multiply_100 : decode cX4_multiply 100 = .ok (.iand, 1) := by decide +kernel
theorem dX4_multiply_101 : decode cX4_multiply 101 = .ok (.iadd, 1) := by decide +kernel
theorem dX4_multiply_102 : decode cX4_multiply 102 = .ok (.bipush 16, 2) := by decide +kernel
theorem dX4_multiply_104 : decode cX4_multiply 104 = .ok (.iload_n 1, 1) := by decide +kernel
theorem dX4_multiply_105 : decode cX4_multiply 105 = .ok (.bipush 7, 2) := by decide +kernel
theorem dX4_multiply_107 : decode cX4_multiply 107 = .ok (.iand, 1) := by decide +kernel
theorem dX4_multiply_108 : decode cX4_multiply 108 = .ok (.iadd, 1) := by decide +kernel
theorem dX4_multiply_109 : decode cX4_multiply 109 = .ok (.invokevirtual 186, 3) := by decide +kernel
theorem dX4_multiply_112 : decode cX4_multiply 112 = .ok (.aload_n 0, 1) := by decide +kernel
theorem dX4_multiply_113 : decode cX4_multiply 113 = .ok (.iconst 1, 1) := by decide +kernel
theorem dX4_multiply_114 : decode cX4_multiply 114 = .ok (.invokevirtual 102, 3) := by decide +kernel
theorem dX4_multiply_117 : decode cX4_multiply 117 = .ok (.ireturn, 1) := by decide +kernel
set_option maxRecDepth 20000 in
theorem ggX4_multiplyFew_X0_signed : GoodIn wsX4_multiplyFew wsX0_signed := goodIn_r _ [7, 8, 45] (by decide +kernel) (by decide +kernel)
set_option maxRecDepth 20000 in
theorem gX4_multiplyFew_X0_signed : GoodIn wsX4_multiplyFew (wsV RX4 183 RX0 yX0_signed wsX0_signed) := goodIn_app (goodIn_of _ (by decide +kernel)) ggX4_multiplyFew_X0_signed
set_option maxRecDepth 20000 in
theorem ggX4_multiplyFew_X0_get : GoodIn wsX4_multiplyFew wsX0_get := goodIn_r _ [12, 8, 45] (by decide +kernel) (by decide +kernel)
set_option maxRecDepth 20000 in
theorem gX4_multiplyFew_X0_get : GoodIn wsX4_multiplyFew (wsV RX4 55 RX0 yX0_get wsX0_get) := goodIn_app (goodIn_of _ (by decide +kernel)) ggX4_multiplyFew_X0_get
set_option maxRecDepth 20000 in
theorem ggX4_multiplyFew_X2_product : GoodIn wsX4_multiplyFew wsX2_product := goodIn_r _ [17, 18, 19, 20, 16, 21, 22, 23, 24, 25, 26, 27, 6, 28, 8, 29, 30, 31, 32, 46, 45] (by decide +kernel) (by decide +kernel)
set_option maxRecDepth 20000 in
theorem gX4_multiplyFew_X2_product : GoodIn wsX4_multiplyFew (wsV RX4 179 RX2 yX2_product wsX2_product) := goodIn_app (goodIn_of _ (by decide +kernel)) ggX4_multiplyFew_X2_product
set_option maxRecDepth 20000 in
theorem ggX4_multiplyFew_X2_fraction : GoodIn wsX4_multiplyFew wsX2_fraction := goodIn_r _ [36, 18, 19, 20, 16, 21, 22, 23, 24, 25, 26, 27, 6, 28, 8, 29, 30, 31, 32, 46, 45] (by decide +kernel) (by decide +kernel)
set_option maxRecDepth 20000 in
theorem gX4_multiplyFew_X2_fraction : GoodIn wsX4_multiplyFew (wsV RX4 190 RX2 yX2_fraction wsX2_fraction) := goodIn_app (goodIn_of _ (by decide +kernel)) ggX4_multiplyFew_X2_fraction
theorem dX4_multiplyFew_0 : decode cX4_multiplyFew 0 = .ok (.iload_n 1, 1) := by decide +kernel
theorem dX4_multiplyFew_1 : decode cX4_multiplyFew 1 = .ok (.sipush 136, 3) := by decide +kernel
theorem dX4_multiplyFew_4 : decode cX4_multiplyFew 4 = .ok (.iand, 1) := by decide +kernel
theorem dX4_multiplyFew_5 : decode cX4_multiplyFew 5 = .ok (.lookupswitch 116 #[(0, 35), (8, 62), (128, 89)], 35) := by decide +kernel
theorem dX4_multiplyFew_40 : decode cX4_multiplyFew 40 = .ok (.aload_n 0, 1) := by decide +kernel
theorem dX4_multiplyFew_41 : decode cX4_multiplyFew 41 = .ok (.getfield 25, 3) := by decide +kernel
theorem dX4_multiplyFew_44 : decode cX4_multiplyFew 44 = .ok (.aload_n 0, 1) := by decide +kernel
theorem dX4_multiplyFew_45 : decode cX4_multiplyFew 45 = .ok (.getfield 16, 3) := by decide +kernel
theorem dX4_multiplyFew_48 : decode cX4_multiplyFew 48 = .ok (.iload_n 2, 1) := by decide +kernel
theorem dX4_multiplyFew_49 : decode cX4_multiplyFew 49 = .ok (.invokevirtual 183, 3) := by decide +kernel
theorem dX4_multiplyFew_52 : decode cX4_multiplyFew 52 = .ok (.aload_n 0, 1) := by decide +kernel
theorem dX4_multiplyFew_53 : decode cX4_multiplyFew 53 = .ok (.getfield 16, 3) := by decide +kernel
theorem dX4_multiplyFew_56 : decode cX4_multiplyFew 56 = .ok (.iload_n 3, 1) := by decide +kernel
theorem dX4_multiplyFew_57 : decode cX4_multiplyFew 57 = .ok (.invokevirtual 55, 3) := by decide +kernel
theorem dX4_multiplyFew_60 : decode cX4_multiplyFew 60 = .ok (.imul, 1) := by decide +kernel
theorem dX4_multiplyFew_61 : decode cX4_multiplyFew 61 = .ok (.invokevirtual 179, 3) := by decide +kernel
theorem dX4_multiplyFew_64 : decode cX4_multiplyFew 64 = .ok (.goto 81, 3) := by decide +kernel
theorem dX4_multiplyFew_67 : decode cX4_multiplyFew 67 = .ok (.aload_n 0, 1) := by decide +kernel
theorem dX4_multiplyFew_68 : decode cX4_multiplyFew 68 = .ok (.getfield 25, 3) := by decide +kernel
theorem dX4_multiplyFew_71 : decode cX4_multiplyFew 71 = .ok (.aload_n 0, 1) := by decide +kernel
theorem dX4_multiplyFew_72 : decode cX4_multiplyFew 72 = .ok (.getfield 16, 3) := by decide +kernel
theorem dX4_multiplyFew_75 : decode cX4_multiplyFew 75 = .ok (.iload_n 2, 1) := by decide +kernel
theorem dX4_multiplyFew_76 : decode cX4_multiplyFew 76 = .ok (.invokevirtual 55, 3) := by decide +kernel
theorem dX4_multiplyFew_79 : decode cX4_multiplyFew 79 = .ok (.aload_n 0, 1) := by decide +kernel
theorem dX4_multiplyFew_80 : decode cX4_multiplyFew 80 = .ok (.getfield 16, 3) := by decide +kernel
theorem dX4_multiplyFew_83 : decode cX4_multiplyFew 83 = .ok (.iload_n 3, 1) := by decide +kernel
theorem dX4_multiplyFew_84 : decode cX4_multiplyFew 84 = .ok (.invokevirtual 55, 3) := by decide +kernel
theorem dX4_multiplyFew_87 : decode cX4_multiplyFew 87 = .ok (.imul, 1) := by decide +kernel
theorem dX4_multiplyFew_88 : decode cX4_multiplyFew 88 = .ok (.invokevirtual 190, 3) := by decide +kernel
theorem dX4_multiplyFew_91 : decode cX4_multiplyFew 91 = .ok (.goto 54, 3) := by decide +kernel
theorem dX4_multiplyFew_94 : decode cX4_multiplyFew 94 = .ok (.aload_n 0, 1) := by decide +kernel
theorem dX4_multiplyFew_95 : decode cX4_multiplyFew 95 = .ok (.getfield 25, 3) := by decide +kernel
theorem dX4_multiplyFew_98 : decode cX4_multiplyFew 98 = .ok (.aload_n 0, 1) := by decide +kernel
theorem dX4_multiplyFew_99 : decode cX4_multiplyFew 99 = .ok (.getfield 16, 3) := by decide +kernel
theorem dX4_multiplyFew_102 : decode cX4_multiplyFew 102 = .ok (.iload_n 2, 1) := by decide +kernel
theorem dX4_multiplyFew_103 : decode cX4_multiplyFew 103 = .ok (.invokevirtual 183, 3) := by decide +kernel
theorem dX4_multiplyFew_106 : decode cX4_multiplyFew 106 = .ok (.aload_n 0, 1) := by decide +kernel
theorem dX4_multiplyFew_107 : decode cX4_multiplyFew 107 = .ok (.getfield 16, 3) := by decide +kernel
theorem dX4_multiplyFew_110 : decode cX4_multiplyFew 110 = .ok (.iload_n 3, 1) := by decide +kernel
theorem dX4_multiplyFew_111 : decode cX4_multiplyFew 111 = .ok (.invokevirtual 183, 3) := by decide +kernel
theorem dX4_multiplyFew_114 : decode cX4_multiplyFew 114 = .ok (.imul, 1) := by decide +kernel
theorem dX4_multiplyFew_115 : decode cX4_multiplyFew 115 = .ok (.invokevirtual 190, 3) := by decide +kernel
theorem dX4_multiplyFew_118 : decode cX4_multiplyFew 118 = .ok (.goto 27, 3) := by decide +kernel
theorem dX4_multiplyFew_121 : decode cX4_multiplyFew 121 = .ok (.aload_n 0, 1) := by decide +kernel
theorem dX4_multiplyFew_122 : decode cX4_multiplyFew 122 = .ok (.getfield 25, 3) := by decide +kernel
theorem dX4_multiplyFew_125 : decode cX4_multiplyFew 125 = .ok (.aload_n 0, 1) := by decide +kernel
theorem dX4_multiplyFew_126 : decode cX4_multiplyFew 126 = .ok (.getfield 16, 3) := by decide +kernel
theorem dX4_multiplyFew_129 : decode cX4_multiplyFew 129 = .ok (.iload_n 2, 1) := by decide +kernel
theorem dX4_multiplyFew_130 : decode cX4_multiplyFew 130 = .ok (.invokevirtual 183, 3) := by decide +kernel
theorem dX4_multiplyFew_133 : decode cX4_multiplyFew 133 = .ok (.aload_n 0, 1) := by decide +kernel
theorem dX4_multiplyFew_134 : decode cX4_multiplyFew 134 = .ok (.getfield 16, 3) := by decide +kernel
theorem dX4_multiplyFew_137 : decode cX4_multiplyFew 137 = .ok (.iload_n 3, 1) := by decide +kernel
theorem dX4_multiplyFew_138 : decode cX4_multiplyFew 138 = .ok (.invokevirtual 55, 3) := by decide +kernel
theorem dX4_multiplyFew_141 : decode cX4_multiplyFew 141 = .ok (.imul, 1) := by decide +kernel
theorem dX4_multiplyFew_142 : decode cX4_multiplyFew 142 = .ok (.invokevirtual 190, 3) := by decide +kernel
theorem dX4_multiplyFew_145 : decode cX4_multiplyFew 145 = .ok (.return_, 1) := by decide +kernel
set_option maxRecDepth 20000 in
theorem ggX4_combine_X3_d : GoodIn wsX4_combine wsX3_d := goodIn_r _ [6] (by decide +kernel) (by decide +kernel)
set_option maxRecDepth 20000 in
theorem gX4_combine_X3_d : GoodIn wsX4_combine (va_wsS RX4 173 yX3_d wsX3_d) := goodIn_app (goodIn_of _ (by decide +kernel)) ggX4_combine_X3_d
set_option maxRecDepth 20000 in
theorem ggX4_combine_X0_get : GoodIn wsX4_combine wsX0_get := goodIn_r _ [11, 12, 85] (by decide +kernel) (by decide +kernel)
set_option maxRecDepth 20000 in
theorem gX4_combine_X0_get : GoodIn wsX4_combine (wsV RX4 55 RX0 yX0_get wsX0_get) := goodIn_app (goodIn_of _ (by decide +kernel)) ggX4_combine_X0_get
set_option maxRecDepth 20000 in
theorem ggX4_combine_X3_r : GoodIn wsX4_combine wsX3_r := goodIn_r _ [15] (by decide +kernel) (by decide +kernel)
set_option maxRecDepth 20000 in
theorem gX4_combine_X3_r : GoodIn wsX4_combine (va_wsS RX4 176 yX3_r wsX3_r) := goodIn_app (goodIn_of _ (by decide +kernel)) ggX4_combine_X3_r
set_option maxRecDepth 20000 in
theorem ggX4_combine_X0_flag : GoodIn wsX4_combine wsX0_flag := goodIn_r _ [19, 12, 85] (by decide +kernel) (by decide +kernel)
set_option maxRecDepth 20000 in
theorem gX4_combine_X0_flag : GoodIn wsX4_combine (wsV RX4 80 RX0 yX0_flag wsX0_flag) := goodIn_app (goodIn_of _ (by decide +kernel)) ggX4_combine_X0_flag
set_option maxRecDepth 20000 in
theorem ggX4_combine_X2_differenceOn : GoodIn wsX4_combine wsX2_differenceOn := goodIn_r _ [24, 25, 26, 17, 18, 10, 19, 12, 27, 28, 29, 23, 30, 31, 32, 33, 34, 35, 36, 37, 86, 85] (by decide +kernel) (by decide +kernel)
set_option maxRecDepth 20000 in
theorem gX4_combine_X2_differenceOn : GoodIn wsX4_combine (wsV RX4 193 RX2 yX2_differenceOn wsX2_differenceOn) := goodIn_app (goodIn_of _ (by decide +kernel)) ggX4_combine_X2_differenceOn
set_option maxRecDepth 20000 in
theorem ggX4_combine_X0_set : GoodIn wsX4_combine wsX0_set := goodIn_r _ [41, 12, 85] (by decide +kernel) (by decide +kernel)
set_option maxRecDepth 20000 in
theorem gX4_combine_X0_set : GoodIn wsX4_combine (wsV RX4 58 RX0 yX0_set wsX0_set) := goodIn_app (goodIn_of _ (by decide +kernel)) ggX4_combine_X0_set
set_option maxRecDepth 20000 in
theorem ggX4_combine_X2_sum : GoodIn wsX4_combine wsX2_sum := goodIn_r _ [45, 25, 31, 32, 23, 33, 34, 35, 36, 10, 37, 12, 86, 85] (by decide +kernel) (by decide +kernel)
set_option maxRecDepth 20000 in
theorem gX4_combine_X2_sum : GoodIn wsX4_combine (wsV RX4 197 RX2 yX2_sum wsX2_sum) := goodIn_app (goodIn_of _ (by decide +kernel)) ggX4_combine_X2_sum
set_option maxRecDepth 20000 in
theorem ggX4_combine_X4_skip : GoodIn wsX4_combine wsX4_skip := goodIn_r _ [50, 51, 52, 53, 54, 55, 49, 56, 57, 58, 59, 60, 61, 62, 63, 5, 64, 65, 66, 67, 68, 77, 78, 79, 80, 81, 82, 83, 84] (by decide +kernel) (by decide +kernel)
set_option maxRecDepth 20000 in
theorem gX4_combine_X4_skip : GoodIn wsX4_combine (wsV RX4 200 RX4 yX4_skip wsX4_skip) := goodIn_app (goodIn_of _ (by decide +kernel)) ggX4_combine_X4_skip
set_option maxRecDepth 20000 in
theorem ggX4_combine_X2_difference : GoodIn wsX4_combine wsX2_difference := goodIn_r _ [72, 27, 28, 29, 23, 30, 25, 31, 32, 33, 34, 35, 36, 10, 37, 12, 86, 85] (by decide +kernel) (by decide +kernel)
set_option maxRecDepth 20000 in
theorem gX4_combine_X2_difference : GoodIn wsX4_combine (wsV RX4 204 RX2 yX2_difference wsX2_difference) := goodIn_app (goodIn_of _ (by decide +kernel)) ggX4_combine_X2_difference
set_option maxRecDepth 20000 in
theorem ggX4_combine_X2_logic : GoodIn wsX4_combine wsX2_logic := goodIn_r _ [76, 25, 31, 32, 23, 33, 34, 35, 36, 10, 37, 12, 86, 85] (by decide +kernel) (by decide +kernel)
set_option maxRecDepth 20000 in
theorem gX4_combine_X2_logic : GoodIn wsX4_combine (wsV RX4 208 RX2 yX2_logic wsX2_logic) := goodIn_app (goodIn_of _ (by decide +kernel)) ggX4_combine_X2_logic
set_option maxRecDepth 20000 in
theorem ggX4_combine_X4_onward : GoodIn wsX4_combine wsX4_onward := goodIn_r _ [56, 51, 77, 78, 79, 80, 81, 82, 83, 84] (by decide +kernel) (by decide +kernel)
set_option maxRecDepth 20000 in
theorem gX4_combine_X4_onward : GoodIn wsX4_combine (wsV RX4 102 RX4 yX4_onward wsX4_onward) := goodIn_app (goodIn_of _ (by decide +kernel)) ggX4_combine_X4_onward
theorem dX4_combine_0 : decode cX4_combine 0 = .ok (.iload_n 1, 1) := by decide +kernel
theorem dX4_combine_1 : decode cX4_combine 1 = .ok (.invokestatic 173, 3) := by decide +kernel
theorem dX4_combine_4 : decode cX4_combine 4 = .ok (.istore_n 2, 1) := by decide +kernel
theorem dX4_combine_5 : decode cX4_combine 5 = .ok (.aload_n 0, 1) := by decide +kernel
theorem dX4_combine_6 : decode cX4_combine 6 = .ok (.getfield 16, 3) := by decide +kernel
theorem dX4_combine_9 : decode cX4_combine 9 = .ok (.iload_n 2, 1) := by decide +kernel
theorem dX4_combine_10 : decode cX4_combine 10 = .ok (.invokevirtual 55, 3) := by decide +kernel
theorem dX4_combine_13 : decode cX4_combine 13 = .ok (.istore_n 3, 1) := by decide +kernel
theorem dX4_combine_14 : decode cX4_combine 14 = .ok (.aload_n 0, 1) := by decide +kernel
theorem dX4_combine_15 : decode cX4_combine 15 = .ok (.getfield 16, 3) := by decide +kernel
theorem dX4_combine_18 : decode cX4_combine 18 = .ok (.iload_n 1, 1) := by decide +kernel
theorem dX4_combine_19 : decode cX4_combine 19 = .ok (.invokestatic 176, 3) := by decide +kernel
theorem dX4_combine_22 : decode cX4_combine 22 = .ok (.invokevirtual 55, 3) := by decide +kernel
theorem dX4_combine_25 : decode cX4_combine 25 = .ok (.istore 4, 2) := by decide +kernel
theorem dX4_combine_27 : decode cX4_combine 27 = .ok (.aload_n 0, 1) := by decide +kernel
theorem dX4_combine_28 : decode cX4_combine 28 = .ok (.getfield 16, 3) := by decide +kernel
theorem dX4_combine_31 : decode cX4_combine 31 = .ok (.iconst 0, 1) := by decide +kernel
theorem dX4_combine_32 : decode cX4_combine 32 = .ok (.invokevirtual 80, 3) := by decide +kernel
theorem dX4_combine_35 : decode cX4_combine 35 = .ok (.istore 5, 2) := by decide +kernel
theorem dX4_combine_37 : decode cX4_combine 37 = .ok (.iload_n 1, 1) := by decide +kernel
theorem dX4_combine_38 : decode cX4_combine 38 = .ok (.bipush 10, 2) := by decide +kernel
theorem dX4_combine_40 : decode cX4_combine 40 = .ok (.ishr, 1) := by decide +kernel
theorem dX4_combine_41 : decode cX4_combine 41 = .ok (.tableswitch 256 1 10 #[55, 71, 94, 116, 132, 146, 167, 190, 212, 234], 55) := by decide +kernel
theorem dX4_combine_96 : decode cX4_combine 96 = .ok (.aload_n 0, 1) := by decide +kernel
theorem dX4_combine_97 : decode cX4_combine 97 = .ok (.getfield 25, 3) := by decide +kernel
theorem dX4_combine_100 : decode cX4_combine 100 = .ok (.iload_n 3, 1) := by decide +kernel
theorem dX4_combine_101 : decode cX4_combine 101 = .ok (.iload 4, 2) := by decide +kernel
theorem dX4_combine_103 : decode cX4_combine 103 = .ok (.iload 5, 2) := by decide +kernel
theorem dX4_combine_105 : decode cX4_combine 105 = .ok (.invokevirtual 193, 3) := by decide +kernel
theorem dX4_combine_108 : decode cX4_combine 108 = .ok (.pop, 1) := by decide +kernel
theorem dX4_combine_109 : decode cX4_combine 109 = .ok (.goto 198, 3) := by decide +kernel
theorem dX4_combine_112 : decode cX4_combine 112 = .ok (.aload_n 0, 1) := by decide +kernel
theorem dX4_combine_113 : decode cX4_combine 113 = .ok (.getfield 16, 3) := by decide +kernel
theorem dX4_combine_116 : decode cX4_combine 116 = .ok (.iload_n 2, 1) := by decide +kernel
theorem dX4_combine_117 : decode cX4_combine 117 = .ok (.aload_n 0, 1) := by decide +kernel
theorem dX4_combine_118 : decode cX4_combine 118 = .ok (.getfield 25, 3) := by decide +kernel
theorem dX4_combine_121 : decode cX4_combine 121 = .ok (.iload_n 3, 1) := by decide +kernel
theorem dX4_combine_122 : decode cX4_combine 122 = .ok (.iload 4, 2) := by decide +kernel
theorem dX4_combine_124 : decode cX4_combine 124 = .ok (.iload 5, 2) := by decide +kernel
theorem dX4_combine_126 : decode cX4_combine 126 = .ok (.invokevirtual 193, 3) := by decide +kernel
theorem dX4_combine_129 : decode cX4_combine 129 = .ok (.invokevirtual 58, 3) := by decide +kernel
theorem dX4_combine_132 : decode cX4_combine 132 = .ok (.goto 175, 3) := by decide +kernel
theorem dX4_combine_135 : decode cX4_combine 135 = .ok (.aload_n 0, 1) := by decide +kernel
theorem dX4_combine_136 : decode cX4_combine 136 = .ok (.getfield 16, 3) := by decide +kernel
theorem dX4_combine_139 : decode cX4_combine 139 = .ok (.iload_n 2, 1) := by decide +kernel
theorem dX4_combine_140 : decode cX4_combine 140 = .ok (.aload_n 0, 1) := by decide +kernel
theorem dX4_combine_141 : decode cX4_combine 141 = .ok (.getfield 25, 3) := by decide +kernel
theorem dX4_combine_144 : decode cX4_combine 144 = .ok (.iload_n 3, 1) := by decide +kernel
theorem dX4_combine_145 : decode cX4_combine 145 = .ok (.iload 4, 2) := by decide +kernel
theorem dX4_combine_147 : decode cX4_combine 147 = .ok (.iconst 0, 1) := by decide +kernel
theorem dX4_combine_148 : decode cX4_combine 148 = .ok (.invokevirtual 197, 3) := by decide +kernel
theorem dX4_combine_151 : decode cX4_combine 151 = .ok (.invokevirtual 58, 3) := by decide +kernel
theorem dX4_combine_154 : decode cX4_combine 154 = .ok (.goto 153, 3) := by decide +kernel
theorem dX4_combine_157 : decode cX4_combine 157 = .ok (.aload_n 0, 1) := by decide +kernel
theorem dX4_combine_158 : decode cX4_combine 158 = .ok (.iload_n 3, 1) := by decide +kernel
theorem dX4_combine_159 : decode cX4_combine 159 = .ok (.iload 4, 2) := by decide +kernel
theorem dX4_combine_161 : decode cX4_combine 161 = .ok (.if_icmp .ne 7, 3) := by decide +kernel
theorem dX4_combine_164 : decode cX4_combine 164 = .ok (.iconst 1, 1) := by decide +kernel
theorem dX4_combine_165 : decode cX4_combine 165 = .ok (.goto 4, 3) := by decide +kernel
theorem dX4_combine_168 : decode cX4_combine 168 = .ok (.iconst 0, 1) := by decide +kernel
theorem dX4_combine_169 : decode cX4_combine 169 = .ok (.invokevirtual 200, 3) := by decide +kernel
theorem dX4_combine_172 : decode cX4_combine 172 = .ok (.ireturn, 1) := by decide +kernel
theorem dX4_combine_173 : decode cX4_combine 173 = .ok (.aload_n 0, 1) := by decide +kernel
theorem dX4_combine_174 : decode cX4_combine 174 = .ok (.getfield 25, 3) := by decide +kernel
theorem dX4_combine_177 : decode cX4_combine 177 = .ok (.iload_n 3, 1) := by decide +kernel
theorem dX4_combine_178 : decode cX4_combine 178 = .ok (.iload 4, 2) := by decide +kernel
theorem dX4_combine_180 : decode cX4_combine 180 = .ok (.invokevirtual 204, 3) := by decide +kernel
theorem dX4_combine_183 : decode cX4_combine 183 = .ok (.pop, 1) := by decide +kernel
theorem dX4_combine_184 : decode cX4_combine 184 = .ok (.goto 123, 3) := by decide +kernel
theorem dX4_combine_187 : decode cX4_combine 187 = .ok (.aload_n 0, 1) := by decide +kernel
theorem dX4_combine_188 : decode cX4_combine 188 = .ok (.getfield 16, 3) := by decide +kernel
theorem dX4_combine_191 : decode cX4_combine 191 = .ok (.iload_n 2, 1) := by decide +kernel
theorem dX4_combine_192 : decode cX4_combine 192 = .ok (.aload_n 0, 1) := by decide +kernel
theorem dX4_combine_193 : decode cX4_combine 193 = .ok (.getfield 25, 3) := by decide +kernel
theorem dX4_combine_196 : decode cX4_combine 196 = .ok (.iload_n 3, 1) := by decide +kernel
theorem dX4_combine_197 : decode cX4_combine 197 = .ok (.iload 4, 2) := by decide +kernel
theorem dX4_combine_199 : decode cX4_combine 199 = .ok (.invokevirtual 204, 3) := by decide +kernel
theorem dX4_combine_202 : decode cX4_combine 202 = .ok (.invokevirtual 58, 3) := by decide +kernel
theorem dX4_combine_205 : decode cX4_combine 205 = .ok (.goto 102, 3) := by decide +kernel
theorem dX4_combine_208 : decode cX4_combine 208 = .ok (.aload_n 0, 1) := by decide +kernel
theorem dX4_combine_209 : decode cX4_combine 209 = .ok (.getfield 16, 3) := by decide +kernel
theorem dX4_combine_212 : decode cX4_combine 212 = .ok (.iload_n 2, 1) := by decide +kernel
theorem dX4_combine_213 : decode cX4_combine 213 = .ok (.aload_n 0, 1) := by decide +kernel
theorem dX4_combine_214 : decode cX4_combine 214 = .ok (.getfield 25, 3) := by decide +kernel
theorem dX4_combine_217 : decode cX4_combine 217 = .ok (.iload_n 3, 1) := by decide +kernel
theorem dX4_combine_218 : decode cX4_combine 218 = .ok (.iload 4, 2) := by decide +kernel
theorem dX4_combine_220 : decode cX4_combine 220 = .ok (.iload 5, 2) := by decide +kernel
theorem dX4_combine_222 : decode cX4_combine 222 = .ok (.invokevirtual 197, 3) := by decide +kernel
theorem dX4_combine_225 : decode cX4_combine 225 = .ok (.invokevirtual 58, 3) := by decide +kernel
theorem dX4_combine_228 : decode cX4_combine 228 = .ok (.goto 79, 3) := by decide +kernel
theorem dX4_combine_231 : decode cX4_combine 231 = .ok (.aload_n 0, 1) := by decide +kernel
theorem dX4_combine_232 : decode cX4_combine 232 = .ok (.getfield 16, 3) := by decide +kernel
theorem dX4_combine_235 : decode cX4_combine 235 = .ok (.iload_n 2, 1) := by decide +kernel
theorem dX4_combine_236 : decode cX4_combine 236 = .ok (.aload_n 0, 1) := by decide +kernel
theorem dX4_combine_237 : decode cX4_combine 237 = .ok (.getfield 25, 3) := by decide +kernel
theorem dX4_combine_240 : decode cX4_combine 240 = .ok (.iload_n 3, 1) := by decide +kernel
theorem dX4_combine_241 : decode cX4_combine 241 = .ok (.iload 4, 2) := by decide +kernel
theorem dX4_combine_243 : decode cX4_combine 243 = .ok (.iand, 1) := by decide +kernel
theorem dX4_combine_244 : decode cX4_combine 244 = .ok (.invokevirtual 208, 3) := by decide +kernel
theorem dX4_combine_247 : decode cX4_combine 247 = .ok (.invokevirtual 58, 3) := by decide +kernel
theorem dX4_combine_250 : decode cX4_combine 250 = .ok (.goto 57, 3) := by decide +kernel
theorem dX4_combine_253 : decode cX4_combine 253 = .ok (.aload_n 0, 1) := by decide +kernel
theorem dX4_combine_254 : decode cX4_combine 254 = .ok (.getfield 16, 3) := by decide +kernel
theorem dX4_combine_257 : decode cX4_combine 257 = .ok (.iload_n 2, 1) := by decide +kernel
theorem dX4_combine_258 : decode cX4_combine 258 = .ok (.aload_n 0, 1) := by decide +kernel
theorem dX4_combine_259 : decode cX4_combine 259 = .ok (.getfield 25, 3) := by decide +kernel
theorem dX4_combine_262 : decode cX4_combine 262 = .ok (.iload_n 3, 1) := by decide +kernel
theorem dX4_combine_263 : decode cX4_combine 263 = .ok (.iload 4, 2) := by decide +kernel
theorem dX4_combine_265 : decode cX4_combine 265 = .ok (.ixor, 1) := by decide +kernel
theorem dX4_combine_266 : decode cX4_combine 266 = .ok (.invokevirtual 208, 3) := by decide +kernel
theorem dX4_combine_269 : decode cX4_combine 269 = .ok (.invokevirtual 58, 3) := by decide +kernel
theorem dX4_combine_272 : decode cX4_combine 272 = .ok (.goto 35, 3) := by decide +kernel
theorem dX4_combine_275 : decode cX4_combine 275 = .ok (.aload_n 0, 1) := by decide +kernel
theorem dX4_combine_276 : decode cX4_combine 276 = .ok (.getfield 16, 3) := by decide +kernel
theorem dX4_combine_279 : decode cX4_combine 279 = .ok (.iload_n 2, 1) := by decide +kernel
theorem dX4_combine_280 : decode cX4_combine 280 = .ok (.aload_n 0, 1) := by decide +kernel
theorem dX4_combine_281 : decode cX4_combine 281 = .ok (.getfield 25, 3) := by decide +kernel
theorem dX4_combine_284 : decode cX4_combine 284 = .ok (.iload_n 3, 1) := by decide +kernel
theorem dX4_combine_285 : decode cX4_combine 285 = .ok (.iload 4, 2) := by decide +kernel
theorem dX4_combine_287 : decode cX4_combine 287 = .ok (.ior, 1) := by decide +kernel
theorem dX4_combine_288 : decode cX4_combine 288 = .ok (.invokevirtual 208, 3) := by decide +kernel
theorem dX4_combine_291 : decode cX4_combine 291 = .ok (.invokevirtual 58, 3) := by decide +kernel
theorem dX4_combine_294 : decode cX4_combine 294 = .ok (.goto 13, 3) := by decide +kernel
theorem dX4_combine_297 : decode cX4_combine 297 = .ok (.aload_n 0, 1) := by decide +kernel
theorem dX4_combine_298 : decode cX4_combine 298 = .ok (.getfield 16, 3) := by decide +kernel
theorem dX4_combine_301 : decode cX4_combine 301 = .ok (.iload_n 2, 1) := by decide +kernel
theorem dX4_combine_302 : decode cX4_combine 302 = .ok (.iload 4, 2) := by decide +kernel
theorem dX4_combine_304 : decode cX4_combine 304 = .ok (.invokevirtual 58, 3) := by decide +kernel
theorem dX4_combine_307 : decode cX4_combine 307 = .ok (.aload_n 0, 1) := by decide +kernel
theorem dX4_combine_308 : decode cX4_combine 308 = .ok (.iconst 1, 1) := by decide +kernel
theorem dX4_combine_309 : decode cX4_combine 309 = .ok (.invokevirtual 102, 3) := by decide +kernel
theorem dX4_combine_312 : decode cX4_combine 312 = .ok (.ireturn, 1) := by decide +kernel
set_option maxRecDepth 20000 in
theorem ggX4_combineWithNumber_X0_get : GoodIn wsX4_combineWithNumber wsX0_get := goodIn_r _ [7, 8, 57] (by decide +kernel) (by decide +kernel)
set_option maxRecDepth 20000 in
theorem gX4_combineWithNumber_X0_get : GoodIn wsX4_combineWithNumber (wsV RX4 55 RX0 yX0_get wsX0_get) := goodIn_app (goodIn_of _ (by decide +kernel)) ggX4_combineWithNumber_X0_get
set_option maxRecDepth 20000 in
theorem ggX4_combineWithNumber_X2_difference : GoodIn wsX4_combineWithNumber wsX2_difference := goodIn_r _ [13, 14, 15, 16, 12, 17, 18, 19, 20, 21, 22, 23, 24, 6, 25, 8, 58, 57] (by decide +kernel) (by decide +kernel)
set_option maxRecDepth 20000 in
theorem gX4_combineWithNumber_X2_difference : GoodIn wsX4_combineWithNumber (wsV RX4 204 RX2 yX2_difference wsX2_difference) := goodIn_app (goodIn_of _ (by decide +kernel)) ggX4_combineWithNumber_X2_difference
set_option maxRecDepth 20000 in
theorem ggX4_combineWithNumber_X0_flag : GoodIn wsX4_combineWithNumber wsX0_flag := goodIn_r _ [29, 8, 57] (by decide +kernel) (by decide +kernel)
set_option maxRecDepth 20000 in
theorem gX4_combineWithNumber_X0_flag : GoodIn wsX4_combineWithNumber (wsV RX4 80 RX0 yX0_flag wsX0_flag) := goodIn_app (goodIn_of _ (by decide +kernel)) ggX4_combineWithNumber_X0_flag
set_option maxRecDepth 20000 in
theorem ggX4_combineWithNumber_X2_differenceOn : GoodIn wsX4_combineWithNumber wsX2_differenceOn := goodIn_r _ [33, 18, 34, 27, 28, 6, 29, 8, 14, 15, 16, 12, 17, 19, 20, 21, 22, 23, 24, 25, 58, 57] (by decide +kernel) (by decide +kernel)
set_option maxRecDepth 20000 in
theorem gX4_combineWithNumber_X2_differenceOn : GoodIn wsX4_combineWithNumber (wsV RX4 193 RX2 yX2_differenceOn wsX2_differenceOn) := goodIn_app (goodIn_of _ (by decide +kernel)) ggX4_combineWithNumber_X2_differenceOn
set_option maxRecDepth 20000 in
theorem ggX4_combineWithNumber_X0_set : GoodIn wsX4_combineWithNumber wsX0_set := goodIn_r _ [38, 8, 57] (by decide +kernel) (by decide +kernel)
set_option maxRecDepth 20000 in
theorem gX4_combineWithNumber_X0_set : GoodIn wsX4_combineWithNumber (wsV RX4 58 RX0 yX0_set wsX0_set) := goodIn_app (goodIn_of _ (by decide +kernel)) ggX4_combineWithNumber_X0_set
set_option maxRecDepth 20000 in
theorem ggX4_combineWithNumber_X2_logic : GoodIn wsX4_combineWithNumber wsX2_logic := goodIn_r _ [42, 18, 19, 20, 12, 21, 22, 23, 24, 6, 25, 8, 58, 57] (by decide +kernel) (by decide +kernel)
set_option maxRecDepth 20000 in
theorem gX4_combineWithNumber_X2_logic : GoodIn wsX4_combineWithNumber (wsV RX4 208 RX2 yX2_logic wsX2_logic) := goodIn_app (goodIn_of _ (by decide +kernel)) ggX4_combineWithNumber_X2_logic
set_option maxRecDepth 20000 in
theorem ggX4_combineWithNumber_X4_onward : GoodIn wsX4_combineWithNumber wsX4_onward := goodIn_r _ [47, 48, 49, 50, 51, 52, 53, 54, 55, 56] (by decide +kernel) (by decide +kernel)
set_option maxRecDepth 20000 in
theorem gX4_combineWithNumber_X4_onward : GoodIn wsX4_combineWithNumber (wsV RX4 102 RX4 yX4_onward wsX4_onward) := goodIn_app (goodIn_of _ (by decide +kernel)) ggX4_combineWithNumber_X4_onward
theorem dX4_combineWithNumber_0 : decode cX4_combineWithNumber 0 = .ok (.bipush 16, 2) := by decide +kernel
theorem dX4_combineWithNumber_2 : decode cX4_combineWithNumber 2 = .ok (.iload_n 1, 1) := by decide +kernel
theorem dX4_combineWithNumber_3 : decode cX4_combineWithNumber 3 = .ok (.iconst 4, 1) := by decide +kernel
theorem dX4_combineWithNumber_4 : decode cX4_combineWithNumber 4 = .ok (.ishr, 1) := by decide +kernel
theorem dX4_combineWithNumber_5 : decode cX4_combineWithNumber 5 = .ok (.bipush 15, 2) := by decide +kernel
theorem dX4_combineWithNumber_7 : decode cX4_combineWithNumber 7 = .ok (.iand, 1) := by decide +kernel
theorem dX4_combineWithNumber_8 : decode cX4_combineWithNumber 8 = .ok (.iadd, 1) := by decide +kernel
theorem dX4_combineWithNumber_9 : decode cX4_combineWithNumber 9 = .ok (.istore_n 2, 1) := by decide +kernel
theorem dX4_combineWithNumber_10 : decode cX4_combineWithNumber 10 = .ok (.aload_n 0, 1) := by decide +kernel
theorem dX4_combineWithNumber_11 : decode cX4_combineWithNumber 11 = .ok (.getfield 16, 3) := by decide +kernel
theorem dX4_combineWithNumber_14 : decode cX4_combineWithNumber 14 = .ok (.iload_n 2, 1) := by decide +kernel
theorem dX4_combineWithNumber_15 : decode cX4_combineWithNumber 15 = .ok (.invokevirtual 55, 3) := by decide +kernel
theorem dX4_combineWithNumber_18 : decode cX4_combineWithNumber 18 = .ok (.istore_n 3, 1) := by decide +kernel
theorem dX4_combineWithNumber_19 : decode cX4_combineWithNumber 19 = .ok (.iload_n 1, 1) := by decide +kernel
theorem dX4_combineWithNumber_20 : decode cX4_combineWithNumber 20 = .ok (.iconst 4, 1) := by decide +kernel
theorem dX4_combineWithNumber_21 : decode cX4_combineWithNumber 21 = .ok (.ishr, 1) := by decide +kernel
theorem dX4_combineWithNumber_22 : decode cX4_combineWithNumber 22 = .ok (.sipush 240, 3) := by decide +kernel
theorem dX4_combineWithNumber_25 : decode cX4_combineWithNumber 25 = .ok (.iand, 1) := by decide +kernel
theorem dX4_combineWithNumber_26 : decode cX4_combineWithNumber 26 = .ok (.iload_n 1, 1) := by decide +kernel
theorem dX4_combineWithNumber_27 : decode cX4_combineWithNumber 27 = .ok (.bipush 15, 2) := by decide +kernel
theorem dX4_combineWithNumber_29 : decode cX4_combineWithNumber 29 = .ok (.iand, 1) := by decide +kernel
theorem dX4_combineWithNumber_30 : decode cX4_combineWithNumber 30 = .ok (.ior, 1) := by decide +kernel
theorem dX4_combineWithNumber_31 : decode cX4_combineWithNumber 31 = .ok (.istore 4, 2) := by decide +kernel
theorem dX4_combineWithNumber_33 : decode cX4_combineWithNumber 33 = .ok (.iload_n 1, 1) := by decide +kernel
theorem dX4_combineWithNumber_34 : decode cX4_combineWithNumber 34 = .ok (.bipush 12, 2) := by decide +kernel
theorem dX4_combineWithNumber_36 : decode cX4_combineWithNumber 36 = .ok (.ishr, 1) := by decide +kernel
theorem dX4_combineWithNumber_37 : decode cX4_combineWithNumber 37 = .ok (.tableswitch 143 3 7 #[35, 49, 78, 99, 121], 35) := by decide +kernel
theorem dX4_combineWithNumber_72 : decode cX4_combineWithNumber 72 = .ok (.aload_n 0, 1) := by decide +kernel
theorem dX4_combineWithNumber_73 : decode cX4_combineWithNumber 73 = .ok (.getfield 25, 3) := by decide +kernel
theorem dX4_combineWithNumber_76 : decode cX4_combineWithNumber 76 = .ok (.iload_n 3, 1) := by decide +kernel
theorem dX4_combineWithNumber_77 : decode cX4_combineWithNumber 77 = .ok (.iload 4, 2) := by decide +kernel
theorem dX4_combineWithNumber_79 : decode cX4_combineWithNumber 79 = .ok (.invokevirtual 204, 3) := by decide +kernel
theorem dX4_combineWithNumber_82 : decode cX4_combineWithNumber 82 = .ok (.pop, 1) := by decide +kernel
theorem dX4_combineWithNumber_83 : decode cX4_combineWithNumber 83 = .ok (.goto 107, 3) := by decide +kernel
theorem dX4_combineWithNumber_86 : decode cX4_combineWithNumber 86 = .ok (.aload_n 0, 1) := by decide +kernel
theorem dX4_combineWithNumber_87 : decode cX4_combineWithNumber 87 = .ok (.getfield 16, 3) := by decide +kernel
theorem dX4_combineWithNumber_90 : decode cX4_combineWithNumber 90 = .ok (.iload_n 2, 1) := by decide +kernel
theorem dX4_combineWithNumber_91 : decode cX4_combineWithNumber 91 = .ok (.aload_n 0, 1) := by decide +kernel
theorem dX4_combineWithNumber_92 : decode cX4_combineWithNumber 92 = .ok (.getfield 25, 3) := by decide +kernel
theorem dX4_combineWithNumber_95 : decode cX4_combineWithNumber 95 = .ok (.iload_n 3, 1) := by decide +kernel
theorem dX4_combineWithNumber_96 : decode cX4_combineWithNumber 96 = .ok (.iload 4, 2) := by decide +kernel
theorem dX4_combineWithNumber_98 : decode cX4_combineWithNumber 98 = .ok (.aload_n 0, 1) := by decide +kernel
theorem dX4_combineWithNumber_99 : decode cX4_combineWithNumber 99 = .ok (.getfield 16, 3) := by decide +kernel
theorem dX4_combineWithNumber_102 : decode cX4_combineWithNumber 102 = .ok (.iconst 0, 1) := by decide +kernel
theorem dX4_combineWithNumber_103 : decode cX4_combineWithNumber 103 = .ok (.invokevirtual 80, 3) := by decide +kernel
theorem dX4_combineWithNumber_106 : decode cX4_combineWithNumber 106 = .ok (.invokevirtual 193, 3) := by decide +kernel
theorem dX4_combineWithNumber_109 : decode cX4_combineWithNumber 109 = .ok (.invokevirtual 58, 3) := by decide +kernel
theorem dX4_combineWithNumber_112 : decode cX4_combineWithNumber 112 = .ok (.goto 78, 3) := by decide +kernel
theorem dX4_combineWithNumber_115 : decode cX4_combineWithNumber 115 = .ok (.aload_n 0, 1) := by decide +kernel
theorem dX4_combineWithNumber_116 : decode cX4_combineWithNumber 116 = .ok (.getfield 16, 3) := by decide +kernel
theorem dX4_combineWithNumber_119 : decode cX4_combineWithNumber 119 = .ok (.iload_n 2, 1) := by decide +kernel
theorem dX4_combineWithNumber_120 : decode cX4_combineWithNumber 120 = .ok (.aload_n 0, 1) := by decide +kernel
theorem dX4_combineWithNumber_121 : decode cX4_combineWithNumber 121 = .ok (.getfield 25, 3) := by decide +kernel
theorem dX4_combineWithNumber_124 : decode cX4_combineWithNumber 124 = .ok (.iload_n 3, 1) := by decide +kernel
theorem dX4_combineWithNumber_125 : decode cX4_combineWithNumber 125 = .ok (.iload 4, 2) := by decide +kernel
theorem dX4_combineWithNumber_127 : decode cX4_combineWithNumber 127 = .ok (.invokevirtual 204, 3) := by decide +kernel
theorem dX4_combineWithNumber_130 : decode cX4_combineWithNumber 130 = .ok (.invokevirtual 58, 3) := by decide +kernel
theorem dX4_combineWithNumber_133 : decode cX4_combineWithNumber 133 = .ok (.goto 57, 3) := by decide +kernel
theorem dX4_combineWithNumber_136 : decode cX4_combineWithNumber 136 = .ok (.aload_n 0, 1) := by decide +kernel
theorem dX4_combineWithNumber_137 : decode cX4_combineWithNumber 137 = .ok (.getfield 16, 3) := by decide +kernel
theorem dX4_combineWithNumber_140 : decode cX4_combineWithNumber 140 = .ok (.iload_n 2, 1) := by decide +kernel
theorem dX4_combineWithNumber_141 : decode cX4_combineWithNumber 141 = .ok (.aload_n 0, 1) := by decide +kernel
theorem dX4_combineWithNumber_142 : decode cX4_combineWithNumber 142 = .ok (.getfield 25, 3) := by decide +kernel
theorem dX4_combineWithNumber_145 : decode cX4_combineWithNumber 145 = .ok (.iload_n 3, 1) := by decide +kernel
theorem dX4_combineWithNumber_146 : decode cX4_combineWithNumber 146 = .ok (.iload 4, 2) := by decide +kernel
theorem dX4_combineWithNumber_148 : decode cX4_combineWithNumber 148 = .ok (.ior, 1) := by decide +kernel
theorem dX4_combineWithNumber_149 : decode cX4_combineWithNumber 149 = .ok (.invokevirtual 208, 3) := by decide +kernel
theorem dX4_combineWithNumber_152 : decode cX4_combineWithNumber 152 = .ok (.invokevirtual 58, 3) := by decide +kernel
theorem dX4_combineWithNumber_155 : decode cX4_combineWithNumber 155 = .ok (.goto 35, 3) := by decide +kernel
theorem dX4_combineWithNumber_158 : decode cX4_combineWithNumber 158 = .ok (.aload_n 0, 1) := by decide +kernel
theorem dX4_combineWithNumber_159 : decode cX4_combineWithNumber 159 = .ok (.getfield 16, 3) := by decide +kernel
theorem dX4_combineWithNumber_162 : decode cX4_combineWithNumber 162 = .ok (.iload_n 2, 1) := by decide +kernel
theorem dX4_combineWithNumber_163 : decode cX4_combineWithNumber 163 = .ok (.aload_n 0, 1) := by decide +kernel
theorem dX4_combineWithNumber_164 : decode cX4_combineWithNumber 164 = .ok (.getfield 25, 3) := by decide +kernel
theorem dX4_combineWithNumber_167 : decode cX4_combineWithNumber 167 = .ok (.iload_n 3, 1) := by decide +kernel
theorem dX4_combineWithNumber_168 : decode cX4_combineWithNumber 168 = .ok (.iload 4, 2) := by decide +kernel
theorem dX4_combineWithNumber_170 : decode cX4_combineWithNumber 170 = .ok (.iand, 1) := by decide +kernel
theorem dX4_combineWithNumber_171 : decode cX4_combineWithNumber 171 = .ok (.invokevirtual 208, 3) := by decide +kernel
theorem dX4_combineWithNumber_174 : decode cX4_combineWithNumber 174 = .ok (.invokevirtual 58, 3) := by decide +kernel
theorem dX4_combineWithNumber_177 : decode cX4_combineWithNumber 177 = .ok (.goto 13, 3) := by decide +kernel
theorem dX4_combineWithNumber_180 : decode cX4_combineWithNumber 180 = .ok (.aload_n 0, 1) := by decide +kernel
theorem dX4_combineWithNumber_181 : decode cX4_combineWithNumber 181 = .ok (.getfield 16, 3) := by decide +kernel
theorem dX4_combineWithNumber_184 : decode cX4_combineWithNumber 184 = .ok (.iload_n 2, 1) := by decide +kernel
theorem dX4_combineWithNumber_185 : decode cX4_combineWithNumber 185 = .ok (.iload 4, 2) := by decide +kernel
theorem dX4_combineWithNumber_187 : decode cX4_combineWithNumber 187 = .ok (.invokevirtual 58, 3) := by decide +kernel
theorem dX4_combineWithNumber_190 : decode cX4_combineWithNumber 190 = .ok (.aload_n 0, 1) := by decide +kernel
theorem dX4_combineWithNumber_191 : decode cX4_combineWithNumber 191 = .ok (.iconst 1, 1) := by decide +kernel
theorem dX4_combineWithNumber_192 : decode cX4_combineWithNumber 192 = .ok (.invokevirtual 102, 3) := by decide +kernel
theorem dX4_combineWithNumber_195 : decode cX4_combineWithNumber 195 = .ok (.ireturn, 1) := by decide +kernel
set_option maxRecDepth 20000 in
theorem ggX4_change_X3_d : GoodIn wsX4_change wsX3_d := goodIn_r _ [6] (by decide +kernel) (by decide +kernel)
set_option maxRecDepth 20000 in
theorem gX4_change_X3_d : GoodIn wsX4_change (va_wsS RX4 173 yX3_d wsX3_d) := goodIn_app (goodIn_of _ (by decide +kernel)) ggX4_change_X3_d
set_option maxRecDepth 20000 in
theorem ggX4_change_X0_get : GoodIn wsX4_change wsX0_get := goodIn_r _ [11, 12, 68] (by decide +kernel) (by decide +kernel)
set_option maxRecDepth 20000 in
theorem gX4_change_X0_get : GoodIn wsX4_change (wsV RX4 55 RX0 yX0_get wsX0_get) := goodIn_app (goodIn_of _ (by decide +kernel)) ggX4_change_X0_get
set_option maxRecDepth 20000 in
theorem ggX4_change_X2_inverse : GoodIn wsX4_change wsX2_inverse := goodIn_r _ [17, 18, 19, 20, 16, 21, 22, 23, 24, 10, 25, 12, 69, 68] (by decide +kernel) (by decide +kernel)
set_option maxRecDepth 20000 in
theorem gX4_change_X2_inverse : GoodIn wsX4_change (wsV RX4 211 RX2 yX2_inverse wsX2_inverse) := goodIn_app (goodIn_of _ (by decide +kernel)) ggX4_change_X2_inverse
set_option maxRecDepth 20000 in
theorem ggX4_change_X0_set : GoodIn wsX4_change wsX0_set := goodIn_r _ [29, 12, 68] (by decide +kernel) (by decide +kernel)
set_option maxRecDepth 20000 in
theorem gX4_change_X0_set : GoodIn wsX4_change (wsV RX4 58 RX0 yX0_set wsX0_set) := goodIn_app (goodIn_of _ (by decide +kernel)) ggX4_change_X0_set
set_option maxRecDepth 20000 in
theorem ggX4_change_X2_difference : GoodIn wsX4_change wsX2_difference := goodIn_r _ [33, 34, 35, 36, 16, 37, 18, 19, 20, 21, 22, 23, 24, 10, 25, 12, 69, 68] (by decide +kernel) (by decide +kernel)
set_option maxRecDepth 20000 in
theorem gX4_change_X2_difference : GoodIn wsX4_change (wsV RX4 204 RX2 yX2_difference wsX2_difference) := goodIn_app (goodIn_of _ (by decide +kernel)) ggX4_change_X2_difference
set_option maxRecDepth 20000 in
theorem ggX4_change_X2_more : GoodIn wsX4_change wsX2_more := goodIn_r _ [41, 18, 19, 20, 16, 21, 22, 23, 24, 10, 25, 12, 69, 68] (by decide +kernel) (by decide +kernel)
set_option maxRecDepth 20000 in
theorem gX4_change_X2_more : GoodIn wsX4_change (wsV RX4 214 RX2 yX2_more wsX2_more) := goodIn_app (goodIn_of _ (by decide +kernel)) ggX4_change_X2_more
set_option maxRecDepth 20000 in
theorem ggX4_change_X2_right : GoodIn wsX4_change wsX2_right := goodIn_r _ [45, 18, 19, 20, 16, 21, 22, 23, 24, 10, 25, 12, 69, 68] (by decide +kernel) (by decide +kernel)
set_option maxRecDepth 20000 in
theorem gX4_change_X2_right : GoodIn wsX4_change (wsV RX4 217 RX2 yX2_right wsX2_right) := goodIn_app (goodIn_of _ (by decide +kernel)) ggX4_change_X2_right
set_option maxRecDepth 20000 in
theorem ggX4_change_X0_flag : GoodIn wsX4_change wsX0_flag := goodIn_r _ [49, 12, 68] (by decide +kernel) (by decide +kernel)
set_option maxRecDepth 20000 in
theorem gX4_change_X0_flag : GoodIn wsX4_change (wsV RX4 80 RX0 yX0_flag wsX0_flag) := goodIn_app (goodIn_of _ (by decide +kernel)) ggX4_change_X0_flag
set_option maxRecDepth 20000 in
theorem ggX4_change_X2_less : GoodIn wsX4_change wsX2_less := goodIn_r _ [53, 18, 19, 20, 16, 21, 22, 23, 24, 10, 25, 12, 69, 68] (by decide +kernel) (by decide +kernel)
set_option maxRecDepth 20000 in
theorem gX4_change_X2_less : GoodIn wsX4_change (wsV RX4 220 RX2 yX2_less wsX2_less) := goodIn_app (goodIn_of _ (by decide +kernel)) ggX4_change_X2_less
set_option maxRecDepth 20000 in
theorem ggX4_change_X4_onward : GoodIn wsX4_change wsX4_onward := goodIn_r _ [58, 59, 60, 61, 62, 63, 64, 65, 66, 67] (by decide +kernel) (by decide +kernel)
set_option maxRecDepth 20000 in
theorem gX4_change_X4_onward : GoodIn wsX4_change (wsV RX4 102 RX4 yX4_onward wsX4_onward) := goodIn_app (goodIn_of _ (by decide +kernel)) ggX4_change_X4_onward
theorem dX4_change_0 : decode cX4_change 0 = .ok (.iload_n 1, 1) := by decide +kernel
theorem dX4_change_1 : decode cX4_change 1 = .ok (.invokestatic 173, 3) := by decide +kernel
theorem dX4_change_4 : decode cX4_change 4 = .ok (.istore_n 2, 1) := by decide +kernel
theorem dX4_change_5 : decode cX4_change 5 = .ok (.aload_n 0, 1) := by decide +kernel
theorem dX4_change_6 : decode cX4_change 6 = .ok (.getfield 16, 3) := by decide +kernel
theorem dX4_change_9 : decode cX4_change 9 = .ok (.iload_n 2, 1) := by decide +kernel
theorem dX4_change_10 : decode cX4_change 10 = .ok (.invokevirtual 55, 3) := by decide +kernel
theorem dX4_change_13 : decode cX4_change 13 = .ok (.istore_n 3, 1) := by decide +kernel
theorem dX4_change_14 : decode cX4_change 14 = .ok (.iload_n 1, 1) := by decide +kernel
theorem dX4_change_15 : decode cX4_change 15 = .ok (.bipush 15, 2) := by decide +kernel
theorem dX4_change_17 : decode cX4_change 17 = .ok (.iand, 1) := by decide +kernel
theorem dX4_change_18 : decode cX4_change 18 = .ok (.tableswitch 192 0 7 #[46, 65, 85, 103, 192, 122, 145, 165], 46) := by decide +kernel
theorem dX4_change_64 : decode cX4_change 64 = .ok (.aload_n 0, 1) := by decide +kernel
theorem dX4_change_65 : decode cX4_change 65 = .ok (.getfield 16, 3) := by decide +kernel
theorem dX4_change_68 : decode cX4_change 68 = .ok (.iload_n 2, 1) := by decide +kernel
theorem dX4_change_69 : decode cX4_change 69 = .ok (.aload_n 0, 1) := by decide +kernel
theorem dX4_change_70 : decode cX4_change 70 = .ok (.getfield 25, 3) := by decide +kernel
theorem dX4_change_73 : decode cX4_change 73 = .ok (.iload_n 3, 1) := by decide +kernel
theorem dX4_change_74 : decode cX4_change 74 = .ok (.invokevirtual 211, 3) := by decide +kernel
theorem dX4_change_77 : decode cX4_change 77 = .ok (.invokevirtual 58, 3) := by decide +kernel
theorem dX4_change_80 : decode cX4_change 80 = .ok (.goto 146, 3) := by decide +kernel
theorem dX4_change_83 : decode cX4_change 83 = .ok (.aload_n 0, 1) := by decide +kernel
theorem dX4_change_84 : decode cX4_change 84 = .ok (.getfield 16, 3) := by decide +kernel
theorem dX4_change_87 : decode cX4_change 87 = .ok (.iload_n 2, 1) := by decide +kernel
theorem dX4_change_88 : decode cX4_change 88 = .ok (.aload_n 0, 1) := by decide +kernel
theorem dX4_change_89 : decode cX4_change 89 = .ok (.getfield 25, 3) := by decide +kernel
theorem dX4_change_92 : decode cX4_change 92 = .ok (.iconst 0, 1) := by decide +kernel
theorem dX4_change_93 : decode cX4_change 93 = .ok (.iload_n 3, 1) := by decide +kernel
theorem dX4_change_94 : decode cX4_change 94 = .ok (.invokevirtual 204, 3) := by decide +kernel
theorem dX4_change_97 : decode cX4_change 97 = .ok (.invokevirtual 58, 3) := by decide +kernel
theorem dX4_change_100 : decode cX4_change 100 = .ok (.goto 126, 3) := by decide +kernel
theorem dX4_change_103 : decode cX4_change 103 = .ok (.aload_n 0, 1) := by decide +kernel
theorem dX4_change_104 : decode cX4_change 104 = .ok (.getfield 16, 3) := by decide +kernel
theorem dX4_change_107 : decode cX4_change 107 = .ok (.iload_n 2, 1) := by decide +kernel
theorem dX4_change_108 : decode cX4_change 108 = .ok (.iload_n 3, 1) := by decide +kernel
theorem dX4_change_109 : decode cX4_change 109 = .ok (.iconst 4, 1) := by decide +kernel
theorem dX4_change_110 : decode cX4_change 110 = .ok (.ishl, 1) := by decide +kernel
theorem dX4_change_111 : decode cX4_change 111 = .ok (.iload_n 3, 1) := by decide +kernel
theorem dX4_change_112 : decode cX4_change 112 = .ok (.iconst 4, 1) := by decide +kernel
theorem dX4_change_113 : decode cX4_change 113 = .ok (.ishr, 1) := by decide +kernel
theorem dX4_change_114 : decode cX4_change 114 = .ok (.ior, 1) := by decide +kernel
theorem dX4_change_115 : decode cX4_change 115 = .ok (.invokevirtual 58, 3) := by decide +kernel
theorem dX4_change_118 : decode cX4_change 118 = .ok (.goto 108, 3) := by decide +kernel
theorem dX4_change_121 : decode cX4_change 121 = .ok (.aload_n 0, 1) := by decide +kernel
theorem dX4_change_122 : decode cX4_change 122 = .ok (.getfield 16, 3) := by decide +kernel
theorem dX4_change_125 : decode cX4_change 125 = .ok (.iload_n 2, 1) := by decide +kernel
theorem dX4_change_126 : decode cX4_change 126 = .ok (.aload_n 0, 1) := by decide +kernel
theorem dX4_change_127 : decode cX4_change 127 = .ok (.getfield 25, 3) := by decide +kernel
theorem dX4_change_130 : decode cX4_change 130 = .ok (.iload_n 3, 1) := by decide +kernel
theorem dX4_change_131 : decode cX4_change 131 = .ok (.invokevirtual 214, 3) := by decide +kernel
theorem dX4_change_134 : decode cX4_change 134 = .ok (.invokevirtual 58, 3) := by decide +kernel
theorem dX4_change_137 : decode cX4_change 137 = .ok (.goto 89, 3) := by decide +kernel
theorem dX4_change_140 : decode cX4_change 140 = .ok (.aload_n 0, 1) := by decide +kernel
theorem dX4_change_141 : decode cX4_change 141 = .ok (.getfield 16, 3) := by decide +kernel
theorem dX4_change_144 : decode cX4_change 144 = .ok (.iload_n 2, 1) := by decide +kernel
theorem dX4_change_145 : decode cX4_change 145 = .ok (.aload_n 0, 1) := by decide +kernel
theorem dX4_change_146 : decode cX4_change 146 = .ok (.getfield 25, 3) := by decide +kernel
theorem dX4_change_149 : decode cX4_change 149 = .ok (.iload_n 3, 1) := by decide +kernel
theorem dX4_change_150 : decode cX4_change 150 = .ok (.iload_n 3, 1) := by decide +kernel
theorem dX4_change_151 : decode cX4_change 151 = .ok (.bipush 7, 2) := by decide +kernel
theorem dX4_change_153 : decode cX4_change 153 = .ok (.ishr, 1) := by decide +kernel
theorem dX4_change_154 : decode cX4_change 154 = .ok (.invokevirtual 217, 3) := by decide +kernel
theorem dX4_change_157 : decode cX4_change 157 = .ok (.invokevirtual 58, 3) := by decide +kernel
theorem dX4_change_160 : decode cX4_change 160 = .ok (.goto 66, 3) := by decide +kernel
theorem dX4_change_163 : decode cX4_change 163 = .ok (.aload_n 0, 1) := by decide +kernel
theorem dX4_change_164 : decode cX4_change 164 = .ok (.getfield 16, 3) := by decide +kernel
theorem dX4_change_167 : decode cX4_change 167 = .ok (.iload_n 2, 1) := by decide +kernel
theorem dX4_change_168 : decode cX4_change 168 = .ok (.aload_n 0, 1) := by decide +kernel
theorem dX4_change_169 : decode cX4_change 169 = .ok (.getfield 25, 3) := by decide +kernel
theorem dX4_change_172 : decode cX4_change 172 = .ok (.iload_n 3, 1) := by decide +kernel
theorem dX4_change_173 : decode cX4_change 173 = .ok (.iconst 0, 1) := by decide +kernel
theorem dX4_change_174 : decode cX4_change 174 = .ok (.invokevirtual 217, 3) := by decide +kernel
theorem dX4_change_177 : decode cX4_change 177 = .ok (.invokevirtual 58, 3) := by decide +kernel
theorem dX4_change_180 : decode cX4_change 180 = .ok (.goto 46, 3) := by decide +kernel
theorem dX4_change_183 : decode cX4_change 183 = .ok (.aload_n 0, 1) := by decide +kernel
theorem dX4_change_184 : decode cX4_change 184 = .ok (.getfield 16, 3) := by decide +kernel
theorem dX4_change_187 : decode cX4_change 187 = .ok (.iload_n 2, 1) := by decide +kernel
theorem dX4_change_188 : decode cX4_change 188 = .ok (.aload_n 0, 1) := by decide +kernel
theorem dX4_change_189 : decode cX4_change 189 = .ok (.getfield 25, 3) := by decide +kernel
theorem dX4_change_192 : decode cX4_change 192 = .ok (.iload_n 3, 1) := by decide +kernel
theorem dX4_change_193 : decode cX4_change 193 = .ok (.aload_n 0, 1) := by decide +kernel
theorem dX4_change_194 : decode cX4_change 194 = .ok (.getfield 16, 3) := by decide +kernel
theorem dX4_change_197 : decode cX4_change 197 = .ok (.iconst 0, 1) := by decide +kernel
theorem dX4_change_198 : decode cX4_change 198 = .ok (.invokevirtual 80, 3) := by decide +kernel
theorem dX4_change_201 : decode cX4_change 201 = .ok (.invokevirtual 217, 3) := by decide +kernel
theorem dX4_change_204 : decode cX4_change 204 = .ok (.invokevirtual 58, 3) := by decide +kernel
theorem dX4_change_207 : decode cX4_change 207 = .ok (.goto 19, 3) := by decide +kernel
theorem dX4_change_210 : decode cX4_change 210 = .ok (.aload_n 0, 1) := by decide +kernel
theorem dX4_change_211 : decode cX4_change 211 = .ok (.getfield 16, 3) := by decide +kernel
theorem dX4_change_214 : decode cX4_change 214 = .ok (.iload_n 2, 1) := by decide +kernel
theorem dX4_change_215 : decode cX4_change 215 = .ok (.aload_n 0, 1) := by decide +kernel
theorem dX4_change_216 : decode cX4_change 216 = .ok (.getfield 25, 3) := by decide +kernel
theorem dX4_change_219 : decode cX4_change 219 = .ok (.iload_n 3, 1) := by decide +kernel
theorem dX4_change_220 : decode cX4_change 220 = .ok (.invokevirtual 220, 3) := by decide +kernel
theorem dX4_change_223 : decode cX4_change 223 = .ok (.invokevirtual 58, 3) := by decide +kernel
theorem dX4_change_226 : decode cX4_change 226 = .ok (.aload_n 0, 1) := by decide +kernel
theorem dX4_change_227 : decode cX4_change 227 = .ok (.iconst 1, 1) := by decide +kernel
theorem dX4_change_228 : decode cX4_change 228 = .ok (.invokevirtual 102, 3) := by decide +kernel
theorem dX4_change_231 : decode cX4_change 231 = .ok (.ireturn, 1) := by decide +kernel
set_option maxRecDepth 20000 in
theorem ggX4_setFlag_X0_setFlag : GoodIn wsX4_setFlag wsX0_setFlag := goodIn_r _ [6, 7, 8, 9, 5, 10, 11, 12, 13, 14, 15, 16, 17, 18, 19, 34] (by decide +kernel) (by decide +kernel)
set_option maxRecDepth 20000 in
theorem gX4_setFlag_X0_setFlag : GoodIn wsX4_setFlag (wsV RX4 99 RX0 yX0_setFlag wsX0_setFlag) := goodIn_app (goodIn_of _ (by decide +kernel)) ggX4_setFlag_X0_setFlag
set_option maxRecDepth 20000 in
theorem ggX4_setFlag_X4_onward : GoodIn wsX4_setFlag wsX4_onward := goodIn_r _ [24, 25, 26, 27, 28, 29, 30, 31, 32, 33] (by decide +kernel) (by decide +kernel)
set_option maxRecDepth 20000 in
theorem gX4_setFlag_X4_onward : GoodIn wsX4_setFlag (wsV RX4 102 RX4 yX4_onward wsX4_onward) := goodIn_app (goodIn_of _ (by decide +kernel)) ggX4_setFlag_X4_onward
theorem dX4_setFlag_0 : decode cX4_setFlag 0 = .ok (.aload_n 0, 1) := by decide +kernel
theorem dX4_setFlag_1 : decode cX4_setFlag 1 = .ok (.getfield 16, 3) := by decide +kernel
theorem dX4_setFlag_4 : decode cX4_setFlag 4 = .ok (.iload_n 1, 1) := by decide +kernel
theorem dX4_setFlag_5 : decode cX4_setFlag 5 = .ok (.iconst 4, 1) := by decide +kernel
theorem dX4_setFlag_6 : decode cX4_setFlag 6 = .ok (.ishr, 1) := by decide +kernel
theorem dX4_setFlag_7 : decode cX4_setFlag 7 = .ok (.bipush 7, 2) := by decide +kernel
theorem dX4_setFlag_9 : decode cX4_setFlag 9 = .ok (.iand, 1) := by decide +kernel
theorem dX4_setFlag_10 : decode cX4_setFlag 10 = .ok (.iload_n 1, 1) := by decide +kernel
theorem dX4_setFlag_11 : decode cX4_setFlag 11 = .ok (.sipush 128, 3) := by decide +kernel
theorem dX4_setFlag_14 : decode cX4_setFlag 14 = .ok (.iand, 1) := by decide +kernel
theorem dX4_setFlag_15 : decode cX4_setFlag 15 = .ok (.ifCond .ne 7, 3) := by decide +kernel
theorem dX4_setFlag_18 : decode cX4_setFlag 18 = .ok (.iconst 1, 1) := by decide +kernel
theorem dX4_setFlag_19 : decode cX4_setFlag 19 = .ok (.goto 4, 3) := by decide +kernel
theorem dX4_setFlag_22 : decode cX4_setFlag 22 = .ok (.iconst 0, 1) := by decide +kernel
theorem dX4_setFlag_23 : decode cX4_setFlag 23 = .ok (.invokevirtual 99, 3) := by decide +kernel
theorem dX4_setFlag_26 : decode cX4_setFlag 26 = .ok (.aload_n 0, 1) := by decide +kernel
theorem dX4_setFlag_27 : decode cX4_setFlag 27 = .ok (.iconst 1, 1) := by decide +kernel
theorem dX4_setFlag_28 : decode cX4_setFlag 28 = .ok (.invokevirtual 102, 3) := by decide +kernel
theorem dX4_setFlag_31 : decode cX4_setFlag 31 = .ok (.ireturn, 1) := by decide +kernel
set_option maxRecDepth 20000 in
theorem ggX4_changePair_X0_pair : GoodIn wsX4_changePair wsX0_pair := goodIn_r _ [7, 8, 50] (by decide +kernel) (by decide +kernel)
set_option maxRecDepth 20000 in
theorem gX4_changePair_X0_pair : GoodIn wsX4_changePair (wsV RX4 62 RX0 yX0_pair wsX0_pair) := goodIn_app (goodIn_of _ (by decide +kernel)) ggX4_changePair_X0_pair
set_option maxRecDepth 20000 in
theorem ggX4_changePair_X2_pairMore : GoodIn wsX4_changePair wsX2_pairMore := goodIn_r _ [13, 14, 15, 16, 17, 12, 18, 19, 20, 21, 22, 23, 24, 25, 26, 6, 27, 8, 51, 50] (by decide +kernel) (by decide +kernel)
set_option maxRecDepth 20000 in
theorem gX4_changePair_X2_pairMore : GoodIn wsX4_changePair (wsV RX4 223 RX2 yX2_pairMore wsX2_pairMore) := goodIn_app (goodIn_of _ (by decide +kernel)) ggX4_changePair_X2_pairMore
set_option maxRecDepth 20000 in
theorem ggX4_changePair_X2_pairLess : GoodIn wsX4_changePair wsX2_pairLess := goodIn_r _ [31, 14, 15, 16, 17, 12, 18, 19, 20, 21, 22, 23, 24, 25, 26, 6, 27, 8, 51, 50] (by decide +kernel) (by decide +kernel)
set_option maxRecDepth 20000 in
theorem gX4_changePair_X2_pairLess : GoodIn wsX4_changePair (wsV RX4 226 RX2 yX2_pairLess wsX2_pairLess) := goodIn_app (goodIn_of _ (by decide +kernel)) ggX4_changePair_X2_pairLess
set_option maxRecDepth 20000 in
theorem ggX4_changePair_X0_setPair : GoodIn wsX4_changePair wsX0_setPair := goodIn_r _ [35, 8, 50] (by decide +kernel) (by decide +kernel)
set_option maxRecDepth 20000 in
theorem gX4_changePair_X0_setPair : GoodIn wsX4_changePair (wsV RX4 170 RX0 yX0_setPair wsX0_setPair) := goodIn_app (goodIn_of _ (by decide +kernel)) ggX4_changePair_X0_setPair
set_option maxRecDepth 20000 in
theorem ggX4_changePair_X4_onward : GoodIn wsX4_changePair wsX4_onward := goodIn_r _ [40, 41, 42, 43, 44, 45, 46, 47, 48, 49] (by decide +kernel) (by decide +kernel)
set_option maxRecDepth 20000 in
theorem gX4_changePair_X4_onward : GoodIn wsX4_changePair (wsV RX4 102 RX4 yX4_onward wsX4_onward) := goodIn_app (goodIn_of _ (by decide +kernel)) ggX4_changePair_X4_onward
theorem dX4_changePair_0 : decode cX4_changePair 0 = .ok (.bipush 24, 2) := by decide +kernel
theorem dX4_changePair_2 : decode cX4_changePair 2 = .ok (.iload_n 1, 1) := by decide +kernel
theorem dX4_changePair_3 : decode cX4_changePair 3 = .ok (.iconst 3, 1) := by decide +kernel
theorem dX4_changePair_4 : decode cX4_changePair 4 = .ok (.ishr, 1) := by decide +kernel
theorem dX4_changePair_5 : decode cX4_changePair 5 = .ok (.bipush 6, 2) := by decide +kernel
theorem dX4_changePair_7 : decode cX4_changePair 7 = .ok (.iand, 1) := by decide +kernel
theorem dX4_changePair_8 : decode cX4_changePair 8 = .ok (.iadd, 1) := by decide +kernel
theorem dX4_changePair_9 : decode cX4_changePair 9 = .ok (.istore_n 2, 1) := by decide +kernel
theorem dX4_changePair_10 : decode cX4_changePair 10 = .ok (.aload_n 0, 1) := by decide +kernel
theorem dX4_changePair_11 : decode cX4_changePair 11 = .ok (.getfield 16, 3) := by decide +kernel
theorem dX4_changePair_14 : decode cX4_changePair 14 = .ok (.iload_n 2, 1) := by decide +kernel
theorem dX4_changePair_15 : decode cX4_changePair 15 = .ok (.invokevirtual 62, 3) := by decide +kernel
theorem dX4_changePair_18 : decode cX4_changePair 18 = .ok (.istore_n 3, 1) := by decide +kernel
theorem dX4_changePair_19 : decode cX4_changePair 19 = .ok (.iload_n 1, 1) := by decide +kernel
theorem dX4_changePair_20 : decode cX4_changePair 20 = .ok (.iconst 2, 1) := by decide +kernel
end
section
theorem dX4_changePair_21 : decode cX4_changePair 21 = .ok (.ishr, 1) := by decide +kernel
theorem dX4_changePair_22 : decode cX4_changePair 22 = .ok (.bipush 48, 2) := by decide +kernel
theorem dX4_changePair_24 : decode cX4_changePair 24 = .ok (.iand, 1) := by decide +kernel
theorem dX4_changePair_25 : decode cX4_changePair 25 = .ok (.iload_n 1, 1) := by decide +kernel
theorem dX4_changePair_26 : decode cX4_changePair 26 = .ok (.bipush 15, 2) := by decide +kernel
theorem dX4_changePair_28 : decode cX4_changePair 28 = .ok (.iand, 1) := by decide +kernel
theorem dX4_changePair_29 : decode cX4_changePair 29 = .ok (.ior, 1) := by decide +kernel
theorem dX4_changePair_30 : decode cX4_changePair 30 = .ok (.istore 4, 2) := by decide +kernel
theorem dX4_changePair_32 : decode cX4_changePair 32 = .ok (.aload_n 0, 1) := by decide +kernel
theorem dX4_changePair_33 : decode cX4_changePair 33 = .ok (.getfield 16, 3) := by decide +kernel
theorem dX4_changePair_36 : decode cX4_changePair 36 = .ok (.iload_n 2, 1) := by decide +kernel
theorem dX4_changePair_37 : decode cX4_changePair 37 = .ok (.iload_n 1, 1) := by decide +kernel
theorem dX4_changePair_38 : decode cX4_changePair 38 = .ok (.sipush 256, 3) := by decide +kernel
theorem dX4_changePair_41 : decode cX4_changePair 41 = .ok (.iand, 1) := by decide +kernel
theorem dX4_changePair_42 : decode cX4_changePair 42 = .ok (.ifCond .ne 16, 3) := by decide +kernel
theorem dX4_changePair_45 : decode cX4_changePair 45 = .ok (.aload_n 0, 1) := by decide +kernel
theorem dX4_changePair_46 : decode cX4_changePair 46 = .ok (.getfield 25, 3) := by decide +kernel
theorem dX4_changePair_49 : decode cX4_changePair 49 = .ok (.iload_n 3, 1) := by decide +kernel
theorem dX4_changePair_50 : decode cX4_changePair 50 = .ok (.iload 4, 2) := by decide +kernel
theorem dX4_changePair_52 : decode cX4_changePair 52 = .ok (.invokevirtual 223, 3) := by decide +kernel
theorem dX4_changePair_55 : decode cX4_changePair 55 = .ok (.goto 13, 3) := by decide +kernel
theorem dX4_changePair_58 : decode cX4_changePair 58 = .ok (.aload_n 0, 1) := by decide +kernel
theorem dX4_changePair_59 : decode cX4_changePair 59 = .ok (.getfield 25, 3) := by decide +kernel
theorem dX4_changePair_62 : decode cX4_changePair 62 = .ok (.iload_n 3, 1) := by decide +kernel
theorem dX4_changePair_63 : decode cX4_changePair 63 = .ok (.iload 4, 2) := by decide +kernel
theorem dX4_changePair_65 : decode cX4_changePair 65 = .ok (.invokevirtual 226, 3) := by decide +kernel
theorem dX4_changePair_68 : decode cX4_changePair 68 = .ok (.invokevirtual 170, 3) := by decide +kernel
theorem dX4_changePair_71 : decode cX4_changePair 71 = .ok (.aload_n 0, 1) := by decide +kernel
theorem dX4_changePair_72 : decode cX4_changePair 72 = .ok (.iconst 1, 1) := by decide +kernel
theorem dX4_changePair_73 : decode cX4_changePair 73 = .ok (.invokevirtual 102, 3) := by decide +kernel
theorem dX4_changePair_76 : decode cX4_changePair 76 = .ok (.ireturn, 1) := by decide +kernel
set_option maxRecDepth 20000 in
theorem ggX4_transfer_X3_d : GoodIn wsX4_transfer wsX3_d := goodIn_r _ [5] (by decide +kernel) (by decide +kernel)
set_option maxRecDepth 20000 in
theorem gX4_transfer_X3_d : GoodIn wsX4_transfer (va_wsS RX4 173 yX3_d wsX3_d) := goodIn_app (goodIn_of _ (by decide +kernel)) ggX4_transfer_X3_d
set_option maxRecDepth 20000 in
theorem ggX4_transfer_X0_get : GoodIn wsX4_transfer wsX0_get := goodIn_r _ [10, 11, 24] (by decide +kernel) (by decide +kernel)
set_option maxRecDepth 20000 in
theorem gX4_transfer_X0_get : GoodIn wsX4_transfer (wsV RX4 55 RX0 yX0_get wsX0_get) := goodIn_app (goodIn_of _ (by decide +kernel)) ggX4_transfer_X0_get
set_option maxRecDepth 20000 in
theorem ggX4_transfer_X0_set : GoodIn wsX4_transfer wsX0_set := goodIn_r _ [15, 11, 24] (by decide +kernel) (by decide +kernel)
set_option maxRecDepth 20000 in
theorem gX4_transfer_X0_set : GoodIn wsX4_transfer (wsV RX4 58 RX0 yX0_set wsX0_set) := goodIn_app (goodIn_of _ (by decide +kernel)) ggX4_transfer_X0_set
theorem dX4_transfer_0 : decode cX4_transfer 0 = .ok (.iload_n 1, 1) := by decide +kernel
theorem dX4_transfer_1 : decode cX4_transfer 1 = .ok (.invokestatic 173, 3) := by decide +kernel
theorem dX4_transfer_4 : decode cX4_transfer 4 = .ok (.istore_n 3, 1) := by decide +kernel
theorem dX4_transfer_5 : decode cX4_transfer 5 = .ok (.iload_n 1, 1) := by decide +kernel
theorem dX4_transfer_6 : decode cX4_transfer 6 = .ok (.sipush 512, 3) := by decide +kernel
theorem dX4_transfer_9 : decode cX4_transfer 9 = .ok (.iand, 1) := by decide +kernel
theorem dX4_transfer_10 : decode cX4_transfer 10 = .ok (.ifCond .ne 22, 3) := by decide +kernel
theorem dX4_transfer_13 : decode cX4_transfer 13 = .ok (.aload_n 0, 1) := by decide +kernel
theorem dX4_transfer_14 : decode cX4_transfer 14 = .ok (.getfield 16, 3) := by decide +kernel
theorem dX4_transfer_17 : decode cX4_transfer 17 = .ok (.iload_n 3, 1) := by decide +kernel
theorem dX4_transfer_18 : decode cX4_transfer 18 = .ok (.aload_n 0, 1) := by decide +kernel
theorem dX4_transfer_19 : decode cX4_transfer 19 = .ok (.getfield 16, 3) := by decide +kernel
theorem dX4_transfer_22 : decode cX4_transfer 22 = .ok (.iload_n 2, 1) := by decide +kernel
theorem dX4_transfer_23 : decode cX4_transfer 23 = .ok (.invokevirtual 55, 3) := by decide +kernel
theorem dX4_transfer_26 : decode cX4_transfer 26 = .ok (.invokevirtual 58, 3) := by decide +kernel
theorem dX4_transfer_29 : decode cX4_transfer 29 = .ok (.goto 19, 3) := by decide +kernel
theorem dX4_transfer_32 : decode cX4_transfer 32 = .ok (.aload_n 0, 1) := by decide +kernel
theorem dX4_transfer_33 : decode cX4_transfer 33 = .ok (.getfield 16, 3) := by decide +kernel
theorem dX4_transfer_36 : decode cX4_transfer 36 = .ok (.iload_n 2, 1) := by decide +kernel
theorem dX4_transfer_37 : decode cX4_transfer 37 = .ok (.aload_n 0, 1) := by decide +kernel
theorem dX4_transfer_38 : decode cX4_transfer 38 = .ok (.getfield 16, 3) := by decide +kernel
theorem dX4_transfer_41 : decode cX4_transfer 41 = .ok (.iload_n 3, 1) := by decide +kernel
theorem dX4_transfer_42 : decode cX4_transfer 42 = .ok (.invokevirtual 55, 3) := by decide +kernel
theorem dX4_transfer_45 : decode cX4_transfer 45 = .ok (.invokevirtual 58, 3) := by decide +kernel
theorem dX4_transfer_48 : decode cX4_transfer 48 = .ok (.return_, 1) := by decide +kernel
set_option maxRecDepth 20000 in
theorem ggX4_moveAtNext_X4_cellAt : GoodIn wsX4_moveAtNext wsX4_cellAt := goodIn_r _ [6, 7, 31, 32, 33, 34, 35, 36, 37, 38] (by decide +kernel) (by decide +kernel)
set_option maxRecDepth 20000 in
theorem gX4_moveAtNext_X4_cellAt : GoodIn wsX4_moveAtNext (wsV RX4 51 RX4 yX4_cellAt wsX4_cellAt) := goodIn_app (goodIn_of _ (by decide +kernel)) ggX4_moveAtNext_X4_cellAt
set_option maxRecDepth 20000 in
theorem ggX4_moveAtNext_X4_transfer : GoodIn wsX4_moveAtNext wsX4_transfer := goodIn_r _ [11, 12, 13, 14, 15, 16, 17, 18, 19, 20, 21, 22, 23, 24, 25, 26, 31, 32, 33, 34, 35, 36, 37, 38, 39] (by decide +kernel) (by decide +kernel)
set_option maxRecDepth 20000 in
theorem gX4_moveAtNext_X4_transfer : GoodIn wsX4_moveAtNext (wsV RX4 229 RX4 yX4_transfer wsX4_transfer) := goodIn_app (goodIn_of _ (by decide +kernel)) ggX4_moveAtNext_X4_transfer
set_option maxRecDepth 20000 in
theorem ggX4_moveAtNext_X4_onward : GoodIn wsX4_moveAtNext wsX4_onward := goodIn_r _ [30, 1, 31, 32, 33, 34, 35, 36, 37, 38] (by decide +kernel) (by decide +kernel)
set_option maxRecDepth 20000 in
theorem gX4_moveAtNext_X4_onward : GoodIn wsX4_moveAtNext (wsV RX4 102 RX4 yX4_onward wsX4_onward) := goodIn_app (goodIn_of _ (by decide +kernel)) ggX4_moveAtNext_X4_onward
theorem dX4_moveAtNext_0 : decode cX4_moveAtNext 0 = .ok (.aload_n 0, 1) := by decide +kernel
theorem dX4_moveAtNext_1 : decode cX4_moveAtNext 1 = .ok (.aload_n 0, 1) := by decide +kernel
theorem dX4_moveAtNext_2 : decode cX4_moveAtNext 2 = .ok (.getfield 32, 3) := by decide +kernel
theorem dX4_moveAtNext_5 : decode cX4_moveAtNext 5 = .ok (.iconst 1, 1) := by decide +kernel
theorem dX4_moveAtNext_6 : decode cX4_moveAtNext 6 = .ok (.iadd, 1) := by decide +kernel
theorem dX4_moveAtNext_7 : decode cX4_moveAtNext 7 = .ok (.invokevirtual 51, 3) := by decide +kernel
theorem dX4_moveAtNext_10 : decode cX4_moveAtNext 10 = .ok (.istore_n 2, 1) := by decide +kernel
theorem dX4_moveAtNext_11 : decode cX4_moveAtNext 11 = .ok (.iload_n 2, 1) := by decide +kernel
theorem dX4_moveAtNext_12 : decode cX4_moveAtNext 12 = .ok (.sipush 1023, 3) := by decide +kernel
theorem dX4_moveAtNext_15 : decode cX4_moveAtNext 15 = .ok (.if_icmp .le 5, 3) := by decide +kernel
theorem dX4_moveAtNext_18 : decode cX4_moveAtNext 18 = .ok (.iconst 3, 1) := by decide +kernel
theorem dX4_moveAtNext_19 : decode cX4_moveAtNext 19 = .ok (.ireturn, 1) := by decide +kernel
theorem dX4_moveAtNext_20 : decode cX4_moveAtNext 20 = .ok (.aload_n 0, 1) := by decide +kernel
theorem dX4_moveAtNext_21 : decode cX4_moveAtNext 21 = .ok (.iload_n 1, 1) := by decide +kernel
theorem dX4_moveAtNext_22 : decode cX4_moveAtNext 22 = .ok (.iload_n 2, 1) := by decide +kernel
theorem dX4_moveAtNext_23 : decode cX4_moveAtNext 23 = .ok (.invokevirtual 229, 3) := by decide +kernel
theorem dX4_moveAtNext_26 : decode cX4_moveAtNext 26 = .ok (.aload_n 0, 1) := by decide +kernel
theorem dX4_moveAtNext_27 : decode cX4_moveAtNext 27 = .ok (.iconst 2, 1) := by decide +kernel
theorem dX4_moveAtNext_28 : decode cX4_moveAtNext 28 = .ok (.invokevirtual 102, 3) := by decide +kernel
theorem dX4_moveAtNext_31 : decode cX4_moveAtNext 31 = .ok (.ireturn, 1) := by decide +kernel
set_option maxRecDepth 20000 in
theorem ggX4_movePointed_X3_pointer : GoodIn wsX4_movePointed wsX3_pointer := goodIn_r _ [6] (by decide +kernel) (by decide +kernel)
set_option maxRecDepth 20000 in
theorem gX4_movePointed_X3_pointer : GoodIn wsX4_movePointed (va_wsS RX4 232 yX3_pointer wsX3_pointer) := goodIn_app (goodIn_of _ (by decide +kernel)) ggX4_movePointed_X3_pointer
set_option maxRecDepth 20000 in
theorem ggX4_movePointed_X0_pair : GoodIn wsX4_movePointed wsX0_pair := goodIn_r _ [11, 12, 46] (by decide +kernel) (by decide +kernel)
set_option maxRecDepth 20000 in
theorem gX4_movePointed_X0_pair : GoodIn wsX4_movePointed (wsV RX4 62 RX0 yX0_pair wsX0_pair) := goodIn_app (goodIn_of _ (by decide +kernel)) ggX4_movePointed_X0_pair
set_option maxRecDepth 20000 in
theorem ggX4_movePointed_X0_setPair : GoodIn wsX4_movePointed wsX0_setPair := goodIn_r _ [16, 12, 46] (by decide +kernel) (by decide +kernel)
set_option maxRecDepth 20000 in
theorem gX4_movePointed_X0_setPair : GoodIn wsX4_movePointed (wsV RX4 170 RX0 yX0_setPair wsX0_setPair) := goodIn_app (goodIn_of _ (by decide +kernel)) ggX4_movePointed_X0_setPair
set_option maxRecDepth 20000 in
theorem ggX4_movePointed_X4_transfer : GoodIn wsX4_movePointed wsX4_transfer := goodIn_r _ [21, 1, 22, 23, 5, 24, 25, 26, 27, 10, 28, 12, 29, 30, 31, 32, 38, 39, 40, 41, 42, 43, 44, 45, 46] (by decide +kernel) (by decide +kernel)
set_option maxRecDepth 20000 in
theorem gX4_movePointed_X4_transfer : GoodIn wsX4_movePointed (wsV RX4 229 RX4 yX4_transfer wsX4_transfer) := goodIn_app (goodIn_of _ (by decide +kernel)) ggX4_movePointed_X4_transfer
set_option maxRecDepth 20000 in
theorem ggX4_movePointed_X4_onward : GoodIn wsX4_movePointed wsX4_onward := goodIn_r _ [36, 37, 38, 39, 40, 41, 42, 43, 44, 45] (by decide +kernel) (by decide +kernel)
set_option maxRecDepth 20000 in
theorem gX4_movePointed_X4_onward : GoodIn wsX4_movePointed (wsV RX4 102 RX4 yX4_onward wsX4_onward) := goodIn_app (goodIn_of _ (by decide +kernel)) ggX4_movePointed_X4_onward
theorem dX4_movePointed_0 : decode cX4_movePointed 0 = .ok (.iload_n 1, 1) := by decide +kernel
theorem dX4_movePointed_1 : decode cX4_movePointed 1 = .ok (.invokestatic 232, 3) := by decide +kernel
theorem dX4_movePointed_4 : decode cX4_movePointed 4 = .ok (.istore_n 2, 1) := by decide +kernel
theorem dX4_movePointed_5 : decode cX4_movePointed 5 = .ok (.aload_n 0, 1) := by decide +kernel
theorem dX4_movePointed_6 : decode cX4_movePointed 6 = .ok (.getfield 16, 3) := by decide +kernel
theorem dX4_movePointed_9 : decode cX4_movePointed 9 = .ok (.iload_n 2, 1) := by decide +kernel
theorem dX4_movePointed_10 : decode cX4_movePointed 10 = .ok (.invokevirtual 62, 3) := by decide +kernel
theorem dX4_movePointed_13 : decode cX4_movePointed 13 = .ok (.istore_n 3, 1) := by decide +kernel
theorem dX4_movePointed_14 : decode cX4_movePointed 14 = .ok (.iload_n 1, 1) := by decide +kernel
theorem dX4_movePointed_15 : decode cX4_movePointed 15 = .ok (.iconst 3, 1) := by decide +kernel
theorem dX4_movePointed_16 : decode cX4_movePointed 16 = .ok (.iand, 1) := by decide +kernel
theorem dX4_movePointed_17 : decode cX4_movePointed 17 = .ok (.iconst 2, 1) := by decide +kernel
theorem dX4_movePointed_18 : decode cX4_movePointed 18 = .ok (.if_icmp .ne 7, 3) := by decide +kernel
theorem dX4_movePointed_21 : decode cX4_movePointed 21 = .ok (.iconst 1, 1) := by decide +kernel
theorem dX4_movePointed_22 : decode cX4_movePointed 22 = .ok (.goto 4, 3) := by decide +kernel
theorem dX4_movePointed_25 : decode cX4_movePointed 25 = .ok (.iconst 0, 1) := by decide +kernel
theorem dX4_movePointed_26 : decode cX4_movePointed 26 = .ok (.istore 4, 2) := by decide +kernel
theorem dX4_movePointed_28 : decode cX4_movePointed 28 = .ok (.iload_n 1, 1) := by decide +kernel
theorem dX4_movePointed_29 : decode cX4_movePointed 29 = .ok (.iconst 3, 1) := by decide +kernel
theorem dX4_movePointed_30 : decode cX4_movePointed 30 = .ok (.iand, 1) := by decide +kernel
theorem dX4_movePointed_31 : decode cX4_movePointed 31 = .ok (.iconst 1, 1) := by decide +kernel
theorem dX4_movePointed_32 : decode cX4_movePointed 32 = .ok (.if_icmp .ne 7, 3) := by decide +kernel
theorem dX4_movePointed_35 : decode cX4_movePointed 35 = .ok (.iconst 1, 1) := by decide +kernel
theorem dX4_movePointed_36 : decode cX4_movePointed 36 = .ok (.goto 4, 3) := by decide +kernel
theorem dX4_movePointed_39 : decode cX4_movePointed 39 = .ok (.iconst 0, 1) := by decide +kernel
theorem dX4_movePointed_40 : decode cX4_movePointed 40 = .ok (.istore 5, 2) := by decide +kernel
theorem dX4_movePointed_42 : decode cX4_movePointed 42 = .ok (.iload 4, 2) := by decide +kernel
theorem dX4_movePointed_44 : decode cX4_movePointed 44 = .ok (.ifCond .eq 12, 3) := by decide +kernel
theorem dX4_movePointed_47 : decode cX4_movePointed 47 = .ok (.iload_n 3, 1) := by decide +kernel
theorem dX4_movePointed_48 : decode cX4_movePointed 48 = .ok (.iconst 1, 1) := by decide +kernel
theorem dX4_movePointed_49 : decode cX4_movePointed 49 = .ok (.isub, 1) := by decide +kernel
theorem dX4_movePointed_50 : decode cX4_movePointed 50 = .ok (.ldc 50, 2) := by decide +kernel
theorem dX4_movePointed_52 : decode cX4_movePointed 52 = .ok (.iand, 1) := by decide +kernel
theorem dX4_movePointed_53 : decode cX4_movePointed 53 = .ok (.goto 4, 3) := by decide +kernel
theorem dX4_movePointed_56 : decode cX4_movePointed 56 = .ok (.iload_n 3, 1) := by decide +kernel
theorem dX4_movePointed_57 : decode cX4_movePointed 57 = .ok (.istore 6, 2) := by decide +kernel
theorem dX4_movePointed_59 : decode cX4_movePointed 59 = .ok (.iload 6, 2) := by decide +kernel
theorem dX4_movePointed_61 : decode cX4_movePointed 61 = .ok (.sipush 1023, 3) := by decide +kernel
theorem dX4_movePointed_64 : decode cX4_movePointed 64 = .ok (.if_icmp .le 5, 3) := by decide +kernel
theorem dX4_movePointed_67 : decode cX4_movePointed 67 = .ok (.iconst 3, 1) := by decide +kernel
theorem dX4_movePointed_68 : decode cX4_movePointed 68 = .ok (.ireturn, 1) := by decide +kernel
theorem dX4_movePointed_69 : decode cX4_movePointed 69 = .ok (.iload 4, 2) := by decide +kernel
theorem dX4_movePointed_71 : decode cX4_movePointed 71 = .ok (.ifCond .eq 13, 3) := by decide +kernel
theorem dX4_movePointed_74 : decode cX4_movePointed 74 = .ok (.aload_n 0, 1) := by decide +kernel
theorem dX4_movePointed_75 : decode cX4_movePointed 75 = .ok (.getfield 16, 3) := by decide +kernel
theorem dX4_movePointed_78 : decode cX4_movePointed 78 = .ok (.iload_n 2, 1) := by decide +kernel
theorem dX4_movePointed_79 : decode cX4_movePointed 79 = .ok (.iload 6, 2) := by decide +kernel
theorem dX4_movePointed_81 : decode cX4_movePointed 81 = .ok (.invokevirtual 170, 3) := by decide +kernel
theorem dX4_movePointed_84 : decode cX4_movePointed 84 = .ok (.aload_n 0, 1) := by decide +kernel
theorem dX4_movePointed_85 : decode cX4_movePointed 85 = .ok (.iload_n 1, 1) := by decide +kernel
theorem dX4_movePointed_86 : decode cX4_movePointed 86 = .ok (.iload 6, 2) := by decide +kernel
theorem dX4_movePointed_88 : decode cX4_movePointed 88 = .ok (.invokevirtual 229, 3) := by decide +kernel
theorem dX4_movePointed_91 : decode cX4_movePointed 91 = .ok (.iload 5, 2) := by decide +kernel
theorem dX4_movePointed_93 : decode cX4_movePointed 93 = .ok (.ifCond .eq 14, 3) := by decide +kernel
theorem dX4_movePointed_96 : decode cX4_movePointed 96 = .ok (.aload_n 0, 1) := by decide +kernel
theorem dX4_movePointed_97 : decode cX4_movePointed 97 = .ok (.getfield 16, 3) := by decide +kernel
theorem dX4_movePointed_100 : decode cX4_movePointed 100 = .ok (.iload_n 2, 1) := by decide +kernel
theorem dX4_movePointed_101 : decode cX4_movePointed 101 = .ok (.iload_n 3, 1) := by decide +kernel
theorem dX4_movePointed_102 : decode cX4_movePointed 102 = .ok (.iconst 1, 1) := by decide +kernel
theorem dX4_movePointed_103 : decode cX4_movePointed 103 = .ok (.iadd, 1) := by decide +kernel
theorem dX4_movePointed_104 : decode cX4_movePointed 104 = .ok (.invokevirtual 170, 3) := by decide +kernel
theorem dX4_movePointed_107 : decode cX4_movePointed 107 = .ok (.aload_n 0, 1) := by decide +kernel
theorem dX4_movePointed_108 : decode cX4_movePointed 108 = .ok (.iconst 1, 1) := by decide +kernel
theorem dX4_movePointed_109 : decode cX4_movePointed 109 = .ok (.invokevirtual 102, 3) := by decide +kernel
theorem dX4_movePointed_112 : decode cX4_movePointed 112 = .ok (.ireturn, 1) := by decide +kernel
set_option maxRecDepth 20000 in
theorem ggX4_moveStacked_X0_pair : GoodIn wsX4_moveStacked wsX0_pair := goodIn_r _ [7, 8, 50] (by decide +kernel) (by decide +kernel)
set_option maxRecDepth 20000 in
theorem gX4_moveStacked_X0_pair : GoodIn wsX4_moveStacked (wsV RX4 62 RX0 yX0_pair wsX0_pair) := goodIn_app (goodIn_of _ (by decide +kernel)) ggX4_moveStacked_X0_pair
set_option maxRecDepth 20000 in
theorem ggX4_moveStacked_X3_d : GoodIn wsX4_moveStacked wsX3_d := goodIn_r _ [12] (by decide +kernel) (by decide +kernel)
set_option maxRecDepth 20000 in
theorem gX4_moveStacked_X3_d : GoodIn wsX4_moveStacked (va_wsS RX4 173 yX3_d wsX3_d) := goodIn_app (goodIn_of _ (by decide +kernel)) ggX4_moveStacked_X3_d
set_option maxRecDepth 20000 in
theorem ggX4_moveStacked_X0_pull : GoodIn wsX4_moveStacked wsX0_pull := goodIn_r _ [16, 17, 4, 5, 6, 7, 8, 18, 19, 20, 21, 22, 23, 24, 25, 50] (by decide +kernel) (by decide +kernel)
set_option maxRecDepth 20000 in
theorem gX4_moveStacked_X0_pull : GoodIn wsX4_moveStacked (wsV RX4 235 RX0 yX0_pull wsX0_pull) := goodIn_app (goodIn_of _ (by decide +kernel)) ggX4_moveStacked_X0_pull
set_option maxRecDepth 20000 in
theorem ggX4_moveStacked_X0_set : GoodIn wsX4_moveStacked wsX0_set := goodIn_r _ [29, 8, 50] (by decide +kernel) (by decide +kernel)
set_option maxRecDepth 20000 in
theorem gX4_moveStacked_X0_set : GoodIn wsX4_moveStacked (wsV RX4 58 RX0 yX0_set wsX0_set) := goodIn_app (goodIn_of _ (by decide +kernel)) ggX4_moveStacked_X0_set
set_option maxRecDepth 20000 in
theorem ggX4_moveStacked_X0_get : GoodIn wsX4_moveStacked wsX0_get := goodIn_r _ [25, 8, 50] (by decide +kernel) (by decide +kernel)
set_option maxRecDepth 20000 in
theorem gX4_moveStacked_X0_get : GoodIn wsX4_moveStacked (wsV RX4 55 RX0 yX0_get wsX0_get) := goodIn_app (goodIn_of _ (by decide +kernel)) ggX4_moveStacked_X0_get
set_option maxRecDepth 20000 in
theorem ggX4_moveStacked_X0_push : GoodIn wsX4_moveStacked wsX0_push := goodIn_r _ [34, 17, 4, 5, 6, 7, 8, 35, 27, 28, 29, 18, 19, 20, 21, 50] (by decide +kernel) (by decide +kernel)
set_option maxRecDepth 20000 in
theorem gX4_moveStacked_X0_push : GoodIn wsX4_moveStacked (wsV RX4 238 RX0 yX0_push wsX0_push) := goodIn_app (goodIn_of _ (by decide +kernel)) ggX4_moveStacked_X0_push
set_option maxRecDepth 20000 in
theorem ggX4_moveStacked_X4_onward : GoodIn wsX4_moveStacked wsX4_onward := goodIn_r _ [40, 41, 42, 43, 44, 45, 46, 47, 48, 49] (by decide +kernel) (by decide +kernel)
set_option maxRecDepth 20000 in
theorem gX4_moveStacked_X4_onward : GoodIn wsX4_moveStacked (wsV RX4 102 RX4 yX4_onward wsX4_onward) := goodIn_app (goodIn_of _ (by decide +kernel)) ggX4_moveStacked_X4_onward
theorem dX4_moveStacked_0 : decode cX4_moveStacked 0 = .ok (.iload_n 1, 1) := by decide +kernel
theorem dX4_moveStacked_1 : decode cX4_moveStacked 1 = .ok (.sipush 512, 3) := by decide +kernel
theorem dX4_moveStacked_4 : decode cX4_moveStacked 4 = .ok (.iand, 1) := by decide +kernel
theorem dX4_moveStacked_5 : decode cX4_moveStacked 5 = .ok (.ifCond .ne 7, 3) := by decide +kernel
theorem dX4_moveStacked_8 : decode cX4_moveStacked 8 = .ok (.iconst 1, 1) := by decide +kernel
theorem dX4_moveStacked_9 : decode cX4_moveStacked 9 = .ok (.goto 4, 3) := by decide +kernel
theorem dX4_moveStacked_12 : decode cX4_moveStacked 12 = .ok (.iconst 0, 1) := by decide +kernel
theorem dX4_moveStacked_13 : decode cX4_moveStacked 13 = .ok (.istore_n 2, 1) := by decide +kernel
theorem dX4_moveStacked_14 : decode cX4_moveStacked 14 = .ok (.aload_n 0, 1) := by decide +kernel
theorem dX4_moveStacked_15 : decode cX4_moveStacked 15 = .ok (.getfield 16, 3) := by decide +kernel
theorem dX4_moveStacked_18 : decode cX4_moveStacked 18 = .ok (.bipush 93, 2) := by decide +kernel
theorem dX4_moveStacked_20 : decode cX4_moveStacked 20 = .ok (.invokevirtual 62, 3) := by decide +kernel
theorem dX4_moveStacked_23 : decode cX4_moveStacked 23 = .ok (.iload_n 2, 1) := by decide +kernel
theorem dX4_moveStacked_24 : decode cX4_moveStacked 24 = .ok (.ifCond .eq 7, 3) := by decide +kernel
theorem dX4_moveStacked_27 : decode cX4_moveStacked 27 = .ok (.iconst 1, 1) := by decide +kernel
theorem dX4_moveStacked_28 : decode cX4_moveStacked 28 = .ok (.goto 4, 3) := by decide +kernel
theorem dX4_moveStacked_31 : decode cX4_moveStacked 31 = .ok (.iconst 0, 1) := by decide +kernel
theorem dX4_moveStacked_32 : decode cX4_moveStacked 32 = .ok (.iadd, 1) := by decide +kernel
theorem dX4_moveStacked_33 : decode cX4_moveStacked 33 = .ok (.ldc 50, 2) := by decide +kernel
theorem dX4_moveStacked_35 : decode cX4_moveStacked 35 = .ok (.iand, 1) := by decide +kernel
theorem dX4_moveStacked_36 : decode cX4_moveStacked 36 = .ok (.istore_n 3, 1) := by decide +kernel
theorem dX4_moveStacked_37 : decode cX4_moveStacked 37 = .ok (.iload_n 3, 1) := by decide +kernel
theorem dX4_moveStacked_38 : decode cX4_moveStacked 38 = .ok (.sipush 1023, 3) := by decide +kernel
theorem dX4_moveStacked_41 : decode cX4_moveStacked 41 = .ok (.if_icmp .le 5, 3) := by decide +kernel
theorem dX4_moveStacked_44 : decode cX4_moveStacked 44 = .ok (.iconst 3, 1) := by decide +kernel
theorem dX4_moveStacked_45 : decode cX4_moveStacked 45 = .ok (.ireturn, 1) := by decide +kernel
theorem dX4_moveStacked_46 : decode cX4_moveStacked 46 = .ok (.iload_n 1, 1) := by decide +kernel
theorem dX4_moveStacked_47 : decode cX4_moveStacked 47 = .ok (.invokestatic 173, 3) := by decide +kernel
theorem dX4_moveStacked_50 : decode cX4_moveStacked 50 = .ok (.istore 4, 2) := by decide +kernel
theorem dX4_moveStacked_52 : decode cX4_moveStacked 52 = .ok (.iload_n 2, 1) := by decide +kernel
theorem dX4_moveStacked_53 : decode cX4_moveStacked 53 = .ok (.ifCond .eq 22, 3) := by decide +kernel
theorem dX4_moveStacked_56 : decode cX4_moveStacked 56 = .ok (.aload_n 0, 1) := by decide +kernel
theorem dX4_moveStacked_57 : decode cX4_moveStacked 57 = .ok (.getfield 16, 3) := by decide +kernel
theorem dX4_moveStacked_60 : decode cX4_moveStacked 60 = .ok (.iload 4, 2) := by decide +kernel
theorem dX4_moveStacked_62 : decode cX4_moveStacked 62 = .ok (.aload_n 0, 1) := by decide +kernel
theorem dX4_moveStacked_63 : decode cX4_moveStacked 63 = .ok (.getfield 16, 3) := by decide +kernel
theorem dX4_moveStacked_66 : decode cX4_moveStacked 66 = .ok (.invokevirtual 235, 3) := by decide +kernel
theorem dX4_moveStacked_69 : decode cX4_moveStacked 69 = .ok (.invokevirtual 58, 3) := by decide +kernel
theorem dX4_moveStacked_72 : decode cX4_moveStacked 72 = .ok (.goto 19, 3) := by decide +kernel
theorem dX4_moveStacked_75 : decode cX4_moveStacked 75 = .ok (.aload_n 0, 1) := by decide +kernel
theorem dX4_moveStacked_76 : decode cX4_moveStacked 76 = .ok (.getfield 16, 3) := by decide +kernel
theorem dX4_moveStacked_79 : decode cX4_moveStacked 79 = .ok (.aload_n 0, 1) := by decide +kernel
theorem dX4_moveStacked_80 : decode cX4_moveStacked 80 = .ok (.getfield 16, 3) := by decide +kernel
theorem dX4_moveStacked_83 : decode cX4_moveStacked 83 = .ok (.iload 4, 2) := by decide +kernel
theorem dX4_moveStacked_85 : decode cX4_moveStacked 85 = .ok (.invokevirtual 55, 3) := by decide +kernel
theorem dX4_moveStacked_88 : decode cX4_moveStacked 88 = .ok (.invokevirtual 238, 3) := by decide +kernel
theorem dX4_moveStacked_91 : decode cX4_moveStacked 91 = .ok (.aload_n 0, 1) := by decide +kernel
theorem dX4_moveStacked_92 : decode cX4_moveStacked 92 = .ok (.iconst 1, 1) := by decide +kernel
theorem dX4_moveStacked_93 : decode cX4_moveStacked 93 = .ok (.invokevirtual 102, 3) := by decide +kernel
theorem dX4_moveStacked_96 : decode cX4_moveStacked 96 = .ok (.ireturn, 1) := by decide +kernel
set_option maxRecDepth 20000 in
theorem ggX4_moveBeside_X0_pair : GoodIn wsX4_moveBeside wsX0_pair := goodIn_r _ [7, 8, 39] (by decide +kernel) (by decide +kernel)
set_option maxRecDepth 20000 in
theorem gX4_moveBeside_X0_pair : GoodIn wsX4_moveBeside (wsV RX4 62 RX0 yX0_pair wsX0_pair) := goodIn_app (goodIn_of _ (by decide +kernel)) ggX4_moveBeside_X0_pair
set_option maxRecDepth 20000 in
theorem ggX4_moveBeside_X4_transfer : GoodIn wsX4_moveBeside wsX4_transfer := goodIn_r _ [13, 1, 14, 15, 16, 17, 18, 19, 20, 6, 21, 8, 22, 23, 24, 25, 31, 32, 33, 34, 35, 36, 37, 38, 39] (by decide +kernel) (by decide +kernel)
set_option maxRecDepth 20000 in
theorem gX4_moveBeside_X4_transfer : GoodIn wsX4_moveBeside (wsV RX4 229 RX4 yX4_transfer wsX4_transfer) := goodIn_app (goodIn_of _ (by decide +kernel)) ggX4_moveBeside_X4_transfer
set_option maxRecDepth 20000 in
theorem ggX4_moveBeside_X4_onward : GoodIn wsX4_moveBeside wsX4_onward := goodIn_r _ [29, 30, 31, 32, 33, 34, 35, 36, 37, 38] (by decide +kernel) (by decide +kernel)
set_option maxRecDepth 20000 in
theorem gX4_moveBeside_X4_onward : GoodIn wsX4_moveBeside (wsV RX4 102 RX4 yX4_onward wsX4_onward) := goodIn_app (goodIn_of _ (by decide +kernel)) ggX4_moveBeside_X4_onward
theorem dX4_moveBeside_0 : decode cX4_moveBeside 0 = .ok (.iload_n 1, 1) := by decide +kernel
theorem dX4_moveBeside_1 : decode cX4_moveBeside 1 = .ok (.bipush 8, 2) := by decide +kernel
theorem dX4_moveBeside_3 : decode cX4_moveBeside 3 = .ok (.iand, 1) := by decide +kernel
theorem dX4_moveBeside_4 : decode cX4_moveBeside 4 = .ok (.ifCond .ne 8, 3) := by decide +kernel
theorem dX4_moveBeside_7 : decode cX4_moveBeside 7 = .ok (.bipush 30, 2) := by decide +kernel
theorem dX4_moveBeside_9 : decode cX4_moveBeside 9 = .ok (.goto 5, 3) := by decide +kernel
theorem dX4_moveBeside_12 : decode cX4_moveBeside 12 = .ok (.bipush 28, 2) := by decide +kernel
theorem dX4_moveBeside_14 : decode cX4_moveBeside 14 = .ok (.istore_n 2, 1) := by decide +kernel
theorem dX4_moveBeside_15 : decode cX4_moveBeside 15 = .ok (.iload_n 1, 1) := by decide +kernel
theorem dX4_moveBeside_16 : decode cX4_moveBeside 16 = .ok (.bipush 8, 2) := by decide +kernel
theorem dX4_moveBeside_18 : decode cX4_moveBeside 18 = .ok (.ishr, 1) := by decide +kernel
theorem dX4_moveBeside_19 : decode cX4_moveBeside 19 = .ok (.bipush 32, 2) := by decide +kernel
theorem dX4_moveBeside_21 : decode cX4_moveBeside 21 = .ok (.iand, 1) := by decide +kernel
theorem dX4_moveBeside_22 : decode cX4_moveBeside 22 = .ok (.iload_n 1, 1) := by decide +kernel
theorem dX4_moveBeside_23 : decode cX4_moveBeside 23 = .ok (.bipush 7, 2) := by decide +kernel
theorem dX4_moveBeside_25 : decode cX4_moveBeside 25 = .ok (.ishr, 1) := by decide +kernel
theorem dX4_moveBeside_26 : decode cX4_moveBeside 26 = .ok (.bipush 24, 2) := by decide +kernel
theorem dX4_moveBeside_28 : decode cX4_moveBeside 28 = .ok (.iand, 1) := by decide +kernel
theorem dX4_moveBeside_29 : decode cX4_moveBeside 29 = .ok (.ior, 1) := by decide +kernel
theorem dX4_moveBeside_30 : decode cX4_moveBeside 30 = .ok (.iload_n 1, 1) := by decide +kernel
theorem dX4_moveBeside_31 : decode cX4_moveBeside 31 = .ok (.bipush 7, 2) := by decide +kernel
theorem dX4_moveBeside_33 : decode cX4_moveBeside 33 = .ok (.iand, 1) := by decide +kernel
theorem dX4_moveBeside_34 : decode cX4_moveBeside 34 = .ok (.ior, 1) := by decide +kernel
theorem dX4_moveBeside_35 : decode cX4_moveBeside 35 = .ok (.istore_n 3, 1) := by decide +kernel
theorem dX4_moveBeside_36 : decode cX4_moveBeside 36 = .ok (.aload_n 0, 1) := by decide +kernel
theorem dX4_moveBeside_37 : decode cX4_moveBeside 37 = .ok (.getfield 16, 3) := by decide +kernel
theorem dX4_moveBeside_40 : decode cX4_moveBeside 40 = .ok (.iload_n 2, 1) := by decide +kernel
theorem dX4_moveBeside_41 : decode cX4_moveBeside 41 = .ok (.invokevirtual 62, 3) := by decide +kernel
theorem dX4_moveBeside_44 : decode cX4_moveBeside 44 = .ok (.iload_n 3, 1) := by decide +kernel
theorem dX4_moveBeside_45 : decode cX4_moveBeside 45 = .ok (.iadd, 1) := by decide +kernel
theorem dX4_moveBeside_46 : decode cX4_moveBeside 46 = .ok (.ldc 50, 2) := by decide +kernel
theorem dX4_moveBeside_48 : decode cX4_moveBeside 48 = .ok (.iand, 1) := by decide +kernel
theorem dX4_moveBeside_49 : decode cX4_moveBeside 49 = .ok (.istore 4, 2) := by decide +kernel
theorem dX4_moveBeside_51 : decode cX4_moveBeside 51 = .ok (.iload 4, 2) := by decide +kernel
theorem dX4_moveBeside_53 : decode cX4_moveBeside 53 = .ok (.sipush 1023, 3) := by decide +kernel
theorem dX4_moveBeside_56 : decode cX4_moveBeside 56 = .ok (.if_icmp .le 5, 3) := by decide +kernel
theorem dX4_moveBeside_59 : decode cX4_moveBeside 59 = .ok (.iconst 3, 1) := by decide +kernel
theorem dX4_moveBeside_60 : decode cX4_moveBeside 60 = .ok (.ireturn, 1) := by decide +kernel
theorem dX4_moveBeside_61 : decode cX4_moveBeside 61 = .ok (.aload_n 0, 1) := by decide +kernel
theorem dX4_moveBeside_62 : decode cX4_moveBeside 62 = .ok (.iload_n 1, 1) := by decide +kernel
theorem dX4_moveBeside_63 : decode cX4_moveBeside 63 = .ok (.iload 4, 2) := by decide +kernel
theorem dX4_moveBeside_65 : decode cX4_moveBeside 65 = .ok (.invokevirtual 229, 3) := by decide +kernel
theorem dX4_moveBeside_68 : decode cX4_moveBeside 68 = .ok (.aload_n 0, 1) := by decide +kernel
theorem dX4_moveBeside_69 : decode cX4_moveBeside 69 = .ok (.iconst 1, 1) := by decide +kernel
theorem dX4_moveBeside_70 : decode cX4_moveBeside 70 = .ok (.invokevirtual 102, 3) := by decide +kernel
theorem dX4_moveBeside_73 : decode cX4_moveBeside 73 = .ok (.ireturn, 1) := by decide +kernel
set_option maxRecDepth 20000 in
theorem ggX4_moveFromCode_X0_pair : GoodIn wsX4_moveFromCode wsX0_pair := goodIn_r _ [7, 8, 40] (by decide +kernel) (by decide +kernel)
set_option maxRecDepth 20000 in
theorem gX4_moveFromCode_X0_pair : GoodIn wsX4_moveFromCode (wsV RX4 62 RX0 yX0_pair wsX0_pair) := goodIn_app (goodIn_of _ (by decide +kernel)) ggX4_moveFromCode_X0_pair
set_option maxRecDepth 20000 in
theorem ggX4_moveFromCode_X4_cellAt : GoodIn wsX4_moveFromCode wsX4_cellAt := goodIn_r _ [13, 14, 32, 33, 34, 35, 36, 37, 38, 39] (by decide +kernel) (by decide +kernel)
set_option maxRecDepth 20000 in
theorem gX4_moveFromCode_X4_cellAt : GoodIn wsX4_moveFromCode (wsV RX4 51 RX4 yX4_cellAt wsX4_cellAt) := goodIn_app (goodIn_of _ (by decide +kernel)) ggX4_moveFromCode_X4_cellAt
set_option maxRecDepth 20000 in
theorem ggX4_moveFromCode_X3_d : GoodIn wsX4_moveFromCode wsX3_d := goodIn_r _ [18] (by decide +kernel) (by decide +kernel)
set_option maxRecDepth 20000 in
theorem gX4_moveFromCode_X3_d : GoodIn wsX4_moveFromCode (va_wsS RX4 173 yX3_d wsX3_d) := goodIn_app (goodIn_of _ (by decide +kernel)) ggX4_moveFromCode_X3_d
set_option maxRecDepth 20000 in
theorem ggX4_moveFromCode_X0_set : GoodIn wsX4_moveFromCode wsX0_set := goodIn_r _ [22, 8, 40] (by decide +kernel) (by decide +kernel)
set_option maxRecDepth 20000 in
theorem gX4_moveFromCode_X0_set : GoodIn wsX4_moveFromCode (wsV RX4 58 RX0 yX0_set wsX0_set) := goodIn_app (goodIn_of _ (by decide +kernel)) ggX4_moveFromCode_X0_set
set_option maxRecDepth 20000 in
theorem ggX4_moveFromCode_X0_setPair : GoodIn wsX4_moveFromCode wsX0_setPair := goodIn_r _ [26, 8, 40] (by decide +kernel) (by decide +kernel)
set_option maxRecDepth 20000 in
theorem gX4_moveFromCode_X0_setPair : GoodIn wsX4_moveFromCode (wsV RX4 170 RX0 yX0_setPair wsX0_setPair) := goodIn_app (goodIn_of _ (by decide +kernel)) ggX4_moveFromCode_X0_setPair
set_option maxRecDepth 20000 in
theorem ggX4_moveFromCode_X4_onward : GoodIn wsX4_moveFromCode wsX4_onward := goodIn_r _ [30, 31, 32, 33, 34, 35, 36, 37, 38, 39] (by decide +kernel) (by decide +kernel)
set_option maxRecDepth 20000 in
theorem gX4_moveFromCode_X4_onward : GoodIn wsX4_moveFromCode (wsV RX4 102 RX4 yX4_onward wsX4_onward) := goodIn_app (goodIn_of _ (by decide +kernel)) ggX4_moveFromCode_X4_onward
theorem dX4_moveFromCode_0 : decode cX4_moveFromCode 0 = .ok (.aload_n 0, 1) := by decide +kernel
theorem dX4_moveFromCode_1 : decode cX4_moveFromCode 1 = .ok (.getfield 16, 3) := by decide +kernel
theorem dX4_moveFromCode_4 : decode cX4_moveFromCode 4 = .ok (.bipush 30, 2) := by decide +kernel
theorem dX4_moveFromCode_6 : decode cX4_moveFromCode 6 = .ok (.invokevirtual 62, 3) := by decide +kernel
theorem dX4_moveFromCode_9 : decode cX4_moveFromCode 9 = .ok (.istore_n 2, 1) := by decide +kernel
theorem dX4_moveFromCode_10 : decode cX4_moveFromCode 10 = .ok (.aload_n 0, 1) := by decide +kernel
theorem dX4_moveFromCode_11 : decode cX4_moveFromCode 11 = .ok (.iload_n 2, 1) := by decide +kernel
theorem dX4_moveFromCode_12 : decode cX4_moveFromCode 12 = .ok (.iconst 1, 1) := by decide +kernel
theorem dX4_moveFromCode_13 : decode cX4_moveFromCode 13 = .ok (.ishr, 1) := by decide +kernel
theorem dX4_moveFromCode_14 : decode cX4_moveFromCode 14 = .ok (.invokevirtual 51, 3) := by decide +kernel
theorem dX4_moveFromCode_17 : decode cX4_moveFromCode 17 = .ok (.istore_n 3, 1) := by decide +kernel
theorem dX4_moveFromCode_18 : decode cX4_moveFromCode 18 = .ok (.aload_n 0, 1) := by decide +kernel
theorem dX4_moveFromCode_19 : decode cX4_moveFromCode 19 = .ok (.getfield 16, 3) := by decide +kernel
theorem dX4_moveFromCode_22 : decode cX4_moveFromCode 22 = .ok (.iload_n 1, 1) := by decide +kernel
theorem dX4_moveFromCode_23 : decode cX4_moveFromCode 23 = .ok (.ldc 241, 2) := by decide +kernel
theorem dX4_moveFromCode_25 : decode cX4_moveFromCode 25 = .ok (.if_icmp .ne 7, 3) := by decide +kernel
theorem dX4_moveFromCode_28 : decode cX4_moveFromCode 28 = .ok (.iconst 0, 1) := by decide +kernel
theorem dX4_moveFromCode_29 : decode cX4_moveFromCode 29 = .ok (.goto 7, 3) := by decide +kernel
theorem dX4_moveFromCode_32 : decode cX4_moveFromCode 32 = .ok (.iload_n 1, 1) := by decide +kernel
theorem dX4_moveFromCode_33 : decode cX4_moveFromCode 33 = .ok (.invokestatic 173, 3) := by decide +kernel
theorem dX4_moveFromCode_36 : decode cX4_moveFromCode 36 = .ok (.iload_n 2, 1) := by decide +kernel
theorem dX4_moveFromCode_37 : decode cX4_moveFromCode 37 = .ok (.iconst 1, 1) := by decide +kernel
theorem dX4_moveFromCode_38 : decode cX4_moveFromCode 38 = .ok (.iand, 1) := by decide +kernel
theorem dX4_moveFromCode_39 : decode cX4_moveFromCode 39 = .ok (.ifCond .ne 7, 3) := by decide +kernel
theorem dX4_moveFromCode_42 : decode cX4_moveFromCode 42 = .ok (.iload_n 3, 1) := by decide +kernel
theorem dX4_moveFromCode_43 : decode cX4_moveFromCode 43 = .ok (.goto 7, 3) := by decide +kernel
theorem dX4_moveFromCode_46 : decode cX4_moveFromCode 46 = .ok (.iload_n 3, 1) := by decide +kernel
theorem dX4_moveFromCode_47 : decode cX4_moveFromCode 47 = .ok (.bipush 8, 2) := by decide +kernel
theorem dX4_moveFromCode_49 : decode cX4_moveFromCode 49 = .ok (.ishr, 1) := by decide +kernel
theorem dX4_moveFromCode_50 : decode cX4_moveFromCode 50 = .ok (.invokevirtual 58, 3) := by decide +kernel
theorem dX4_moveFromCode_53 : decode cX4_moveFromCode 53 = .ok (.iload_n 1, 1) := by decide +kernel
theorem dX4_moveFromCode_54 : decode cX4_moveFromCode 54 = .ok (.iconst 1, 1) := by decide +kernel
theorem dX4_moveFromCode_55 : decode cX4_moveFromCode 55 = .ok (.iand, 1) := by decide +kernel
theorem dX4_moveFromCode_56 : decode cX4_moveFromCode 56 = .ok (.iconst 1, 1) := by decide +kernel
theorem dX4_moveFromCode_57 : decode cX4_moveFromCode 57 = .ok (.if_icmp .ne 15, 3) := by decide +kernel
theorem dX4_moveFromCode_60 : decode cX4_moveFromCode 60 = .ok (.aload_n 0, 1) := by decide +kernel
theorem dX4_moveFromCode_61 : decode cX4_moveFromCode 61 = .ok (.getfield 16, 3) := by decide +kernel
theorem dX4_moveFromCode_64 : decode cX4_moveFromCode 64 = .ok (.bipush 30, 2) := by decide +kernel
theorem dX4_moveFromCode_66 : decode cX4_moveFromCode 66 = .ok (.iload_n 2, 1) := by decide +kernel
theorem dX4_moveFromCode_67 : decode cX4_moveFromCode 67 = .ok (.iconst 1, 1) := by decide +kernel
theorem dX4_moveFromCode_68 : decode cX4_moveFromCode 68 = .ok (.iadd, 1) := by decide +kernel
theorem dX4_moveFromCode_69 : decode cX4_moveFromCode 69 = .ok (.invokevirtual 170, 3) := by decide +kernel
theorem dX4_moveFromCode_72 : decode cX4_moveFromCode 72 = .ok (.aload_n 0, 1) := by decide +kernel
theorem dX4_moveFromCode_73 : decode cX4_moveFromCode 73 = .ok (.iconst 1, 1) := by decide +kernel
theorem dX4_moveFromCode_74 : decode cX4_moveFromCode 74 = .ok (.invokevirtual 102, 3) := by decide +kernel
theorem dX4_moveFromCode_77 : decode cX4_moveFromCode 77 = .ok (.ireturn, 1) := by decide +kernel
set_option maxRecDepth 20000 in
theorem ggX4_movePort_X3_d : GoodIn wsX4_movePort wsX3_d := goodIn_r _ [5] (by decide +kernel) (by decide +kernel)
set_option maxRecDepth 20000 in
theorem gX4_movePort_X3_d : GoodIn wsX4_movePort (va_wsS RX4 173 yX3_d wsX3_d) := goodIn_app (goodIn_of _ (by decide +kernel)) ggX4_movePort_X3_d
set_option maxRecDepth 20000 in
theorem ggX4_movePort_X0_get : GoodIn wsX4_movePort wsX0_get := goodIn_r _ [10, 11, 30] (by decide +kernel) (by decide +kernel)
set_option maxRecDepth 20000 in
theorem gX4_movePort_X0_get : GoodIn wsX4_movePort (wsV RX4 55 RX0 yX0_get wsX0_get) := goodIn_app (goodIn_of _ (by decide +kernel)) ggX4_movePort_X0_get
set_option maxRecDepth 20000 in
theorem ggX4_movePort_X0_set : GoodIn wsX4_movePort wsX0_set := goodIn_r _ [15, 11, 30] (by decide +kernel) (by decide +kernel)
set_option maxRecDepth 20000 in
theorem gX4_movePort_X0_set : GoodIn wsX4_movePort (wsV RX4 58 RX0 yX0_set wsX0_set) := goodIn_app (goodIn_of _ (by decide +kernel)) ggX4_movePort_X0_set
set_option maxRecDepth 20000 in
theorem ggX4_movePort_X4_onward : GoodIn wsX4_movePort wsX4_onward := goodIn_r _ [20, 21, 22, 23, 24, 25, 26, 27, 28, 29] (by decide +kernel) (by decide +kernel)
set_option maxRecDepth 20000 in
theorem gX4_movePort_X4_onward : GoodIn wsX4_movePort (wsV RX4 102 RX4 yX4_onward wsX4_onward) := goodIn_app (goodIn_of _ (by decide +kernel)) ggX4_movePort_X4_onward
theorem dX4_movePort_0 : decode cX4_movePort 0 = .ok (.iload_n 1, 1) := by decide +kernel
theorem dX4_movePort_1 : decode cX4_movePort 1 = .ok (.invokestatic 173, 3) := by decide +kernel
theorem dX4_movePort_4 : decode cX4_movePort 4 = .ok (.istore_n 2, 1) := by decide +kernel
theorem dX4_movePort_5 : decode cX4_movePort 5 = .ok (.bipush 32, 2) := by decide +kernel
theorem dX4_movePort_7 : decode cX4_movePort 7 = .ok (.iload_n 1, 1) := by decide +kernel
theorem dX4_movePort_8 : decode cX4_movePort 8 = .ok (.iconst 5, 1) := by decide +kernel
theorem dX4_movePort_9 : decode cX4_movePort 9 = .ok (.ishr, 1) := by decide +kernel
theorem dX4_movePort_10 : decode cX4_movePort 10 = .ok (.bipush 48, 2) := by decide +kernel
theorem dX4_movePort_12 : decode cX4_movePort 12 = .ok (.iand, 1) := by decide +kernel
theorem dX4_movePort_13 : decode cX4_movePort 13 = .ok (.iload_n 1, 1) := by decide +kernel
theorem dX4_movePort_14 : decode cX4_movePort 14 = .ok (.bipush 15, 2) := by decide +kernel
theorem dX4_movePort_16 : decode cX4_movePort 16 = .ok (.iand, 1) := by decide +kernel
theorem dX4_movePort_17 : decode cX4_movePort 17 = .ok (.ior, 1) := by decide +kernel
theorem dX4_movePort_18 : decode cX4_movePort 18 = .ok (.iadd, 1) := by decide +kernel
theorem dX4_movePort_19 : decode cX4_movePort 19 = .ok (.istore_n 3, 1) := by decide +kernel
theorem dX4_movePort_20 : decode cX4_movePort 20 = .ok (.iload_n 1, 1) := by decide +kernel
theorem dX4_movePort_21 : decode cX4_movePort 21 = .ok (.sipush 2048, 3) := by decide +kernel
theorem dX4_movePort_24 : decode cX4_movePort 24 = .ok (.iand, 1) := by decide +kernel
theorem dX4_movePort_25 : decode cX4_movePort 25 = .ok (.ifCond .ne 22, 3) := by decide +kernel
theorem dX4_movePort_28 : decode cX4_movePort 28 = .ok (.aload_n 0, 1) := by decide +kernel
theorem dX4_movePort_29 : decode cX4_movePort 29 = .ok (.getfield 16, 3) := by decide +kernel
theorem dX4_movePort_32 : decode cX4_movePort 32 = .ok (.iload_n 2, 1) := by decide +kernel
theorem dX4_movePort_33 : decode cX4_movePort 33 = .ok (.aload_n 0, 1) := by decide +kernel
theorem dX4_movePort_34 : decode cX4_movePort 34 = .ok (.getfield 16, 3) := by decide +kernel
theorem dX4_movePort_37 : decode cX4_movePort 37 = .ok (.iload_n 3, 1) := by decide +kernel
theorem dX4_movePort_38 : decode cX4_movePort 38 = .ok (.invokevirtual 55, 3) := by decide +kernel
theorem dX4_movePort_41 : decode cX4_movePort 41 = .ok (.invokevirtual 58, 3) := by decide +kernel
theorem dX4_movePort_44 : decode cX4_movePort 44 = .ok (.goto 19, 3) := by decide +kernel
theorem dX4_movePort_47 : decode cX4_movePort 47 = .ok (.aload_n 0, 1) := by decide +kernel
theorem dX4_movePort_48 : decode cX4_movePort 48 = .ok (.getfield 16, 3) := by decide +kernel
theorem dX4_movePort_51 : decode cX4_movePort 51 = .ok (.iload_n 3, 1) := by decide +kernel
theorem dX4_movePort_52 : decode cX4_movePort 52 = .ok (.aload_n 0, 1) := by decide +kernel
theorem dX4_movePort_53 : decode cX4_movePort 53 = .ok (.getfield 16, 3) := by decide +kernel
theorem dX4_movePort_56 : decode cX4_movePort 56 = .ok (.iload_n 2, 1) := by decide +kernel
theorem dX4_movePort_57 : decode cX4_movePort 57 = .ok (.invokevirtual 55, 3) := by decide +kernel
theorem dX4_movePort_60 : decode cX4_movePort 60 = .ok (.invokevirtual 58, 3) := by decide +kernel
theorem dX4_movePort_63 : decode cX4_movePort 63 = .ok (.aload_n 0, 1) := by decide +kernel
theorem dX4_movePort_64 : decode cX4_movePort 64 = .ok (.iconst 1, 1) := by decide +kernel
theorem dX4_movePort_65 : decode cX4_movePort 65 = .ok (.invokevirtual 102, 3) := by decide +kernel
theorem dX4_movePort_68 : decode cX4_movePort 68 = .ok (.ireturn, 1) := by decide +kernel
set_option maxRecDepth 20000 in
theorem ggX4_setPortBit_X0_setBit : GoodIn wsX4_setPortBit wsX0_setBit := goodIn_r _ [6, 7, 8, 9, 5, 10, 11, 12, 13, 14, 15, 30] (by decide +kernel) (by decide +kernel)
set_option maxRecDepth 20000 in
theorem gX4_setPortBit_X0_setBit : GoodIn wsX4_setPortBit (wsV RX4 242 RX0 yX0_setBit wsX0_setBit) := goodIn_app (goodIn_of _ (by decide +kernel)) ggX4_setPortBit_X0_setBit
set_option maxRecDepth 20000 in
theorem ggX4_setPortBit_X4_onward : GoodIn wsX4_setPortBit wsX4_onward := goodIn_r _ [20, 21, 22, 23, 24, 25, 26, 27, 28, 29] (by decide +kernel) (by decide +kernel)
set_option maxRecDepth 20000 in
theorem gX4_setPortBit_X4_onward : GoodIn wsX4_setPortBit (wsV RX4 102 RX4 yX4_onward wsX4_onward) := goodIn_app (goodIn_of _ (by decide +kernel)) ggX4_setPortBit_X4_onward
theorem dX4_setPortBit_0 : decode cX4_setPortBit 0 = .ok (.aload_n 0, 1) := by decide +kernel
theorem dX4_setPortBit_1 : decode cX4_setPortBit 1 = .ok (.getfield 16, 3) := by decide +kernel
theorem dX4_setPortBit_4 : decode cX4_setPortBit 4 = .ok (.bipush 32, 2) := by decide +kernel
theorem dX4_setPortBit_6 : decode cX4_setPortBit 6 = .ok (.iload_n 1, 1) := by decide +kernel
theorem dX4_setPortBit_7 : decode cX4_setPortBit 7 = .ok (.iconst 3, 1) := by decide +kernel
theorem dX4_setPortBit_8 : decode cX4_setPortBit 8 = .ok (.ishr, 1) := by decide +kernel
theorem dX4_setPortBit_9 : decode cX4_setPortBit 9 = .ok (.bipush 31, 2) := by decide +kernel
theorem dX4_setPortBit_11 : decode cX4_setPortBit 11 = .ok (.iand, 1) := by decide +kernel
theorem dX4_setPortBit_12 : decode cX4_setPortBit 12 = .ok (.iadd, 1) := by decide +kernel
theorem dX4_setPortBit_13 : decode cX4_setPortBit 13 = .ok (.iload_n 1, 1) := by decide +kernel
theorem dX4_setPortBit_14 : decode cX4_setPortBit 14 = .ok (.bipush 7, 2) := by decide +kernel
theorem dX4_setPortBit_16 : decode cX4_setPortBit 16 = .ok (.iand, 1) := by decide +kernel
theorem dX4_setPortBit_17 : decode cX4_setPortBit 17 = .ok (.iload_n 1, 1) := by decide +kernel
theorem dX4_setPortBit_18 : decode cX4_setPortBit 18 = .ok (.bipush 9, 2) := by decide +kernel
theorem dX4_setPortBit_20 : decode cX4_setPortBit 20 = .ok (.ishr, 1) := by decide +kernel
theorem dX4_setPortBit_21 : decode cX4_setPortBit 21 = .ok (.iconst 1, 1) := by decide +kernel
theorem dX4_setPortBit_22 : decode cX4_setPortBit 22 = .ok (.iand, 1) := by decide +kernel
theorem dX4_setPortBit_23 : decode cX4_setPortBit 23 = .ok (.invokevirtual 242, 3) := by decide +kernel
theorem dX4_setPortBit_26 : decode cX4_setPortBit 26 = .ok (.aload_n 0, 1) := by decide +kernel
theorem dX4_setPortBit_27 : decode cX4_setPortBit 27 = .ok (.iconst 1, 1) := by decide +kernel
theorem dX4_setPortBit_28 : decode cX4_setPortBit 28 = .ok (.invokevirtual 102, 3) := by decide +kernel
theorem dX4_setPortBit_31 : decode cX4_setPortBit 31 = .ok (.ireturn, 1) := by decide +kernel
set_option maxRecDepth 20000 in
theorem ggX4_skipByPort_X0_bit : GoodIn wsX4_skipByPort wsX0_bit := goodIn_r _ [6, 7, 40] (by decide +kernel) (by decide +kernel)
set_option maxRecDepth 20000 in
theorem gX4_skipByPort_X0_bit : GoodIn wsX4_skipByPort (wsV RX4 245 RX0 yX0_bit wsX0_bit) := goodIn_app (goodIn_of _ (by decide +kernel)) ggX4_skipByPort_X0_bit
set_option maxRecDepth 20000 in
theorem ggX4_skipByPort_X4_skip : GoodIn wsX4_skipByPort wsX4_skip := goodIn_r _ [12, 13, 14, 15, 16, 17, 11, 18, 19, 20, 21, 22, 23, 24, 25, 26, 27, 28, 29, 30, 31, 32, 33, 34, 35, 36, 37, 38, 39] (by decide +kernel) (by decide +kernel)
set_option maxRecDepth 20000 in
theorem gX4_skipByPort_X4_skip : GoodIn wsX4_skipByPort (wsV RX4 200 RX4 yX4_skip wsX4_skip) := goodIn_app (goodIn_of _ (by decide +kernel)) ggX4_skipByPort_X4_skip
theorem dX4_skipByPort_0 : decode cX4_skipByPort 0 = .ok (.aload_n 0, 1) := by decide +kernel
theorem dX4_skipByPort_1 : decode cX4_skipByPort 1 = .ok (.aload_n 0, 1) := by decide +kernel
theorem dX4_skipByPort_2 : decode cX4_skipByPort 2 = .ok (.getfield 16, 3) := by decide +kernel
theorem dX4_skipByPort_5 : decode cX4_skipByPort 5 = .ok (.bipush 32, 2) := by decide +kernel
theorem dX4_skipByPort_7 : decode cX4_skipByPort 7 = .ok (.iload_n 1, 1) := by decide +kernel
theorem dX4_skipByPort_8 : decode cX4_skipByPort 8 = .ok (.iconst 3, 1) := by decide +kernel
theorem dX4_skipByPort_9 : decode cX4_skipByPort 9 = .ok (.ishr, 1) := by decide +kernel
theorem dX4_skipByPort_10 : decode cX4_skipByPort 10 = .ok (.bipush 31, 2) := by decide +kernel
theorem dX4_skipByPort_12 : decode cX4_skipByPort 12 = .ok (.iand, 1) := by decide +kernel
theorem dX4_skipByPort_13 : decode cX4_skipByPort 13 = .ok (.iadd, 1) := by decide +kernel
theorem dX4_skipByPort_14 : decode cX4_skipByPort 14 = .ok (.iload_n 1, 1) := by decide +kernel
theorem dX4_skipByPort_15 : decode cX4_skipByPort 15 = .ok (.bipush 7, 2) := by decide +kernel
theorem dX4_skipByPort_17 : decode cX4_skipByPort 17 = .ok (.iand, 1) := by decide +kernel
theorem dX4_skipByPort_18 : decode cX4_skipByPort 18 = .ok (.invokevirtual 245, 3) := by decide +kernel
theorem dX4_skipByPort_21 : decode cX4_skipByPort 21 = .ok (.iload_n 1, 1) := by decide +kernel
theorem dX4_skipByPort_22 : decode cX4_skipByPort 22 = .ok (.bipush 9, 2) := by decide +kernel
theorem dX4_skipByPort_24 : decode cX4_skipByPort 24 = .ok (.ishr, 1) := by decide +kernel
theorem dX4_skipByPort_25 : decode cX4_skipByPort 25 = .ok (.iconst 1, 1) := by decide +kernel
theorem dX4_skipByPort_26 : decode cX4_skipByPort 26 = .ok (.iand, 1) := by decide +kernel
theorem dX4_skipByPort_27 : decode cX4_skipByPort 27 = .ok (.if_icmp .ne 7, 3) := by decide +kernel
theorem dX4_skipByPort_30 : decode cX4_skipByPort 30 = .ok (.iconst 1, 1) := by decide +kernel
theorem dX4_skipByPort_31 : decode cX4_skipByPort 31 = .ok (.goto 4, 3) := by decide +kernel
theorem dX4_skipByPort_34 : decode cX4_skipByPort 34 = .ok (.iconst 0, 1) := by decide +kernel
theorem dX4_skipByPort_35 : decode cX4_skipByPort 35 = .ok (.invokevirtual 200, 3) := by decide +kernel
theorem dX4_skipByPort_38 : decode cX4_skipByPort 38 = .ok (.ireturn, 1) := by decide +kernel
set_option maxRecDepth 20000 in
theorem ggX4_skipByBit_X3_d : GoodIn wsX4_skipByBit wsX3_d := goodIn_r _ [5] (by decide +kernel) (by decide +kernel)
set_option maxRecDepth 20000 in
theorem gX4_skipByBit_X3_d : GoodIn wsX4_skipByBit (va_wsS RX4 173 yX3_d wsX3_d) := goodIn_app (goodIn_of _ (by decide +kernel)) ggX4_skipByBit_X3_d
set_option maxRecDepth 20000 in
theorem ggX4_skipByBit_X0_bit : GoodIn wsX4_skipByBit wsX0_bit := goodIn_r _ [10, 11, 43] (by decide +kernel) (by decide +kernel)
set_option maxRecDepth 20000 in
theorem gX4_skipByBit_X0_bit : GoodIn wsX4_skipByBit (wsV RX4 245 RX0 yX0_bit wsX0_bit) := goodIn_app (goodIn_of _ (by decide +kernel)) ggX4_skipByBit_X0_bit
set_option maxRecDepth 20000 in
theorem ggX4_skipByBit_X4_skip : GoodIn wsX4_skipByBit wsX4_skip := goodIn_r _ [16, 17, 18, 19, 20, 21, 15, 22, 23, 24, 25, 26, 27, 28, 29, 4, 30, 31, 32, 33, 34, 35, 36, 37, 38, 39, 40, 41, 42] (by decide +kernel) (by decide +kernel)
set_option maxRecDepth 20000 in
theorem gX4_skipByBit_X4_skip : GoodIn wsX4_skipByBit (wsV RX4 200 RX4 yX4_skip wsX4_skip) := goodIn_app (goodIn_of _ (by decide +kernel)) ggX4_skipByBit_X4_skip
theorem dX4_skipByBit_0 : decode cX4_skipByBit 0 = .ok (.aload_n 0, 1) := by decide +kernel
theorem dX4_skipByBit_1 : decode cX4_skipByBit 1 = .ok (.aload_n 0, 1) := by decide +kernel
theorem dX4_skipByBit_2 : decode cX4_skipByBit 2 = .ok (.getfield 16, 3) := by decide +kernel
theorem dX4_skipByBit_5 : decode cX4_skipByBit 5 = .ok (.iload_n 1, 1) := by decide +kernel
theorem dX4_skipByBit_6 : decode cX4_skipByBit 6 = .ok (.invokestatic 173, 3) := by decide +kernel
theorem dX4_skipByBit_9 : decode cX4_skipByBit 9 = .ok (.iload_n 1, 1) := by decide +kernel
theorem dX4_skipByBit_10 : decode cX4_skipByBit 10 = .ok (.bipush 7, 2) := by decide +kernel
theorem dX4_skipByBit_12 : decode cX4_skipByBit 12 = .ok (.iand, 1) := by decide +kernel
theorem dX4_skipByBit_13 : decode cX4_skipByBit 13 = .ok (.invokevirtual 245, 3) := by decide +kernel
theorem dX4_skipByBit_16 : decode cX4_skipByBit 16 = .ok (.iload_n 1, 1) := by decide +kernel
theorem dX4_skipByBit_17 : decode cX4_skipByBit 17 = .ok (.bipush 9, 2) := by decide +kernel
theorem dX4_skipByBit_19 : decode cX4_skipByBit 19 = .ok (.ishr, 1) := by decide +kernel
theorem dX4_skipByBit_20 : decode cX4_skipByBit 20 = .ok (.iconst 1, 1) := by decide +kernel
theorem dX4_skipByBit_21 : decode cX4_skipByBit 21 = .ok (.iand, 1) := by decide +kernel
theorem dX4_skipByBit_22 : decode cX4_skipByBit 22 = .ok (.if_icmp .ne 7, 3) := by decide +kernel
theorem dX4_skipByBit_25 : decode cX4_skipByBit 25 = .ok (.iconst 1, 1) := by decide +kernel
theorem dX4_skipByBit_26 : decode cX4_skipByBit 26 = .ok (.goto 4, 3) := by decide +kernel
theorem dX4_skipByBit_29 : decode cX4_skipByBit 29 = .ok (.iconst 0, 1) := by decide +kernel
theorem dX4_skipByBit_30 : decode cX4_skipByBit 30 = .ok (.invokevirtual 200, 3) := by decide +kernel
theorem dX4_skipByBit_33 : decode cX4_skipByBit 33 = .ok (.ireturn, 1) := by decide +kernel
set_option maxRecDepth 20000 in
theorem ggX4_moveBit_X3_d : GoodIn wsX4_moveBit wsX3_d := goodIn_r _ [5] (by decide +kernel) (by decide +kernel)
set_option maxRecDepth 20000 in
theorem gX4_moveBit_X3_d : GoodIn wsX4_moveBit (va_wsS RX4 173 yX3_d wsX3_d) := goodIn_app (goodIn_of _ (by decide +kernel)) ggX4_moveBit_X3_d
set_option maxRecDepth 20000 in
theorem ggX4_moveBit_X0_flag : GoodIn wsX4_moveBit wsX0_flag := goodIn_r _ [10, 11, 47] (by decide +kernel) (by decide +kernel)
set_option maxRecDepth 20000 in
theorem gX4_moveBit_X0_flag : GoodIn wsX4_moveBit (wsV RX4 80 RX0 yX0_flag wsX0_flag) := goodIn_app (goodIn_of _ (by decide +kernel)) ggX4_moveBit_X0_flag
set_option maxRecDepth 20000 in
theorem ggX4_moveBit_X0_setBit : GoodIn wsX4_moveBit wsX0_setBit := goodIn_r _ [15, 16, 17, 18, 9, 19, 11, 20, 21, 22, 23, 47] (by decide +kernel) (by decide +kernel)
set_option maxRecDepth 20000 in
theorem gX4_moveBit_X0_setBit : GoodIn wsX4_moveBit (wsV RX4 242 RX0 yX0_setBit wsX0_setBit) := goodIn_app (goodIn_of _ (by decide +kernel)) ggX4_moveBit_X0_setBit
set_option maxRecDepth 20000 in
theorem ggX4_moveBit_X0_bit : GoodIn wsX4_moveBit wsX0_bit := goodIn_r _ [27, 11, 47] (by decide +kernel) (by decide +kernel)
set_option maxRecDepth 20000 in
theorem gX4_moveBit_X0_bit : GoodIn wsX4_moveBit (wsV RX4 245 RX0 yX0_bit wsX0_bit) := goodIn_app (goodIn_of _ (by decide +kernel)) ggX4_moveBit_X0_bit
set_option maxRecDepth 20000 in
theorem ggX4_moveBit_X0_setFlag : GoodIn wsX4_moveBit wsX0_setFlag := goodIn_r _ [31, 32, 13, 14, 9, 15, 16, 17, 18, 19, 11, 20, 21, 22, 23, 47] (by decide +kernel) (by decide +kernel)
set_option maxRecDepth 20000 in
theorem gX4_moveBit_X0_setFlag : GoodIn wsX4_moveBit (wsV RX4 99 RX0 yX0_setFlag wsX0_setFlag) := goodIn_app (goodIn_of _ (by decide +kernel)) ggX4_moveBit_X0_setFlag
set_option maxRecDepth 20000 in
theorem ggX4_moveBit_X4_onward : GoodIn wsX4_moveBit wsX4_onward := goodIn_r _ [37, 38, 39, 40, 41, 42, 43, 44, 45, 46] (by decide +kernel) (by decide +kernel)
set_option maxRecDepth 20000 in
theorem gX4_moveBit_X4_onward : GoodIn wsX4_moveBit (wsV RX4 102 RX4 yX4_onward wsX4_onward) := goodIn_app (goodIn_of _ (by decide +kernel)) ggX4_moveBit_X4_onward
theorem dX4_moveBit_0 : decode cX4_moveBit 0 = .ok (.iload_n 1, 1) := by decide +kernel
theorem dX4_moveBit_1 : decode cX4_moveBit 1 = .ok (.invokestatic 173, 3) := by decide +kernel
theorem dX4_moveBit_4 : decode cX4_moveBit 4 = .ok (.istore_n 2, 1) := by decide +kernel
theorem dX4_moveBit_5 : decode cX4_moveBit 5 = .ok (.iload_n 1, 1) := by decide +kernel
theorem dX4_moveBit_6 : decode cX4_moveBit 6 = .ok (.sipush 512, 3) := by decide +kernel
theorem dX4_moveBit_9 : decode cX4_moveBit 9 = .ok (.iand, 1) := by decide +kernel
theorem dX4_moveBit_10 : decode cX4_moveBit 10 = .ok (.ifCond .ne 27, 3) := by decide +kernel
theorem dX4_moveBit_13 : decode cX4_moveBit 13 = .ok (.aload_n 0, 1) := by decide +kernel
theorem dX4_moveBit_14 : decode cX4_moveBit 14 = .ok (.getfield 16, 3) := by decide +kernel
theorem dX4_moveBit_17 : decode cX4_moveBit 17 = .ok (.iload_n 2, 1) := by decide +kernel
theorem dX4_moveBit_18 : decode cX4_moveBit 18 = .ok (.iload_n 1, 1) := by decide +kernel
theorem dX4_moveBit_19 : decode cX4_moveBit 19 = .ok (.bipush 7, 2) := by decide +kernel
theorem dX4_moveBit_21 : decode cX4_moveBit 21 = .ok (.iand, 1) := by decide +kernel
theorem dX4_moveBit_22 : decode cX4_moveBit 22 = .ok (.aload_n 0, 1) := by decide +kernel
theorem dX4_moveBit_23 : decode cX4_moveBit 23 = .ok (.getfield 16, 3) := by decide +kernel
theorem dX4_moveBit_26 : decode cX4_moveBit 26 = .ok (.bipush 6, 2) := by decide +kernel
theorem dX4_moveBit_28 : decode cX4_moveBit 28 = .ok (.invokevirtual 80, 3) := by decide +kernel
theorem dX4_moveBit_31 : decode cX4_moveBit 31 = .ok (.invokevirtual 242, 3) := by decide +kernel
theorem dX4_moveBit_34 : decode cX4_moveBit 34 = .ok (.goto 24, 3) := by decide +kernel
theorem dX4_moveBit_37 : decode cX4_moveBit 37 = .ok (.aload_n 0, 1) := by decide +kernel
theorem dX4_moveBit_38 : decode cX4_moveBit 38 = .ok (.getfield 16, 3) := by decide +kernel
theorem dX4_moveBit_41 : decode cX4_moveBit 41 = .ok (.bipush 6, 2) := by decide +kernel
theorem dX4_moveBit_43 : decode cX4_moveBit 43 = .ok (.aload_n 0, 1) := by decide +kernel
theorem dX4_moveBit_44 : decode cX4_moveBit 44 = .ok (.getfield 16, 3) := by decide +kernel
theorem dX4_moveBit_47 : decode cX4_moveBit 47 = .ok (.iload_n 2, 1) := by decide +kernel
theorem dX4_moveBit_48 : decode cX4_moveBit 48 = .ok (.iload_n 1, 1) := by decide +kernel
theorem dX4_moveBit_49 : decode cX4_moveBit 49 = .ok (.bipush 7, 2) := by decide +kernel
theorem dX4_moveBit_51 : decode cX4_moveBit 51 = .ok (.iand, 1) := by decide +kernel
theorem dX4_moveBit_52 : decode cX4_moveBit 52 = .ok (.invokevirtual 245, 3) := by decide +kernel
theorem dX4_moveBit_55 : decode cX4_moveBit 55 = .ok (.invokevirtual 99, 3) := by decide +kernel
theorem dX4_moveBit_58 : decode cX4_moveBit 58 = .ok (.aload_n 0, 1) := by decide +kernel
theorem dX4_moveBit_59 : decode cX4_moveBit 59 = .ok (.iconst 1, 1) := by decide +kernel
theorem dX4_moveBit_60 : decode cX4_moveBit 60 = .ok (.invokevirtual 102, 3) := by decide +kernel
theorem dX4_moveBit_63 : decode cX4_moveBit 63 = .ok (.ireturn, 1) := by decide +kernel
set_option maxRecDepth 20000 in
theorem ggX4_jumpNear_X4_jumpTo : GoodIn wsX4_jumpNear wsX4_jumpTo := goodIn_r _ [6, 1, 31, 32, 33, 34, 35, 36, 37, 38] (by decide +kernel) (by decide +kernel)
set_option maxRecDepth 20000 in
theorem gX4_jumpNear_X4_jumpTo : GoodIn wsX4_jumpNear (wsV RX4 248 RX4 yX4_jumpTo wsX4_jumpTo) := goodIn_app (goodIn_of _ (by decide +kernel)) ggX4_jumpNear_X4_jumpTo
set_option maxRecDepth 20000 in
theorem ggX4_jumpNear_X4_callTo : GoodIn wsX4_jumpNear wsX4_callTo := goodIn_r _ [10, 11, 12, 1, 13, 14, 15, 16, 17, 18, 19, 20, 21, 22, 23, 24, 25, 26, 27, 28, 29, 30, 31, 32, 33, 34, 35, 36, 37, 38, 39] (by decide +kernel) (by decide +kernel)
set_option maxRecDepth 20000 in
theorem gX4_jumpNear_X4_callTo : GoodIn wsX4_jumpNear (wsV RX4 251 RX4 yX4_callTo wsX4_callTo) := goodIn_app (goodIn_of _ (by decide +kernel)) ggX4_jumpNear_X4_callTo
theorem dX4_jumpNear_0 : decode cX4_jumpNear 0 = .ok (.iload_n 1, 1) := by decide +kernel
theorem dX4_jumpNear_1 : decode cX4_jumpNear 1 = .ok (.bipush 20, 2) := by decide +kernel
theorem dX4_jumpNear_3 : decode cX4_jumpNear 3 = .ok (.ishl, 1) := by decide +kernel
theorem dX4_jumpNear_4 : decode cX4_jumpNear 4 = .ok (.bipush 20, 2) := by decide +kernel
theorem dX4_jumpNear_6 : decode cX4_jumpNear 6 = .ok (.ishr, 1) := by decide +kernel
theorem dX4_jumpNear_7 : decode cX4_jumpNear 7 = .ok (.istore_n 2, 1) := by decide +kernel
theorem dX4_jumpNear_8 : decode cX4_jumpNear 8 = .ok (.aload_n 0, 1) := by decide +kernel
theorem dX4_jumpNear_9 : decode cX4_jumpNear 9 = .ok (.getfield 32, 3) := by decide +kernel
theorem dX4_jumpNear_12 : decode cX4_jumpNear 12 = .ok (.iconst 1, 1) := by decide +kernel
theorem dX4_jumpNear_13 : decode cX4_jumpNear 13 = .ok (.iadd, 1) := by decide +kernel
theorem dX4_jumpNear_14 : decode cX4_jumpNear 14 = .ok (.istore_n 3, 1) := by decide +kernel
theorem dX4_jumpNear_15 : decode cX4_jumpNear 15 = .ok (.iload_n 1, 1) := by decide +kernel
theorem dX4_jumpNear_16 : decode cX4_jumpNear 16 = .ok (.sipush 4096, 3) := by decide +kernel
theorem dX4_jumpNear_19 : decode cX4_jumpNear 19 = .ok (.iand, 1) := by decide +kernel
theorem dX4_jumpNear_20 : decode cX4_jumpNear 20 = .ok (.ifCond .ne 13, 3) := by decide +kernel
theorem dX4_jumpNear_23 : decode cX4_jumpNear 23 = .ok (.aload_n 0, 1) := by decide +kernel
theorem dX4_jumpNear_24 : decode cX4_jumpNear 24 = .ok (.iload_n 3, 1) := by decide +kernel
theorem dX4_jumpNear_25 : decode cX4_jumpNear 25 = .ok (.iload_n 2, 1) := by decide +kernel
theorem dX4_jumpNear_26 : decode cX4_jumpNear 26 = .ok (.iadd, 1) := by decide +kernel
theorem dX4_jumpNear_27 : decode cX4_jumpNear 27 = .ok (.invokevirtual 248, 3) := by decide +kernel
theorem dX4_jumpNear_30 : decode cX4_jumpNear 30 = .ok (.goto 11, 3) := by decide +kernel
theorem dX4_jumpNear_33 : decode cX4_jumpNear 33 = .ok (.aload_n 0, 1) := by decide +kernel
theorem dX4_jumpNear_34 : decode cX4_jumpNear 34 = .ok (.iload_n 3, 1) := by decide +kernel
theorem dX4_jumpNear_35 : decode cX4_jumpNear 35 = .ok (.iload_n 2, 1) := by decide +kernel
theorem dX4_jumpNear_36 : decode cX4_jumpNear 36 = .ok (.iadd, 1) := by decide +kernel
theorem dX4_jumpNear_37 : decode cX4_jumpNear 37 = .ok (.iload_n 3, 1) := by decide +kernel
theorem dX4_jumpNear_38 : decode cX4_jumpNear 38 = .ok (.invokevirtual 251, 3) := by decide +kernel
theorem dX4_jumpNear_41 : decode cX4_jumpNear 41 = .ok (.ireturn, 1) := by decide +kernel
set_option maxRecDepth 20000 in
theorem ggX4_branch_X0_flag : GoodIn wsX4_branch wsX0_flag := goodIn_r _ [6, 7, 22] (by decide +kernel) (by decide +kernel)
set_option maxRecDepth 20000 in
theorem gX4_branch_X0_flag : GoodIn wsX4_branch (wsV RX4 80 RX0 yX0_flag wsX0_flag) := goodIn_app (goodIn_of _ (by decide +kernel)) ggX4_branch_X0_flag
set_option maxRecDepth 20000 in
theorem ggX4_branch_X4_onward : GoodIn wsX4_branch wsX4_onward := goodIn_r _ [12, 13, 14, 15, 16, 17, 18, 19, 20, 21] (by decide +kernel) (by decide +kernel)
set_option maxRecDepth 20000 in
theorem gX4_branch_X4_onward : GoodIn wsX4_branch (wsV RX4 102 RX4 yX4_onward wsX4_onward) := goodIn_app (goodIn_of _ (by decide +kernel)) ggX4_branch_X4_onward
theorem dX4_branch_0 : decode cX4_branch 0 = .ok (.iload_n 1, 1) := by decide +kernel
theorem dX4_branch_1 : decode cX4_branch 1 = .ok (.bipush 22, 2) := by decide +kernel
theorem dX4_branch_3 : decode cX4_branch 3 = .ok (.ishl, 1) := by decide +kernel
theorem dX4_branch_4 : decode cX4_branch 4 = .ok (.bipush 25, 2) := by decide +kernel
theorem dX4_branch_6 : decode cX4_branch 6 = .ok (.ishr, 1) := by decide +kernel
theorem dX4_branch_7 : decode cX4_branch 7 = .ok (.istore_n 2, 1) := by decide +kernel
theorem dX4_branch_8 : decode cX4_branch 8 = .ok (.iload_n 1, 1) := by decide +kernel
theorem dX4_branch_9 : decode cX4_branch 9 = .ok (.sipush 1024, 3) := by decide +kernel
theorem dX4_branch_12 : decode cX4_branch 12 = .ok (.iand, 1) := by decide +kernel
theorem dX4_branch_13 : decode cX4_branch 13 = .ok (.ifCond .ne 7, 3) := by decide +kernel
theorem dX4_branch_16 : decode cX4_branch 16 = .ok (.iconst 1, 1) := by decide +kernel
theorem dX4_branch_17 : decode cX4_branch 17 = .ok (.goto 4, 3) := by decide +kernel
theorem dX4_branch_20 : decode cX4_branch 20 = .ok (.iconst 0, 1) := by decide +kernel
theorem dX4_branch_21 : decode cX4_branch 21 = .ok (.istore_n 3, 1) := by decide +kernel
theorem dX4_branch_22 : decode cX4_branch 22 = .ok (.aload_n 0, 1) := by decide +kernel
theorem dX4_branch_23 : decode cX4_branch 23 = .ok (.aload_n 0, 1) := by decide +kernel
theorem dX4_branch_24 : decode cX4_branch 24 = .ok (.getfield 16, 3) := by decide +kernel
theorem dX4_branch_27 : decode cX4_branch 27 = .ok (.iload_n 1, 1) := by decide +kernel
theorem dX4_branch_28 : decode cX4_branch 28 = .ok (.bipush 7, 2) := by decide +kernel
theorem dX4_branch_30 : decode cX4_branch 30 = .ok (.iand, 1) := by decide +kernel
theorem dX4_branch_31 : decode cX4_branch 31 = .ok (.invokevirtual 80, 3) := by decide +kernel
theorem dX4_branch_34 : decode cX4_branch 34 = .ok (.iload_n 3, 1) := by decide +kernel
theorem dX4_branch_35 : decode cX4_branch 35 = .ok (.if_icmp .ne 9, 3) := by decide +kernel
theorem dX4_branch_38 : decode cX4_branch 38 = .ok (.iconst 1, 1) := by decide +kernel
theorem dX4_branch_39 : decode cX4_branch 39 = .ok (.iload_n 2, 1) := by decide +kernel
theorem dX4_branch_40 : decode cX4_branch 40 = .ok (.iadd, 1) := by decide +kernel
theorem dX4_branch_41 : decode cX4_branch 41 = .ok (.goto 4, 3) := by decide +kernel
theorem dX4_branch_44 : decode cX4_branch 44 = .ok (.iconst 1, 1) := by decide +kernel
theorem dX4_branch_45 : decode cX4_branch 45 = .ok (.invokevirtual 102, 3) := by decide +kernel
theorem dX4_branch_48 : decode cX4_branch 48 = .ok (.ireturn, 1) := by decide +kernel
set_option maxRecDepth 20000 in
theorem ggX4_jumpFar_X4_cellAt : GoodIn wsX4_jumpFar wsX4_cellAt := goodIn_r _ [6, 7, 36, 37, 38, 39, 40, 41, 42, 43] (by decide +kernel) (by decide +kernel)
set_option maxRecDepth 20000 in
theorem gX4_jumpFar_X4_cellAt : GoodIn wsX4_jumpFar (wsV RX4 51 RX4 yX4_cellAt wsX4_cellAt) := goodIn_app (goodIn_of _ (by decide +kernel)) ggX4_jumpFar_X4_cellAt
set_option maxRecDepth 20000 in
theorem ggX4_jumpFar_X4_jumpTo : GoodIn wsX4_jumpFar wsX4_jumpTo := goodIn_r _ [11, 1, 36, 37, 38, 39, 40, 41, 42, 43] (by decide +kernel) (by decide +kernel)
set_option maxRecDepth 20000 in
theorem gX4_jumpFar_X4_jumpTo : GoodIn wsX4_jumpFar (wsV RX4 248 RX4 yX4_jumpTo wsX4_jumpTo) := goodIn_app (goodIn_of _ (by decide +kernel)) ggX4_jumpFar_X4_jumpTo
set_option maxRecDepth 20000 in
theorem ggX4_jumpFar_X4_callTo : GoodIn wsX4_jumpFar wsX4_callTo := goodIn_r _ [15, 16, 17, 1, 18, 19, 20, 21, 22, 23, 24, 25, 26, 27, 28, 29, 30, 31, 32, 33, 34, 35, 36, 37, 38, 39, 40, 41, 42, 43, 44] (by decide +kernel) (by decide +kernel)
set_option maxRecDepth 20000 in
theorem gX4_jumpFar_X4_callTo : GoodIn wsX4_jumpFar (wsV RX4 251 RX4 yX4_callTo wsX4_callTo) := goodIn_app (goodIn_of _ (by decide +kernel)) ggX4_jumpFar_X4_callTo
theorem dX4_jumpFar_0 : decode cX4_jumpFar 0 = .ok (.aload_n 0, 1) := by decide +kernel
theorem dX4_jumpFar_1 : decode cX4_jumpFar 1 = .ok (.aload_n 0, 1) := by decide +kernel
theorem dX4_jumpFar_2 : decode cX4_jumpFar 2 = .ok (.getfield 32, 3) := by decide +kernel
theorem dX4_jumpFar_5 : decode cX4_jumpFar 5 = .ok (.iconst 1, 1) := by decide +kernel
theorem dX4_jumpFar_6 : decode cX4_jumpFar 6 = .ok (.iadd, 1) := by decide +kernel
theorem dX4_jumpFar_7 : decode cX4_jumpFar 7 = .ok (.invokevirtual 51, 3) := by decide +kernel
theorem dX4_jumpFar_10 : decode cX4_jumpFar 10 = .ok (.istore_n 2, 1) := by decide +kernel
theorem dX4_jumpFar_11 : decode cX4_jumpFar 11 = .ok (.iload_n 1, 1) := by decide +kernel
theorem dX4_jumpFar_12 : decode cX4_jumpFar 12 = .ok (.iconst 2, 1) := by decide +kernel
theorem dX4_jumpFar_13 : decode cX4_jumpFar 13 = .ok (.iand, 1) := by decide +kernel
theorem dX4_jumpFar_14 : decode cX4_jumpFar 14 = .ok (.ifCond .ne 11, 3) := by decide +kernel
theorem dX4_jumpFar_17 : decode cX4_jumpFar 17 = .ok (.aload_n 0, 1) := by decide +kernel
theorem dX4_jumpFar_18 : decode cX4_jumpFar 18 = .ok (.iload_n 2, 1) := by decide +kernel
theorem dX4_jumpFar_19 : decode cX4_jumpFar 19 = .ok (.invokevirtual 248, 3) := by decide +kernel
theorem dX4_jumpFar_22 : decode cX4_jumpFar 22 = .ok (.goto 14, 3) := by decide +kernel
theorem dX4_jumpFar_25 : decode cX4_jumpFar 25 = .ok (.aload_n 0, 1) := by decide +kernel
theorem dX4_jumpFar_26 : decode cX4_jumpFar 26 = .ok (.iload_n 2, 1) := by decide +kernel
theorem dX4_jumpFar_27 : decode cX4_jumpFar 27 = .ok (.aload_n 0, 1) := by decide +kernel
theorem dX4_jumpFar_28 : decode cX4_jumpFar 28 = .ok (.getfield 32, 3) := by decide +kernel
theorem dX4_jumpFar_31 : decode cX4_jumpFar 31 = .ok (.iconst 2, 1) := by decide +kernel
theorem dX4_jumpFar_32 : decode cX4_jumpFar 32 = .ok (.iadd, 1) := by decide +kernel
theorem dX4_jumpFar_33 : decode cX4_jumpFar 33 = .ok (.invokevirtual 251, 3) := by decide +kernel
theorem dX4_jumpFar_36 : decode cX4_jumpFar 36 = .ok (.ireturn, 1) := by decide +kernel
set_option maxRecDepth 20000 in
theorem ggX4_jumpToZ_X0_pair : GoodIn wsX4_jumpToZ wsX0_pair := goodIn_r _ [7, 8, 40] (by decide +kernel) (by decide +kernel)
set_option maxRecDepth 20000 in
theorem gX4_jumpToZ_X0_pair : GoodIn wsX4_jumpToZ (wsV RX4 62 RX0 yX0_pair wsX0_pair) := goodIn_app (goodIn_of _ (by decide +kernel)) ggX4_jumpToZ_X0_pair
set_option maxRecDepth 20000 in
theorem ggX4_jumpToZ_X4_jumpTo : GoodIn wsX4_jumpToZ wsX4_jumpTo := goodIn_r _ [13, 2, 32, 33, 34, 35, 36, 37, 38, 39] (by decide +kernel) (by decide +kernel)
set_option maxRecDepth 20000 in
theorem gX4_jumpToZ_X4_jumpTo : GoodIn wsX4_jumpToZ (wsV RX4 248 RX4 yX4_jumpTo wsX4_jumpTo) := goodIn_app (goodIn_of _ (by decide +kernel)) ggX4_jumpToZ_X4_jumpTo
set_option maxRecDepth 20000 in
theorem ggX4_jumpToZ_X4_callTo : GoodIn wsX4_jumpToZ wsX4_callTo := goodIn_r _ [17, 1, 18, 2, 19, 20, 21, 6, 22, 23, 4, 5, 7, 8, 24, 25, 26, 27, 28, 29, 30, 31, 32, 33, 34, 35, 36, 37, 38, 39, 40] (by decide +kernel) (by decide +kernel)
set_option maxRecDepth 20000 in
theorem gX4_jumpToZ_X4_callTo : GoodIn wsX4_jumpToZ (wsV RX4 251 RX4 yX4_callTo wsX4_callTo) := goodIn_app (goodIn_of _ (by decide +kernel)) ggX4_jumpToZ_X4_callTo
theorem dX4_jumpToZ_0 : decode cX4_jumpToZ 0 = .ok (.aload_n 0, 1) := by decide +kernel
theorem dX4_jumpToZ_1 : decode cX4_jumpToZ 1 = .ok (.getfield 16, 3) := by decide +kernel
theorem dX4_jumpToZ_4 : decode cX4_jumpToZ 4 = .ok (.bipush 30, 2) := by decide +kernel
theorem dX4_jumpToZ_6 : decode cX4_jumpToZ 6 = .ok (.invokevirtual 62, 3) := by decide +kernel
theorem dX4_jumpToZ_9 : decode cX4_jumpToZ 9 = .ok (.istore_n 2, 1) := by decide +kernel
theorem dX4_jumpToZ_10 : decode cX4_jumpToZ 10 = .ok (.iload_n 1, 1) := by decide +kernel
theorem dX4_jumpToZ_11 : decode cX4_jumpToZ 11 = .ok (.sipush 256, 3) := by decide +kernel
theorem dX4_jumpToZ_14 : decode cX4_jumpToZ 14 = .ok (.iand, 1) := by decide +kernel
theorem dX4_jumpToZ_15 : decode cX4_jumpToZ 15 = .ok (.ifCond .ne 11, 3) := by decide +kernel
theorem dX4_jumpToZ_18 : decode cX4_jumpToZ 18 = .ok (.aload_n 0, 1) := by decide +kernel
theorem dX4_jumpToZ_19 : decode cX4_jumpToZ 19 = .ok (.iload_n 2, 1) := by decide +kernel
theorem dX4_jumpToZ_20 : decode cX4_jumpToZ 20 = .ok (.invokevirtual 248, 3) := by decide +kernel
theorem dX4_jumpToZ_23 : decode cX4_jumpToZ 23 = .ok (.goto 14, 3) := by decide +kernel
theorem dX4_jumpToZ_26 : decode cX4_jumpToZ 26 = .ok (.aload_n 0, 1) := by decide +kernel
theorem dX4_jumpToZ_27 : decode cX4_jumpToZ 27 = .ok (.iload_n 2, 1) := by decide +kernel
theorem dX4_jumpToZ_28 : decode cX4_jumpToZ 28 = .ok (.aload_n 0, 1) := by decide +kernel
theorem dX4_jumpToZ_29 : decode cX4_jumpToZ 29 = .ok (.getfield 32, 3) := by decide +kernel
theorem dX4_jumpToZ_32 : decode cX4_jumpToZ 32 = .ok (.iconst 1, 1) := by decide +kernel
theorem dX4_jumpToZ_33 : decode cX4_jumpToZ 33 = .ok (.iadd, 1) := by decide +kernel
theorem dX4_jumpToZ_34 : decode cX4_jumpToZ 34 = .ok (.invokevirtual 251, 3) := by decide +kernel
theorem dX4_jumpToZ_37 : decode cX4_jumpToZ 37 = .ok (.ireturn, 1) := by decide +kernel
set_option maxRecDepth 20000 in
theorem ggX4_comeBack_X0_pair : GoodIn wsX4_comeBack wsX0_pair := goodIn_r _ [8, 9, 49] (by decide +kernel) (by decide +kernel)
set_option maxRecDepth 20000 in
theorem gX4_comeBack_X0_pair : GoodIn wsX4_comeBack (wsV RX4 62 RX0 yX0_pair wsX0_pair) := goodIn_app (goodIn_of _ (by decide +kernel)) ggX4_comeBack_X0_pair
set_option maxRecDepth 20000 in
theorem ggX4_comeBack_X0_pull : GoodIn wsX4_comeBack wsX0_pull := goodIn_r _ [13, 14, 5, 6, 7, 8, 9, 15, 16, 17, 18, 19, 20, 21, 22, 49] (by decide +kernel) (by decide +kernel)
set_option maxRecDepth 20000 in
theorem gX4_comeBack_X0_pull : GoodIn wsX4_comeBack (wsV RX4 235 RX0 yX0_pull wsX0_pull) := goodIn_app (goodIn_of _ (by decide +kernel)) ggX4_comeBack_X0_pull
set_option maxRecDepth 20000 in
theorem ggX4_comeBack_X0_setFlag : GoodIn wsX4_comeBack wsX0_setFlag := goodIn_r _ [26, 27, 28, 29, 7, 30, 19, 20, 21, 22, 9, 31, 32, 33, 34, 49] (by decide +kernel) (by decide +kernel)
set_option maxRecDepth 20000 in
theorem gX4_comeBack_X0_setFlag : GoodIn wsX4_comeBack (wsV RX4 99 RX0 yX0_setFlag wsX0_setFlag) := goodIn_app (goodIn_of _ (by decide +kernel)) ggX4_comeBack_X0_setFlag
set_option maxRecDepth 20000 in
theorem ggX4_comeBack_X4_jumpTo : GoodIn wsX4_comeBack wsX4_jumpTo := goodIn_r _ [39, 40, 41, 42, 43, 44, 45, 46, 47, 48] (by decide +kernel) (by decide +kernel)
set_option maxRecDepth 20000 in
theorem gX4_comeBack_X4_jumpTo : GoodIn wsX4_comeBack (wsV RX4 248 RX4 yX4_jumpTo wsX4_jumpTo) := goodIn_app (goodIn_of _ (by decide +kernel)) ggX4_comeBack_X4_jumpTo
theorem dX4_comeBack_0 : decode cX4_comeBack 0 = .ok (.aload_n 0, 1) := by decide +kernel
theorem dX4_comeBack_1 : decode cX4_comeBack 1 = .ok (.getfield 16, 3) := by decide +kernel
theorem dX4_comeBack_4 : decode cX4_comeBack 4 = .ok (.bipush 93, 2) := by decide +kernel
theorem dX4_comeBack_6 : decode cX4_comeBack 6 = .ok (.invokevirtual 62, 3) := by decide +kernel
theorem dX4_comeBack_9 : decode cX4_comeBack 9 = .ok (.istore_n 2, 1) := by decide +kernel
theorem dX4_comeBack_10 : decode cX4_comeBack 10 = .ok (.iload_n 2, 1) := by decide +kernel
theorem dX4_comeBack_11 : decode cX4_comeBack 11 = .ok (.iconst 1, 1) := by decide +kernel
theorem dX4_comeBack_12 : decode cX4_comeBack 12 = .ok (.iadd, 1) := by decide +kernel
end
section
theorem dX4_comeBack_13 : decode cX4_comeBack 13 = .ok (.ldc 50, 2) := by decide +kernel
theorem dX4_comeBack_15 : decode cX4_comeBack 15 = .ok (.iand, 1) := by decide +kernel
theorem dX4_comeBack_16 : decode cX4_comeBack 16 = .ok (.sipush 1023, 3) := by decide +kernel
theorem dX4_comeBack_19 : decode cX4_comeBack 19 = .ok (.if_icmp .gt 15, 3) := by decide +kernel
theorem dX4_comeBack_22 : decode cX4_comeBack 22 = .ok (.iload_n 2, 1) := by decide +kernel
theorem dX4_comeBack_23 : decode cX4_comeBack 23 = .ok (.iconst 2, 1) := by decide +kernel
theorem dX4_comeBack_24 : decode cX4_comeBack 24 = .ok (.iadd, 1) := by decide +kernel
theorem dX4_comeBack_25 : decode cX4_comeBack 25 = .ok (.ldc 50, 2) := by decide +kernel
theorem dX4_comeBack_27 : decode cX4_comeBack 27 = .ok (.iand, 1) := by decide +kernel
theorem dX4_comeBack_28 : decode cX4_comeBack 28 = .ok (.sipush 1023, 3) := by decide +kernel
theorem dX4_comeBack_31 : decode cX4_comeBack 31 = .ok (.if_icmp .le 5, 3) := by decide +kernel
theorem dX4_comeBack_34 : decode cX4_comeBack 34 = .ok (.iconst 3, 1) := by decide +kernel
theorem dX4_comeBack_35 : decode cX4_comeBack 35 = .ok (.ireturn, 1) := by decide +kernel
theorem dX4_comeBack_36 : decode cX4_comeBack 36 = .ok (.aload_n 0, 1) := by decide +kernel
theorem dX4_comeBack_37 : decode cX4_comeBack 37 = .ok (.getfield 16, 3) := by decide +kernel
theorem dX4_comeBack_40 : decode cX4_comeBack 40 = .ok (.invokevirtual 235, 3) := by decide +kernel
theorem dX4_comeBack_43 : decode cX4_comeBack 43 = .ok (.istore_n 3, 1) := by decide +kernel
theorem dX4_comeBack_44 : decode cX4_comeBack 44 = .ok (.aload_n 0, 1) := by decide +kernel
theorem dX4_comeBack_45 : decode cX4_comeBack 45 = .ok (.getfield 16, 3) := by decide +kernel
theorem dX4_comeBack_48 : decode cX4_comeBack 48 = .ok (.invokevirtual 235, 3) := by decide +kernel
theorem dX4_comeBack_51 : decode cX4_comeBack 51 = .ok (.istore 4, 2) := by decide +kernel
theorem dX4_comeBack_53 : decode cX4_comeBack 53 = .ok (.iload_n 1, 1) := by decide +kernel
theorem dX4_comeBack_54 : decode cX4_comeBack 54 = .ok (.ldc 90, 2) := by decide +kernel
theorem dX4_comeBack_56 : decode cX4_comeBack 56 = .ok (.if_icmp .ne 13, 3) := by decide +kernel
theorem dX4_comeBack_59 : decode cX4_comeBack 59 = .ok (.aload_n 0, 1) := by decide +kernel
theorem dX4_comeBack_60 : decode cX4_comeBack 60 = .ok (.getfield 16, 3) := by decide +kernel
theorem dX4_comeBack_63 : decode cX4_comeBack 63 = .ok (.bipush 7, 2) := by decide +kernel
theorem dX4_comeBack_65 : decode cX4_comeBack 65 = .ok (.iconst 1, 1) := by decide +kernel
theorem dX4_comeBack_66 : decode cX4_comeBack 66 = .ok (.invokevirtual 99, 3) := by decide +kernel
theorem dX4_comeBack_69 : decode cX4_comeBack 69 = .ok (.aload_n 0, 1) := by decide +kernel
theorem dX4_comeBack_70 : decode cX4_comeBack 70 = .ok (.iload_n 3, 1) := by decide +kernel
theorem dX4_comeBack_71 : decode cX4_comeBack 71 = .ok (.bipush 8, 2) := by decide +kernel
theorem dX4_comeBack_73 : decode cX4_comeBack 73 = .ok (.ishl, 1) := by decide +kernel
theorem dX4_comeBack_74 : decode cX4_comeBack 74 = .ok (.iload 4, 2) := by decide +kernel
theorem dX4_comeBack_76 : decode cX4_comeBack 76 = .ok (.ior, 1) := by decide +kernel
theorem dX4_comeBack_77 : decode cX4_comeBack 77 = .ok (.invokevirtual 248, 3) := by decide +kernel
theorem dX4_comeBack_80 : decode cX4_comeBack 80 = .ok (.ireturn, 1) := by decide +kernel
end
section
def fX4_within (a0 : Int32) (a1 : Int32) : Int32 :=
  (if a0 < 0 then (0 : Int32) else (if a1 < a0 then (0 : Int32) else (1 : Int32)))
abbrev rmX4_within : Room := { frames := 0, cells := 0, slots := 0, locals := 0 }
set_option maxRecDepth 20000 in
theorem cX4_within_ (E : EV) (hE : okE E) (a0 : Int32) (a1 : Int32) (u : ST) : MX E yX4_within wsX4_within rmX4_within [.int a0, .int a1] u (tR u (fX4_within a0 a1)) := by
  refine MX.of (cc := cX4_within) (maxL := 2) (ret := (some .boolean)) (lv := [(0, .int a0), (1, .int a1)]) hE (by decide) rfl (fun _ => rfl) (Nat.le_of_ble_eq_true rfl) rfl (fun K hC => ?_)
  unfold fX4_within
  refine g_iload_n 0 hC dX4_within_0 0 rfl ?_
  refine g_cut 14 (if a0 < 0 then (0 : Int32) else (if a1 < a0 then (0 : Int32) else (1 : Int32))) [] ?_ (fun J3 => ?_)
  · skip
    exact g_zret 14 hC (nbI nb0 (nbI nb0 nb1)) dX4_within_14
  · skip
    refine g_if_lt 1 hC 13 dX4_within_1 (by decide) (fun h1 => ?_) (fun h1 => ?_)
    · skip
      refine g_iconst 13 hC (0 : Int32) dX4_within_13 (by decide) ?_
      exact J3 _ (Eq.symm (if_pos h1))
    · skip
      refine g_iload_n 4 hC dX4_within_4 0 rfl ?_
      refine g_iload_n 5 hC dX4_within_5 1 rfl ?_
      refine g_icmp_gt 6 hC 13 dX4_within_6 (by decide) (fun h2 => ?_) (fun h2 => ?_)
      · skip
        refine g_iconst 13 hC (0 : Int32) dX4_within_13 (by decide) ?_
        exact J3 _ (Eq.symm (Eq.trans (if_neg h1) (if_pos h2)))
      · skip
        refine g_iconst 9 hC (1 : Int32) dX4_within_9 (by decide) ?_
        refine g_goto 10 hC 14 dX4_within_10 (by decide) ?_
        exact J3 _ (Eq.symm (Eq.trans (if_neg h1) (if_neg h2)))
theorem kX4_within {K : KT} {E : EV} {cc : ByteArray} {nL : Nat} {own : String} {Ts : List Cond} {rm : Room} {ret : Option FieldType} {T : ST × Option Value} {u : ST} {lv : List (Nat × Value)} {rest : List Value} {idx : Nat} {a0 : Int32} {a1 : Int32} (pc : Nat) (hC : Cx K E cc nL own Ts rm ret) (hT : GoodIn Ts (va_wsS own idx yX4_within wsX4_within)) (hR : rmX4_within.frames + 1 ≤ rm.frames ∧ 8 + (2 + 11) + rmX4_within.locals ≤ rm.locals) (hdg : decode cc pc = .ok (.invokestatic idx, 3)) (hcat : (rest.map fun v => v.category).sum ≤ 8) (kk : G K E nL T u (pc + 3) lv (.int (fX4_within a0 a1) :: rest)) : G K E nL T u pc lv (.int a1 :: .int a0 :: rest) := g_callS (n := 2) pc hC (As := [.int a0, .int a1]) (rest := rest) (cX4_within_ _ (Cx.ok hC) a0 a1 u) hT rfl rfl rfl (by decide +kernel) hR rfl rfl hcat hdg kk

def fX4_cellAt (a1 : Int32) (u : ST) : Int32 :=
  (rC u (a1 &&& (1023 : Int32)))
theorem fiX4_cellAt_wsX40 : ∀ w ∈ wsX40, w ∈ wsX4_cellAt := fun w h => List.mem_cons_of_mem _ (List.mem_append_right _ h)
theorem fmX4_cellAt_9 : Cond.fieldLink RX4 9 "FlagCore" "cells" "[I" ∈ wsX4_cellAt := List.mem_of_getElem? (i := 1) rfl
abbrev rmX4_cellAt : Room := { frames := 0, cells := 0, slots := 0, locals := 0 }
set_option maxRecDepth 20000 in
theorem cX4_cellAt_ (h : HX) (hE : okE (EX h)) (a1 : Int32) (u : ST) : MX (EX h) yX4_cellAt wsX4_cellAt rmX4_cellAt [.ref (xO h), .int a1] u (tR u (fX4_cellAt a1 u)) := by
  refine MX.of (cc := cX4_cellAt) (maxL := 2) (ret := (some .int)) (lv := [(0, .ref (xO h)), (1, .int a1)]) hE (by decide) rfl (fun _ => rfl) (Nat.le_of_ble_eq_true rfl) rfl (fun K hC => ?_)
  unfold fX4_cellAt
  refine g_aload_n 0 hC dX4_cellAt_0 0 rfl ?_
  refine x_get_cells 1 hC fiX4_cellAt_wsX40 fmX4_cellAt_9 dX4_cellAt_1 ?_
  refine g_iload_n 4 hC dX4_cellAt_4 1 rfl ?_
  refine g_sipush 5 hC (1023 : Int32) dX4_cellAt_5 (by decide) ?_
  refine g_iand 8 hC dX4_cellAt_8 ?_
  refine x_ldC 9 hC (vin_1023 _) dX4_cellAt_9 ?_
  exact g_iret 10 hC dX4_cellAt_10
theorem kX4_cellAt {K : KT} {h : HX} {cc : ByteArray} {nL : Nat} {own : String} {Ts : List Cond} {rm : Room} {ret : Option FieldType} {T : ST × Option Value} {u : ST} {lv : List (Nat × Value)} {rest : List Value} {idx : Nat} {a1 : Int32} (pc : Nat) (hC : Cx K (EX h) cc nL own Ts rm ret) (hT : GoodIn Ts (wsV own idx RX4 yX4_cellAt wsX4_cellAt)) (hR : rmX4_cellAt.frames + 1 ≤ rm.frames ∧ 8 + (2 + 11) + rmX4_cellAt.locals ≤ rm.locals) (hdg : decode cc pc = .ok (.invokevirtual idx, 3)) (hcat : (rest.map fun v => v.category).sum ≤ 8) (kk : G K (EX h) nL T u (pc + 3) lv (.int (fX4_cellAt a1 u) :: rest)) : G K (EX h) nL T u pc lv (.int a1 :: .ref (xO h) :: rest) := g_callV (n := 1) pc hC (As := [.int a1]) (rest := rest) (cX4_cellAt_ _ (Cx.ok hC) a1 u) hT rfl rfl rfl (by decide +kernel) hR 0 2 rfl rfl rfl rfl rfl hcat hdg kk

def fX4_code (a1 : Int32) (a2 : Int32) (u : ST) : ST × Int32 :=
  if (fX4_within a1 (1023 : Int32)) = 0 then
    (u, (-1 : Int32))
  else
    if (fX4_within a2 (65535 : Int32)) = 0 then
      (u, (-1 : Int32))
    else
      ((wC u (a1 &&& (1023 : Int32)) a2), (fX4_cellAt a1 u))
theorem cmX4_code_50 : Jvm.Cond.constant RX4 50 (65535 : Int32) ∈ wsX4_code := List.mem_of_getElem? (i := 1) rfl
theorem fiX4_code_wsX40 : ∀ w ∈ wsX40, w ∈ wsX4_code := fun w h => List.mem_cons_of_mem _ (List.mem_append_right _ h)
theorem fmX4_code_9 : Cond.fieldLink RX4 9 "FlagCore" "cells" "[I" ∈ wsX4_code := List.mem_of_getElem? (i := 2) rfl
abbrev rmX4_code : Room := { frames := 1, cells := 0, slots := 0, locals := 21 }
set_option maxRecDepth 20000 in
theorem cX4_code_ (h : HX) (hE : okE (EX h)) (a1 : Int32) (a2 : Int32) (u : ST) : MX (EX h) yX4_code wsX4_code rmX4_code [.ref (xO h), .int a1, .int a2] u (tW (fX4_code a1 a2 u)) := by
  refine MX.of (cc := cX4_code) (maxL := 4) (ret := (some .int)) (lv := [(0, .ref (xO h)), (1, .int a1), (2, .int a2)]) hE (by decide) rfl (fun _ => rfl) (Nat.le_of_ble_eq_true rfl) rfl (fun K hC => ?_)
  unfold fX4_code
  refine g_iload_n 0 hC dX4_code_0 1 rfl ?_
  refine g_sipush 1 hC (1023 : Int32) dX4_code_1 (by decide) ?_
  refine kX4_within 4 hC gX4_code_X4_within ⟨Nat.le_of_ble_eq_true rfl, Nat.le_of_ble_eq_true rfl⟩ dX4_code_4 (Nat.le_of_ble_eq_true rfl) ?_
  refine g_if_eqT (tW) 7 hC 19 dX4_code_7 (by decide) (fun h1 => ?_) (fun h1 => ?_)
  · skip
    refine g_iconst 19 hC (-1 : Int32) dX4_code_19 (by decide) ?_
    exact g_iret 20 hC dX4_code_20
  · skip
    refine g_iload_n 10 hC dX4_code_10 2 rfl ?_
    refine g_ldc 11 hC (65535 : Int32) dX4_code_11 cmX4_code_50 ?_
    refine kX4_within 13 hC gX4_code_X4_within ⟨Nat.le_of_ble_eq_true rfl, Nat.le_of_ble_eq_true rfl⟩ dX4_code_13 (Nat.le_of_ble_eq_true rfl) ?_
    refine g_if_neT (tW) 16 hC 21 dX4_code_16 (by decide) (fun h2 => ?_) (fun h2 => ?_)
    · skip
      refine g_aload_n 21 hC dX4_code_21 0 rfl ?_
      refine g_iload_n 22 hC dX4_code_22 1 rfl ?_
      refine kX4_cellAt 23 hC gX4_code_X4_cellAt ⟨Nat.le_of_ble_eq_true rfl, Nat.le_of_ble_eq_true rfl⟩ dX4_code_23 (Nat.le_of_ble_eq_true rfl) ?_
      refine g_istore_n 26 hC dX4_code_26 (by decide) [(3, .int ((fX4_cellAt a1 u))), (0, .ref (xO h)), (1, .int a1), (2, .int a2)] rfl ?_
      refine g_aload_n 27 hC dX4_code_27 1 rfl ?_
      refine x_get_cells 28 hC fiX4_code_wsX40 fmX4_code_9 dX4_code_28 ?_
      refine g_iload_n 31 hC dX4_code_31 2 rfl ?_
      refine g_sipush 32 hC (1023 : Int32) dX4_code_32 (by decide) ?_
      refine g_iand 35 hC dX4_code_35 ?_
      refine g_iload_n 36 hC dX4_code_36 3 rfl ?_
      refine x_stC 37 hC (vin_1023 _) dX4_code_37 ?_
      refine g_iload_n 38 hC dX4_code_38 0 rfl ?_
      exact g_iret 39 hC dX4_code_39
    · skip
      refine g_iconst 19 hC (-1 : Int32) dX4_code_19 (by decide) ?_
      exact g_iret 20 hC dX4_code_20
theorem kX4_code {K : KT} {h : HX} {cc : ByteArray} {nL : Nat} {own : String} {Ts : List Cond} {rm : Room} {ret : Option FieldType} {T : ST × Option Value} {u : ST} {lv : List (Nat × Value)} {rest : List Value} {idx : Nat} {a1 : Int32} {a2 : Int32} (pc : Nat) (hC : Cx K (EX h) cc nL own Ts rm ret) (hT : GoodIn Ts (wsV own idx RX4 yX4_code wsX4_code)) (hR : rmX4_code.frames + 1 ≤ rm.frames ∧ 8 + (4 + 11) + rmX4_code.locals ≤ rm.locals) (hdg : decode cc pc = .ok (.invokevirtual idx, 3)) (hcat : (rest.map fun v => v.category).sum ≤ 8) (kk : G K (EX h) nL T (fX4_code a1 a2 u).1 (pc + 3) lv (.int (fX4_code a1 a2 u).2 :: rest)) : G K (EX h) nL T u pc lv (.int a2 :: .int a1 :: .ref (xO h) :: rest) := g_callV (n := 2) pc hC (As := [.int a1, .int a2]) (rest := rest) (cX4_code_ _ (Cx.ok hC) a1 a2 u) hT rfl rfl rfl (by decide +kernel) hR 0 2 rfl rfl rfl rfl rfl hcat hdg kk

def fX4_word (a1 : Int32) (u : ST) : Int32 :=
  (if (fX4_within a1 (1023 : Int32)) = 0 then (-1 : Int32) else (fX4_cellAt a1 u))
abbrev rmX4_word : Room := { frames := 1, cells := 0, slots := 0, locals := 21 }
set_option maxRecDepth 20000 in
theorem cX4_word_ (h : HX) (hE : okE (EX h)) (a1 : Int32) (u : ST) : MX (EX h) yX4_word wsX4_word rmX4_word [.ref (xO h), .int a1] u (tR u (fX4_word a1 u)) := by
  refine MX.of (cc := cX4_word) (maxL := 2) (ret := (some .int)) (lv := [(0, .ref (xO h)), (1, .int a1)]) hE (by decide) rfl (fun _ => rfl) (Nat.le_of_ble_eq_true rfl) rfl (fun K hC => ?_)
  unfold fX4_word
  refine g_iload_n 0 hC dX4_word_0 1 rfl ?_
  refine g_sipush 1 hC (1023 : Int32) dX4_word_1 (by decide) ?_
  refine kX4_within 4 hC gX4_word_X4_within ⟨Nat.le_of_ble_eq_true rfl, Nat.le_of_ble_eq_true rfl⟩ dX4_word_4 (Nat.le_of_ble_eq_true rfl) ?_
  refine g_cut 19 (if (fX4_within a1 (1023 : Int32)) = 0 then (-1 : Int32) else (fX4_cellAt a1 u)) [] ?_ (fun J2 => ?_)
  · skip
    exact g_iret 19 hC dX4_word_19
  · skip
    refine g_if_eq 7 hC 18 dX4_word_7 (by decide) (fun h1 => ?_) (fun h1 => ?_)
    · skip
      refine g_iconst 18 hC (-1 : Int32) dX4_word_18 (by decide) ?_
      exact J2 _ (Eq.symm (if_pos h1))
    · skip
      refine g_aload_n 10 hC dX4_word_10 0 rfl ?_
      refine g_iload_n 11 hC dX4_word_11 1 rfl ?_
      refine kX4_cellAt 12 hC gX4_word_X4_cellAt ⟨Nat.le_of_ble_eq_true rfl, Nat.le_of_ble_eq_true rfl⟩ dX4_word_12 (Nat.le_of_ble_eq_true rfl) ?_
      refine g_goto 15 hC 19 dX4_word_15 (by decide) ?_
      exact J2 _ (Eq.symm (if_neg h1))
theorem kX4_word {K : KT} {h : HX} {cc : ByteArray} {nL : Nat} {own : String} {Ts : List Cond} {rm : Room} {ret : Option FieldType} {T : ST × Option Value} {u : ST} {lv : List (Nat × Value)} {rest : List Value} {idx : Nat} {a1 : Int32} (pc : Nat) (hC : Cx K (EX h) cc nL own Ts rm ret) (hT : GoodIn Ts (wsV own idx RX4 yX4_word wsX4_word)) (hR : rmX4_word.frames + 1 ≤ rm.frames ∧ 8 + (2 + 11) + rmX4_word.locals ≤ rm.locals) (hdg : decode cc pc = .ok (.invokevirtual idx, 3)) (hcat : (rest.map fun v => v.category).sum ≤ 8) (kk : G K (EX h) nL T u (pc + 3) lv (.int (fX4_word a1 u) :: rest)) : G K (EX h) nL T u pc lv (.int a1 :: .ref (xO h) :: rest) := g_callV (n := 1) pc hC (As := [.int a1]) (rest := rest) (cX4_word_ _ (Cx.ok hC) a1 u) hT rfl rfl rfl (by decide +kernel) hR 0 2 rfl rfl rfl rfl rfl hcat hdg kk

def fX4_put (a1 : Int32) (a2 : Int32) (u : ST) : ST × Int32 :=
  if (fX4_within a1 (1023 : Int32)) = 0 then
    (u, (-1 : Int32))
  else
    if (fX4_within a2 (255 : Int32)) = 0 then
      (u, (-1 : Int32))
    else
      ((fX0_set a1 a2 u), (fX0_get a1 u))
theorem fiX4_put_wsX40 : ∀ w ∈ wsX40, w ∈ wsX4_put := fun w h => List.mem_cons_of_mem _ (List.mem_append_left _ (List.mem_append_right _ h))
theorem fmX4_put_16 : Cond.fieldLink RX4 16 "FlagCore" "bytes" "LFlagCore$Bytes;" ∈ wsX4_put := List.mem_of_getElem? (i := 1) rfl
abbrev rmX4_put : Room := { frames := 1, cells := 0, slots := 0, locals := 22 }
set_option maxRecDepth 20000 in
theorem cX4_put_ (h : HX) (hE : okE (EX h)) (a1 : Int32) (a2 : Int32) (u : ST) : MX (EX h) yX4_put wsX4_put rmX4_put [.ref (xO h), .int a1, .int a2] u (tW (fX4_put a1 a2 u)) := by
  refine MX.of (cc := cX4_put) (maxL := 4) (ret := (some .int)) (lv := [(0, .ref (xO h)), (1, .int a1), (2, .int a2)]) hE (by decide) rfl (fun _ => rfl) (Nat.le_of_ble_eq_true rfl) rfl (fun K hC => ?_)
  unfold fX4_put
  refine g_iload_n 0 hC dX4_put_0 1 rfl ?_
  refine g_sipush 1 hC (1023 : Int32) dX4_put_1 (by decide) ?_
  refine kX4_within 4 hC gX4_put_X4_within ⟨Nat.le_of_ble_eq_true rfl, Nat.le_of_ble_eq_true rfl⟩ dX4_put_4 (Nat.le_of_ble_eq_true rfl) ?_
  refine g_if_eqT (tW) 7 hC 20 dX4_put_7 (by decide) (fun h1 => ?_) (fun h1 => ?_)
  · skip
    refine g_iconst 20 hC (-1 : Int32) dX4_put_20 (by decide) ?_
    exact g_iret 21 hC dX4_put_21
  · skip
    refine g_iload_n 10 hC dX4_put_10 2 rfl ?_
    refine g_sipush 11 hC (255 : Int32) dX4_put_11 (by decide) ?_
    refine kX4_within 14 hC gX4_put_X4_within ⟨Nat.le_of_ble_eq_true rfl, Nat.le_of_ble_eq_true rfl⟩ dX4_put_14 (Nat.le_of_ble_eq_true rfl) ?_
    refine g_if_neT (tW) 17 hC 22 dX4_put_17 (by decide) (fun h2 => ?_) (fun h2 => ?_)
    · skip
      refine g_aload_n 22 hC dX4_put_22 0 rfl ?_
      refine x_get_bytes 23 hC fiX4_put_wsX40 fmX4_put_16 dX4_put_23 ?_
      refine g_iload_n 26 hC dX4_put_26 1 rfl ?_
      refine kX0_get 27 hC gX4_put_X0_get ⟨Nat.le_of_ble_eq_true rfl, Nat.le_of_ble_eq_true rfl⟩ dX4_put_27 (Nat.le_of_ble_eq_true rfl) ?_
      refine g_istore_n 30 hC dX4_put_30 (by decide) [(3, .int ((fX0_get a1 u))), (0, .ref (xO h)), (1, .int a1), (2, .int a2)] rfl ?_
      refine g_aload_n 31 hC dX4_put_31 1 rfl ?_
      refine x_get_bytes 32 hC fiX4_put_wsX40 fmX4_put_16 dX4_put_32 ?_
      refine g_iload_n 35 hC dX4_put_35 2 rfl ?_
      refine g_iload_n 36 hC dX4_put_36 3 rfl ?_
      refine kX0_set 37 hC gX4_put_X0_set ⟨Nat.le_of_ble_eq_true rfl, Nat.le_of_ble_eq_true rfl⟩ dX4_put_37 (Nat.le_of_ble_eq_true rfl) ?_
      refine g_iload_n 40 hC dX4_put_40 0 rfl ?_
      exact g_iret 41 hC dX4_put_41
    · skip
      refine g_iconst 20 hC (-1 : Int32) dX4_put_20 (by decide) ?_
      exact g_iret 21 hC dX4_put_21
theorem kX4_put {K : KT} {h : HX} {cc : ByteArray} {nL : Nat} {own : String} {Ts : List Cond} {rm : Room} {ret : Option FieldType} {T : ST × Option Value} {u : ST} {lv : List (Nat × Value)} {rest : List Value} {idx : Nat} {a1 : Int32} {a2 : Int32} (pc : Nat) (hC : Cx K (EX h) cc nL own Ts rm ret) (hT : GoodIn Ts (wsV own idx RX4 yX4_put wsX4_put)) (hR : rmX4_put.frames + 1 ≤ rm.frames ∧ 8 + (4 + 11) + rmX4_put.locals ≤ rm.locals) (hdg : decode cc pc = .ok (.invokevirtual idx, 3)) (hcat : (rest.map fun v => v.category).sum ≤ 8) (kk : G K (EX h) nL T (fX4_put a1 a2 u).1 (pc + 3) lv (.int (fX4_put a1 a2 u).2 :: rest)) : G K (EX h) nL T u pc lv (.int a2 :: .int a1 :: .ref (xO h) :: rest) := g_callV (n := 2) pc hC (As := [.int a1, .int a2]) (rest := rest) (cX4_put_ _ (Cx.ok hC) a1 a2 u) hT rfl rfl rfl (by decide +kernel) hR 0 2 rfl rfl rfl rfl rfl hcat hdg kk

def fX4_data (a1 : Int32) (u : ST) : Int32 :=
  (if (fX4_within a1 (1023 : Int32)) = 0 then (-1 : Int32) else (fX0_get a1 u))
theorem fiX4_data_wsX40 : ∀ w ∈ wsX40, w ∈ wsX4_data := fun w h => List.mem_cons_of_mem _ (List.mem_append_left _ (List.mem_append_right _ h))
theorem fmX4_data_16 : Cond.fieldLink RX4 16 "FlagCore" "bytes" "LFlagCore$Bytes;" ∈ wsX4_data := List.mem_of_getElem? (i := 1) rfl
abbrev rmX4_data : Room := { frames := 1, cells := 0, slots := 0, locals := 21 }
set_option maxRecDepth 20000 in
theorem cX4_data_ (h : HX) (hE : okE (EX h)) (a1 : Int32) (u : ST) : MX (EX h) yX4_data wsX4_data rmX4_data [.ref (xO h), .int a1] u (tR u (fX4_data a1 u)) := by
  refine MX.of (cc := cX4_data) (maxL := 2) (ret := (some .int)) (lv := [(0, .ref (xO h)), (1, .int a1)]) hE (by decide) rfl (fun _ => rfl) (Nat.le_of_ble_eq_true rfl) rfl (fun K hC => ?_)
  unfold fX4_data
  refine g_iload_n 0 hC dX4_data_0 1 rfl ?_
  refine g_sipush 1 hC (1023 : Int32) dX4_data_1 (by decide) ?_
  refine kX4_within 4 hC gX4_data_X4_within ⟨Nat.le_of_ble_eq_true rfl, Nat.le_of_ble_eq_true rfl⟩ dX4_data_4 (Nat.le_of_ble_eq_true rfl) ?_
  refine g_cut 22 (if (fX4_within a1 (1023 : Int32)) = 0 then (-1 : Int32) else (fX0_get a1 u)) [] ?_ (fun J2 => ?_)
  · skip
    exact g_iret 22 hC dX4_data_22
  · skip
    refine g_if_eq 7 hC 21 dX4_data_7 (by decide) (fun h1 => ?_) (fun h1 => ?_)
    · skip
      refine g_iconst 21 hC (-1 : Int32) dX4_data_21 (by decide) ?_
      exact J2 _ (Eq.symm (if_pos h1))
    · skip
      refine g_aload_n 10 hC dX4_data_10 0 rfl ?_
      refine x_get_bytes 11 hC fiX4_data_wsX40 fmX4_data_16 dX4_data_11 ?_
      refine g_iload_n 14 hC dX4_data_14 1 rfl ?_
      refine kX0_get 15 hC gX4_data_X0_get ⟨Nat.le_of_ble_eq_true rfl, Nat.le_of_ble_eq_true rfl⟩ dX4_data_15 (Nat.le_of_ble_eq_true rfl) ?_
      refine g_goto 18 hC 22 dX4_data_18 (by decide) ?_
      exact J2 _ (Eq.symm (if_neg h1))
theorem kX4_data {K : KT} {h : HX} {cc : ByteArray} {nL : Nat} {own : String} {Ts : List Cond} {rm : Room} {ret : Option FieldType} {T : ST × Option Value} {u : ST} {lv : List (Nat × Value)} {rest : List Value} {idx : Nat} {a1 : Int32} (pc : Nat) (hC : Cx K (EX h) cc nL own Ts rm ret) (hT : GoodIn Ts (wsV own idx RX4 yX4_data wsX4_data)) (hR : rmX4_data.frames + 1 ≤ rm.frames ∧ 8 + (2 + 11) + rmX4_data.locals ≤ rm.locals) (hdg : decode cc pc = .ok (.invokevirtual idx, 3)) (hcat : (rest.map fun v => v.category).sum ≤ 8) (kk : G K (EX h) nL T u (pc + 3) lv (.int (fX4_data a1 u) :: rest)) : G K (EX h) nL T u pc lv (.int a1 :: .ref (xO h) :: rest) := g_callV (n := 1) pc hC (As := [.int a1]) (rest := rest) (cX4_data_ _ (Cx.ok hC) a1 u) hT rfl rfl rfl (by decide +kernel) hR 0 2 rfl rfl rfl rfl rfl hcat hdg kk

def fX4_told (a1 : Int32) (u : ST) : Int32 :=
  if a1 = (0 : Int32) then
    (gPc u)
  else
    if a1 = (1 : Int32) then
      (fX0_pair (93 : Int32) u)
    else
      if a1 = (2 : Int32) then
        (fX0_get (95 : Int32) u)
      else
        if a1 = (3 : Int32) then
          (fX0_pair (26 : Int32) u)
        else
          if a1 = (4 : Int32) then
            (fX0_pair (28 : Int32) u)
          else
            if a1 = (5 : Int32) then
              (fX0_pair (30 : Int32) u)
            else
              if a1 = (6 : Int32) then
                (if (gWa u) = 0 then (0 : Int32) else (1 : Int32))
              else
                if a1 = (7 : Int32) then
                  (gAs u)
                else
                  (-1 : Int32)
theorem fiX4_told_wsX40 : ∀ w ∈ wsX40, w ∈ wsX4_told := fun w h => List.mem_cons_of_mem _ (List.mem_append_left _ (List.mem_append_right _ h))
theorem fmX4_told_32 : Cond.fieldLink RX4 32 "FlagCore" "pc" "I" ∈ wsX4_told := List.mem_of_getElem? (i := 1) rfl
theorem fmX4_told_16 : Cond.fieldLink RX4 16 "FlagCore" "bytes" "LFlagCore$Bytes;" ∈ wsX4_told := List.mem_of_getElem? (i := 2) rfl
theorem fmX4_told_42 : Cond.fieldLink RX4 42 "FlagCore" "waiting" "Z" ∈ wsX4_told := List.mem_of_getElem? (i := 3) rfl
theorem fmX4_told_36 : Cond.fieldLink RX4 36 "FlagCore" "asked" "I" ∈ wsX4_told := List.mem_of_getElem? (i := 4) rfl
abbrev rmX4_told : Room := { frames := 1, cells := 0, slots := 0, locals := 21 }
set_option maxRecDepth 20000 in
theorem cX4_told_ (h : HX) (hE : okE (EX h)) (a1 : Int32) (u : ST) : MX (EX h) yX4_told wsX4_told rmX4_told [.ref (xO h), .int a1] u (tR u (fX4_told a1 u)) := by
  refine MX.of (cc := cX4_told) (maxL := 2) (ret := (some .int)) (lv := [(0, .ref (xO h)), (1, .int a1)]) hE (by decide) rfl (fun _ => rfl) (Nat.le_of_ble_eq_true rfl) rfl (fun K hC => ?_)
  unfold fX4_told
  refine g_iload_n 0 hC dX4_told_0 1 rfl ?_
  refine g_byT (tR u) (fun h1 => ?_) (fun h1 => ?_)
  · refine g_tsIn 1 hC (0 : Int32) (47) 48 h1 dX4_told_1 (by decide) (by decide) (by decide) (by decide) ?_
    refine g_aload_n 48 hC dX4_told_48 0 rfl ?_
    refine x_get_pc 49 hC fiX4_told_wsX40 fmX4_told_32 dX4_told_49 ?_
    exact g_iret 52 hC dX4_told_52
  · skip
    refine g_byT (tR u) (fun h2 => ?_) (fun h2 => ?_)
    · refine g_tsIn 1 hC (1 : Int32) (52) 53 h2 dX4_told_1 (by decide) (by decide) (by decide) (by decide) ?_
      refine g_aload_n 53 hC dX4_told_53 0 rfl ?_
      refine x_get_bytes 54 hC fiX4_told_wsX40 fmX4_told_16 dX4_told_54 ?_
      refine g_bipush 57 hC (93 : Int32) dX4_told_57 (by decide) ?_
      refine kX0_pair 59 hC gX4_told_X0_pair ⟨Nat.le_of_ble_eq_true rfl, Nat.le_of_ble_eq_true rfl⟩ dX4_told_59 (Nat.le_of_ble_eq_true rfl) ?_
      exact g_iret 62 hC dX4_told_62
    · skip
      refine g_byT (tR u) (fun h3 => ?_) (fun h3 => ?_)
      · refine g_tsIn 1 hC (2 : Int32) (62) 63 h3 dX4_told_1 (by decide) (by decide) (by decide) (by decide) ?_
        refine g_aload_n 63 hC dX4_told_63 0 rfl ?_
        refine x_get_bytes 64 hC fiX4_told_wsX40 fmX4_told_16 dX4_told_64 ?_
        refine g_bipush 67 hC (95 : Int32) dX4_told_67 (by decide) ?_
        refine kX0_get 69 hC gX4_told_X0_get ⟨Nat.le_of_ble_eq_true rfl, Nat.le_of_ble_eq_true rfl⟩ dX4_told_69 (Nat.le_of_ble_eq_true rfl) ?_
        exact g_iret 72 hC dX4_told_72
      · skip
        refine g_byT (tR u) (fun h4 => ?_) (fun h4 => ?_)
        · refine g_tsIn 1 hC (3 : Int32) (72) 73 h4 dX4_told_1 (by decide) (by decide) (by decide) (by decide) ?_
          refine g_aload_n 73 hC dX4_told_73 0 rfl ?_
          refine x_get_bytes 74 hC fiX4_told_wsX40 fmX4_told_16 dX4_told_74 ?_
          refine g_bipush 77 hC (26 : Int32) dX4_told_77 (by decide) ?_
          refine kX0_pair 79 hC gX4_told_X0_pair ⟨Nat.le_of_ble_eq_true rfl, Nat.le_of_ble_eq_true rfl⟩ dX4_told_79 (Nat.le_of_ble_eq_true rfl) ?_
          exact g_iret 82 hC dX4_told_82
        · skip
          refine g_byT (tR u) (fun h5 => ?_) (fun h5 => ?_)
          · refine g_tsIn 1 hC (4 : Int32) (82) 83 h5 dX4_told_1 (by decide) (by decide) (by decide) (by decide) ?_
            refine g_aload_n 83 hC dX4_told_83 0 rfl ?_
            refine x_get_bytes 84 hC fiX4_told_wsX40 fmX4_told_16 dX4_told_84 ?_
            refine g_bipush 87 hC (28 : Int32) dX4_told_87 (by decide) ?_
            refine kX0_pair 89 hC gX4_told_X0_pair ⟨Nat.le_of_ble_eq_true rfl, Nat.le_of_ble_eq_true rfl⟩ dX4_told_89 (Nat.le_of_ble_eq_true rfl) ?_
            exact g_iret 92 hC dX4_told_92
          · skip
            refine g_byT (tR u) (fun h6 => ?_) (fun h6 => ?_)
            · refine g_tsIn 1 hC (5 : Int32) (92) 93 h6 dX4_told_1 (by decide) (by decide) (by decide) (by decide) ?_
              refine g_aload_n 93 hC dX4_told_93 0 rfl ?_
              refine x_get_bytes 94 hC fiX4_told_wsX40 fmX4_told_16 dX4_told_94 ?_
              refine g_bipush 97 hC (30 : Int32) dX4_told_97 (by decide) ?_
              refine kX0_pair 99 hC gX4_told_X0_pair ⟨Nat.le_of_ble_eq_true rfl, Nat.le_of_ble_eq_true rfl⟩ dX4_told_99 (Nat.le_of_ble_eq_true rfl) ?_
              exact g_iret 102 hC dX4_told_102
            · skip
              refine g_byT (tR u) (fun h7 => ?_) (fun h7 => ?_)
              · refine g_tsIn 1 hC (6 : Int32) (102) 103 h7 dX4_told_1 (by decide) (by decide) (by decide) (by decide) ?_
                refine g_aload_n 103 hC dX4_told_103 0 rfl ?_
                refine x_get_waiting 104 hC fiX4_told_wsX40 fmX4_told_42 dX4_told_104 ?_
                refine g_cut 115 (if (gWa u) = 0 then (0 : Int32) else (1 : Int32)) [] ?_ (fun J9 => ?_)
                · skip
                  exact g_iret 115 hC dX4_told_115
                · skip
                  refine g_if_eq 107 hC 114 dX4_told_107 (by decide) (fun h8 => ?_) (fun h8 => ?_)
                  · skip
                    refine g_iconst 114 hC (0 : Int32) dX4_told_114 (by decide) ?_
                    exact J9 _ (Eq.symm (if_pos h8))
                  · skip
                    refine g_iconst 110 hC (1 : Int32) dX4_told_110 (by decide) ?_
                    refine g_goto 111 hC 115 dX4_told_111 (by decide) ?_
                    exact J9 _ (Eq.symm (if_neg h8))
              · skip
                refine g_byT (tR u) (fun h10 => ?_) (fun h10 => ?_)
                · refine g_tsIn 1 hC (7 : Int32) (115) 116 h10 dX4_told_1 (by decide) (by decide) (by decide) (by decide) ?_
                  refine g_aload_n 116 hC dX4_told_116 0 rfl ?_
                  refine x_get_asked 117 hC fiX4_told_wsX40 fmX4_told_36 dX4_told_117 ?_
                  exact g_iret 120 hC dX4_told_120
                · skip
                  refine g_tsOut 1 hC 121 dX4_told_1 (by have n0 := lv_neT h1 (a := 0) (by decide); have n1 := lv_neT h2 (a := 1) (by decide); have n2 := lv_neT h3 (a := 2) (by decide); have n3 := lv_neT h4 (a := 3) (by decide); have n4 := lv_neT h5 (a := 4) (by decide); have n5 := lv_neT h6 (a := 5) (by decide); have n6 := lv_neT h7 (a := 6) (by decide); have n7 := lv_neT h10 (a := 7) (by decide); omega) (by decide) ?_
                  refine g_iconst 121 hC (-1 : Int32) dX4_told_121 (by decide) ?_
                  exact g_iret 122 hC dX4_told_122
theorem kX4_told {K : KT} {h : HX} {cc : ByteArray} {nL : Nat} {own : String} {Ts : List Cond} {rm : Room} {ret : Option FieldType} {T : ST × Option Value} {u : ST} {lv : List (Nat × Value)} {rest : List Value} {idx : Nat} {a1 : Int32} (pc : Nat) (hC : Cx K (EX h) cc nL own Ts rm ret) (hT : GoodIn Ts (wsV own idx RX4 yX4_told wsX4_told)) (hR : rmX4_told.frames + 1 ≤ rm.frames ∧ 8 + (2 + 11) + rmX4_told.locals ≤ rm.locals) (hdg : decode cc pc = .ok (.invokevirtual idx, 3)) (hcat : (rest.map fun v => v.category).sum ≤ 8) (kk : G K (EX h) nL T u (pc + 3) lv (.int (fX4_told a1 u) :: rest)) : G K (EX h) nL T u pc lv (.int a1 :: .ref (xO h) :: rest) := g_callV (n := 1) pc hC (As := [.int a1]) (rest := rest) (cX4_told_ _ (Cx.ok hC) a1 u) hT rfl rfl rfl (by decide +kernel) hR 0 2 rfl rfl rfl rfl rfl hcat hdg kk

def fX4_go (a1 : Int32) (u : ST) : ST × Int32 :=
  if (fX4_within a1 (1023 : Int32)) = 0 then
    (u, (-1 : Int32))
  else
    ((sPc u a1), (gPc u))
theorem fiX4_go_wsX40 : ∀ w ∈ wsX40, w ∈ wsX4_go := fun w h => List.mem_cons_of_mem _ (List.mem_append_right _ h)
theorem fmX4_go_32 : Cond.fieldLink RX4 32 "FlagCore" "pc" "I" ∈ wsX4_go := List.mem_of_getElem? (i := 1) rfl
abbrev rmX4_go : Room := { frames := 1, cells := 0, slots := 0, locals := 21 }
set_option maxRecDepth 20000 in
theorem cX4_go_ (h : HX) (hE : okE (EX h)) (a1 : Int32) (u : ST) : MX (EX h) yX4_go wsX4_go rmX4_go [.ref (xO h), .int a1] u (tW (fX4_go a1 u)) := by
  refine MX.of (cc := cX4_go) (maxL := 3) (ret := (some .int)) (lv := [(0, .ref (xO h)), (1, .int a1)]) hE (by decide) rfl (fun _ => rfl) (Nat.le_of_ble_eq_true rfl) rfl (fun K hC => ?_)
  unfold fX4_go
  refine g_iload_n 0 hC dX4_go_0 1 rfl ?_
  refine g_sipush 1 hC (1023 : Int32) dX4_go_1 (by decide) ?_
  refine kX4_within 4 hC gX4_go_X4_within ⟨Nat.le_of_ble_eq_true rfl, Nat.le_of_ble_eq_true rfl⟩ dX4_go_4 (Nat.le_of_ble_eq_true rfl) ?_
  refine g_if_neT (tW) 7 hC 12 dX4_go_7 (by decide) (fun h1 => ?_) (fun h1 => ?_)
  · skip
    refine g_aload_n 12 hC dX4_go_12 0 rfl ?_
    refine x_get_pc 13 hC fiX4_go_wsX40 fmX4_go_32 dX4_go_13 ?_
    refine g_istore_n 16 hC dX4_go_16 (by decide) [(2, .int ((gPc u))), (0, .ref (xO h)), (1, .int a1)] rfl ?_
    refine g_aload_n 17 hC dX4_go_17 1 rfl ?_
    refine g_iload_n 18 hC dX4_go_18 2 rfl ?_
    refine x_put_pc 19 hC fiX4_go_wsX40 fmX4_go_32 dX4_go_19 ?_
    refine g_iload_n 22 hC dX4_go_22 0 rfl ?_
    exact g_iret 23 hC dX4_go_23
  · skip
    refine g_iconst 10 hC (-1 : Int32) dX4_go_10 (by decide) ?_
    exact g_iret 11 hC dX4_go_11
theorem kX4_go {K : KT} {h : HX} {cc : ByteArray} {nL : Nat} {own : String} {Ts : List Cond} {rm : Room} {ret : Option FieldType} {T : ST × Option Value} {u : ST} {lv : List (Nat × Value)} {rest : List Value} {idx : Nat} {a1 : Int32} (pc : Nat) (hC : Cx K (EX h) cc nL own Ts rm ret) (hT : GoodIn Ts (wsV own idx RX4 yX4_go wsX4_go)) (hR : rmX4_go.frames + 1 ≤ rm.frames ∧ 8 + (3 + 11) + rmX4_go.locals ≤ rm.locals) (hdg : decode cc pc = .ok (.invokevirtual idx, 3)) (hcat : (rest.map fun v => v.category).sum ≤ 8) (kk : G K (EX h) nL T (fX4_go a1 u).1 (pc + 3) lv (.int (fX4_go a1 u).2 :: rest)) : G K (EX h) nL T u pc lv (.int a1 :: .ref (xO h) :: rest) := g_callV (n := 1) pc hC (As := [.int a1]) (rest := rest) (cX4_go_ _ (Cx.ok hC) a1 u) hT rfl rfl rfl (by decide +kernel) hR 0 2 rfl rfl rfl rfl rfl hcat hdg kk

def fX4_ask (a1 : Int32) (u : ST) : ST × Int32 :=
  if a1 < (1 : Int32) then
    (u, (-1 : Int32))
  else
    if a1 ≤ (25 : Int32) then
      if ((gAs u) &&& (jshl (1 : Int32) a1)) = 0 then
        ((sAs u ((gAs u) ||| (jshl (1 : Int32) a1))), (1 : Int32))
      else
        (u, (0 : Int32))
    else
      (u, (-1 : Int32))
theorem fiX4_ask_wsX40 : ∀ w ∈ wsX40, w ∈ wsX4_ask := fun w h => List.mem_cons_of_mem _ (List.mem_append_right _ h)
theorem fmX4_ask_36 : Cond.fieldLink RX4 36 "FlagCore" "asked" "I" ∈ wsX4_ask := List.mem_of_getElem? (i := 1) rfl
abbrev rmX4_ask : Room := { frames := 0, cells := 0, slots := 0, locals := 0 }
set_option maxRecDepth 20000 in
theorem cX4_ask_ (h : HX) (hE : okE (EX h)) (a1 : Int32) (u : ST) : MX (EX h) yX4_ask wsX4_ask rmX4_ask [.ref (xO h), .int a1] u (tW (fX4_ask a1 u)) := by
  refine MX.of (cc := cX4_ask) (maxL := 3) (ret := (some .int)) (lv := [(0, .ref (xO h)), (1, .int a1)]) hE (by decide) rfl (fun _ => rfl) (Nat.le_of_ble_eq_true rfl) rfl (fun K hC => ?_)
  unfold fX4_ask
  refine g_iload_n 0 hC dX4_ask_0 1 rfl ?_
  refine g_iconst 1 hC (1 : Int32) dX4_ask_1 (by decide) ?_
  refine g_icmp_ltT (tW) 2 hC 11 dX4_ask_2 (by decide) (fun h1 => ?_) (fun h1 => ?_)
  · skip
    refine g_iconst 11 hC (-1 : Int32) dX4_ask_11 (by decide) ?_
    exact g_iret 12 hC dX4_ask_12
  · skip
    refine g_iload_n 5 hC dX4_ask_5 1 rfl ?_
    refine g_bipush 6 hC (25 : Int32) dX4_ask_6 (by decide) ?_
    refine g_icmp_leT (tW) 8 hC 13 dX4_ask_8 (by decide) (fun h2 => ?_) (fun h2 => ?_)
    · skip
      refine g_iconst 13 hC (1 : Int32) dX4_ask_13 (by decide) ?_
      refine g_iload_n 14 hC dX4_ask_14 1 rfl ?_
      refine g_ishl 15 hC dX4_ask_15 ?_
      refine g_istore_n 16 hC dX4_ask_16 (by decide) [(2, .int ((jshl (1 : Int32) a1))), (0, .ref (xO h)), (1, .int a1)] rfl ?_
      refine g_aload_n 17 hC dX4_ask_17 1 rfl ?_
      refine x_get_asked 18 hC fiX4_ask_wsX40 fmX4_ask_36 dX4_ask_18 ?_
      refine g_iload_n 21 hC dX4_ask_21 0 rfl ?_
      refine g_iand 22 hC dX4_ask_22 ?_
      refine g_if_eqT (tW) 23 hC 28 dX4_ask_23 (by decide) (fun h3 => ?_) (fun h3 => ?_)
      · skip
        refine g_aload_n 28 hC dX4_ask_28 1 rfl ?_
        refine g_dup 29 hC dX4_ask_29 rfl ?_
        refine x_get_asked 30 hC fiX4_ask_wsX40 fmX4_ask_36 dX4_ask_30 ?_
        refine g_iload_n 33 hC dX4_ask_33 0 rfl ?_
        refine g_ior 34 hC dX4_ask_34 ?_
        refine x_put_asked 35 hC fiX4_ask_wsX40 fmX4_ask_36 dX4_ask_35 ?_
        refine g_iconst 38 hC (1 : Int32) dX4_ask_38 (by decide) ?_
        exact g_iret 39 hC dX4_ask_39
      · skip
        refine g_iconst 26 hC (0 : Int32) dX4_ask_26 (by decide) ?_
        exact g_iret 27 hC dX4_ask_27
    · skip
      refine g_iconst 11 hC (-1 : Int32) dX4_ask_11 (by decide) ?_
      exact g_iret 12 hC dX4_ask_12
theorem kX4_ask {K : KT} {h : HX} {cc : ByteArray} {nL : Nat} {own : String} {Ts : List Cond} {rm : Room} {ret : Option FieldType} {T : ST × Option Value} {u : ST} {lv : List (Nat × Value)} {rest : List Value} {idx : Nat} {a1 : Int32} (pc : Nat) (hC : Cx K (EX h) cc nL own Ts rm ret) (hT : GoodIn Ts (wsV own idx RX4 yX4_ask wsX4_ask)) (hR : rmX4_ask.frames + 1 ≤ rm.frames ∧ 8 + (3 + 11) + rmX4_ask.locals ≤ rm.locals) (hdg : decode cc pc = .ok (.invokevirtual idx, 3)) (hcat : (rest.map fun v => v.category).sum ≤ 8) (kk : G K (EX h) nL T (fX4_ask a1 u).1 (pc + 3) lv (.int (fX4_ask a1 u).2 :: rest)) : G K (EX h) nL T u pc lv (.int a1 :: .ref (xO h) :: rest) := g_callV (n := 1) pc hC (As := [.int a1]) (rest := rest) (cX4_ask_ _ (Cx.ok hC) a1 u) hT rfl rfl rfl (by decide +kernel) hR 0 2 rfl rfl rfl rfl rfl hcat hdg kk

def fX4_enterLeast (u : ST) : ST × Int32 :=
  if (fX0_stacks (gPc u) u).2 = 0 then
    (((fX0_stacks (gPc u) u).1), (3 : Int32))
  else
    ((fX0_setFlag (7 : Int32) (0 : Int32) (sAs (sPc ((fX0_stacks (gPc u) u).1) (((2 : Int32) * (fJ6_numberOfTrailingZeros_0f7a4 (gAs ((fX0_stacks (gPc u) u).1)))) &&& (1023 : Int32))) ((gAs (sPc ((fX0_stacks (gPc u) u).1) (((2 : Int32) * (fJ6_numberOfTrailingZeros_0f7a4 (gAs ((fX0_stacks (gPc u) u).1)))) &&& (1023 : Int32)))) &&& ((gAs (sPc ((fX0_stacks (gPc u) u).1) (((2 : Int32) * (fJ6_numberOfTrailingZeros_0f7a4 (gAs ((fX0_stacks (gPc u) u).1)))) &&& (1023 : Int32)))) - (1 : Int32))))), (1 : Int32))
theorem fiX4_enterLeast_wsX40 : ∀ w ∈ wsX40, w ∈ wsX4_enterLeast := fun w h => List.mem_cons_of_mem _ (List.mem_append_left _ (List.mem_append_right _ h))
theorem fmX4_enterLeast_16 : Cond.fieldLink RX4 16 "FlagCore" "bytes" "LFlagCore$Bytes;" ∈ wsX4_enterLeast := List.mem_of_getElem? (i := 1) rfl
theorem fmX4_enterLeast_32 : Cond.fieldLink RX4 32 "FlagCore" "pc" "I" ∈ wsX4_enterLeast := List.mem_of_getElem? (i := 2) rfl
theorem fmX4_enterLeast_36 : Cond.fieldLink RX4 36 "FlagCore" "asked" "I" ∈ wsX4_enterLeast := List.mem_of_getElem? (i := 3) rfl
abbrev rmX4_enterLeast : Room := { frames := 3, cells := 0, slots := 0, locals := 67 }
set_option maxRecDepth 20000 in
theorem cX4_enterLeast_ (h : HX) (hE : okE (EX h)) (u : ST) : MX (EX h) yX4_enterLeast wsX4_enterLeast rmX4_enterLeast [.ref (xO h)] u (tW (fX4_enterLeast u)) := by
  refine MX.of (cc := cX4_enterLeast) (maxL := 1) (ret := (some .int)) (lv := [(0, .ref (xO h))]) hE (by decide) rfl (fun _ => rfl) (Nat.le_of_ble_eq_true rfl) rfl (fun K hC => ?_)
  unfold fX4_enterLeast
  refine g_aload_n 0 hC dX4_enterLeast_0 0 rfl ?_
  refine x_get_bytes 1 hC fiX4_enterLeast_wsX40 fmX4_enterLeast_16 dX4_enterLeast_1 ?_
  refine g_aload_n 4 hC dX4_enterLeast_4 0 rfl ?_
  refine x_get_pc 5 hC fiX4_enterLeast_wsX40 fmX4_enterLeast_32 dX4_enterLeast_5 ?_
  refine kX0_stacks 8 hC gX4_enterLeast_X0_stacks ⟨Nat.le_of_ble_eq_true rfl, Nat.le_of_ble_eq_true rfl⟩ dX4_enterLeast_8 (Nat.le_of_ble_eq_true rfl) ?_
  refine g_if_neT (tW) 11 hC 16 dX4_enterLeast_11 (by decide) (fun h1 => ?_) (fun h1 => ?_)
  · skip
    refine g_aload_n 16 hC dX4_enterLeast_16 0 rfl ?_
    refine g_iconst 17 hC (2 : Int32) dX4_enterLeast_17 (by decide) ?_
    refine g_aload_n 18 hC dX4_enterLeast_18 0 rfl ?_
    refine x_get_asked 19 hC fiX4_enterLeast_wsX40 fmX4_enterLeast_36 dX4_enterLeast_19 ?_
    refine kJ6_numberOfTrailingZeros_0f7a4 22 hC gX4_enterLeast_J6_numberOfTrailingZeros_0f7a4 ⟨Nat.le_of_ble_eq_true rfl, Nat.le_of_ble_eq_true rfl⟩ dX4_enterLeast_22 (Nat.le_of_ble_eq_true rfl) ?_
    refine g_imul 25 hC dX4_enterLeast_25 ?_
    refine g_sipush 26 hC (1023 : Int32) dX4_enterLeast_26 (by decide) ?_
    refine g_iand 29 hC dX4_enterLeast_29 ?_
    refine x_put_pc 30 hC fiX4_enterLeast_wsX40 fmX4_enterLeast_32 dX4_enterLeast_30 ?_
    refine g_aload_n 33 hC dX4_enterLeast_33 0 rfl ?_
    refine g_dup 34 hC dX4_enterLeast_34 rfl ?_
    refine x_get_asked 35 hC fiX4_enterLeast_wsX40 fmX4_enterLeast_36 dX4_enterLeast_35 ?_
    refine g_aload_n 38 hC dX4_enterLeast_38 0 rfl ?_
    refine x_get_asked 39 hC fiX4_enterLeast_wsX40 fmX4_enterLeast_36 dX4_enterLeast_39 ?_
    refine g_iconst 42 hC (1 : Int32) dX4_enterLeast_42 (by decide) ?_
    refine g_isub 43 hC dX4_enterLeast_43 ?_
    refine g_iand 44 hC dX4_enterLeast_44 ?_
    refine x_put_asked 45 hC fiX4_enterLeast_wsX40 fmX4_enterLeast_36 dX4_enterLeast_45 ?_
    refine g_aload_n 48 hC dX4_enterLeast_48 0 rfl ?_
    refine x_get_bytes 49 hC fiX4_enterLeast_wsX40 fmX4_enterLeast_16 dX4_enterLeast_49 ?_
    refine g_bipush 52 hC (7 : Int32) dX4_enterLeast_52 (by decide) ?_
    refine g_iconst 54 hC (0 : Int32) dX4_enterLeast_54 (by decide) ?_
    refine kX0_setFlag 55 hC gX4_enterLeast_X0_setFlag ⟨Nat.le_of_ble_eq_true rfl, Nat.le_of_ble_eq_true rfl⟩ dX4_enterLeast_55 (Nat.le_of_ble_eq_true rfl) ?_
    refine g_iconst 58 hC (1 : Int32) dX4_enterLeast_58 (by decide) ?_
    exact g_iret 59 hC dX4_enterLeast_59
  · skip
    refine g_iconst 14 hC (3 : Int32) dX4_enterLeast_14 (by decide) ?_
    exact g_iret 15 hC dX4_enterLeast_15
theorem kX4_enterLeast {K : KT} {h : HX} {cc : ByteArray} {nL : Nat} {own : String} {Ts : List Cond} {rm : Room} {ret : Option FieldType} {T : ST × Option Value} {u : ST} {lv : List (Nat × Value)} {rest : List Value} {idx : Nat} (pc : Nat) (hC : Cx K (EX h) cc nL own Ts rm ret) (hT : GoodIn Ts (wsV own idx RX4 yX4_enterLeast wsX4_enterLeast)) (hR : rmX4_enterLeast.frames + 1 ≤ rm.frames ∧ 8 + (1 + 11) + rmX4_enterLeast.locals ≤ rm.locals) (hdg : decode cc pc = .ok (.invokevirtual idx, 3)) (hcat : (rest.map fun v => v.category).sum ≤ 8) (kk : G K (EX h) nL T (fX4_enterLeast u).1 (pc + 3) lv (.int (fX4_enterLeast u).2 :: rest)) : G K (EX h) nL T u pc lv (.ref (xO h) :: rest) := g_callV (n := 0) pc hC (As := []) (rest := rest) (cX4_enterLeast_ _ (Cx.ok hC) u) hT rfl rfl rfl (by decide +kernel) hR 0 2 rfl rfl rfl rfl rfl hcat hdg kk

def fX4_onward (a1 : Int32) (u : ST) : ST × Int32 :=
  ((sPc u (((gPc u) + a1) &&& (1023 : Int32))), (0 : Int32))
theorem fiX4_onward_wsX40 : ∀ w ∈ wsX40, w ∈ wsX4_onward := fun w h => List.mem_cons_of_mem _ (List.mem_append_right _ h)
theorem fmX4_onward_32 : Cond.fieldLink RX4 32 "FlagCore" "pc" "I" ∈ wsX4_onward := List.mem_of_getElem? (i := 1) rfl
abbrev rmX4_onward : Room := { frames := 0, cells := 0, slots := 0, locals := 0 }
set_option maxRecDepth 20000 in
theorem cX4_onward_ (h : HX) (hE : okE (EX h)) (a1 : Int32) (u : ST) : MX (EX h) yX4_onward wsX4_onward rmX4_onward [.ref (xO h), .int a1] u (tW (fX4_onward a1 u)) := by
  refine MX.of (cc := cX4_onward) (maxL := 2) (ret := (some .int)) (lv := [(0, .ref (xO h)), (1, .int a1)]) hE (by decide) rfl (fun _ => rfl) (Nat.le_of_ble_eq_true rfl) rfl (fun K hC => ?_)
  unfold fX4_onward
  refine g_aload_n 0 hC dX4_onward_0 0 rfl ?_
  refine g_aload_n 1 hC dX4_onward_1 0 rfl ?_
  refine x_get_pc 2 hC fiX4_onward_wsX40 fmX4_onward_32 dX4_onward_2 ?_
  refine g_iload_n 5 hC dX4_onward_5 1 rfl ?_
  refine g_iadd 6 hC dX4_onward_6 ?_
  refine g_sipush 7 hC (1023 : Int32) dX4_onward_7 (by decide) ?_
  refine g_iand 10 hC dX4_onward_10 ?_
  refine x_put_pc 11 hC fiX4_onward_wsX40 fmX4_onward_32 dX4_onward_11 ?_
  refine g_iconst 14 hC (0 : Int32) dX4_onward_14 (by decide) ?_
  exact g_iret 15 hC dX4_onward_15
theorem kX4_onward {K : KT} {h : HX} {cc : ByteArray} {nL : Nat} {own : String} {Ts : List Cond} {rm : Room} {ret : Option FieldType} {T : ST × Option Value} {u : ST} {lv : List (Nat × Value)} {rest : List Value} {idx : Nat} {a1 : Int32} (pc : Nat) (hC : Cx K (EX h) cc nL own Ts rm ret) (hT : GoodIn Ts (wsV own idx RX4 yX4_onward wsX4_onward)) (hR : rmX4_onward.frames + 1 ≤ rm.frames ∧ 8 + (2 + 11) + rmX4_onward.locals ≤ rm.locals) (hdg : decode cc pc = .ok (.invokevirtual idx, 3)) (hcat : (rest.map fun v => v.category).sum ≤ 8) (kk : G K (EX h) nL T (fX4_onward a1 u).1 (pc + 3) lv (.int (fX4_onward a1 u).2 :: rest)) : G K (EX h) nL T u pc lv (.int a1 :: .ref (xO h) :: rest) := g_callV (n := 1) pc hC (As := [.int a1]) (rest := rest) (cX4_onward_ _ (Cx.ok hC) a1 u) hT rfl rfl rfl (by decide +kernel) hR 0 2 rfl rfl rfl rfl rfl hcat hdg kk

def fX4_movePair (a1 : Int32) (u : ST) : ST × Int32 :=
  (fX4_onward (1 : Int32) (fX0_setPair ((2 : Int32) * ((jshr a1 (4 : Int32)) &&& (15 : Int32))) (fX0_pair ((2 : Int32) * (a1 &&& (15 : Int32))) u) u))
theorem fiX4_movePair_wsX40 : ∀ w ∈ wsX40, w ∈ wsX4_movePair := fun w h => List.mem_cons_of_mem _ (List.mem_append_left _ (List.mem_append_right _ h))
theorem fmX4_movePair_16 : Cond.fieldLink RX4 16 "FlagCore" "bytes" "LFlagCore$Bytes;" ∈ wsX4_movePair := List.mem_of_getElem? (i := 1) rfl
abbrev rmX4_movePair : Room := { frames := 1, cells := 0, slots := 0, locals := 22 }
set_option maxRecDepth 20000 in
theorem cX4_movePair_ (h : HX) (hE : okE (EX h)) (a1 : Int32) (u : ST) : MX (EX h) yX4_movePair wsX4_movePair rmX4_movePair [.ref (xO h), .int a1] u (tW (fX4_movePair a1 u)) := by
  refine MX.of (cc := cX4_movePair) (maxL := 2) (ret := (some .int)) (lv := [(0, .ref (xO h)), (1, .int a1)]) hE (by decide) rfl (fun _ => rfl) (Nat.le_of_ble_eq_true rfl) rfl (fun K hC => ?_)
  unfold fX4_movePair
  refine g_aload_n 0 hC dX4_movePair_0 0 rfl ?_
  refine x_get_bytes 1 hC fiX4_movePair_wsX40 fmX4_movePair_16 dX4_movePair_1 ?_
  refine g_iconst 4 hC (2 : Int32) dX4_movePair_4 (by decide) ?_
  refine g_iload_n 5 hC dX4_movePair_5 1 rfl ?_
  refine g_iconst 6 hC (4 : Int32) dX4_movePair_6 (by decide) ?_
  refine g_ishr 7 hC dX4_movePair_7 ?_
  refine g_bipush 8 hC (15 : Int32) dX4_movePair_8 (by decide) ?_
  refine g_iand 10 hC dX4_movePair_10 ?_
  refine g_imul 11 hC dX4_movePair_11 ?_
  refine g_aload_n 12 hC dX4_movePair_12 0 rfl ?_
  refine x_get_bytes 13 hC fiX4_movePair_wsX40 fmX4_movePair_16 dX4_movePair_13 ?_
  refine g_iconst 16 hC (2 : Int32) dX4_movePair_16 (by decide) ?_
  refine g_iload_n 17 hC dX4_movePair_17 1 rfl ?_
  refine g_bipush 18 hC (15 : Int32) dX4_movePair_18 (by decide) ?_
  refine g_iand 20 hC dX4_movePair_20 ?_
  refine g_imul 21 hC dX4_movePair_21 ?_
  refine kX0_pair 22 hC gX4_movePair_X0_pair ⟨Nat.le_of_ble_eq_true rfl, Nat.le_of_ble_eq_true rfl⟩ dX4_movePair_22 (Nat.le_of_ble_eq_true rfl) ?_
  refine kX0_setPair 25 hC gX4_movePair_X0_setPair ⟨Nat.le_of_ble_eq_true rfl, Nat.le_of_ble_eq_true rfl⟩ dX4_movePair_25 (Nat.le_of_ble_eq_true rfl) ?_
  refine g_aload_n 28 hC dX4_movePair_28 0 rfl ?_
  refine g_iconst 29 hC (1 : Int32) dX4_movePair_29 (by decide) ?_
  refine kX4_onward 30 hC gX4_movePair_X4_onward ⟨Nat.le_of_ble_eq_true rfl, Nat.le_of_ble_eq_true rfl⟩ dX4_movePair_30 (Nat.le_of_ble_eq_true rfl) ?_
  exact g_iret 33 hC dX4_movePair_33
theorem kX4_movePair {K : KT} {h : HX} {cc : ByteArray} {nL : Nat} {own : String} {Ts : List Cond} {rm : Room} {ret : Option FieldType} {T : ST × Option Value} {u : ST} {lv : List (Nat × Value)} {rest : List Value} {idx : Nat} {a1 : Int32} (pc : Nat) (hC : Cx K (EX h) cc nL own Ts rm ret) (hT : GoodIn Ts (wsV own idx RX4 yX4_movePair wsX4_movePair)) (hR : rmX4_movePair.frames + 1 ≤ rm.frames ∧ 8 + (2 + 11) + rmX4_movePair.locals ≤ rm.locals) (hdg : decode cc pc = .ok (.invokevirtual idx, 3)) (hcat : (rest.map fun v => v.category).sum ≤ 8) (kk : G K (EX h) nL T (fX4_movePair a1 u).1 (pc + 3) lv (.int (fX4_movePair a1 u).2 :: rest)) : G K (EX h) nL T u pc lv (.int a1 :: .ref (xO h) :: rest) := g_callV (n := 1) pc hC (As := [.int a1]) (rest := rest) (cX4_movePair_ _ (Cx.ok hC) a1 u) hT rfl rfl rfl (by decide +kernel) hR 0 2 rfl rfl rfl rfl rfl hcat hdg kk

def fX4_multiplyFew (a1 : Int32) (a2 : Int32) (a3 : Int32) (u : ST) : ST :=
  if (a1 &&& (136 : Int32)) = (0 : Int32) then
    (fX2_product ((fX0_signed a2 u) * (fX0_get a3 u)) u)
  else
    if (a1 &&& (136 : Int32)) = (8 : Int32) then
      (fX2_fraction ((fX0_get a2 u) * (fX0_get a3 u)) u)
    else
      if (a1 &&& (136 : Int32)) = (128 : Int32) then
        (fX2_fraction ((fX0_signed a2 u) * (fX0_signed a3 u)) u)
      else
        (fX2_fraction ((fX0_signed a2 u) * (fX0_get a3 u)) u)
theorem fiX4_multiplyFew_wsX40 : ∀ w ∈ wsX40, w ∈ wsX4_multiplyFew := fun w h => List.mem_cons_of_mem _ (List.mem_append_left _ (List.mem_append_left _ (List.mem_append_right _ h)))
theorem fmX4_multiplyFew_25 : Cond.fieldLink RX4 25 "FlagCore" "sums" "LFlagCore$Sums;" ∈ wsX4_multiplyFew := List.mem_of_getElem? (i := 1) rfl
theorem fmX4_multiplyFew_16 : Cond.fieldLink RX4 16 "FlagCore" "bytes" "LFlagCore$Bytes;" ∈ wsX4_multiplyFew := List.mem_of_getElem? (i := 2) rfl
abbrev rmX4_multiplyFew : Room := { frames := 3, cells := 0, slots := 0, locals := 65 }
set_option maxRecDepth 20000 in
theorem cX4_multiplyFew_ (h : HX) (hE : okE (EX h)) (a1 : Int32) (a2 : Int32) (a3 : Int32) (u : ST) : MX (EX h) yX4_multiplyFew wsX4_multiplyFew rmX4_multiplyFew [.ref (xO h), .int a1, .int a2, .int a3] u (tS (fX4_multiplyFew a1 a2 a3 u)) := by
  refine MX.of (cc := cX4_multiplyFew) (maxL := 4) (ret := none) (lv := [(0, .ref (xO h)), (1, .int a1), (2, .int a2), (3, .int a3)]) hE (by decide) rfl (fun _ => rfl) (Nat.le_of_ble_eq_true rfl) rfl (fun K hC => ?_)
  unfold fX4_multiplyFew
  refine g_iload_n 0 hC dX4_multiplyFew_0 1 rfl ?_
  refine g_sipush 1 hC (136 : Int32) dX4_multiplyFew_1 (by decide) ?_
  refine g_iand 4 hC dX4_multiplyFew_4 ?_
  refine g_byT (tS) (fun h1 => ?_) (fun h1 => ?_)
  · refine g_ls 5 hC (35) 40 dX4_multiplyFew_5 (by decide) (by rw [h1]; decide) (by decide) ?_
    refine g_aload_n 40 hC dX4_multiplyFew_40 0 rfl ?_
    refine x_get_sums 41 hC fiX4_multiplyFew_wsX40 fmX4_multiplyFew_25 dX4_multiplyFew_41 ?_
    refine g_aload_n 44 hC dX4_multiplyFew_44 0 rfl ?_
    refine x_get_bytes 45 hC fiX4_multiplyFew_wsX40 fmX4_multiplyFew_16 dX4_multiplyFew_45 ?_
    refine g_iload_n 48 hC dX4_multiplyFew_48 2 rfl ?_
    refine kX0_signed 49 hC gX4_multiplyFew_X0_signed ⟨Nat.le_of_ble_eq_true rfl, Nat.le_of_ble_eq_true rfl⟩ dX4_multiplyFew_49 (Nat.le_of_ble_eq_true rfl) ?_
    refine g_aload_n 52 hC dX4_multiplyFew_52 0 rfl ?_
    refine x_get_bytes 53 hC fiX4_multiplyFew_wsX40 fmX4_multiplyFew_16 dX4_multiplyFew_53 ?_
    refine g_iload_n 56 hC dX4_multiplyFew_56 3 rfl ?_
    refine kX0_get 57 hC gX4_multiplyFew_X0_get ⟨Nat.le_of_ble_eq_true rfl, Nat.le_of_ble_eq_true rfl⟩ dX4_multiplyFew_57 (Nat.le_of_ble_eq_true rfl) ?_
    refine g_imul 60 hC dX4_multiplyFew_60 ?_
    refine kX2_product 61 hC gX4_multiplyFew_X2_product ⟨Nat.le_of_ble_eq_true rfl, Nat.le_of_ble_eq_true rfl⟩ dX4_multiplyFew_61 (Nat.le_of_ble_eq_true rfl) ?_
    refine g_goto 64 hC 145 dX4_multiplyFew_64 (by decide) ?_
    exact g_vret 145 hC dX4_multiplyFew_145
  · skip
    refine g_byT (tS) (fun h2 => ?_) (fun h2 => ?_)
    · refine g_ls 5 hC (62) 67 dX4_multiplyFew_5 (by decide) (by rw [h2]; decide) (by decide) ?_
      refine g_aload_n 67 hC dX4_multiplyFew_67 0 rfl ?_
      refine x_get_sums 68 hC fiX4_multiplyFew_wsX40 fmX4_multiplyFew_25 dX4_multiplyFew_68 ?_
      refine g_aload_n 71 hC dX4_multiplyFew_71 0 rfl ?_
      refine x_get_bytes 72 hC fiX4_multiplyFew_wsX40 fmX4_multiplyFew_16 dX4_multiplyFew_72 ?_
      refine g_iload_n 75 hC dX4_multiplyFew_75 2 rfl ?_
      refine kX0_get 76 hC gX4_multiplyFew_X0_get ⟨Nat.le_of_ble_eq_true rfl, Nat.le_of_ble_eq_true rfl⟩ dX4_multiplyFew_76 (Nat.le_of_ble_eq_true rfl) ?_
      refine g_aload_n 79 hC dX4_multiplyFew_79 0 rfl ?_
      refine x_get_bytes 80 hC fiX4_multiplyFew_wsX40 fmX4_multiplyFew_16 dX4_multiplyFew_80 ?_
      refine g_iload_n 83 hC dX4_multiplyFew_83 3 rfl ?_
      refine kX0_get 84 hC gX4_multiplyFew_X0_get ⟨Nat.le_of_ble_eq_true rfl, Nat.le_of_ble_eq_true rfl⟩ dX4_multiplyFew_84 (Nat.le_of_ble_eq_true rfl) ?_
      refine g_imul 87 hC dX4_multiplyFew_87 ?_
      refine kX2_fraction 88 hC gX4_multiplyFew_X2_fraction ⟨Nat.le_of_ble_eq_true rfl, Nat.le_of_ble_eq_true rfl⟩ dX4_multiplyFew_88 (Nat.le_of_ble_eq_true rfl) ?_
      refine g_goto 91 hC 145 dX4_multiplyFew_91 (by decide) ?_
      exact g_vret 145 hC dX4_multiplyFew_145
    · skip
      refine g_byT (tS) (fun h3 => ?_) (fun h3 => ?_)
      · refine g_ls 5 hC (89) 94 dX4_multiplyFew_5 (by decide) (by rw [h3]; decide) (by decide) ?_
        refine g_aload_n 94 hC dX4_multiplyFew_94 0 rfl ?_
        refine x_get_sums 95 hC fiX4_multiplyFew_wsX40 fmX4_multiplyFew_25 dX4_multiplyFew_95 ?_
        refine g_aload_n 98 hC dX4_multiplyFew_98 0 rfl ?_
        refine x_get_bytes 99 hC fiX4_multiplyFew_wsX40 fmX4_multiplyFew_16 dX4_multiplyFew_99 ?_
        refine g_iload_n 102 hC dX4_multiplyFew_102 2 rfl ?_
        refine kX0_signed 103 hC gX4_multiplyFew_X0_signed ⟨Nat.le_of_ble_eq_true rfl, Nat.le_of_ble_eq_true rfl⟩ dX4_multiplyFew_103 (Nat.le_of_ble_eq_true rfl) ?_
        refine g_aload_n 106 hC dX4_multiplyFew_106 0 rfl ?_
        refine x_get_bytes 107 hC fiX4_multiplyFew_wsX40 fmX4_multiplyFew_16 dX4_multiplyFew_107 ?_
        refine g_iload_n 110 hC dX4_multiplyFew_110 3 rfl ?_
        refine kX0_signed 111 hC gX4_multiplyFew_X0_signed ⟨Nat.le_of_ble_eq_true rfl, Nat.le_of_ble_eq_true rfl⟩ dX4_multiplyFew_111 (Nat.le_of_ble_eq_true rfl) ?_
        refine g_imul 114 hC dX4_multiplyFew_114 ?_
        refine kX2_fraction 115 hC gX4_multiplyFew_X2_fraction ⟨Nat.le_of_ble_eq_true rfl, Nat.le_of_ble_eq_true rfl⟩ dX4_multiplyFew_115 (Nat.le_of_ble_eq_true rfl) ?_
        refine g_goto 118 hC 145 dX4_multiplyFew_118 (by decide) ?_
        exact g_vret 145 hC dX4_multiplyFew_145
      · skip
        refine g_ls 5 hC (116) 121 dX4_multiplyFew_5 (by decide) ((lv_osw h1 (a := 0) (by decide)).trans ((lv_osw h2 (a := 8) (by decide)).trans ((lv_osw h3 (a := 128) (by decide)).trans rfl))) (by decide) ?_
        refine g_aload_n 121 hC dX4_multiplyFew_121 0 rfl ?_
        refine x_get_sums 122 hC fiX4_multiplyFew_wsX40 fmX4_multiplyFew_25 dX4_multiplyFew_122 ?_
        refine g_aload_n 125 hC dX4_multiplyFew_125 0 rfl ?_
        refine x_get_bytes 126 hC fiX4_multiplyFew_wsX40 fmX4_multiplyFew_16 dX4_multiplyFew_126 ?_
        refine g_iload_n 129 hC dX4_multiplyFew_129 2 rfl ?_
        refine kX0_signed 130 hC gX4_multiplyFew_X0_signed ⟨Nat.le_of_ble_eq_true rfl, Nat.le_of_ble_eq_true rfl⟩ dX4_multiplyFew_130 (Nat.le_of_ble_eq_true rfl) ?_
        refine g_aload_n 133 hC dX4_multiplyFew_133 0 rfl ?_
        refine x_get_bytes 134 hC fiX4_multiplyFew_wsX40 fmX4_multiplyFew_16 dX4_multiplyFew_134 ?_
        refine g_iload_n 137 hC dX4_multiplyFew_137 3 rfl ?_
        refine kX0_get 138 hC gX4_multiplyFew_X0_get ⟨Nat.le_of_ble_eq_true rfl, Nat.le_of_ble_eq_true rfl⟩ dX4_multiplyFew_138 (Nat.le_of_ble_eq_true rfl) ?_
        refine g_imul 141 hC dX4_multiplyFew_141 ?_
        refine kX2_fraction 142 hC gX4_multiplyFew_X2_fraction ⟨Nat.le_of_ble_eq_true rfl, Nat.le_of_ble_eq_true rfl⟩ dX4_multiplyFew_142 (Nat.le_of_ble_eq_true rfl) ?_
        exact g_vret 145 hC dX4_multiplyFew_145
theorem kX4_multiplyFew {K : KT} {h : HX} {cc : ByteArray} {nL : Nat} {own : String} {Ts : List Cond} {rm : Room} {ret : Option FieldType} {T : ST × Option Value} {u : ST} {lv : List (Nat × Value)} {rest : List Value} {idx : Nat} {a1 : Int32} {a2 : Int32} {a3 : Int32} (pc : Nat) (hC : Cx K (EX h) cc nL own Ts rm ret) (hT : GoodIn Ts (wsV own idx RX4 yX4_multiplyFew wsX4_multiplyFew)) (hR : rmX4_multiplyFew.frames + 1 ≤ rm.frames ∧ 8 + (4 + 11) + rmX4_multiplyFew.locals ≤ rm.locals) (hdg : decode cc pc = .ok (.invokevirtual idx, 3)) (hcat : (rest.map fun v => v.category).sum ≤ 8) (kk : G K (EX h) nL T (fX4_multiplyFew a1 a2 a3 u) (pc + 3) lv (rest)) : G K (EX h) nL T u pc lv (.int a3 :: .int a2 :: .int a1 :: .ref (xO h) :: rest) := g_callV (n := 3) pc hC (As := [.int a1, .int a2, .int a3]) (rest := rest) (cX4_multiplyFew_ _ (Cx.ok hC) a1 a2 a3 u) hT rfl rfl rfl (by decide +kernel) hR 0 2 rfl rfl rfl rfl rfl hcat hdg kk

def fX4_multiply (a1 : Int32) (u : ST) : ST × Int32 :=
  (fX4_onward (1 : Int32) (if (jshr a1 (12 : Int32)) = (9 : Int32) then (fX2_product ((fX0_get (fX3_d a1) u) * (fX0_get (fX3_r a1) u)) u) else (if (jshr a1 (8 : Int32)) = (2 : Int32) then (fX2_product ((fX0_signed ((16 : Int32) + ((jshr a1 (4 : Int32)) &&& (15 : Int32))) u) * (fX0_signed ((16 : Int32) + (a1 &&& (15 : Int32))) u)) u) else (fX4_multiplyFew a1 ((16 : Int32) + ((jshr a1 (4 : Int32)) &&& (7 : Int32))) ((16 : Int32) + (a1 &&& (7 : Int32))) u))))
theorem fiX4_multiply_wsX40 : ∀ w ∈ wsX40, w ∈ wsX4_multiply := fun w h => List.mem_cons_of_mem _ (List.mem_append_left _ (List.mem_append_left _ (List.mem_append_right _ h)))
theorem fmX4_multiply_25 : Cond.fieldLink RX4 25 "FlagCore" "sums" "LFlagCore$Sums;" ∈ wsX4_multiply := List.mem_of_getElem? (i := 1) rfl
theorem fmX4_multiply_16 : Cond.fieldLink RX4 16 "FlagCore" "bytes" "LFlagCore$Bytes;" ∈ wsX4_multiply := List.mem_of_getElem? (i := 2) rfl
abbrev rmX4_multiply : Room := { frames := 4, cells := 0, slots := 0, locals := 88 }
set_option maxRecDepth 20000 in
theorem cX4_multiply_ (h : HX) (hE : okE (EX h)) (a1 : Int32) (u : ST) : MX (EX h) yX4_multiply wsX4_multiply rmX4_multiply [.ref (xO h), .int a1] u (tW (fX4_multiply a1 u)) := by
  refine MX.of (cc := cX4_multiply) (maxL := 2) (ret := (some .int)) (lv := [(0, .ref (xO h)), (1, .int a1)]) hE (by decide) rfl (fun _ => rfl) (Nat.le_of_ble_eq_true rfl) rfl (fun K hC => ?_)
  unfold fX4_multiply
  refine g_iload_n 0 hC dX4_multiply_0 1 rfl ?_
  refine g_bipush 1 hC (12 : Int32) dX4_multiply_1 (by decide) ?_
  refine g_ishr 3 hC dX4_multiply_3 ?_
  refine g_bipush 4 hC (9 : Int32) dX4_multiply_4 (by decide) ?_
  refine g_cutS 112 (if (jshr a1 (12 : Int32)) = (9 : Int32) then (fX2_product ((fX0_get (fX3_d a1) u) * (fX0_get (fX3_r a1) u)) u) else (if (jshr a1 (8 : Int32)) = (2 : Int32) then (fX2_product ((fX0_signed ((16 : Int32) + ((jshr a1 (4 : Int32)) &&& (15 : Int32))) u) * (fX0_signed ((16 : Int32) + (a1 &&& (15 : Int32))) u)) u) else (fX4_multiplyFew a1 ((16 : Int32) + ((jshr a1 (4 : Int32)) &&& (7 : Int32))) ((16 : Int32) + (a1 &&& (7 : Int32))) u))) [] ?_ (fun J3 => ?_)
  · skip
    refine g_aload_n 112 hC dX4_multiply_112 0 rfl ?_
    refine g_iconst 113 hC (1 : Int32) dX4_multiply_113 (by decide) ?_
    refine kX4_onward 114 hC gX4_multiply_X4_onward ⟨Nat.le_of_ble_eq_true rfl, Nat.le_of_ble_eq_true rfl⟩ dX4_multiply_114 (Nat.le_of_ble_eq_true rfl) ?_
    exact g_iret 117 hC dX4_multiply_117
  · skip
    refine g_icmp_ne 6 hC 42 dX4_multiply_6 (by decide) (fun h1 => ?_) (fun h1 => ?_)
    · skip
      refine g_iload_n 42 hC dX4_multiply_42 1 rfl ?_
      refine g_bipush 43 hC (8 : Int32) dX4_multiply_43 (by decide) ?_
      refine g_ishr 45 hC dX4_multiply_45 ?_
      refine g_iconst 46 hC (2 : Int32) dX4_multiply_46 (by decide) ?_
      refine g_icmp_ne 47 hC 91 dX4_multiply_47 (by decide) (fun h2 => ?_) (fun h2 => ?_)
      · skip
        refine g_aload_n 91 hC dX4_multiply_91 0 rfl ?_
        refine g_iload_n 92 hC dX4_multiply_92 1 rfl ?_
        refine g_bipush 93 hC (16 : Int32) dX4_multiply_93 (by decide) ?_
        refine g_iload_n 95 hC dX4_multiply_95 1 rfl ?_
        refine g_iconst 96 hC (4 : Int32) dX4_multiply_96 (by decide) ?_
        refine g_ishr 97 hC dX4_multiply_97 ?_
        refine g_bipush 98 hC (7 : Int32) dX4_multiply_98 (by decide) ?_
        refine g_iand 100 hC dX4_multiply_100 ?_
        refine g_iadd 101 hC dX4_multiply_101 ?_
        refine g_bipush 102 hC (16 : Int32) dX4_multiply_102 (by decide) ?_
        refine g_iload_n 104 hC dX4_multiply_104 1 rfl ?_
        refine g_bipush 105 hC (7 : Int32) dX4_multiply_105 (by decide) ?_
        refine g_iand 107 hC dX4_multiply_107 ?_
        refine g_iadd 108 hC dX4_multiply_108 ?_
        refine kX4_multiplyFew 109 hC gX4_multiply_X4_multiplyFew ⟨Nat.le_of_ble_eq_true rfl, Nat.le_of_ble_eq_true rfl⟩ dX4_multiply_109 (Nat.le_of_ble_eq_true rfl) ?_
        exact J3 _ (Eq.symm (Eq.trans (if_neg h1) (if_neg h2)))
      · skip
        refine g_aload_n 50 hC dX4_multiply_50 0 rfl ?_
        refine x_get_sums 51 hC fiX4_multiply_wsX40 fmX4_multiply_25 dX4_multiply_51 ?_
        refine g_aload_n 54 hC dX4_multiply_54 0 rfl ?_
        refine x_get_bytes 55 hC fiX4_multiply_wsX40 fmX4_multiply_16 dX4_multiply_55 ?_
        refine g_bipush 58 hC (16 : Int32) dX4_multiply_58 (by decide) ?_
        refine g_iload_n 60 hC dX4_multiply_60 1 rfl ?_
        refine g_iconst 61 hC (4 : Int32) dX4_multiply_61 (by decide) ?_
        refine g_ishr 62 hC dX4_multiply_62 ?_
        refine g_bipush 63 hC (15 : Int32) dX4_multiply_63 (by decide) ?_
        refine g_iand 65 hC dX4_multiply_65 ?_
        refine g_iadd 66 hC dX4_multiply_66 ?_
        refine kX0_signed 67 hC gX4_multiply_X0_signed ⟨Nat.le_of_ble_eq_true rfl, Nat.le_of_ble_eq_true rfl⟩ dX4_multiply_67 (Nat.le_of_ble_eq_true rfl) ?_
        refine g_aload_n 70 hC dX4_multiply_70 0 rfl ?_
        refine x_get_bytes 71 hC fiX4_multiply_wsX40 fmX4_multiply_16 dX4_multiply_71 ?_
        refine g_bipush 74 hC (16 : Int32) dX4_multiply_74 (by decide) ?_
        refine g_iload_n 76 hC dX4_multiply_76 1 rfl ?_
        refine g_bipush 77 hC (15 : Int32) dX4_multiply_77 (by decide) ?_
        refine g_iand 79 hC dX4_multiply_79 ?_
        refine g_iadd 80 hC dX4_multiply_80 ?_
        refine kX0_signed 81 hC gX4_multiply_X0_signed ⟨Nat.le_of_ble_eq_true rfl, Nat.le_of_ble_eq_true rfl⟩ dX4_multiply_81 (Nat.le_of_ble_eq_true rfl) ?_
        refine g_imul 84 hC dX4_multiply_84 ?_
        refine kX2_product 85 hC gX4_multiply_X2_product ⟨Nat.le_of_ble_eq_true rfl, Nat.le_of_ble_eq_true rfl⟩ dX4_multiply_85 (Nat.le_of_ble_eq_true rfl) ?_
        refine g_goto 88 hC 112 dX4_multiply_88 (by decide) ?_
        exact J3 _ (Eq.symm (Eq.trans (if_neg h1) (if_pos h2)))
    · skip
      refine g_aload_n 9 hC dX4_multiply_9 0 rfl ?_
      refine x_get_sums 10 hC fiX4_multiply_wsX40 fmX4_multiply_25 dX4_multiply_10 ?_
      refine g_aload_n 13 hC dX4_multiply_13 0 rfl ?_
      refine x_get_bytes 14 hC fiX4_multiply_wsX40 fmX4_multiply_16 dX4_multiply_14 ?_
      refine g_iload_n 17 hC dX4_multiply_17 1 rfl ?_
      refine kX3_d 18 hC gX4_multiply_X3_d ⟨Nat.le_of_ble_eq_true rfl, Nat.le_of_ble_eq_true rfl⟩ dX4_multiply_18 (Nat.le_of_ble_eq_true rfl) ?_
      refine kX0_get 21 hC gX4_multiply_X0_get ⟨Nat.le_of_ble_eq_true rfl, Nat.le_of_ble_eq_true rfl⟩ dX4_multiply_21 (Nat.le_of_ble_eq_true rfl) ?_
      refine g_aload_n 24 hC dX4_multiply_24 0 rfl ?_
      refine x_get_bytes 25 hC fiX4_multiply_wsX40 fmX4_multiply_16 dX4_multiply_25 ?_
      refine g_iload_n 28 hC dX4_multiply_28 1 rfl ?_
      refine kX3_r 29 hC gX4_multiply_X3_r ⟨Nat.le_of_ble_eq_true rfl, Nat.le_of_ble_eq_true rfl⟩ dX4_multiply_29 (Nat.le_of_ble_eq_true rfl) ?_
      refine kX0_get 32 hC gX4_multiply_X0_get ⟨Nat.le_of_ble_eq_true rfl, Nat.le_of_ble_eq_true rfl⟩ dX4_multiply_32 (Nat.le_of_ble_eq_true rfl) ?_
      refine g_imul 35 hC dX4_multiply_35 ?_
      refine kX2_product 36 hC gX4_multiply_X2_product ⟨Nat.le_of_ble_eq_true rfl, Nat.le_of_ble_eq_true rfl⟩ dX4_multiply_36 (Nat.le_of_ble_eq_true rfl) ?_
      refine g_goto 39 hC 112 dX4_multiply_39 (by decide) ?_
      exact J3 _ (Eq.symm (if_pos h1))
theorem kX4_multiply {K : KT} {h : HX} {cc : ByteArray} {nL : Nat} {own : String} {Ts : List Cond} {rm : Room} {ret : Option FieldType} {T : ST × Option Value} {u : ST} {lv : List (Nat × Value)} {rest : List Value} {idx : Nat} {a1 : Int32} (pc : Nat) (hC : Cx K (EX h) cc nL own Ts rm ret) (hT : GoodIn Ts (wsV own idx RX4 yX4_multiply wsX4_multiply)) (hR : rmX4_multiply.frames + 1 ≤ rm.frames ∧ 8 + (2 + 11) + rmX4_multiply.locals ≤ rm.locals) (hdg : decode cc pc = .ok (.invokevirtual idx, 3)) (hcat : (rest.map fun v => v.category).sum ≤ 8) (kk : G K (EX h) nL T (fX4_multiply a1 u).1 (pc + 3) lv (.int (fX4_multiply a1 u).2 :: rest)) : G K (EX h) nL T u pc lv (.int a1 :: .ref (xO h) :: rest) := g_callV (n := 1) pc hC (As := [.int a1]) (rest := rest) (cX4_multiply_ _ (Cx.ok hC) a1 u) hT rfl rfl rfl (by decide +kernel) hR 0 2 rfl rfl rfl rfl rfl hcat hdg kk

def fX4_skip (a1 : Int32) (u : ST) : ST × Int32 :=
  if a1 = 0 then
    (fX4_onward (1 : Int32) u)
  else
    if (fX3_hasNext (fX4_cellAt ((gPc u) + (1 : Int32)) u)) = 0 then
      (fX4_onward (2 : Int32) (wN u (4 : Int32) ((rN u (4 : Int32)) + (1 : Int32))))
    else
      (fX4_onward (3 : Int32) (wN u (5 : Int32) ((rN u (5 : Int32)) + (1 : Int32))))
theorem fiX4_skip_wsX40 : ∀ w ∈ wsX40, w ∈ wsX4_skip := fun w h => List.mem_cons_of_mem _ (List.mem_append_right _ h)
theorem fmX4_skip_32 : Cond.fieldLink RX4 32 "FlagCore" "pc" "I" ∈ wsX4_skip := List.mem_of_getElem? (i := 1) rfl
theorem fmX4_skip_29 : Cond.fieldLink RX4 29 "FlagCore" "tallies" "[I" ∈ wsX4_skip := List.mem_of_getElem? (i := 2) rfl
abbrev rmX4_skip : Room := { frames := 1, cells := 0, slots := 0, locals := 21 }
set_option maxRecDepth 20000 in
theorem cX4_skip_ (h : HX) (hE : okE (EX h)) (a1 : Int32) (u : ST) : MX (EX h) yX4_skip wsX4_skip rmX4_skip [.ref (xO h), .int a1] u (tW (fX4_skip a1 u)) := by
  refine MX.of (cc := cX4_skip) (maxL := 2) (ret := (some .int)) (lv := [(0, .ref (xO h)), (1, .int a1)]) hE (by decide) rfl (fun _ => rfl) (Nat.le_of_ble_eq_true rfl) rfl (fun K hC => ?_)
  unfold fX4_skip
  refine g_iload_n 0 hC dX4_skip_0 1 rfl ?_
  refine g_if_neT (tW) 1 hC 10 dX4_skip_1 (by decide) (fun h1 => ?_) (fun h1 => ?_)
  · skip
    refine g_aload_n 10 hC dX4_skip_10 0 rfl ?_
    refine g_aload_n 11 hC dX4_skip_11 0 rfl ?_
    refine x_get_pc 12 hC fiX4_skip_wsX40 fmX4_skip_32 dX4_skip_12 ?_
    refine g_iconst 15 hC (1 : Int32) dX4_skip_15 (by decide) ?_
    refine g_iadd 16 hC dX4_skip_16 ?_
    refine kX4_cellAt 17 hC gX4_skip_X4_cellAt ⟨Nat.le_of_ble_eq_true rfl, Nat.le_of_ble_eq_true rfl⟩ dX4_skip_17 (Nat.le_of_ble_eq_true rfl) ?_
    refine kX3_hasNext 20 hC gX4_skip_X3_hasNext ⟨Nat.le_of_ble_eq_true rfl, Nat.le_of_ble_eq_true rfl⟩ dX4_skip_20 (Nat.le_of_ble_eq_true rfl) ?_
    refine g_if_eqT (tW) 23 hC 42 dX4_skip_23 (by decide) (fun h2 => ?_) (fun h2 => ?_)
    · skip
      refine g_aload_n 42 hC dX4_skip_42 0 rfl ?_
      refine x_get_tallies 43 hC fiX4_skip_wsX40 fmX4_skip_29 dX4_skip_43 ?_
      refine g_iconst 46 hC (4 : Int32) dX4_skip_46 (by decide) ?_
      refine g_dup2 47 hC dX4_skip_47 rfl rfl ?_
      refine x_ldN 48 hC (vp_in_iff.mpr (by decide)) dX4_skip_48 ?_
      refine g_iconst 49 hC (1 : Int32) dX4_skip_49 (by decide) ?_
      refine g_iadd 50 hC dX4_skip_50 ?_
      refine x_stN 51 hC (vp_in_iff.mpr (by decide)) dX4_skip_51 ?_
      refine g_aload_n 52 hC dX4_skip_52 0 rfl ?_
      refine g_iconst 53 hC (2 : Int32) dX4_skip_53 (by decide) ?_
      refine kX4_onward 54 hC gX4_skip_X4_onward ⟨Nat.le_of_ble_eq_true rfl, Nat.le_of_ble_eq_true rfl⟩ dX4_skip_54 (Nat.le_of_ble_eq_true rfl) ?_
      exact g_iret 57 hC dX4_skip_57
    · skip
      refine g_aload_n 26 hC dX4_skip_26 0 rfl ?_
      refine x_get_tallies 27 hC fiX4_skip_wsX40 fmX4_skip_29 dX4_skip_27 ?_
      refine g_iconst 30 hC (5 : Int32) dX4_skip_30 (by decide) ?_
      refine g_dup2 31 hC dX4_skip_31 rfl rfl ?_
      refine x_ldN 32 hC (vp_in_iff.mpr (by decide)) dX4_skip_32 ?_
      refine g_iconst 33 hC (1 : Int32) dX4_skip_33 (by decide) ?_
      refine g_iadd 34 hC dX4_skip_34 ?_
      refine x_stN 35 hC (vp_in_iff.mpr (by decide)) dX4_skip_35 ?_
      refine g_aload_n 36 hC dX4_skip_36 0 rfl ?_
      refine g_iconst 37 hC (3 : Int32) dX4_skip_37 (by decide) ?_
      refine kX4_onward 38 hC gX4_skip_X4_onward ⟨Nat.le_of_ble_eq_true rfl, Nat.le_of_ble_eq_true rfl⟩ dX4_skip_38 (Nat.le_of_ble_eq_true rfl) ?_
      exact g_iret 41 hC dX4_skip_41
  · skip
    refine g_aload_n 4 hC dX4_skip_4 0 rfl ?_
    refine g_iconst 5 hC (1 : Int32) dX4_skip_5 (by decide) ?_
    refine kX4_onward 6 hC gX4_skip_X4_onward ⟨Nat.le_of_ble_eq_true rfl, Nat.le_of_ble_eq_true rfl⟩ dX4_skip_6 (Nat.le_of_ble_eq_true rfl) ?_
    exact g_iret 9 hC dX4_skip_9
theorem kX4_skip {K : KT} {h : HX} {cc : ByteArray} {nL : Nat} {own : String} {Ts : List Cond} {rm : Room} {ret : Option FieldType} {T : ST × Option Value} {u : ST} {lv : List (Nat × Value)} {rest : List Value} {idx : Nat} {a1 : Int32} (pc : Nat) (hC : Cx K (EX h) cc nL own Ts rm ret) (hT : GoodIn Ts (wsV own idx RX4 yX4_skip wsX4_skip)) (hR : rmX4_skip.frames + 1 ≤ rm.frames ∧ 8 + (2 + 11) + rmX4_skip.locals ≤ rm.locals) (hdg : decode cc pc = .ok (.invokevirtual idx, 3)) (hcat : (rest.map fun v => v.category).sum ≤ 8) (kk : G K (EX h) nL T (fX4_skip a1 u).1 (pc + 3) lv (.int (fX4_skip a1 u).2 :: rest)) : G K (EX h) nL T u pc lv (.int a1 :: .ref (xO h) :: rest) := g_callV (n := 1) pc hC (As := [.int a1]) (rest := rest) (cX4_skip_ _ (Cx.ok hC) a1 u) hT rfl rfl rfl (by decide +kernel) hR 0 2 rfl rfl rfl rfl rfl hcat hdg kk

def fX4_combine (a1 : Int32) (u : ST) : ST × Int32 :=
  if (jshr a1 (10 : Int32)) = (1 : Int32) then
    (fX4_onward (1 : Int32) ((fX2_differenceOn (fX0_get (fX3_d a1) u) (fX0_get (fX3_r a1) u) (fX0_flag (0 : Int32) u) u).1))
  else
    if (jshr a1 (10 : Int32)) = (2 : Int32) then
      (fX4_onward (1 : Int32) (fX0_set (fX3_d a1) (fX2_differenceOn (fX0_get (fX3_d a1) u) (fX0_get (fX3_r a1) u) (fX0_flag (0 : Int32) u) u).2 ((fX2_differenceOn (fX0_get (fX3_d a1) u) (fX0_get (fX3_r a1) u) (fX0_flag (0 : Int32) u) u).1)))
    else
      if (jshr a1 (10 : Int32)) = (3 : Int32) then
        (fX4_onward (1 : Int32) (fX0_set (fX3_d a1) (fX2_sum (fX0_get (fX3_d a1) u) (fX0_get (fX3_r a1) u) (0 : Int32) u).2 ((fX2_sum (fX0_get (fX3_d a1) u) (fX0_get (fX3_r a1) u) (0 : Int32) u).1)))
      else
        if (jshr a1 (10 : Int32)) = (4 : Int32) then
          (fX4_skip (if (fX0_get (fX3_d a1) u) = (fX0_get (fX3_r a1) u) then (1 : Int32) else (0 : Int32)) u)
        else
          if (jshr a1 (10 : Int32)) = (5 : Int32) then
            (fX4_onward (1 : Int32) ((fX2_difference (fX0_get (fX3_d a1) u) (fX0_get (fX3_r a1) u) u).1))
          else
            if (jshr a1 (10 : Int32)) = (6 : Int32) then
              (fX4_onward (1 : Int32) (fX0_set (fX3_d a1) (fX2_difference (fX0_get (fX3_d a1) u) (fX0_get (fX3_r a1) u) u).2 ((fX2_difference (fX0_get (fX3_d a1) u) (fX0_get (fX3_r a1) u) u).1)))
            else
              if (jshr a1 (10 : Int32)) = (7 : Int32) then
                (fX4_onward (1 : Int32) (fX0_set (fX3_d a1) (fX2_sum (fX0_get (fX3_d a1) u) (fX0_get (fX3_r a1) u) (fX0_flag (0 : Int32) u) u).2 ((fX2_sum (fX0_get (fX3_d a1) u) (fX0_get (fX3_r a1) u) (fX0_flag (0 : Int32) u) u).1)))
              else
                if (jshr a1 (10 : Int32)) = (8 : Int32) then
                  (fX4_onward (1 : Int32) (fX0_set (fX3_d a1) (fX2_logic ((fX0_get (fX3_d a1) u) &&& (fX0_get (fX3_r a1) u)) u).2 ((fX2_logic ((fX0_get (fX3_d a1) u) &&& (fX0_get (fX3_r a1) u)) u).1)))
                else
                  if (jshr a1 (10 : Int32)) = (9 : Int32) then
                    (fX4_onward (1 : Int32) (fX0_set (fX3_d a1) (fX2_logic ((fX0_get (fX3_d a1) u) ^^^ (fX0_get (fX3_r a1) u)) u).2 ((fX2_logic ((fX0_get (fX3_d a1) u) ^^^ (fX0_get (fX3_r a1) u)) u).1)))
                  else
                    if (jshr a1 (10 : Int32)) = (10 : Int32) then
                      (fX4_onward (1 : Int32) (fX0_set (fX3_d a1) (fX2_logic ((fX0_get (fX3_d a1) u) ||| (fX0_get (fX3_r a1) u)) u).2 ((fX2_logic ((fX0_get (fX3_d a1) u) ||| (fX0_get (fX3_r a1) u)) u).1)))
                    else
                      (fX4_onward (1 : Int32) (fX0_set (fX3_d a1) (fX0_get (fX3_r a1) u) u))
theorem fiX4_combine_wsX40 : ∀ w ∈ wsX40, w ∈ wsX4_combine := fun w h => List.mem_cons_of_mem _ (List.mem_append_left _ (List.mem_append_left _ (List.mem_append_right _ h)))
theorem fmX4_combine_16 : Cond.fieldLink RX4 16 "FlagCore" "bytes" "LFlagCore$Bytes;" ∈ wsX4_combine := List.mem_of_getElem? (i := 1) rfl
theorem fmX4_combine_25 : Cond.fieldLink RX4 25 "FlagCore" "sums" "LFlagCore$Sums;" ∈ wsX4_combine := List.mem_of_getElem? (i := 2) rfl
abbrev rmX4_combine : Room := { frames := 3, cells := 0, slots := 0, locals := 75 }
set_option maxRecDepth 20000 in
theorem cX4_combine_ (h : HX) (hE : okE (EX h)) (a1 : Int32) (u : ST) : MX (EX h) yX4_combine wsX4_combine rmX4_combine [.ref (xO h), .int a1] u (tW (fX4_combine a1 u)) := by
  refine MX.of (cc := cX4_combine) (maxL := 6) (ret := (some .int)) (lv := [(0, .ref (xO h)), (1, .int a1)]) hE (by decide) rfl (fun _ => rfl) (Nat.le_of_ble_eq_true rfl) rfl (fun K hC => ?_)
  unfold fX4_combine
  refine g_iload_n 0 hC dX4_combine_0 1 rfl ?_
  refine kX3_d 1 hC gX4_combine_X3_d ⟨Nat.le_of_ble_eq_true rfl, Nat.le_of_ble_eq_true rfl⟩ dX4_combine_1 (Nat.le_of_ble_eq_true rfl) ?_
  refine g_istore_n 4 hC dX4_combine_4 (by decide) [(2, .int ((fX3_d a1))), (0, .ref (xO h)), (1, .int a1)] rfl ?_
  refine g_aload_n 5 hC dX4_combine_5 1 rfl ?_
  refine x_get_bytes 6 hC fiX4_combine_wsX40 fmX4_combine_16 dX4_combine_6 ?_
  refine g_iload_n 9 hC dX4_combine_9 0 rfl ?_
  refine kX0_get 10 hC gX4_combine_X0_get ⟨Nat.le_of_ble_eq_true rfl, Nat.le_of_ble_eq_true rfl⟩ dX4_combine_10 (Nat.le_of_ble_eq_true rfl) ?_
  refine g_istore_n 13 hC dX4_combine_13 (by decide) [(3, .int ((fX0_get (fX3_d a1) u))), (2, .int ((fX3_d a1))), (0, .ref (xO h)), (1, .int a1)] rfl ?_
  refine g_aload_n 14 hC dX4_combine_14 2 rfl ?_
  refine x_get_bytes 15 hC fiX4_combine_wsX40 fmX4_combine_16 dX4_combine_15 ?_
  refine g_iload_n 18 hC dX4_combine_18 3 rfl ?_
  refine kX3_r 19 hC gX4_combine_X3_r ⟨Nat.le_of_ble_eq_true rfl, Nat.le_of_ble_eq_true rfl⟩ dX4_combine_19 (Nat.le_of_ble_eq_true rfl) ?_
  refine kX0_get 22 hC gX4_combine_X0_get ⟨Nat.le_of_ble_eq_true rfl, Nat.le_of_ble_eq_true rfl⟩ dX4_combine_22 (Nat.le_of_ble_eq_true rfl) ?_
  refine g_istore 25 hC dX4_combine_25 (by decide) [(4, .int ((fX0_get (fX3_r a1) u))), (3, .int ((fX0_get (fX3_d a1) u))), (2, .int ((fX3_d a1))), (0, .ref (xO h)), (1, .int a1)] rfl ?_
  refine g_aload_n 27 hC dX4_combine_27 3 rfl ?_
  refine x_get_bytes 28 hC fiX4_combine_wsX40 fmX4_combine_16 dX4_combine_28 ?_
  refine g_iconst 31 hC (0 : Int32) dX4_combine_31 (by decide) ?_
  refine kX0_flag 32 hC gX4_combine_X0_flag ⟨Nat.le_of_ble_eq_true rfl, Nat.le_of_ble_eq_true rfl⟩ dX4_combine_32 (Nat.le_of_ble_eq_true rfl) ?_
  refine g_istore 35 hC dX4_combine_35 (by decide) [(5, .int ((fX0_flag (0 : Int32) u))), (4, .int ((fX0_get (fX3_r a1) u))), (3, .int ((fX0_get (fX3_d a1) u))), (2, .int ((fX3_d a1))), (0, .ref (xO h)), (1, .int a1)] rfl ?_
  refine g_iload_n 37 hC dX4_combine_37 5 rfl ?_
  refine g_bipush 38 hC (10 : Int32) dX4_combine_38 (by decide) ?_
  refine g_ishr 40 hC dX4_combine_40 ?_
  refine g_byT (tW) (fun h1 => ?_) (fun h1 => ?_)
  · refine g_tsIn 41 hC (1 : Int32) (55) 96 h1 dX4_combine_41 (by decide) (by decide) (by decide) (by decide) ?_
    refine g_aload_n 96 hC dX4_combine_96 4 rfl ?_
    refine x_get_sums 97 hC fiX4_combine_wsX40 fmX4_combine_25 dX4_combine_97 ?_
    refine g_iload_n 100 hC dX4_combine_100 2 rfl ?_
    refine g_iload 101 hC dX4_combine_101 1 rfl ?_
    refine g_iload 103 hC dX4_combine_103 0 rfl ?_
    refine kX2_differenceOn 105 hC gX4_combine_X2_differenceOn ⟨Nat.le_of_ble_eq_true rfl, Nat.le_of_ble_eq_true rfl⟩ dX4_combine_105 (Nat.le_of_ble_eq_true rfl) ?_
    refine g_pop 108 hC dX4_combine_108 rfl ?_
    refine g_goto 109 hC 307 dX4_combine_109 (by decide) ?_
    refine g_aload_n 307 hC dX4_combine_307 4 rfl ?_
    refine g_iconst 308 hC (1 : Int32) dX4_combine_308 (by decide) ?_
    refine kX4_onward 309 hC gX4_combine_X4_onward ⟨Nat.le_of_ble_eq_true rfl, Nat.le_of_ble_eq_true rfl⟩ dX4_combine_309 (Nat.le_of_ble_eq_true rfl) ?_
    exact g_iret 312 hC dX4_combine_312
  · skip
    refine g_byT (tW) (fun h2 => ?_) (fun h2 => ?_)
    · refine g_tsIn 41 hC (2 : Int32) (71) 112 h2 dX4_combine_41 (by decide) (by decide) (by decide) (by decide) ?_
      refine g_aload_n 112 hC dX4_combine_112 4 rfl ?_
      refine x_get_bytes 113 hC fiX4_combine_wsX40 fmX4_combine_16 dX4_combine_113 ?_
      refine g_iload_n 116 hC dX4_combine_116 3 rfl ?_
      refine g_aload_n 117 hC dX4_combine_117 4 rfl ?_
      refine x_get_sums 118 hC fiX4_combine_wsX40 fmX4_combine_25 dX4_combine_118 ?_
      refine g_iload_n 121 hC dX4_combine_121 2 rfl ?_
      refine g_iload 122 hC dX4_combine_122 1 rfl ?_
      refine g_iload 124 hC dX4_combine_124 0 rfl ?_
      refine kX2_differenceOn 126 hC gX4_combine_X2_differenceOn ⟨Nat.le_of_ble_eq_true rfl, Nat.le_of_ble_eq_true rfl⟩ dX4_combine_126 (Nat.le_of_ble_eq_true rfl) ?_
      refine kX0_set 129 hC gX4_combine_X0_set ⟨Nat.le_of_ble_eq_true rfl, Nat.le_of_ble_eq_true rfl⟩ dX4_combine_129 (Nat.le_of_ble_eq_true rfl) ?_
      refine g_goto 132 hC 307 dX4_combine_132 (by decide) ?_
      refine g_aload_n 307 hC dX4_combine_307 4 rfl ?_
      refine g_iconst 308 hC (1 : Int32) dX4_combine_308 (by decide) ?_
      refine kX4_onward 309 hC gX4_combine_X4_onward ⟨Nat.le_of_ble_eq_true rfl, Nat.le_of_ble_eq_true rfl⟩ dX4_combine_309 (Nat.le_of_ble_eq_true rfl) ?_
      exact g_iret 312 hC dX4_combine_312
    · skip
      refine g_byT (tW) (fun h3 => ?_) (fun h3 => ?_)
      · refine g_tsIn 41 hC (3 : Int32) (94) 135 h3 dX4_combine_41 (by decide) (by decide) (by decide) (by decide) ?_
        refine g_aload_n 135 hC dX4_combine_135 4 rfl ?_
        refine x_get_bytes 136 hC fiX4_combine_wsX40 fmX4_combine_16 dX4_combine_136 ?_
        refine g_iload_n 139 hC dX4_combine_139 3 rfl ?_
        refine g_aload_n 140 hC dX4_combine_140 4 rfl ?_
        refine x_get_sums 141 hC fiX4_combine_wsX40 fmX4_combine_25 dX4_combine_141 ?_
        refine g_iload_n 144 hC dX4_combine_144 2 rfl ?_
        refine g_iload 145 hC dX4_combine_145 1 rfl ?_
        refine g_iconst 147 hC (0 : Int32) dX4_combine_147 (by decide) ?_
        refine kX2_sum 148 hC gX4_combine_X2_sum ⟨Nat.le_of_ble_eq_true rfl, Nat.le_of_ble_eq_true rfl⟩ dX4_combine_148 (Nat.le_of_ble_eq_true rfl) ?_
        refine kX0_set 151 hC gX4_combine_X0_set ⟨Nat.le_of_ble_eq_true rfl, Nat.le_of_ble_eq_true rfl⟩ dX4_combine_151 (Nat.le_of_ble_eq_true rfl) ?_
        refine g_goto 154 hC 307 dX4_combine_154 (by decide) ?_
        refine g_aload_n 307 hC dX4_combine_307 4 rfl ?_
        refine g_iconst 308 hC (1 : Int32) dX4_combine_308 (by decide) ?_
        refine kX4_onward 309 hC gX4_combine_X4_onward ⟨Nat.le_of_ble_eq_true rfl, Nat.le_of_ble_eq_true rfl⟩ dX4_combine_309 (Nat.le_of_ble_eq_true rfl) ?_
        exact g_iret 312 hC dX4_combine_312
      · skip
        refine g_byT (tW) (fun h4 => ?_) (fun h4 => ?_)
        · refine g_tsIn 41 hC (4 : Int32) (116) 157 h4 dX4_combine_41 (by decide) (by decide) (by decide) (by decide) ?_
          refine g_aload_n 157 hC dX4_combine_157 4 rfl ?_
          refine g_iload_n 158 hC dX4_combine_158 2 rfl ?_
          refine g_iload 159 hC dX4_combine_159 1 rfl ?_
          refine g_cut 169 (if (fX0_get (fX3_d a1) u) = (fX0_get (fX3_r a1) u) then (1 : Int32) else (0 : Int32)) [.ref (xO h)] ?_ (fun J6 => ?_)
          · skip
            refine kX4_skip 169 hC gX4_combine_X4_skip ⟨Nat.le_of_ble_eq_true rfl, Nat.le_of_ble_eq_true rfl⟩ dX4_combine_169 (Nat.le_of_ble_eq_true rfl) ?_
            exact g_iret 172 hC dX4_combine_172
          · skip
            refine g_icmp_ne 161 hC 168 dX4_combine_161 (by decide) (fun h5 => ?_) (fun h5 => ?_)
            · skip
              refine g_iconst 168 hC (0 : Int32) dX4_combine_168 (by decide) ?_
              exact J6 _ (Eq.symm (if_neg h5))
            · skip
              refine g_iconst 164 hC (1 : Int32) dX4_combine_164 (by decide) ?_
              refine g_goto 165 hC 169 dX4_combine_165 (by decide) ?_
              exact J6 _ (Eq.symm (if_pos h5))
        · skip
          refine g_byT (tW) (fun h7 => ?_) (fun h7 => ?_)
          · refine g_tsIn 41 hC (5 : Int32) (132) 173 h7 dX4_combine_41 (by decide) (by decide) (by decide) (by decide) ?_
            refine g_aload_n 173 hC dX4_combine_173 4 rfl ?_
            refine x_get_sums 174 hC fiX4_combine_wsX40 fmX4_combine_25 dX4_combine_174 ?_
            refine g_iload_n 177 hC dX4_combine_177 2 rfl ?_
            refine g_iload 178 hC dX4_combine_178 1 rfl ?_
            refine kX2_difference 180 hC gX4_combine_X2_difference ⟨Nat.le_of_ble_eq_true rfl, Nat.le_of_ble_eq_true rfl⟩ dX4_combine_180 (Nat.le_of_ble_eq_true rfl) ?_
            refine g_pop 183 hC dX4_combine_183 rfl ?_
            refine g_goto 184 hC 307 dX4_combine_184 (by decide) ?_
            refine g_aload_n 307 hC dX4_combine_307 4 rfl ?_
            refine g_iconst 308 hC (1 : Int32) dX4_combine_308 (by decide) ?_
            refine kX4_onward 309 hC gX4_combine_X4_onward ⟨Nat.le_of_ble_eq_true rfl, Nat.le_of_ble_eq_true rfl⟩ dX4_combine_309 (Nat.le_of_ble_eq_true rfl) ?_
            exact g_iret 312 hC dX4_combine_312
          · skip
            refine g_byT (tW) (fun h8 => ?_) (fun h8 => ?_)
            · refine g_tsIn 41 hC (6 : Int32) (146) 187 h8 dX4_combine_41 (by decide) (by decide) (by decide) (by decide) ?_
              refine g_aload_n 187 hC dX4_combine_187 4 rfl ?_
              refine x_get_bytes 188 hC fiX4_combine_wsX40 fmX4_combine_16 dX4_combine_188 ?_
              refine g_iload_n 191 hC dX4_combine_191 3 rfl ?_
              refine g_aload_n 192 hC dX4_combine_192 4 rfl ?_
              refine x_get_sums 193 hC fiX4_combine_wsX40 fmX4_combine_25 dX4_combine_193 ?_
              refine g_iload_n 196 hC dX4_combine_196 2 rfl ?_
              refine g_iload 197 hC dX4_combine_197 1 rfl ?_
              refine kX2_difference 199 hC gX4_combine_X2_difference ⟨Nat.le_of_ble_eq_true rfl, Nat.le_of_ble_eq_true rfl⟩ dX4_combine_199 (Nat.le_of_ble_eq_true rfl) ?_
              refine kX0_set 202 hC gX4_combine_X0_set ⟨Nat.le_of_ble_eq_true rfl, Nat.le_of_ble_eq_true rfl⟩ dX4_combine_202 (Nat.le_of_ble_eq_true rfl) ?_
              refine g_goto 205 hC 307 dX4_combine_205 (by decide) ?_
              refine g_aload_n 307 hC dX4_combine_307 4 rfl ?_
              refine g_iconst 308 hC (1 : Int32) dX4_combine_308 (by decide) ?_
              refine kX4_onward 309 hC gX4_combine_X4_onward ⟨Nat.le_of_ble_eq_true rfl, Nat.le_of_ble_eq_true rfl⟩ dX4_combine_309 (Nat.le_of_ble_eq_true rfl) ?_
              exact g_iret 312 hC dX4_combine_312
            · skip
              refine g_byT (tW) (fun h9 => ?_) (fun h9 => ?_)
              · refine g_tsIn 41 hC (7 : Int32) (167) 208 h9 dX4_combine_41 (by decide) (by decide) (by decide) (by decide) ?_
                refine g_aload_n 208 hC dX4_combine_208 4 rfl ?_
                refine x_get_bytes 209 hC fiX4_combine_wsX40 fmX4_combine_16 dX4_combine_209 ?_
                refine g_iload_n 212 hC dX4_combine_212 3 rfl ?_
                refine g_aload_n 213 hC dX4_combine_213 4 rfl ?_
                refine x_get_sums 214 hC fiX4_combine_wsX40 fmX4_combine_25 dX4_combine_214 ?_
                refine g_iload_n 217 hC dX4_combine_217 2 rfl ?_
                refine g_iload 218 hC dX4_combine_218 1 rfl ?_
                refine g_iload 220 hC dX4_combine_220 0 rfl ?_
                refine kX2_sum 222 hC gX4_combine_X2_sum ⟨Nat.le_of_ble_eq_true rfl, Nat.le_of_ble_eq_true rfl⟩ dX4_combine_222 (Nat.le_of_ble_eq_true rfl) ?_
                refine kX0_set 225 hC gX4_combine_X0_set ⟨Nat.le_of_ble_eq_true rfl, Nat.le_of_ble_eq_true rfl⟩ dX4_combine_225 (Nat.le_of_ble_eq_true rfl) ?_
                refine g_goto 228 hC 307 dX4_combine_228 (by decide) ?_
                refine g_aload_n 307 hC dX4_combine_307 4 rfl ?_
                refine g_iconst 308 hC (1 : Int32) dX4_combine_308 (by decide) ?_
                refine kX4_onward 309 hC gX4_combine_X4_onward ⟨Nat.le_of_ble_eq_true rfl, Nat.le_of_ble_eq_true rfl⟩ dX4_combine_309 (Nat.le_of_ble_eq_true rfl) ?_
                exact g_iret 312 hC dX4_combine_312
              · skip
                refine g_byT (tW) (fun h10 => ?_) (fun h10 => ?_)
                · refine g_tsIn 41 hC (8 : Int32) (190) 231 h10 dX4_combine_41 (by decide) (by decide) (by decide) (by decide) ?_
                  refine g_aload_n 231 hC dX4_combine_231 4 rfl ?_
                  refine x_get_bytes 232 hC fiX4_combine_wsX40 fmX4_combine_16 dX4_combine_232 ?_
                  refine g_iload_n 235 hC dX4_combine_235 3 rfl ?_
                  refine g_aload_n 236 hC dX4_combine_236 4 rfl ?_
                  refine x_get_sums 237 hC fiX4_combine_wsX40 fmX4_combine_25 dX4_combine_237 ?_
                  refine g_iload_n 240 hC dX4_combine_240 2 rfl ?_
                  refine g_iload 241 hC dX4_combine_241 1 rfl ?_
                  refine g_iand 243 hC dX4_combine_243 ?_
                  refine kX2_logic 244 hC gX4_combine_X2_logic ⟨Nat.le_of_ble_eq_true rfl, Nat.le_of_ble_eq_true rfl⟩ dX4_combine_244 (Nat.le_of_ble_eq_true rfl) ?_
                  refine kX0_set 247 hC gX4_combine_X0_set ⟨Nat.le_of_ble_eq_true rfl, Nat.le_of_ble_eq_true rfl⟩ dX4_combine_247 (Nat.le_of_ble_eq_true rfl) ?_
                  refine g_goto 250 hC 307 dX4_combine_250 (by decide) ?_
                  refine g_aload_n 307 hC dX4_combine_307 4 rfl ?_
                  refine g_iconst 308 hC (1 : Int32) dX4_combine_308 (by decide) ?_
                  refine kX4_onward 309 hC gX4_combine_X4_onward ⟨Nat.le_of_ble_eq_true rfl, Nat.le_of_ble_eq_true rfl⟩ dX4_combine_309 (Nat.le_of_ble_eq_true rfl) ?_
                  exact g_iret 312 hC dX4_combine_312
                · skip
                  refine g_byT (tW) (fun h11 => ?_) (fun h11 => ?_)
                  · refine g_tsIn 41 hC (9 : Int32) (212) 253 h11 dX4_combine_41 (by decide) (by decide) (by decide) (by decide) ?_
                    refine g_aload_n 253 hC dX4_combine_253 4 rfl ?_
                    refine x_get_bytes 254 hC fiX4_combine_wsX40 fmX4_combine_16 dX4_combine_254 ?_
                    refine g_iload_n 257 hC dX4_combine_257 3 rfl ?_
                    refine g_aload_n 258 hC dX4_combine_258 4 rfl ?_
                    refine x_get_sums 259 hC fiX4_combine_wsX40 fmX4_combine_25 dX4_combine_259 ?_
                    refine g_iload_n 262 hC dX4_combine_262 2 rfl ?_
                    refine g_iload 263 hC dX4_combine_263 1 rfl ?_
                    refine g_ixor 265 hC dX4_combine_265 ?_
                    refine kX2_logic 266 hC gX4_combine_X2_logic ⟨Nat.le_of_ble_eq_true rfl, Nat.le_of_ble_eq_true rfl⟩ dX4_combine_266 (Nat.le_of_ble_eq_true rfl) ?_
                    refine kX0_set 269 hC gX4_combine_X0_set ⟨Nat.le_of_ble_eq_true rfl, Nat.le_of_ble_eq_true rfl⟩ dX4_combine_269 (Nat.le_of_ble_eq_true rfl) ?_
                    refine g_goto 272 hC 307 dX4_combine_272 (by decide) ?_
                    refine g_aload_n 307 hC dX4_combine_307 4 rfl ?_
                    refine g_iconst 308 hC (1 : Int32) dX4_combine_308 (by decide) ?_
                    refine kX4_onward 309 hC gX4_combine_X4_onward ⟨Nat.le_of_ble_eq_true rfl, Nat.le_of_ble_eq_true rfl⟩ dX4_combine_309 (Nat.le_of_ble_eq_true rfl) ?_
                    exact g_iret 312 hC dX4_combine_312
                  · skip
                    refine g_byT (tW) (fun h12 => ?_) (fun h12 => ?_)
                    · refine g_tsIn 41 hC (10 : Int32) (234) 275 h12 dX4_combine_41 (by decide) (by decide) (by decide) (by decide) ?_
                      refine g_aload_n 275 hC dX4_combine_275 4 rfl ?_
                      refine x_get_bytes 276 hC fiX4_combine_wsX40 fmX4_combine_16 dX4_combine_276 ?_
                      refine g_iload_n 279 hC dX4_combine_279 3 rfl ?_
                      refine g_aload_n 280 hC dX4_combine_280 4 rfl ?_
                      refine x_get_sums 281 hC fiX4_combine_wsX40 fmX4_combine_25 dX4_combine_281 ?_
                      refine g_iload_n 284 hC dX4_combine_284 2 rfl ?_
                      refine g_iload 285 hC dX4_combine_285 1 rfl ?_
                      refine g_ior 287 hC dX4_combine_287 ?_
                      refine kX2_logic 288 hC gX4_combine_X2_logic ⟨Nat.le_of_ble_eq_true rfl, Nat.le_of_ble_eq_true rfl⟩ dX4_combine_288 (Nat.le_of_ble_eq_true rfl) ?_
                      refine kX0_set 291 hC gX4_combine_X0_set ⟨Nat.le_of_ble_eq_true rfl, Nat.le_of_ble_eq_true rfl⟩ dX4_combine_291 (Nat.le_of_ble_eq_true rfl) ?_
                      refine g_goto 294 hC 307 dX4_combine_294 (by decide) ?_
                      refine g_aload_n 307 hC dX4_combine_307 4 rfl ?_
                      refine g_iconst 308 hC (1 : Int32) dX4_combine_308 (by decide) ?_
                      refine kX4_onward 309 hC gX4_combine_X4_onward ⟨Nat.le_of_ble_eq_true rfl, Nat.le_of_ble_eq_true rfl⟩ dX4_combine_309 (Nat.le_of_ble_eq_true rfl) ?_
                      exact g_iret 312 hC dX4_combine_312
                    · skip
                      refine g_tsOut 41 hC 297 dX4_combine_41 (by have n0 := lv_neT h1 (a := 1) (by decide); have n1 := lv_neT h2 (a := 2) (by decide); have n2 := lv_neT h3 (a := 3) (by decide); have n3 := lv_neT h4 (a := 4) (by decide); have n4 := lv_neT h7 (a := 5) (by decide); have n5 := lv_neT h8 (a := 6) (by decide); have n6 := lv_neT h9 (a := 7) (by decide); have n7 := lv_neT h10 (a := 8) (by decide); have n8 := lv_neT h11 (a := 9) (by decide); have n9 := lv_neT h12 (a := 10) (by decide); omega) (by decide) ?_
                      refine g_aload_n 297 hC dX4_combine_297 4 rfl ?_
                      refine x_get_bytes 298 hC fiX4_combine_wsX40 fmX4_combine_16 dX4_combine_298 ?_
                      refine g_iload_n 301 hC dX4_combine_301 3 rfl ?_
                      refine g_iload 302 hC dX4_combine_302 1 rfl ?_
                      refine kX0_set 304 hC gX4_combine_X0_set ⟨Nat.le_of_ble_eq_true rfl, Nat.le_of_ble_eq_true rfl⟩ dX4_combine_304 (Nat.le_of_ble_eq_true rfl) ?_
                      refine g_aload_n 307 hC dX4_combine_307 4 rfl ?_
                      refine g_iconst 308 hC (1 : Int32) dX4_combine_308 (by decide) ?_
                      refine kX4_onward 309 hC gX4_combine_X4_onward ⟨Nat.le_of_ble_eq_true rfl, Nat.le_of_ble_eq_true rfl⟩ dX4_combine_309 (Nat.le_of_ble_eq_true rfl) ?_
                      exact g_iret 312 hC dX4_combine_312
theorem kX4_combine {K : KT} {h : HX} {cc : ByteArray} {nL : Nat} {own : String} {Ts : List Cond} {rm : Room} {ret : Option FieldType} {T : ST × Option Value} {u : ST} {lv : List (Nat × Value)} {rest : List Value} {idx : Nat} {a1 : Int32} (pc : Nat) (hC : Cx K (EX h) cc nL own Ts rm ret) (hT : GoodIn Ts (wsV own idx RX4 yX4_combine wsX4_combine)) (hR : rmX4_combine.frames + 1 ≤ rm.frames ∧ 8 + (6 + 11) + rmX4_combine.locals ≤ rm.locals) (hdg : decode cc pc = .ok (.invokevirtual idx, 3)) (hcat : (rest.map fun v => v.category).sum ≤ 8) (kk : G K (EX h) nL T (fX4_combine a1 u).1 (pc + 3) lv (.int (fX4_combine a1 u).2 :: rest)) : G K (EX h) nL T u pc lv (.int a1 :: .ref (xO h) :: rest) := g_callV (n := 1) pc hC (As := [.int a1]) (rest := rest) (cX4_combine_ _ (Cx.ok hC) a1 u) hT rfl rfl rfl (by decide +kernel) hR 0 2 rfl rfl rfl rfl rfl hcat hdg kk

def fX4_combineWithNumber (a1 : Int32) (u : ST) : ST × Int32 :=
  if (jshr a1 (12 : Int32)) = (3 : Int32) then
    (fX4_onward (1 : Int32) ((fX2_difference (fX0_get ((16 : Int32) + ((jshr a1 (4 : Int32)) &&& (15 : Int32))) u) (((jshr a1 (4 : Int32)) &&& (240 : Int32)) ||| (a1 &&& (15 : Int32))) u).1))
  else
    if (jshr a1 (12 : Int32)) = (4 : Int32) then
      (fX4_onward (1 : Int32) (fX0_set ((16 : Int32) + ((jshr a1 (4 : Int32)) &&& (15 : Int32))) (fX2_differenceOn (fX0_get ((16 : Int32) + ((jshr a1 (4 : Int32)) &&& (15 : Int32))) u) (((jshr a1 (4 : Int32)) &&& (240 : Int32)) ||| (a1 &&& (15 : Int32))) (fX0_flag (0 : Int32) u) u).2 ((fX2_differenceOn (fX0_get ((16 : Int32) + ((jshr a1 (4 : Int32)) &&& (15 : Int32))) u) (((jshr a1 (4 : Int32)) &&& (240 : Int32)) ||| (a1 &&& (15 : Int32))) (fX0_flag (0 : Int32) u) u).1)))
    else
      if (jshr a1 (12 : Int32)) = (5 : Int32) then
        (fX4_onward (1 : Int32) (fX0_set ((16 : Int32) + ((jshr a1 (4 : Int32)) &&& (15 : Int32))) (fX2_difference (fX0_get ((16 : Int32) + ((jshr a1 (4 : Int32)) &&& (15 : Int32))) u) (((jshr a1 (4 : Int32)) &&& (240 : Int32)) ||| (a1 &&& (15 : Int32))) u).2 ((fX2_difference (fX0_get ((16 : Int32) + ((jshr a1 (4 : Int32)) &&& (15 : Int32))) u) (((jshr a1 (4 : Int32)) &&& (240 : Int32)) ||| (a1 &&& (15 : Int32))) u).1)))
      else
        if (jshr a1 (12 : Int32)) = (6 : Int32) then
          (fX4_onward (1 : Int32) (fX0_set ((16 : Int32) + ((jshr a1 (4 : Int32)) &&& (15 : Int32))) (fX2_logic ((fX0_get ((16 : Int32) + ((jshr a1 (4 : Int32)) &&& (15 : Int32))) u) ||| (((jshr a1 (4 : Int32)) &&& (240 : Int32)) ||| (a1 &&& (15 : Int32)))) u).2 ((fX2_logic ((fX0_get ((16 : Int32) + ((jshr a1 (4 : Int32)) &&& (15 : Int32))) u) ||| (((jshr a1 (4 : Int32)) &&& (240 : Int32)) ||| (a1 &&& (15 : Int32)))) u).1)))
        else
          if (jshr a1 (12 : Int32)) = (7 : Int32) then
            (fX4_onward (1 : Int32) (fX0_set ((16 : Int32) + ((jshr a1 (4 : Int32)) &&& (15 : Int32))) (fX2_logic ((fX0_get ((16 : Int32) + ((jshr a1 (4 : Int32)) &&& (15 : Int32))) u) &&& (((jshr a1 (4 : Int32)) &&& (240 : Int32)) ||| (a1 &&& (15 : Int32)))) u).2 ((fX2_logic ((fX0_get ((16 : Int32) + ((jshr a1 (4 : Int32)) &&& (15 : Int32))) u) &&& (((jshr a1 (4 : Int32)) &&& (240 : Int32)) ||| (a1 &&& (15 : Int32)))) u).1)))
          else
            (fX4_onward (1 : Int32) (fX0_set ((16 : Int32) + ((jshr a1 (4 : Int32)) &&& (15 : Int32))) (((jshr a1 (4 : Int32)) &&& (240 : Int32)) ||| (a1 &&& (15 : Int32))) u))
theorem fiX4_combineWithNumber_wsX40 : ∀ w ∈ wsX40, w ∈ wsX4_combineWithNumber := fun w h => List.mem_cons_of_mem _ (List.mem_append_left _ (List.mem_append_left _ (List.mem_append_right _ h)))
theorem fmX4_combineWithNumber_16 : Cond.fieldLink RX4 16 "FlagCore" "bytes" "LFlagCore$Bytes;" ∈ wsX4_combineWithNumber := List.mem_of_getElem? (i := 1) rfl
theorem fmX4_combineWithNumber_25 : Cond.fieldLink RX4 25 "FlagCore" "sums" "LFlagCore$Sums;" ∈ wsX4_combineWithNumber := List.mem_of_getElem? (i := 2) rfl
abbrev rmX4_combineWithNumber : Room := { frames := 3, cells := 0, slots := 0, locals := 75 }
set_option maxRecDepth 20000 in
theorem cX4_combineWithNumber_ (h : HX) (hE : okE (EX h)) (a1 : Int32) (u : ST) : MX (EX h) yX4_combineWithNumber wsX4_combineWithNumber rmX4_combineWithNumber [.ref (xO h), .int a1] u (tW (fX4_combineWithNumber a1 u)) := by
  refine MX.of (cc := cX4_combineWithNumber) (maxL := 5) (ret := (some .int)) (lv := [(0, .ref (xO h)), (1, .int a1)]) hE (by decide) rfl (fun _ => rfl) (Nat.le_of_ble_eq_true rfl) rfl (fun K hC => ?_)
  unfold fX4_combineWithNumber
  refine g_bipush 0 hC (16 : Int32) dX4_combineWithNumber_0 (by decide) ?_
  refine g_iload_n 2 hC dX4_combineWithNumber_2 1 rfl ?_
  refine g_iconst 3 hC (4 : Int32) dX4_combineWithNumber_3 (by decide) ?_
  refine g_ishr 4 hC dX4_combineWithNumber_4 ?_
  refine g_bipush 5 hC (15 : Int32) dX4_combineWithNumber_5 (by decide) ?_
  refine g_iand 7 hC dX4_combineWithNumber_7 ?_
  refine g_iadd 8 hC dX4_combineWithNumber_8 ?_
  refine g_istore_n 9 hC dX4_combineWithNumber_9 (by decide) [(2, .int (((16 : Int32) + ((jshr a1 (4 : Int32)) &&& (15 : Int32))))), (0, .ref (xO h)), (1, .int a1)] rfl ?_
  refine g_aload_n 10 hC dX4_combineWithNumber_10 1 rfl ?_
  refine x_get_bytes 11 hC fiX4_combineWithNumber_wsX40 fmX4_combineWithNumber_16 dX4_combineWithNumber_11 ?_
  refine g_iload_n 14 hC dX4_combineWithNumber_14 0 rfl ?_
  refine kX0_get 15 hC gX4_combineWithNumber_X0_get ⟨Nat.le_of_ble_eq_true rfl, Nat.le_of_ble_eq_true rfl⟩ dX4_combineWithNumber_15 (Nat.le_of_ble_eq_true rfl) ?_
  refine g_istore_n 18 hC dX4_combineWithNumber_18 (by decide) [(3, .int ((fX0_get ((16 : Int32) + ((jshr a1 (4 : Int32)) &&& (15 : Int32))) u))), (2, .int (((16 : Int32) + ((jshr a1 (4 : Int32)) &&& (15 : Int32))))), (0, .ref (xO h)), (1, .int a1)] rfl ?_
  refine g_iload_n 19 hC dX4_combineWithNumber_19 3 rfl ?_
  refine g_iconst 20 hC (4 : Int32) dX4_combineWithNumber_20 (by decide) ?_
  refine g_ishr 21 hC dX4_combineWithNumber_21 ?_
  refine g_sipush 22 hC (240 : Int32) dX4_combineWithNumber_22 (by decide) ?_
  refine g_iand 25 hC dX4_combineWithNumber_25 ?_
  refine g_iload_n 26 hC dX4_combineWithNumber_26 3 rfl ?_
  refine g_bipush 27 hC (15 : Int32) dX4_combineWithNumber_27 (by decide) ?_
  refine g_iand 29 hC dX4_combineWithNumber_29 ?_
  refine g_ior 30 hC dX4_combineWithNumber_30 ?_
  refine g_istore 31 hC dX4_combineWithNumber_31 (by decide) [(4, .int ((((jshr a1 (4 : Int32)) &&& (240 : Int32)) ||| (a1 &&& (15 : Int32))))), (3, .int ((fX0_get ((16 : Int32) + ((jshr a1 (4 : Int32)) &&& (15 : Int32))) u))), (2, .int (((16 : Int32) + ((jshr a1 (4 : Int32)) &&& (15 : Int32))))), (0, .ref (xO h)), (1, .int a1)] rfl ?_
  refine g_iload_n 33 hC dX4_combineWithNumber_33 4 rfl ?_
  refine g_bipush 34 hC (12 : Int32) dX4_combineWithNumber_34 (by decide) ?_
  refine g_ishr 36 hC dX4_combineWithNumber_36 ?_
  refine g_byT (tW) (fun h1 => ?_) (fun h1 => ?_)
  · refine g_tsIn 37 hC (3 : Int32) (35) 72 h1 dX4_combineWithNumber_37 (by decide) (by decide) (by decide) (by decide) ?_
    refine g_aload_n 72 hC dX4_combineWithNumber_72 3 rfl ?_
    refine x_get_sums 73 hC fiX4_combineWithNumber_wsX40 fmX4_combineWithNumber_25 dX4_combineWithNumber_73 ?_
    refine g_iload_n 76 hC dX4_combineWithNumber_76 1 rfl ?_
    refine g_iload 77 hC dX4_combineWithNumber_77 0 rfl ?_
    refine kX2_difference 79 hC gX4_combineWithNumber_X2_difference ⟨Nat.le_of_ble_eq_true rfl, Nat.le_of_ble_eq_true rfl⟩ dX4_combineWithNumber_79 (Nat.le_of_ble_eq_true rfl) ?_
    refine g_pop 82 hC dX4_combineWithNumber_82 rfl ?_
    refine g_goto 83 hC 190 dX4_combineWithNumber_83 (by decide) ?_
    refine g_aload_n 190 hC dX4_combineWithNumber_190 3 rfl ?_
    refine g_iconst 191 hC (1 : Int32) dX4_combineWithNumber_191 (by decide) ?_
    refine kX4_onward 192 hC gX4_combineWithNumber_X4_onward ⟨Nat.le_of_ble_eq_true rfl, Nat.le_of_ble_eq_true rfl⟩ dX4_combineWithNumber_192 (Nat.le_of_ble_eq_true rfl) ?_
    exact g_iret 195 hC dX4_combineWithNumber_195
  · skip
    refine g_byT (tW) (fun h2 => ?_) (fun h2 => ?_)
    · refine g_tsIn 37 hC (4 : Int32) (49) 86 h2 dX4_combineWithNumber_37 (by decide) (by decide) (by decide) (by decide) ?_
      refine g_aload_n 86 hC dX4_combineWithNumber_86 3 rfl ?_
      refine x_get_bytes 87 hC fiX4_combineWithNumber_wsX40 fmX4_combineWithNumber_16 dX4_combineWithNumber_87 ?_
      refine g_iload_n 90 hC dX4_combineWithNumber_90 2 rfl ?_
      refine g_aload_n 91 hC dX4_combineWithNumber_91 3 rfl ?_
      refine x_get_sums 92 hC fiX4_combineWithNumber_wsX40 fmX4_combineWithNumber_25 dX4_combineWithNumber_92 ?_
      refine g_iload_n 95 hC dX4_combineWithNumber_95 1 rfl ?_
      refine g_iload 96 hC dX4_combineWithNumber_96 0 rfl ?_
      refine g_aload_n 98 hC dX4_combineWithNumber_98 3 rfl ?_
      refine x_get_bytes 99 hC fiX4_combineWithNumber_wsX40 fmX4_combineWithNumber_16 dX4_combineWithNumber_99 ?_
      refine g_iconst 102 hC (0 : Int32) dX4_combineWithNumber_102 (by decide) ?_
      refine kX0_flag 103 hC gX4_combineWithNumber_X0_flag ⟨Nat.le_of_ble_eq_true rfl, Nat.le_of_ble_eq_true rfl⟩ dX4_combineWithNumber_103 (Nat.le_of_ble_eq_true rfl) ?_
      refine kX2_differenceOn 106 hC gX4_combineWithNumber_X2_differenceOn ⟨Nat.le_of_ble_eq_true rfl, Nat.le_of_ble_eq_true rfl⟩ dX4_combineWithNumber_106 (Nat.le_of_ble_eq_true rfl) ?_
      refine kX0_set 109 hC gX4_combineWithNumber_X0_set ⟨Nat.le_of_ble_eq_true rfl, Nat.le_of_ble_eq_true rfl⟩ dX4_combineWithNumber_109 (Nat.le_of_ble_eq_true rfl) ?_
      refine g_goto 112 hC 190 dX4_combineWithNumber_112 (by decide) ?_
      refine g_aload_n 190 hC dX4_combineWithNumber_190 3 rfl ?_
      refine g_iconst 191 hC (1 : Int32) dX4_combineWithNumber_191 (by decide) ?_
      refine kX4_onward 192 hC gX4_combineWithNumber_X4_onward ⟨Nat.le_of_ble_eq_true rfl, Nat.le_of_ble_eq_true rfl⟩ dX4_combineWithNumber_192 (Nat.le_of_ble_eq_true rfl) ?_
      exact g_iret 195 hC dX4_combineWithNumber_195
    · skip
      refine g_byT (tW) (fun h3 => ?_) (fun h3 => ?_)
      · refine g_tsIn 37 hC (5 : Int32) (78) 115 h3 dX4_combineWithNumber_37 (by decide) (by decide) (by decide) (by decide) ?_
        refine g_aload_n 115 hC dX4_combineWithNumber_115 3 rfl ?_
        refine x_get_bytes 116 hC fiX4_combineWithNumber_wsX40 fmX4_combineWithNumber_16 dX4_combineWithNumber_116 ?_
        refine g_iload_n 119 hC dX4_combineWithNumber_119 2 rfl ?_
        refine g_aload_n 120 hC dX4_combineWithNumber_120 3 rfl ?_
        refine x_get_sums 121 hC fiX4_combineWithNumber_wsX40 fmX4_combineWithNumber_25 dX4_combineWithNumber_121 ?_
        refine g_iload_n 124 hC dX4_combineWithNumber_124 1 rfl ?_
        refine g_iload 125 hC dX4_combineWithNumber_125 0 rfl ?_
        refine kX2_difference 127 hC gX4_combineWithNumber_X2_difference ⟨Nat.le_of_ble_eq_true rfl, Nat.le_of_ble_eq_true rfl⟩ dX4_combineWithNumber_127 (Nat.le_of_ble_eq_true rfl) ?_
        refine kX0_set 130 hC gX4_combineWithNumber_X0_set ⟨Nat.le_of_ble_eq_true rfl, Nat.le_of_ble_eq_true rfl⟩ dX4_combineWithNumber_130 (Nat.le_of_ble_eq_true rfl) ?_
        refine g_goto 133 hC 190 dX4_combineWithNumber_133 (by decide) ?_
        refine g_aload_n 190 hC dX4_combineWithNumber_190 3 rfl ?_
        refine g_iconst 191 hC (1 : Int32) dX4_combineWithNumber_191 (by decide) ?_
        refine kX4_onward 192 hC gX4_combineWithNumber_X4_onward ⟨Nat.le_of_ble_eq_true rfl, Nat.le_of_ble_eq_true rfl⟩ dX4_combineWithNumber_192 (Nat.le_of_ble_eq_true rfl) ?_
        exact g_iret 195 hC dX4_combineWithNumber_195
      · skip
        refine g_byT (tW) (fun h4 => ?_) (fun h4 => ?_)
        · refine g_tsIn 37 hC (6 : Int32) (99) 136 h4 dX4_combineWithNumber_37 (by decide) (by decide) (by decide) (by decide) ?_
          refine g_aload_n 136 hC dX4_combineWithNumber_136 3 rfl ?_
          refine x_get_bytes 137 hC fiX4_combineWithNumber_wsX40 fmX4_combineWithNumber_16 dX4_combineWithNumber_137 ?_
          refine g_iload_n 140 hC dX4_combineWithNumber_140 2 rfl ?_
          refine g_aload_n 141 hC dX4_combineWithNumber_141 3 rfl ?_
          refine x_get_sums 142 hC fiX4_combineWithNumber_wsX40 fmX4_combineWithNumber_25 dX4_combineWithNumber_142 ?_
          refine g_iload_n 145 hC dX4_combineWithNumber_145 1 rfl ?_
          refine g_iload 146 hC dX4_combineWithNumber_146 0 rfl ?_
          refine g_ior 148 hC dX4_combineWithNumber_148 ?_
          refine kX2_logic 149 hC gX4_combineWithNumber_X2_logic ⟨Nat.le_of_ble_eq_true rfl, Nat.le_of_ble_eq_true rfl⟩ dX4_combineWithNumber_149 (Nat.le_of_ble_eq_true rfl) ?_
          refine kX0_set 152 hC gX4_combineWithNumber_X0_set ⟨Nat.le_of_ble_eq_true rfl, Nat.le_of_ble_eq_true rfl⟩ dX4_combineWithNumber_152 (Nat.le_of_ble_eq_true rfl) ?_
          refine g_goto 155 hC 190 dX4_combineWithNumber_155 (by decide) ?_
          refine g_aload_n 190 hC dX4_combineWithNumber_190 3 rfl ?_
          refine g_iconst 191 hC (1 : Int32) dX4_combineWithNumber_191 (by decide) ?_
          refine kX4_onward 192 hC gX4_combineWithNumber_X4_onward ⟨Nat.le_of_ble_eq_true rfl, Nat.le_of_ble_eq_true rfl⟩ dX4_combineWithNumber_192 (Nat.le_of_ble_eq_true rfl) ?_
          exact g_iret 195 hC dX4_combineWithNumber_195
        · skip
          refine g_byT (tW) (fun h5 => ?_) (fun h5 => ?_)
          · refine g_tsIn 37 hC (7 : Int32) (121) 158 h5 dX4_combineWithNumber_37 (by decide) (by decide) (by decide) (by decide) ?_
            refine g_aload_n 158 hC dX4_combineWithNumber_158 3 rfl ?_
            refine x_get_bytes 159 hC fiX4_combineWithNumber_wsX40 fmX4_combineWithNumber_16 dX4_combineWithNumber_159 ?_
            refine g_iload_n 162 hC dX4_combineWithNumber_162 2 rfl ?_
            refine g_aload_n 163 hC dX4_combineWithNumber_163 3 rfl ?_
            refine x_get_sums 164 hC fiX4_combineWithNumber_wsX40 fmX4_combineWithNumber_25 dX4_combineWithNumber_164 ?_
            refine g_iload_n 167 hC dX4_combineWithNumber_167 1 rfl ?_
            refine g_iload 168 hC dX4_combineWithNumber_168 0 rfl ?_
            refine g_iand 170 hC dX4_combineWithNumber_170 ?_
            refine kX2_logic 171 hC gX4_combineWithNumber_X2_logic ⟨Nat.le_of_ble_eq_true rfl, Nat.le_of_ble_eq_true rfl⟩ dX4_combineWithNumber_171 (Nat.le_of_ble_eq_true rfl) ?_
            refine kX0_set 174 hC gX4_combineWithNumber_X0_set ⟨Nat.le_of_ble_eq_true rfl, Nat.le_of_ble_eq_true rfl⟩ dX4_combineWithNumber_174 (Nat.le_of_ble_eq_true rfl) ?_
            refine g_goto 177 hC 190 dX4_combineWithNumber_177 (by decide) ?_
            refine g_aload_n 190 hC dX4_combineWithNumber_190 3 rfl ?_
            refine g_iconst 191 hC (1 : Int32) dX4_combineWithNumber_191 (by decide) ?_
            refine kX4_onward 192 hC gX4_combineWithNumber_X4_onward ⟨Nat.le_of_ble_eq_true rfl, Nat.le_of_ble_eq_true rfl⟩ dX4_combineWithNumber_192 (Nat.le_of_ble_eq_true rfl) ?_
            exact g_iret 195 hC dX4_combineWithNumber_195
          · skip
            refine g_tsOut 37 hC 180 dX4_combineWithNumber_37 (by have n0 := lv_neT h1 (a := 3) (by decide); have n1 := lv_neT h2 (a := 4) (by decide); have n2 := lv_neT h3 (a := 5) (by decide); have n3 := lv_neT h4 (a := 6) (by decide); have n4 := lv_neT h5 (a := 7) (by decide); omega) (by decide) ?_
            refine g_aload_n 180 hC dX4_combineWithNumber_180 3 rfl ?_
            refine x_get_bytes 181 hC fiX4_combineWithNumber_wsX40 fmX4_combineWithNumber_16 dX4_combineWithNumber_181 ?_
            refine g_iload_n 184 hC dX4_combineWithNumber_184 2 rfl ?_
            refine g_iload 185 hC dX4_combineWithNumber_185 0 rfl ?_
            refine kX0_set 187 hC gX4_combineWithNumber_X0_set ⟨Nat.le_of_ble_eq_true rfl, Nat.le_of_ble_eq_true rfl⟩ dX4_combineWithNumber_187 (Nat.le_of_ble_eq_true rfl) ?_
            refine g_aload_n 190 hC dX4_combineWithNumber_190 3 rfl ?_
            refine g_iconst 191 hC (1 : Int32) dX4_combineWithNumber_191 (by decide) ?_
            refine kX4_onward 192 hC gX4_combineWithNumber_X4_onward ⟨Nat.le_of_ble_eq_true rfl, Nat.le_of_ble_eq_true rfl⟩ dX4_combineWithNumber_192 (Nat.le_of_ble_eq_true rfl) ?_
            exact g_iret 195 hC dX4_combineWithNumber_195
theorem kX4_combineWithNumber {K : KT} {h : HX} {cc : ByteArray} {nL : Nat} {own : String} {Ts : List Cond} {rm : Room} {ret : Option FieldType} {T : ST × Option Value} {u : ST} {lv : List (Nat × Value)} {rest : List Value} {idx : Nat} {a1 : Int32} (pc : Nat) (hC : Cx K (EX h) cc nL own Ts rm ret) (hT : GoodIn Ts (wsV own idx RX4 yX4_combineWithNumber wsX4_combineWithNumber)) (hR : rmX4_combineWithNumber.frames + 1 ≤ rm.frames ∧ 8 + (5 + 11) + rmX4_combineWithNumber.locals ≤ rm.locals) (hdg : decode cc pc = .ok (.invokevirtual idx, 3)) (hcat : (rest.map fun v => v.category).sum ≤ 8) (kk : G K (EX h) nL T (fX4_combineWithNumber a1 u).1 (pc + 3) lv (.int (fX4_combineWithNumber a1 u).2 :: rest)) : G K (EX h) nL T u pc lv (.int a1 :: .ref (xO h) :: rest) := g_callV (n := 1) pc hC (As := [.int a1]) (rest := rest) (cX4_combineWithNumber_ _ (Cx.ok hC) a1 u) hT rfl rfl rfl (by decide +kernel) hR 0 2 rfl rfl rfl rfl rfl hcat hdg kk

def fX4_change (a1 : Int32) (u : ST) : ST × Int32 :=
  if (a1 &&& (15 : Int32)) = (0 : Int32) then
    (fX4_onward (1 : Int32) (fX0_set (fX3_d a1) (fX2_inverse (fX0_get (fX3_d a1) u) u).2 ((fX2_inverse (fX0_get (fX3_d a1) u) u).1)))
  else
    if (a1 &&& (15 : Int32)) = (1 : Int32) then
      (fX4_onward (1 : Int32) (fX0_set (fX3_d a1) (fX2_difference (0 : Int32) (fX0_get (fX3_d a1) u) u).2 ((fX2_difference (0 : Int32) (fX0_get (fX3_d a1) u) u).1)))
    else
      if (a1 &&& (15 : Int32)) = (2 : Int32) then
        (fX4_onward (1 : Int32) (fX0_set (fX3_d a1) ((jshl (fX0_get (fX3_d a1) u) (4 : Int32)) ||| (jshr (fX0_get (fX3_d a1) u) (4 : Int32))) u))
      else
        if (a1 &&& (15 : Int32)) = (3 : Int32) then
          (fX4_onward (1 : Int32) (fX0_set (fX3_d a1) (fX2_more (fX0_get (fX3_d a1) u) u).2 ((fX2_more (fX0_get (fX3_d a1) u) u).1)))
        else
          if (a1 &&& (15 : Int32)) = (4 : Int32) then
            (fX4_onward (1 : Int32) (fX0_set (fX3_d a1) (fX2_less (fX0_get (fX3_d a1) u) u).2 ((fX2_less (fX0_get (fX3_d a1) u) u).1)))
          else
            if (a1 &&& (15 : Int32)) = (5 : Int32) then
              (fX4_onward (1 : Int32) (fX0_set (fX3_d a1) (fX2_right (fX0_get (fX3_d a1) u) (jshr (fX0_get (fX3_d a1) u) (7 : Int32)) u).2 ((fX2_right (fX0_get (fX3_d a1) u) (jshr (fX0_get (fX3_d a1) u) (7 : Int32)) u).1)))
            else
              if (a1 &&& (15 : Int32)) = (6 : Int32) then
                (fX4_onward (1 : Int32) (fX0_set (fX3_d a1) (fX2_right (fX0_get (fX3_d a1) u) (0 : Int32) u).2 ((fX2_right (fX0_get (fX3_d a1) u) (0 : Int32) u).1)))
              else
                if (a1 &&& (15 : Int32)) = (7 : Int32) then
                  (fX4_onward (1 : Int32) (fX0_set (fX3_d a1) (fX2_right (fX0_get (fX3_d a1) u) (fX0_flag (0 : Int32) u) u).2 ((fX2_right (fX0_get (fX3_d a1) u) (fX0_flag (0 : Int32) u) u).1)))
                else
                  (fX4_onward (1 : Int32) (fX0_set (fX3_d a1) (fX2_less (fX0_get (fX3_d a1) u) u).2 ((fX2_less (fX0_get (fX3_d a1) u) u).1)))
theorem fiX4_change_wsX40 : ∀ w ∈ wsX40, w ∈ wsX4_change := fun w h => List.mem_cons_of_mem _ (List.mem_append_left _ (List.mem_append_left _ (List.mem_append_right _ h)))
theorem fmX4_change_16 : Cond.fieldLink RX4 16 "FlagCore" "bytes" "LFlagCore$Bytes;" ∈ wsX4_change := List.mem_of_getElem? (i := 1) rfl
theorem fmX4_change_25 : Cond.fieldLink RX4 25 "FlagCore" "sums" "LFlagCore$Sums;" ∈ wsX4_change := List.mem_of_getElem? (i := 2) rfl
abbrev rmX4_change : Room := { frames := 3, cells := 0, slots := 0, locals := 73 }
set_option maxRecDepth 20000 in
theorem cX4_change_ (h : HX) (hE : okE (EX h)) (a1 : Int32) (u : ST) : MX (EX h) yX4_change wsX4_change rmX4_change [.ref (xO h), .int a1] u (tW (fX4_change a1 u)) := by
  refine MX.of (cc := cX4_change) (maxL := 4) (ret := (some .int)) (lv := [(0, .ref (xO h)), (1, .int a1)]) hE (by decide) rfl (fun _ => rfl) (Nat.le_of_ble_eq_true rfl) rfl (fun K hC => ?_)
  unfold fX4_change
  refine g_iload_n 0 hC dX4_change_0 1 rfl ?_
  refine kX3_d 1 hC gX4_change_X3_d ⟨Nat.le_of_ble_eq_true rfl, Nat.le_of_ble_eq_true rfl⟩ dX4_change_1 (Nat.le_of_ble_eq_true rfl) ?_
  refine g_istore_n 4 hC dX4_change_4 (by decide) [(2, .int ((fX3_d a1))), (0, .ref (xO h)), (1, .int a1)] rfl ?_
  refine g_aload_n 5 hC dX4_change_5 1 rfl ?_
  refine x_get_bytes 6 hC fiX4_change_wsX40 fmX4_change_16 dX4_change_6 ?_
  refine g_iload_n 9 hC dX4_change_9 0 rfl ?_
  refine kX0_get 10 hC gX4_change_X0_get ⟨Nat.le_of_ble_eq_true rfl, Nat.le_of_ble_eq_true rfl⟩ dX4_change_10 (Nat.le_of_ble_eq_true rfl) ?_
  refine g_istore_n 13 hC dX4_change_13 (by decide) [(3, .int ((fX0_get (fX3_d a1) u))), (2, .int ((fX3_d a1))), (0, .ref (xO h)), (1, .int a1)] rfl ?_
  refine g_iload_n 14 hC dX4_change_14 3 rfl ?_
  refine g_bipush 15 hC (15 : Int32) dX4_change_15 (by decide) ?_
  refine g_iand 17 hC dX4_change_17 ?_
  refine g_byT (tW) (fun h1 => ?_) (fun h1 => ?_)
  · refine g_tsIn 18 hC (0 : Int32) (46) 64 h1 dX4_change_18 (by decide) (by decide) (by decide) (by decide) ?_
    refine g_aload_n 64 hC dX4_change_64 2 rfl ?_
    refine x_get_bytes 65 hC fiX4_change_wsX40 fmX4_change_16 dX4_change_65 ?_
    refine g_iload_n 68 hC dX4_change_68 1 rfl ?_
    refine g_aload_n 69 hC dX4_change_69 2 rfl ?_
    refine x_get_sums 70 hC fiX4_change_wsX40 fmX4_change_25 dX4_change_70 ?_
    refine g_iload_n 73 hC dX4_change_73 0 rfl ?_
    refine kX2_inverse 74 hC gX4_change_X2_inverse ⟨Nat.le_of_ble_eq_true rfl, Nat.le_of_ble_eq_true rfl⟩ dX4_change_74 (Nat.le_of_ble_eq_true rfl) ?_
    refine kX0_set 77 hC gX4_change_X0_set ⟨Nat.le_of_ble_eq_true rfl, Nat.le_of_ble_eq_true rfl⟩ dX4_change_77 (Nat.le_of_ble_eq_true rfl) ?_
    refine g_goto 80 hC 226 dX4_change_80 (by decide) ?_
    refine g_aload_n 226 hC dX4_change_226 2 rfl ?_
    refine g_iconst 227 hC (1 : Int32) dX4_change_227 (by decide) ?_
    refine kX4_onward 228 hC gX4_change_X4_onward ⟨Nat.le_of_ble_eq_true rfl, Nat.le_of_ble_eq_true rfl⟩ dX4_change_228 (Nat.le_of_ble_eq_true rfl) ?_
    exact g_iret 231 hC dX4_change_231
  · skip
    refine g_byT (tW) (fun h2 => ?_) (fun h2 => ?_)
    · refine g_tsIn 18 hC (1 : Int32) (65) 83 h2 dX4_change_18 (by decide) (by decide) (by decide) (by decide) ?_
      refine g_aload_n 83 hC dX4_change_83 2 rfl ?_
      refine x_get_bytes 84 hC fiX4_change_wsX40 fmX4_change_16 dX4_change_84 ?_
      refine g_iload_n 87 hC dX4_change_87 1 rfl ?_
      refine g_aload_n 88 hC dX4_change_88 2 rfl ?_
      refine x_get_sums 89 hC fiX4_change_wsX40 fmX4_change_25 dX4_change_89 ?_
      refine g_iconst 92 hC (0 : Int32) dX4_change_92 (by decide) ?_
      refine g_iload_n 93 hC dX4_change_93 0 rfl ?_
      refine kX2_difference 94 hC gX4_change_X2_difference ⟨Nat.le_of_ble_eq_true rfl, Nat.le_of_ble_eq_true rfl⟩ dX4_change_94 (Nat.le_of_ble_eq_true rfl) ?_
      refine kX0_set 97 hC gX4_change_X0_set ⟨Nat.le_of_ble_eq_true rfl, Nat.le_of_ble_eq_true rfl⟩ dX4_change_97 (Nat.le_of_ble_eq_true rfl) ?_
      refine g_goto 100 hC 226 dX4_change_100 (by decide) ?_
      refine g_aload_n 226 hC dX4_change_226 2 rfl ?_
      refine g_iconst 227 hC (1 : Int32) dX4_change_227 (by decide) ?_
      refine kX4_onward 228 hC gX4_change_X4_onward ⟨Nat.le_of_ble_eq_true rfl, Nat.le_of_ble_eq_true rfl⟩ dX4_change_228 (Nat.le_of_ble_eq_true rfl) ?_
      exact g_iret 231 hC dX4_change_231
    · skip
      refine g_byT (tW) (fun h3 => ?_) (fun h3 => ?_)
      · refine g_tsIn 18 hC (2 : Int32) (85) 103 h3 dX4_change_18 (by decide) (by decide) (by decide) (by decide) ?_
        refine g_aload_n 103 hC dX4_change_103 2 rfl ?_
        refine x_get_bytes 104 hC fiX4_change_wsX40 fmX4_change_16 dX4_change_104 ?_
        refine g_iload_n 107 hC dX4_change_107 1 rfl ?_
        refine g_iload_n 108 hC dX4_change_108 0 rfl ?_
        refine g_iconst 109 hC (4 : Int32) dX4_change_109 (by decide) ?_
        refine g_ishl 110 hC dX4_change_110 ?_
        refine g_iload_n 111 hC dX4_change_111 0 rfl ?_
        refine g_iconst 112 hC (4 : Int32) dX4_change_112 (by decide) ?_
        refine g_ishr 113 hC dX4_change_113 ?_
        refine g_ior 114 hC dX4_change_114 ?_
        refine kX0_set 115 hC gX4_change_X0_set ⟨Nat.le_of_ble_eq_true rfl, Nat.le_of_ble_eq_true rfl⟩ dX4_change_115 (Nat.le_of_ble_eq_true rfl) ?_
        refine g_goto 118 hC 226 dX4_change_118 (by decide) ?_
        refine g_aload_n 226 hC dX4_change_226 2 rfl ?_
        refine g_iconst 227 hC (1 : Int32) dX4_change_227 (by decide) ?_
        refine kX4_onward 228 hC gX4_change_X4_onward ⟨Nat.le_of_ble_eq_true rfl, Nat.le_of_ble_eq_true rfl⟩ dX4_change_228 (Nat.le_of_ble_eq_true rfl) ?_
        exact g_iret 231 hC dX4_change_231
      · skip
        refine g_byT (tW) (fun h4 => ?_) (fun h4 => ?_)
        · refine g_tsIn 18 hC (3 : Int32) (103) 121 h4 dX4_change_18 (by decide) (by decide) (by decide) (by decide) ?_
          refine g_aload_n 121 hC dX4_change_121 2 rfl ?_
          refine x_get_bytes 122 hC fiX4_change_wsX40 fmX4_change_16 dX4_change_122 ?_
          refine g_iload_n 125 hC dX4_change_125 1 rfl ?_
          refine g_aload_n 126 hC dX4_change_126 2 rfl ?_
          refine x_get_sums 127 hC fiX4_change_wsX40 fmX4_change_25 dX4_change_127 ?_
          refine g_iload_n 130 hC dX4_change_130 0 rfl ?_
          refine kX2_more 131 hC gX4_change_X2_more ⟨Nat.le_of_ble_eq_true rfl, Nat.le_of_ble_eq_true rfl⟩ dX4_change_131 (Nat.le_of_ble_eq_true rfl) ?_
          refine kX0_set 134 hC gX4_change_X0_set ⟨Nat.le_of_ble_eq_true rfl, Nat.le_of_ble_eq_true rfl⟩ dX4_change_134 (Nat.le_of_ble_eq_true rfl) ?_
          refine g_goto 137 hC 226 dX4_change_137 (by decide) ?_
          refine g_aload_n 226 hC dX4_change_226 2 rfl ?_
          refine g_iconst 227 hC (1 : Int32) dX4_change_227 (by decide) ?_
          refine kX4_onward 228 hC gX4_change_X4_onward ⟨Nat.le_of_ble_eq_true rfl, Nat.le_of_ble_eq_true rfl⟩ dX4_change_228 (Nat.le_of_ble_eq_true rfl) ?_
          exact g_iret 231 hC dX4_change_231
        · skip
          refine g_byT (tW) (fun h5 => ?_) (fun h5 => ?_)
          · refine g_tsIn 18 hC (4 : Int32) (192) 210 h5 dX4_change_18 (by decide) (by decide) (by decide) (by decide) ?_
            refine g_aload_n 210 hC dX4_change_210 2 rfl ?_
            refine x_get_bytes 211 hC fiX4_change_wsX40 fmX4_change_16 dX4_change_211 ?_
            refine g_iload_n 214 hC dX4_change_214 1 rfl ?_
            refine g_aload_n 215 hC dX4_change_215 2 rfl ?_
            refine x_get_sums 216 hC fiX4_change_wsX40 fmX4_change_25 dX4_change_216 ?_
            refine g_iload_n 219 hC dX4_change_219 0 rfl ?_
            refine kX2_less 220 hC gX4_change_X2_less ⟨Nat.le_of_ble_eq_true rfl, Nat.le_of_ble_eq_true rfl⟩ dX4_change_220 (Nat.le_of_ble_eq_true rfl) ?_
            refine kX0_set 223 hC gX4_change_X0_set ⟨Nat.le_of_ble_eq_true rfl, Nat.le_of_ble_eq_true rfl⟩ dX4_change_223 (Nat.le_of_ble_eq_true rfl) ?_
            refine g_aload_n 226 hC dX4_change_226 2 rfl ?_
            refine g_iconst 227 hC (1 : Int32) dX4_change_227 (by decide) ?_
            refine kX4_onward 228 hC gX4_change_X4_onward ⟨Nat.le_of_ble_eq_true rfl, Nat.le_of_ble_eq_true rfl⟩ dX4_change_228 (Nat.le_of_ble_eq_true rfl) ?_
            exact g_iret 231 hC dX4_change_231
          · skip
            refine g_byT (tW) (fun h6 => ?_) (fun h6 => ?_)
            · refine g_tsIn 18 hC (5 : Int32) (122) 140 h6 dX4_change_18 (by decide) (by decide) (by decide) (by decide) ?_
              refine g_aload_n 140 hC dX4_change_140 2 rfl ?_
              refine x_get_bytes 141 hC fiX4_change_wsX40 fmX4_change_16 dX4_change_141 ?_
              refine g_iload_n 144 hC dX4_change_144 1 rfl ?_
              refine g_aload_n 145 hC dX4_change_145 2 rfl ?_
              refine x_get_sums 146 hC fiX4_change_wsX40 fmX4_change_25 dX4_change_146 ?_
              refine g_iload_n 149 hC dX4_change_149 0 rfl ?_
              refine g_iload_n 150 hC dX4_change_150 0 rfl ?_
              refine g_bipush 151 hC (7 : Int32) dX4_change_151 (by decide) ?_
              refine g_ishr 153 hC dX4_change_153 ?_
              refine kX2_right 154 hC gX4_change_X2_right ⟨Nat.le_of_ble_eq_true rfl, Nat.le_of_ble_eq_true rfl⟩ dX4_change_154 (Nat.le_of_ble_eq_true rfl) ?_
              refine kX0_set 157 hC gX4_change_X0_set ⟨Nat.le_of_ble_eq_true rfl, Nat.le_of_ble_eq_true rfl⟩ dX4_change_157 (Nat.le_of_ble_eq_true rfl) ?_
              refine g_goto 160 hC 226 dX4_change_160 (by decide) ?_
              refine g_aload_n 226 hC dX4_change_226 2 rfl ?_
              refine g_iconst 227 hC (1 : Int32) dX4_change_227 (by decide) ?_
              refine kX4_onward 228 hC gX4_change_X4_onward ⟨Nat.le_of_ble_eq_true rfl, Nat.le_of_ble_eq_true rfl⟩ dX4_change_228 (Nat.le_of_ble_eq_true rfl) ?_
              exact g_iret 231 hC dX4_change_231
            · skip
              refine g_byT (tW) (fun h7 => ?_) (fun h7 => ?_)
              · refine g_tsIn 18 hC (6 : Int32) (145) 163 h7 dX4_change_18 (by decide) (by decide) (by decide) (by decide) ?_
                refine g_aload_n 163 hC dX4_change_163 2 rfl ?_
                refine x_get_bytes 164 hC fiX4_change_wsX40 fmX4_change_16 dX4_change_164 ?_
                refine g_iload_n 167 hC dX4_change_167 1 rfl ?_
                refine g_aload_n 168 hC dX4_change_168 2 rfl ?_
                refine x_get_sums 169 hC fiX4_change_wsX40 fmX4_change_25 dX4_change_169 ?_
                refine g_iload_n 172 hC dX4_change_172 0 rfl ?_
                refine g_iconst 173 hC (0 : Int32) dX4_change_173 (by decide) ?_
                refine kX2_right 174 hC gX4_change_X2_right ⟨Nat.le_of_ble_eq_true rfl, Nat.le_of_ble_eq_true rfl⟩ dX4_change_174 (Nat.le_of_ble_eq_true rfl) ?_
                refine kX0_set 177 hC gX4_change_X0_set ⟨Nat.le_of_ble_eq_true rfl, Nat.le_of_ble_eq_true rfl⟩ dX4_change_177 (Nat.le_of_ble_eq_true rfl) ?_
                refine g_goto 180 hC 226 dX4_change_180 (by decide) ?_
                refine g_aload_n 226 hC dX4_change_226 2 rfl ?_
                refine g_iconst 227 hC (1 : Int32) dX4_change_227 (by decide) ?_
                refine kX4_onward 228 hC gX4_change_X4_onward ⟨Nat.le_of_ble_eq_true rfl, Nat.le_of_ble_eq_true rfl⟩ dX4_change_228 (Nat.le_of_ble_eq_true rfl) ?_
                exact g_iret 231 hC dX4_change_231
              · skip
                refine g_byT (tW) (fun h8 => ?_) (fun h8 => ?_)
                · refine g_tsIn 18 hC (7 : Int32) (165) 183 h8 dX4_change_18 (by decide) (by decide) (by decide) (by decide) ?_
                  refine g_aload_n 183 hC dX4_change_183 2 rfl ?_
                  refine x_get_bytes 184 hC fiX4_change_wsX40 fmX4_change_16 dX4_change_184 ?_
                  refine g_iload_n 187 hC dX4_change_187 1 rfl ?_
                  refine g_aload_n 188 hC dX4_change_188 2 rfl ?_
                  refine x_get_sums 189 hC fiX4_change_wsX40 fmX4_change_25 dX4_change_189 ?_
                  refine g_iload_n 192 hC dX4_change_192 0 rfl ?_
                  refine g_aload_n 193 hC dX4_change_193 2 rfl ?_
                  refine x_get_bytes 194 hC fiX4_change_wsX40 fmX4_change_16 dX4_change_194 ?_
                  refine g_iconst 197 hC (0 : Int32) dX4_change_197 (by decide) ?_
                  refine kX0_flag 198 hC gX4_change_X0_flag ⟨Nat.le_of_ble_eq_true rfl, Nat.le_of_ble_eq_true rfl⟩ dX4_change_198 (Nat.le_of_ble_eq_true rfl) ?_
                  refine kX2_right 201 hC gX4_change_X2_right ⟨Nat.le_of_ble_eq_true rfl, Nat.le_of_ble_eq_true rfl⟩ dX4_change_201 (Nat.le_of_ble_eq_true rfl) ?_
                  refine kX0_set 204 hC gX4_change_X0_set ⟨Nat.le_of_ble_eq_true rfl, Nat.le_of_ble_eq_true rfl⟩ dX4_change_204 (Nat.le_of_ble_eq_true rfl) ?_
                  refine g_goto 207 hC 226 dX4_change_207 (by decide) ?_
                  refine g_aload_n 226 hC dX4_change_226 2 rfl ?_
                  refine g_iconst 227 hC (1 : Int32) dX4_change_227 (by decide) ?_
                  refine kX4_onward 228 hC gX4_change_X4_onward ⟨Nat.le_of_ble_eq_true rfl, Nat.le_of_ble_eq_true rfl⟩ dX4_change_228 (Nat.le_of_ble_eq_true rfl) ?_
                  exact g_iret 231 hC dX4_change_231
                · skip
                  refine g_tsOut 18 hC 210 dX4_change_18 (by have n0 := lv_neT h1 (a := 0) (by decide); have n1 := lv_neT h2 (a := 1) (by decide); have n2 := lv_neT h3 (a := 2) (by decide); have n3 := lv_neT h4 (a := 3) (by decide); have n4 := lv_neT h5 (a := 4) (by decide); have n5 := lv_neT h6 (a := 5) (by decide); have n6 := lv_neT h7 (a := 6) (by decide); have n7 := lv_neT h8 (a := 7) (by decide); omega) (by decide) ?_
                  refine g_aload_n 210 hC dX4_change_210 2 rfl ?_
                  refine x_get_bytes 211 hC fiX4_change_wsX40 fmX4_change_16 dX4_change_211 ?_
                  refine g_iload_n 214 hC dX4_change_214 1 rfl ?_
                  refine g_aload_n 215 hC dX4_change_215 2 rfl ?_
                  refine x_get_sums 216 hC fiX4_change_wsX40 fmX4_change_25 dX4_change_216 ?_
                  refine g_iload_n 219 hC dX4_change_219 0 rfl ?_
                  refine kX2_less 220 hC gX4_change_X2_less ⟨Nat.le_of_ble_eq_true rfl, Nat.le_of_ble_eq_true rfl⟩ dX4_change_220 (Nat.le_of_ble_eq_true rfl) ?_
                  refine kX0_set 223 hC gX4_change_X0_set ⟨Nat.le_of_ble_eq_true rfl, Nat.le_of_ble_eq_true rfl⟩ dX4_change_223 (Nat.le_of_ble_eq_true rfl) ?_
                  refine g_aload_n 226 hC dX4_change_226 2 rfl ?_
                  refine g_iconst 227 hC (1 : Int32) dX4_change_227 (by decide) ?_
                  refine kX4_onward 228 hC gX4_change_X4_onward ⟨Nat.le_of_ble_eq_true rfl, Nat.le_of_ble_eq_true rfl⟩ dX4_change_228 (Nat.le_of_ble_eq_true rfl) ?_
                  exact g_iret 231 hC dX4_change_231
theorem kX4_change {K : KT} {h : HX} {cc : ByteArray} {nL : Nat} {own : String} {Ts : List Cond} {rm : Room} {ret : Option FieldType} {T : ST × Option Value} {u : ST} {lv : List (Nat × Value)} {rest : List Value} {idx : Nat} {a1 : Int32} (pc : Nat) (hC : Cx K (EX h) cc nL own Ts rm ret) (hT : GoodIn Ts (wsV own idx RX4 yX4_change wsX4_change)) (hR : rmX4_change.frames + 1 ≤ rm.frames ∧ 8 + (4 + 11) + rmX4_change.locals ≤ rm.locals) (hdg : decode cc pc = .ok (.invokevirtual idx, 3)) (hcat : (rest.map fun v => v.category).sum ≤ 8) (kk : G K (EX h) nL T (fX4_change a1 u).1 (pc + 3) lv (.int (fX4_change a1 u).2 :: rest)) : G K (EX h) nL T u pc lv (.int a1 :: .ref (xO h) :: rest) := g_callV (n := 1) pc hC (As := [.int a1]) (rest := rest) (cX4_change_ _ (Cx.ok hC) a1 u) hT rfl rfl rfl (by decide +kernel) hR 0 2 rfl rfl rfl rfl rfl hcat hdg kk

def fX4_setFlag (a1 : Int32) (u : ST) : ST × Int32 :=
  (fX4_onward (1 : Int32) (fX0_setFlag ((jshr a1 (4 : Int32)) &&& (7 : Int32)) (if (a1 &&& (128 : Int32)) = 0 then (1 : Int32) else (0 : Int32)) u))
theorem fiX4_setFlag_wsX40 : ∀ w ∈ wsX40, w ∈ wsX4_setFlag := fun w h => List.mem_cons_of_mem _ (List.mem_append_left _ (List.mem_append_right _ h))
theorem fmX4_setFlag_16 : Cond.fieldLink RX4 16 "FlagCore" "bytes" "LFlagCore$Bytes;" ∈ wsX4_setFlag := List.mem_of_getElem? (i := 1) rfl
abbrev rmX4_setFlag : Room := { frames := 3, cells := 0, slots := 0, locals := 67 }
set_option maxRecDepth 20000 in
theorem cX4_setFlag_ (h : HX) (hE : okE (EX h)) (a1 : Int32) (u : ST) : MX (EX h) yX4_setFlag wsX4_setFlag rmX4_setFlag [.ref (xO h), .int a1] u (tW (fX4_setFlag a1 u)) := by
  refine MX.of (cc := cX4_setFlag) (maxL := 2) (ret := (some .int)) (lv := [(0, .ref (xO h)), (1, .int a1)]) hE (by decide) rfl (fun _ => rfl) (Nat.le_of_ble_eq_true rfl) rfl (fun K hC => ?_)
  unfold fX4_setFlag
  refine g_aload_n 0 hC dX4_setFlag_0 0 rfl ?_
  refine x_get_bytes 1 hC fiX4_setFlag_wsX40 fmX4_setFlag_16 dX4_setFlag_1 ?_
  refine g_iload_n 4 hC dX4_setFlag_4 1 rfl ?_
  refine g_iconst 5 hC (4 : Int32) dX4_setFlag_5 (by decide) ?_
  refine g_ishr 6 hC dX4_setFlag_6 ?_
  refine g_bipush 7 hC (7 : Int32) dX4_setFlag_7 (by decide) ?_
  refine g_iand 9 hC dX4_setFlag_9 ?_
  refine g_iload_n 10 hC dX4_setFlag_10 1 rfl ?_
  refine g_sipush 11 hC (128 : Int32) dX4_setFlag_11 (by decide) ?_
  refine g_iand 14 hC dX4_setFlag_14 ?_
  refine g_cut 23 (if (a1 &&& (128 : Int32)) = 0 then (1 : Int32) else (0 : Int32)) [.int (((jshr a1 (4 : Int32)) &&& (7 : Int32))), .ref (xB h)] ?_ (fun J2 => ?_)
  · skip
    refine kX0_setFlag 23 hC gX4_setFlag_X0_setFlag ⟨Nat.le_of_ble_eq_true rfl, Nat.le_of_ble_eq_true rfl⟩ dX4_setFlag_23 (Nat.le_of_ble_eq_true rfl) ?_
    refine g_aload_n 26 hC dX4_setFlag_26 0 rfl ?_
    refine g_iconst 27 hC (1 : Int32) dX4_setFlag_27 (by decide) ?_
    refine kX4_onward 28 hC gX4_setFlag_X4_onward ⟨Nat.le_of_ble_eq_true rfl, Nat.le_of_ble_eq_true rfl⟩ dX4_setFlag_28 (Nat.le_of_ble_eq_true rfl) ?_
    exact g_iret 31 hC dX4_setFlag_31
  · skip
    refine g_if_ne 15 hC 22 dX4_setFlag_15 (by decide) (fun h1 => ?_) (fun h1 => ?_)
    · skip
      refine g_iconst 22 hC (0 : Int32) dX4_setFlag_22 (by decide) ?_
      exact J2 _ (Eq.symm (if_neg h1))
    · skip
      refine g_iconst 18 hC (1 : Int32) dX4_setFlag_18 (by decide) ?_
      refine g_goto 19 hC 23 dX4_setFlag_19 (by decide) ?_
      exact J2 _ (Eq.symm (if_pos h1))
theorem kX4_setFlag {K : KT} {h : HX} {cc : ByteArray} {nL : Nat} {own : String} {Ts : List Cond} {rm : Room} {ret : Option FieldType} {T : ST × Option Value} {u : ST} {lv : List (Nat × Value)} {rest : List Value} {idx : Nat} {a1 : Int32} (pc : Nat) (hC : Cx K (EX h) cc nL own Ts rm ret) (hT : GoodIn Ts (wsV own idx RX4 yX4_setFlag wsX4_setFlag)) (hR : rmX4_setFlag.frames + 1 ≤ rm.frames ∧ 8 + (2 + 11) + rmX4_setFlag.locals ≤ rm.locals) (hdg : decode cc pc = .ok (.invokevirtual idx, 3)) (hcat : (rest.map fun v => v.category).sum ≤ 8) (kk : G K (EX h) nL T (fX4_setFlag a1 u).1 (pc + 3) lv (.int (fX4_setFlag a1 u).2 :: rest)) : G K (EX h) nL T u pc lv (.int a1 :: .ref (xO h) :: rest) := g_callV (n := 1) pc hC (As := [.int a1]) (rest := rest) (cX4_setFlag_ _ (Cx.ok hC) a1 u) hT rfl rfl rfl (by decide +kernel) hR 0 2 rfl rfl rfl rfl rfl hcat hdg kk
end
