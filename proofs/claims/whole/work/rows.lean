section
-- ===== PART A: goes FIRST, ahead of the names: the tables' words, and 'selects' of the private methods out of them =====
/-- a private method of a class that the tables say can be made, by its rows of tables_1 -/
def lw_okq (q : MethodName × Nat) : Prop := (q.1.cls ≠ "java/lang/invoke/MethodHandle" ∧ q.1.cls ≠ "java/lang/invoke/VarHandle") ∧ Cond.instantiable q.1.cls q.2 ∈ tables_1 ∧ Cond.privateMethod q.1 ∈ tables_1 ∧ Cond.instanceMethod q.1 ∈ tables_1
theorem lw_p0 : lw_okq (⟨"PunCourts", "record", "()V"⟩, 8) := ⟨⟨by decide +kernel, by decide +kernel⟩, List.mem_of_getElem? (i := 7) (by decide +kernel), List.mem_of_getElem? (i := 123) (by decide +kernel), List.mem_of_getElem? (i := 124) (by decide +kernel)⟩
theorem lw_p1 : lw_okq (⟨"PunCourts", "padFault", "()I"⟩, 8) := ⟨⟨by decide +kernel, by decide +kernel⟩, List.mem_of_getElem? (i := 7) (by decide +kernel), List.mem_of_getElem? (i := 143) (by decide +kernel), List.mem_of_getElem? (i := 144) (by decide +kernel)⟩
theorem lw_p2 : lw_okq (⟨"PunCourts", "padNames", "()I"⟩, 8) := ⟨⟨by decide +kernel, by decide +kernel⟩, List.mem_of_getElem? (i := 7) (by decide +kernel), List.mem_of_getElem? (i := 153) (by decide +kernel), List.mem_of_getElem? (i := 154) (by decide +kernel)⟩
theorem lw_p3 : lw_okq (⟨"PunCourts$Court", "soundOf", "(I)I"⟩, 16) := ⟨⟨by decide +kernel, by decide +kernel⟩, List.mem_of_getElem? (i := 15) (by decide +kernel), List.mem_of_getElem? (i := 162) (by decide +kernel), List.mem_of_getElem? (i := 163) (by decide +kernel)⟩
theorem lw_p4 : lw_okq (⟨"PunCourts$Court", "signAt", "(II)I"⟩, 16) := ⟨⟨by decide +kernel, by decide +kernel⟩, List.mem_of_getElem? (i := 15) (by decide +kernel), List.mem_of_getElem? (i := 166) (by decide +kernel), List.mem_of_getElem? (i := 167) (by decide +kernel)⟩
theorem lw_p5 : lw_okq (⟨"PunCourts$Court", "nearPuns", "(I)I"⟩, 16) := ⟨⟨by decide +kernel, by decide +kernel⟩, List.mem_of_getElem? (i := 15) (by decide +kernel), List.mem_of_getElem? (i := 207) (by decide +kernel), List.mem_of_getElem? (i := 208) (by decide +kernel)⟩
theorem lw_p6 : lw_okq (⟨"PunCourts$Court", "isPun", "(II)Z"⟩, 16) := ⟨⟨by decide +kernel, by decide +kernel⟩, List.mem_of_getElem? (i := 15) (by decide +kernel), List.mem_of_getElem? (i := 211) (by decide +kernel), List.mem_of_getElem? (i := 212) (by decide +kernel)⟩
theorem lw_p7 : lw_okq (⟨"PunCourts$Court", "around", "(I)I"⟩, 16) := ⟨⟨by decide +kernel, by decide +kernel⟩, List.mem_of_getElem? (i := 15) (by decide +kernel), List.mem_of_getElem? (i := 216) (by decide +kernel), List.mem_of_getElem? (i := 217) (by decide +kernel)⟩
theorem lw_p8 : lw_okq (⟨"PunCourts$Court", "reason", "(IIII)I"⟩, 16) := ⟨⟨by decide +kernel, by decide +kernel⟩, List.mem_of_getElem? (i := 15) (by decide +kernel), List.mem_of_getElem? (i := 224) (by decide +kernel), List.mem_of_getElem? (i := 225) (by decide +kernel)⟩
theorem lw_p9 : lw_okq (⟨"PunCourts$Court", "giveFromQueue", "()Z"⟩, 16) := ⟨⟨by decide +kernel, by decide +kernel⟩, List.mem_of_getElem? (i := 15) (by decide +kernel), List.mem_of_getElem? (i := 258) (by decide +kernel), List.mem_of_getElem? (i := 259) (by decide +kernel)⟩
theorem lw_p10 : lw_okq (⟨"PunCourts$Court", "setUpPosts", "()V"⟩, 16) := ⟨⟨by decide +kernel, by decide +kernel⟩, List.mem_of_getElem? (i := 15) (by decide +kernel), List.mem_of_getElem? (i := 275) (by decide +kernel), List.mem_of_getElem? (i := 276) (by decide +kernel)⟩
theorem lw_p11 : lw_okq (⟨"PunCourts$Court", "mostOwing", "()I"⟩, 16) := ⟨⟨by decide +kernel, by decide +kernel⟩, List.mem_of_getElem? (i := 15) (by decide +kernel), List.mem_of_getElem? (i := 279) (by decide +kernel), List.mem_of_getElem? (i := 280) (by decide +kernel)⟩
theorem lw_p12 : lw_okq (⟨"PunCourts$Court", "nextHeard", "(II)I"⟩, 16) := ⟨⟨by decide +kernel, by decide +kernel⟩, List.mem_of_getElem? (i := 15) (by decide +kernel), List.mem_of_getElem? (i := 304) (by decide +kernel), List.mem_of_getElem? (i := 305) (by decide +kernel)⟩
theorem lw_p13 : lw_okq (⟨"PunCourts$Court", "isHeard", "(II)Z"⟩, 16) := ⟨⟨by decide +kernel, by decide +kernel⟩, List.mem_of_getElem? (i := 15) (by decide +kernel), List.mem_of_getElem? (i := 308) (by decide +kernel), List.mem_of_getElem? (i := 309) (by decide +kernel)⟩
theorem lw_p14 : lw_okq (⟨"PunCourts", "append", "(C)V"⟩, 8) := ⟨⟨by decide +kernel, by decide +kernel⟩, List.mem_of_getElem? (i := 7) (by decide +kernel), List.mem_of_getElem? (i := 368) (by decide +kernel), List.mem_of_getElem? (i := 369) (by decide +kernel)⟩
theorem lw_p15 : lw_okq (⟨"PunCourtsModel", "changes", "()V"⟩, 13) := ⟨⟨by decide +kernel, by decide +kernel⟩, List.mem_of_getElem? (i := 395) (by decide +kernel), List.mem_of_getElem? (i := 455) (by decide +kernel), List.mem_of_getElem? (i := 456) (by decide +kernel)⟩
def lw_privs_1 : List (MethodName × Nat) := [(⟨"PunCourts", "record", "()V"⟩, 8), (⟨"PunCourts", "padFault", "()I"⟩, 8), (⟨"PunCourts", "padNames", "()I"⟩, 8), (⟨"PunCourts$Court", "soundOf", "(I)I"⟩, 16), (⟨"PunCourts$Court", "signAt", "(II)I"⟩, 16), (⟨"PunCourts$Court", "nearPuns", "(I)I"⟩, 16), (⟨"PunCourts$Court", "isPun", "(II)Z"⟩, 16), (⟨"PunCourts$Court", "around", "(I)I"⟩, 16), (⟨"PunCourts$Court", "reason", "(IIII)I"⟩, 16), (⟨"PunCourts$Court", "giveFromQueue", "()Z"⟩, 16), (⟨"PunCourts$Court", "setUpPosts", "()V"⟩, 16), (⟨"PunCourts$Court", "mostOwing", "()I"⟩, 16), (⟨"PunCourts$Court", "nextHeard", "(II)I"⟩, 16), (⟨"PunCourts$Court", "isHeard", "(II)Z"⟩, 16), (⟨"PunCourts", "append", "(C)V"⟩, 8), (⟨"PunCourtsModel", "changes", "()V"⟩, 13)]
theorem lw_r1 : ∀ q ∈ lw_privs_1, lw_okq q := List.forall_mem_cons.mpr ⟨lw_p0, List.forall_mem_cons.mpr ⟨lw_p1, List.forall_mem_cons.mpr ⟨lw_p2, List.forall_mem_cons.mpr ⟨lw_p3, List.forall_mem_cons.mpr ⟨lw_p4, List.forall_mem_cons.mpr ⟨lw_p5, List.forall_mem_cons.mpr ⟨lw_p6, List.forall_mem_cons.mpr ⟨lw_p7, List.forall_mem_cons.mpr ⟨lw_p8, List.forall_mem_cons.mpr ⟨lw_p9, List.forall_mem_cons.mpr ⟨lw_p10, List.forall_mem_cons.mpr ⟨lw_p11, List.forall_mem_cons.mpr ⟨lw_p12, List.forall_mem_cons.mpr ⟨lw_p13, List.forall_mem_cons.mpr ⟨lw_p14, List.forall_mem_cons.mpr ⟨lw_p15, fun _ h => absurd h List.not_mem_nil⟩⟩⟩⟩⟩⟩⟩⟩⟩⟩⟩⟩⟩⟩⟩⟩
theorem lw_p16 : lw_okq (⟨"PunCourtsModel", "isName", "(I)Z"⟩, 13) := ⟨⟨by decide +kernel, by decide +kernel⟩, List.mem_of_getElem? (i := 395) (by decide +kernel), List.mem_of_getElem? (i := 463) (by decide +kernel), List.mem_of_getElem? (i := 464) (by decide +kernel)⟩
theorem lw_p17 : lw_okq (⟨"PunCourtsModel", "get", "(II)I"⟩, 13) := ⟨⟨by decide +kernel, by decide +kernel⟩, List.mem_of_getElem? (i := 395) (by decide +kernel), List.mem_of_getElem? (i := 467) (by decide +kernel), List.mem_of_getElem? (i := 468) (by decide +kernel)⟩
theorem lw_p18 : lw_okq (⟨"PunCourtsModel", "lays", "(III)V"⟩, 13) := ⟨⟨by decide +kernel, by decide +kernel⟩, List.mem_of_getElem? (i := 395) (by decide +kernel), List.mem_of_getElem? (i := 471) (by decide +kernel), List.mem_of_getElem? (i := 472) (by decide +kernel)⟩
theorem lw_p19 : lw_okq (⟨"PunCourtsModel", "bearers", "(I)I"⟩, 13) := ⟨⟨by decide +kernel, by decide +kernel⟩, List.mem_of_getElem? (i := 395) (by decide +kernel), List.mem_of_getElem? (i := 479) (by decide +kernel), List.mem_of_getElem? (i := 480) (by decide +kernel)⟩
theorem lw_p20 : lw_okq (⟨"PunCourtsModel", "takesAway", "(I)V"⟩, 13) := ⟨⟨by decide +kernel, by decide +kernel⟩, List.mem_of_getElem? (i := 395) (by decide +kernel), List.mem_of_getElem? (i := 483) (by decide +kernel), List.mem_of_getElem? (i := 484) (by decide +kernel)⟩
theorem lw_p21 : lw_okq (⟨"PunCourtsModel", "reason", "(II)I"⟩, 13) := ⟨⟨by decide +kernel, by decide +kernel⟩, List.mem_of_getElem? (i := 395) (by decide +kernel), List.mem_of_getElem? (i := 497) (by decide +kernel), List.mem_of_getElem? (i := 498) (by decide +kernel)⟩
theorem lw_p22 : lw_okq (⟨"PunCourtsModel", "isPun", "(II)Z"⟩, 13) := ⟨⟨by decide +kernel, by decide +kernel⟩, List.mem_of_getElem? (i := 395) (by decide +kernel), List.mem_of_getElem? (i := 501) (by decide +kernel), List.mem_of_getElem? (i := 502) (by decide +kernel)⟩
theorem lw_p23 : lw_okq (⟨"PunCourtsModel", "soundAlike", "(II)Z"⟩, 13) := ⟨⟨by decide +kernel, by decide +kernel⟩, List.mem_of_getElem? (i := 395) (by decide +kernel), List.mem_of_getElem? (i := 505) (by decide +kernel), List.mem_of_getElem? (i := 506) (by decide +kernel)⟩
theorem lw_p24 : lw_okq (⟨"PunCourtsModel", "gives", "(II)V"⟩, 13) := ⟨⟨by decide +kernel, by decide +kernel⟩, List.mem_of_getElem? (i := 395) (by decide +kernel), List.mem_of_getElem? (i := 509) (by decide +kernel), List.mem_of_getElem? (i := 510) (by decide +kernel)⟩
theorem lw_p25 : lw_okq (⟨"PunCourtsModel", "wrongCorners", "()I"⟩, 13) := ⟨⟨by decide +kernel, by decide +kernel⟩, List.mem_of_getElem? (i := 395) (by decide +kernel), List.mem_of_getElem? (i := 521) (by decide +kernel), List.mem_of_getElem? (i := 522) (by decide +kernel)⟩
theorem lw_p26 : lw_okq (⟨"PunCourtsModel", "day", "()V"⟩, 13) := ⟨⟨by decide +kernel, by decide +kernel⟩, List.mem_of_getElem? (i := 395) (by decide +kernel), List.mem_of_getElem? (i := 530) (by decide +kernel), List.mem_of_getElem? (i := 531) (by decide +kernel)⟩
theorem lw_p27 : lw_okq (⟨"PunCourtsModel", "nextGiven", "()I"⟩, 13) := ⟨⟨by decide +kernel, by decide +kernel⟩, List.mem_of_getElem? (i := 395) (by decide +kernel), List.mem_of_getElem? (i := 534) (by decide +kernel), List.mem_of_getElem? (i := 535) (by decide +kernel)⟩
theorem lw_p28 : lw_okq (⟨"PunCourtsModel", "whereIs", "(I)I"⟩, 13) := ⟨⟨by decide +kernel, by decide +kernel⟩, List.mem_of_getElem? (i := 395) (by decide +kernel), List.mem_of_getElem? (i := 538) (by decide +kernel), List.mem_of_getElem? (i := 539) (by decide +kernel)⟩
theorem lw_p29 : lw_okq (⟨"PunCourtsModel", "comesFirst", "(II)Z"⟩, 13) := ⟨⟨by decide +kernel, by decide +kernel⟩, List.mem_of_getElem? (i := 395) (by decide +kernel), List.mem_of_getElem? (i := 542) (by decide +kernel), List.mem_of_getElem? (i := 543) (by decide +kernel)⟩
theorem lw_p30 : lw_okq (⟨"PunCourtsModel", "lowest", "(I)I"⟩, 13) := ⟨⟨by decide +kernel, by decide +kernel⟩, List.mem_of_getElem? (i := 395) (by decide +kernel), List.mem_of_getElem? (i := 546) (by decide +kernel), List.mem_of_getElem? (i := 547) (by decide +kernel)⟩
theorem lw_p31 : lw_okq (⟨"PunCourtsModel", "setsUp", "()V"⟩, 13) := ⟨⟨by decide +kernel, by decide +kernel⟩, List.mem_of_getElem? (i := 395) (by decide +kernel), List.mem_of_getElem? (i := 550) (by decide +kernel), List.mem_of_getElem? (i := 551) (by decide +kernel)⟩
def lw_privs_2 : List (MethodName × Nat) := [(⟨"PunCourtsModel", "isName", "(I)Z"⟩, 13), (⟨"PunCourtsModel", "get", "(II)I"⟩, 13), (⟨"PunCourtsModel", "lays", "(III)V"⟩, 13), (⟨"PunCourtsModel", "bearers", "(I)I"⟩, 13), (⟨"PunCourtsModel", "takesAway", "(I)V"⟩, 13), (⟨"PunCourtsModel", "reason", "(II)I"⟩, 13), (⟨"PunCourtsModel", "isPun", "(II)Z"⟩, 13), (⟨"PunCourtsModel", "soundAlike", "(II)Z"⟩, 13), (⟨"PunCourtsModel", "gives", "(II)V"⟩, 13), (⟨"PunCourtsModel", "wrongCorners", "()I"⟩, 13), (⟨"PunCourtsModel", "day", "()V"⟩, 13), (⟨"PunCourtsModel", "nextGiven", "()I"⟩, 13), (⟨"PunCourtsModel", "whereIs", "(I)I"⟩, 13), (⟨"PunCourtsModel", "comesFirst", "(II)Z"⟩, 13), (⟨"PunCourtsModel", "lowest", "(I)I"⟩, 13), (⟨"PunCourtsModel", "setsUp", "()V"⟩, 13)]
theorem lw_r2 : ∀ q ∈ lw_privs_2, lw_okq q := List.forall_mem_cons.mpr ⟨lw_p16, List.forall_mem_cons.mpr ⟨lw_p17, List.forall_mem_cons.mpr ⟨lw_p18, List.forall_mem_cons.mpr ⟨lw_p19, List.forall_mem_cons.mpr ⟨lw_p20, List.forall_mem_cons.mpr ⟨lw_p21, List.forall_mem_cons.mpr ⟨lw_p22, List.forall_mem_cons.mpr ⟨lw_p23, List.forall_mem_cons.mpr ⟨lw_p24, List.forall_mem_cons.mpr ⟨lw_p25, List.forall_mem_cons.mpr ⟨lw_p26, List.forall_mem_cons.mpr ⟨lw_p27, List.forall_mem_cons.mpr ⟨lw_p28, List.forall_mem_cons.mpr ⟨lw_p29, List.forall_mem_cons.mpr ⟨lw_p30, List.forall_mem_cons.mpr ⟨lw_p31, fun _ h => absurd h List.not_mem_nil⟩⟩⟩⟩⟩⟩⟩⟩⟩⟩⟩⟩⟩⟩⟩⟩
theorem lw_p32 : lw_okq (⟨"PunCourtsModel", "placeOf", "(I)I"⟩, 13) := ⟨⟨by decide +kernel, by decide +kernel⟩, List.mem_of_getElem? (i := 395) (by decide +kernel), List.mem_of_getElem? (i := 558) (by decide +kernel), List.mem_of_getElem? (i := 559) (by decide +kernel)⟩
theorem lw_p33 : lw_okq (⟨"PunCourtsModel", "waiting", "()I"⟩, 13) := ⟨⟨by decide +kernel, by decide +kernel⟩, List.mem_of_getElem? (i := 395) (by decide +kernel), List.mem_of_getElem? (i := 579) (by decide +kernel), List.mem_of_getElem? (i := 580) (by decide +kernel)⟩
theorem lw_p34 : lw_okq (⟨"PunCourtsModel", "named", "()I"⟩, 13) := ⟨⟨by decide +kernel, by decide +kernel⟩, List.mem_of_getElem? (i := 395) (by decide +kernel), List.mem_of_getElem? (i := 583) (by decide +kernel), List.mem_of_getElem? (i := 584) (by decide +kernel)⟩
theorem lw_p35 : lw_okq (⟨"PunCourtsModel", "sum", "(I)I"⟩, 13) := ⟨⟨by decide +kernel, by decide +kernel⟩, List.mem_of_getElem? (i := 395) (by decide +kernel), List.mem_of_getElem? (i := 587) (by decide +kernel), List.mem_of_getElem? (i := 588) (by decide +kernel)⟩
theorem lw_p36 : lw_okq (⟨"PunCourtsModel", "punPairs", "()I"⟩, 13) := ⟨⟨by decide +kernel, by decide +kernel⟩, List.mem_of_getElem? (i := 395) (by decide +kernel), List.mem_of_getElem? (i := 591) (by decide +kernel), List.mem_of_getElem? (i := 592) (by decide +kernel)⟩
theorem lw_p37 : lw_okq (⟨"PunCourtsModel", "until", "(I)I"⟩, 13) := ⟨⟨by decide +kernel, by decide +kernel⟩, List.mem_of_getElem? (i := 395) (by decide +kernel), List.mem_of_getElem? (i := 603) (by decide +kernel), List.mem_of_getElem? (i := 604) (by decide +kernel)⟩
theorem lw_p38 : lw_okq (⟨"PunCourtsModel", "keeps", "()V"⟩, 13) := ⟨⟨by decide +kernel, by decide +kernel⟩, List.mem_of_getElem? (i := 395) (by decide +kernel), List.mem_of_getElem? (i := 607) (by decide +kernel), List.mem_of_getElem? (i := 608) (by decide +kernel)⟩
theorem lw_p39 : lw_okq (⟨"PunCourtsModel", "comesBack", "()V"⟩, 13) := ⟨⟨by decide +kernel, by decide +kernel⟩, List.mem_of_getElem? (i := 395) (by decide +kernel), List.mem_of_getElem? (i := 611) (by decide +kernel), List.mem_of_getElem? (i := 612) (by decide +kernel)⟩
theorem lw_p40 : lw_okq (⟨"PunCourtsModel", "readsName", "()Z"⟩, 13) := ⟨⟨by decide +kernel, by decide +kernel⟩, List.mem_of_getElem? (i := 395) (by decide +kernel), List.mem_of_getElem? (i := 643) (by decide +kernel), List.mem_of_getElem? (i := 644) (by decide +kernel)⟩
theorem lw_p41 : lw_okq (⟨"PunCourtsModel", "isHere", "(II)Z"⟩, 13) := ⟨⟨by decide +kernel, by decide +kernel⟩, List.mem_of_getElem? (i := 395) (by decide +kernel), List.mem_of_getElem? (i := 647) (by decide +kernel), List.mem_of_getElem? (i := 648) (by decide +kernel)⟩
theorem lw_p42 : lw_okq (⟨"PunCourtsModel", "soundOf", "(II)I"⟩, 13) := ⟨⟨by decide +kernel, by decide +kernel⟩, List.mem_of_getElem? (i := 395) (by decide +kernel), List.mem_of_getElem? (i := 651) (by decide +kernel), List.mem_of_getElem? (i := 652) (by decide +kernel)⟩
def lw_privs_3 : List (MethodName × Nat) := [(⟨"PunCourtsModel", "placeOf", "(I)I"⟩, 13), (⟨"PunCourtsModel", "waiting", "()I"⟩, 13), (⟨"PunCourtsModel", "named", "()I"⟩, 13), (⟨"PunCourtsModel", "sum", "(I)I"⟩, 13), (⟨"PunCourtsModel", "punPairs", "()I"⟩, 13), (⟨"PunCourtsModel", "until", "(I)I"⟩, 13), (⟨"PunCourtsModel", "keeps", "()V"⟩, 13), (⟨"PunCourtsModel", "comesBack", "()V"⟩, 13), (⟨"PunCourtsModel", "readsName", "()Z"⟩, 13), (⟨"PunCourtsModel", "isHere", "(II)Z"⟩, 13), (⟨"PunCourtsModel", "soundOf", "(II)I"⟩, 13)]
theorem lw_r3 : ∀ q ∈ lw_privs_3, lw_okq q := List.forall_mem_cons.mpr ⟨lw_p32, List.forall_mem_cons.mpr ⟨lw_p33, List.forall_mem_cons.mpr ⟨lw_p34, List.forall_mem_cons.mpr ⟨lw_p35, List.forall_mem_cons.mpr ⟨lw_p36, List.forall_mem_cons.mpr ⟨lw_p37, List.forall_mem_cons.mpr ⟨lw_p38, List.forall_mem_cons.mpr ⟨lw_p39, List.forall_mem_cons.mpr ⟨lw_p40, List.forall_mem_cons.mpr ⟨lw_p41, List.forall_mem_cons.mpr ⟨lw_p42, fun _ h => absurd h List.not_mem_nil⟩⟩⟩⟩⟩⟩⟩⟩⟩⟩⟩
def lw_privs : List (MethodName × Nat) := lw_privs_1 ++ (lw_privs_2 ++ (lw_privs_3))
def lw_tbl : List Cond := k2_sels lw_privs ++ tables_1
theorem lw_privs_ok : ∀ q ∈ lw_privs, lw_okq q := by
  show ∀ q ∈ lw_privs_1 ++ (lw_privs_2 ++ (lw_privs_3)), lw_okq q
  exact List.forall_mem_append.mpr ⟨lw_r1, List.forall_mem_append.mpr ⟨lw_r2, lw_r3⟩⟩
end
section
/-! ===== BEGIN words of one list among another's, by their places ===== -/
theorem goodIn_r {big : List Cond} (ws : List Cond) (ps : List Nat) (hp : ws = ps.filterMap (fun i => big[i]?)) (h : ws.all goodWord = true) : GoodIn big ws := by
  intro w hw
  have h1 := List.all_eq_true.mp h w hw
  rw [hp] at hw
  obtain ⟨i, -, hi⟩ := List.mem_filterMap.mp hw
  have hm : w ∈ big := by first | exact List.mem_of_getElem? hi | exact List.getElem?_mem hi
  exact ⟨hm, good_of_word h1⟩
theorem goodIn_app {big a b : List Cond} (ha : GoodIn big a) (hb : GoodIn big b) : GoodIn big (a ++ b) := fun w h => (List.mem_append.mp h).elim (ha w) (hb w)
theorem goodIn_ca {big a b : List Cond} {c : Cond} (ha : GoodIn big (c :: a)) (hb : GoodIn big b) : GoodIn big (c :: (a ++ b)) := fun w h => (List.mem_cons.mp h).elim (fun e => ha w (List.mem_cons.mpr (Or.inl e))) (fun h => (List.mem_append.mp h).elim (fun h => ha w (List.mem_cons.mpr (Or.inr h))) (hb w))
theorem goodIn_sub {big ws : List Cond} (hm : ∀ w ∈ ws, w ∈ big) (h : ws.all goodWord = true) : GoodIn big ws := fun w hw => ⟨hm w hw, good_of_word (List.all_eq_true.mp h w hw)⟩
/-! ===== END ===== -/

/-! ===== BEGIN printed: names, fields, word lists, decode rows ===== -/
def RX0 : String := "PunCourts$Court"
def TX0 : u_T := fun k => match k with
  | 0 => ("PunCourts$Court", "settings", "[I", true)
  | 1 => ("PunCourts$Court", "days", "I", false)
  | 2 => ("PunCourts$Court", "names", "I", false)
  | 3 => ("PunCourts$Court", "letters", "[C", true)
  | 4 => ("PunCourts$Court", "lengths", "[I", true)
  | 5 => ("PunCourts$Court", "sounds", "[I", true)
  | 6 => ("PunCourts$Court", "honours", "[I", true)
  | 7 => ("PunCourts$Court", "withdrawn", "[Z", true)
  | 8 => ("PunCourts$Court", "nameGiven", "[I", true)
  | 9 => ("PunCourts$Court", "borne", "[I", true)
  | 10 => ("PunCourts$Court", "owed", "[I", true)
  | 11 => ("PunCourts$Court", "posted", "[I", true)
  | 12 => ("PunCourts$Court", "gotDay", "[I", true)
  | 13 => ("PunCourts$Court", "cornerGiven", "[I", true)
  | 14 => ("PunCourts$Court", "mapIssued", "Z", false)
  | _ => ("PunCourts$Court", "shown", "[I", true)
def tyX0 : Nat → FieldType := fun k => match k with
  | 0 => .array .int
  | 1 => .int
  | 2 => .int
  | 3 => .array .char
  | 4 => .array .int
  | 5 => .array .int
  | 6 => .array .int
  | 7 => .array .boolean
  | 8 => .array .int
  | 9 => .array .int
  | 10 => .array .int
  | 11 => .array .int
  | 12 => .array .int
  | 13 => .array .int
  | 14 => .boolean
  | _ => .array .int
abbrev wsX00 : List Cond := u_ws RX0 TX0 16
theorem nmX0 : ∀ a, a < 16 → ∀ b, b < 16 → a ≠ b → (TX0 a).2.1 ≠ (TX0 b).2.1 := by decide +kernel
theorem tyX0_ok : ∀ k, k < 16 → parseFieldDescriptor (TX0 k).2.2.1 = some (tyX0 k) := by decide +kernel
abbrev cX0_init : ByteArray := prog_2_method_1_code
def yX0_init : MethodName := ⟨RX0, "<init>", "()V"⟩
abbrev cX0_hasName : ByteArray := prog_2_method_2_code
def yX0_hasName : MethodName := ⟨RX0, "hasName", "(I)Z"⟩
abbrev cX0_apply : ByteArray := prog_2_method_3_code
def yX0_apply : MethodName := ⟨RX0, "apply", "([CIII)V"⟩
abbrev cX0_soundOf : ByteArray := prog_2_method_4_code
def yX0_soundOf : MethodName := ⟨RX0, "soundOf", "(I)I"⟩
abbrev cX0_signAt : ByteArray := prog_2_method_5_code
def yX0_signAt : MethodName := ⟨RX0, "signAt", "(II)I"⟩
abbrev cX0_alikeByLetters : ByteArray := prog_2_method_6_code
def yX0_alikeByLetters : MethodName := ⟨RX0, "alikeByLetters", "(II)Z"⟩
abbrev cX0_nextHeard : ByteArray := prog_2_method_7_code
def yX0_nextHeard : MethodName := ⟨RX0, "nextHeard", "(II)I"⟩
abbrev cX0_isHeard : ByteArray := prog_2_method_8_code
def yX0_isHeard : MethodName := ⟨RX0, "isHeard", "(II)Z"⟩
abbrev cX0_bearers : ByteArray := prog_2_method_9_code
def yX0_bearers : MethodName := ⟨RX0, "bearers", "(I)I"⟩
abbrev cX0_bearerSet : ByteArray := prog_2_method_10_code
def yX0_bearerSet : MethodName := ⟨RX0, "bearerSet", "(I)I"⟩
abbrev cX0_whereIs : ByteArray := prog_2_method_11_code
def yX0_whereIs : MethodName := ⟨RX0, "whereIs", "(I)I"⟩
abbrev cX0_waits : ByteArray := prog_2_method_12_code
def yX0_waits : MethodName := ⟨RX0, "waits", "(I)Z"⟩
abbrev cX0_placeInQueue : ByteArray := prog_2_method_13_code
def yX0_placeInQueue : MethodName := ⟨RX0, "placeInQueue", "(I)I"⟩
abbrev cX0_waitingNames : ByteArray := prog_2_method_14_code
def yX0_waitingNames : MethodName := ⟨RX0, "waitingNames", "()I"⟩
abbrev cX0_bearingCorners : ByteArray := prog_2_method_15_code
def yX0_bearingCorners : MethodName := ⟨RX0, "bearingCorners", "()I"⟩
abbrev cX0_punPairs : ByteArray := prog_2_method_16_code
def yX0_punPairs : MethodName := ⟨RX0, "punPairs", "()I"⟩
abbrev cX0_isPun : ByteArray := prog_2_method_17_code
def yX0_isPun : MethodName := ⟨RX0, "isPun", "(II)Z"⟩
abbrev cX0_refusal : ByteArray := prog_2_method_18_code
def yX0_refusal : MethodName := ⟨RX0, "refusal", "(II)I"⟩
abbrev cX0_lowestFree : ByteArray := prog_2_method_19_code
def yX0_lowestFree : MethodName := ⟨RX0, "lowestFree", "(I)I"⟩
abbrev cX0_reason : ByteArray := prog_2_method_20_code
def yX0_reason : MethodName := ⟨RX0, "reason", "(IIII)I"⟩
abbrev cX0_nearPuns : ByteArray := prog_2_method_21_code
def yX0_nearPuns : MethodName := ⟨RX0, "nearPuns", "(I)I"⟩
abbrev cX0_around : ByteArray := prog_2_method_22_code
def yX0_around : MethodName := ⟨RX0, "around", "(I)I"⟩
abbrev cX0_place : ByteArray := prog_2_method_23_code
def yX0_place : MethodName := ⟨RX0, "place", "(II)V"⟩
abbrev cX0_bare : ByteArray := prog_2_method_24_code
def yX0_bare : MethodName := ⟨RX0, "bare", "(I)V"⟩
abbrev cX0_drop : ByteArray := prog_2_method_25_code
def yX0_drop : MethodName := ⟨RX0, "drop", "(I)I"⟩
abbrev cX0_live : ByteArray := prog_2_method_26_code
def yX0_live : MethodName := ⟨RX0, "live", "(I)I"⟩
abbrev cX0_giveFromQueue : ByteArray := prog_2_method_27_code
def yX0_giveFromQueue : MethodName := ⟨RX0, "giveFromQueue", "()Z"⟩
abbrev cX0_setUpPosts : ByteArray := prog_2_method_28_code
def yX0_setUpPosts : MethodName := ⟨RX0, "setUpPosts", "()V"⟩
abbrev cX0_mostOwing : ByteArray := prog_2_method_29_code
def yX0_mostOwing : MethodName := ⟨RX0, "mostOwing", "()I"⟩
abbrev cX0_wrongOnMap : ByteArray := prog_2_method_30_code
def yX0_wrongOnMap : MethodName := ⟨RX0, "wrongOnMap", "()I"⟩
abbrev cX0_drawMap : ByteArray := prog_2_method_31_code
def yX0_drawMap : MethodName := ⟨RX0, "drawMap", "()V"⟩
def RX1 : String := "PunCourts"
def TX1 : u_T := fun k => match k with
  | 0 => ("PunCourts", "now", "LPunCourts$Court;", true)
  | 1 => ("PunCourts", "trial", "LPunCourts$Court;", true)
  | 2 => ("PunCourts", "past", "[LPunCourts$Court;", true)
  | 3 => ("PunCourts", "pastLength", "I", false)
  | 4 => ("PunCourts", "slots", "[LPunCourts$Court;", true)
  | 5 => ("PunCourts", "slotUsed", "[Z", true)
  | 6 => ("PunCourts", "pad", "[C", true)
  | _ => ("PunCourts", "padLength", "I", false)
def tyX1 : Nat → FieldType := fun k => match k with
  | 0 => .object "PunCourts$Court"
  | 1 => .object "PunCourts$Court"
  | 2 => .array (.object "PunCourts$Court")
  | 3 => .int
  | 4 => .array (.object "PunCourts$Court")
  | 5 => .array .boolean
  | 6 => .array .char
  | _ => .int
abbrev wsX10 : List Cond := u_ws RX1 TX1 8
theorem nmX1 : ∀ a, a < 8 → ∀ b, b < 8 → a ≠ b → (TX1 a).2.1 ≠ (TX1 b).2.1 := by decide +kernel
theorem tyX1_ok : ∀ k, k < 8 → parseFieldDescriptor (TX1 k).2.2.1 = some (tyX1 k) := by decide +kernel
abbrev cX1_init : ByteArray := prog_1_method_1_code
def yX1_init : MethodName := ⟨RX1, "<init>", "()V"⟩
abbrev cX1_set : ByteArray := prog_1_method_2_code
def yX1_set : MethodName := ⟨RX1, "set", "(II)I"⟩
abbrev cX1_read : ByteArray := prog_1_method_3_code
def yX1_read : MethodName := ⟨RX1, "read", "()I"⟩
abbrev cX1_honour : ByteArray := prog_1_method_4_code
def yX1_honour : MethodName := ⟨RX1, "honour", "(II)I"⟩
abbrev cX1_withdraw : ByteArray := prog_1_method_5_code
def yX1_withdraw : MethodName := ⟨RX1, "withdraw", "(I)I"⟩
abbrev cX1_give : ByteArray := prog_1_method_6_code
def yX1_give : MethodName := ⟨RX1, "give", "(II)I"⟩
abbrev cX1_strip : ByteArray := prog_1_method_7_code
def yX1_strip : MethodName := ⟨RX1, "strip", "(I)I"⟩
abbrev cX1_issue : ByteArray := prog_1_method_8_code
def yX1_issue : MethodName := ⟨RX1, "issue", "()I"⟩
abbrev cX1_pass : ByteArray := prog_1_method_9_code
def yX1_pass : MethodName := ⟨RX1, "pass", "(I)I"⟩
abbrev cX1_name : ByteArray := prog_1_method_10_code
def yX1_name : MethodName := ⟨RX1, "name", "(II)I"⟩
abbrev cX1_alike : ByteArray := prog_1_method_11_code
def yX1_alike : MethodName := ⟨RX1, "alike", "(III)I"⟩
abbrev cX1_corner : ByteArray := prog_1_method_12_code
def yX1_corner : MethodName := ⟨RX1, "corner", "(II)I"⟩
abbrev cX1_why : ByteArray := prog_1_method_13_code
def yX1_why : MethodName := ⟨RX1, "why", "(II)I"⟩
abbrev cX1_count : ByteArray := prog_1_method_14_code
def yX1_count : MethodName := ⟨RX1, "count", "(I)I"⟩
abbrev cX1_bestCorner : ByteArray := prog_1_method_15_code
def yX1_bestCorner : MethodName := ⟨RX1, "bestCorner", "(I)I"⟩
abbrev cX1_untilBorne : ByteArray := prog_1_method_16_code
def yX1_untilBorne : MethodName := ⟨RX1, "untilBorne", "(I)I"⟩
abbrev cX1_untilPosted : ByteArray := prog_1_method_17_code
def yX1_untilPosted : MethodName := ⟨RX1, "untilPosted", "()I"⟩
abbrev cX1_ifPassed : ByteArray := prog_1_method_18_code
def yX1_ifPassed : MethodName := ⟨RX1, "ifPassed", "(II)I"⟩
abbrev cX1_put : ByteArray := prog_1_method_19_code
def yX1_put : MethodName := ⟨RX1, "put", "(J)I"⟩
abbrev cX1_wipe : ByteArray := prog_1_method_20_code
def yX1_wipe : MethodName := ⟨RX1, "wipe", "()I"⟩
abbrev cX1_fault : ByteArray := prog_1_method_21_code
def yX1_fault : MethodName := ⟨RX1, "fault", "()I"⟩
abbrev cX1_undo : ByteArray := prog_1_method_22_code
def yX1_undo : MethodName := ⟨RX1, "undo", "()I"⟩
abbrev cX1_save : ByteArray := prog_1_method_23_code
def yX1_save : MethodName := ⟨RX1, "save", "(I)I"⟩
abbrev cX1_restore : ByteArray := prog_1_method_24_code
def yX1_restore : MethodName := ⟨RX1, "restore", "(I)I"⟩
abbrev cX1_record : ByteArray := prog_1_method_25_code
def yX1_record : MethodName := ⟨RX1, "record", "()V"⟩
abbrev cX1_copy : ByteArray := prog_1_method_26_code
def yX1_copy : MethodName := ⟨RX1, "copy", "(LPunCourts$Court;LPunCourts$Court;)V"⟩
abbrev cX1_copyRow : ByteArray := prog_1_method_27_code
def yX1_copyRow : MethodName := ⟨RX1, "copyRow", "([I[I)V"⟩
abbrev cX1_padFault : ByteArray := prog_1_method_28_code
def yX1_padFault : MethodName := ⟨RX1, "padFault", "()I"⟩
abbrev cX1_padNames : ByteArray := prog_1_method_29_code
def yX1_padNames : MethodName := ⟨RX1, "padNames", "()I"⟩
abbrev cX1_append : ByteArray := prog_1_method_30_code
def yX1_append : MethodName := ⟨RX1, "append", "(C)V"⟩
abbrev cX1_charactersIn : ByteArray := prog_1_method_31_code
def yX1_charactersIn : MethodName := ⟨RX1, "charactersIn", "(J)I"⟩
abbrev cX1_codeAt : ByteArray := prog_1_method_32_code
def yX1_codeAt : MethodName := ⟨RX1, "codeAt", "(JI)I"⟩
abbrev cX1_isLetter : ByteArray := prog_1_method_33_code
def yX1_isLetter : MethodName := ⟨RX1, "isLetter", "(C)Z"⟩
abbrev cX1_isDigit : ByteArray := prog_1_method_34_code
def yX1_isDigit : MethodName := ⟨RX1, "isDigit", "(C)Z"⟩
abbrev cX1_isCorner : ByteArray := prog_1_method_35_code
def yX1_isCorner : MethodName := ⟨RX1, "isCorner", "(I)Z"⟩
abbrev cX1_isSlot : ByteArray := prog_1_method_36_code
def yX1_isSlot : MethodName := ⟨RX1, "isSlot", "(I)Z"⟩
abbrev cX1_sum : ByteArray := prog_1_method_37_code
def yX1_sum : MethodName := ⟨RX1, "sum", "([I)I"⟩
def RX2 : String := "PunCourtsModel"
def TX2 : u_T := fun k => match k with
  | 0 => ("PunCourtsModel", "all", "[I", true)
  | 1 => ("PunCourtsModel", "kept", "[I", true)
  | 2 => ("PunCourtsModel", "history", "[I", true)
  | 3 => ("PunCourtsModel", "historyLong", "I", false)
  | 4 => ("PunCourtsModel", "slots", "[I", true)
  | 5 => ("PunCourtsModel", "isSaved", "[I", true)
  | 6 => ("PunCourtsModel", "text", "[I", true)
  | 7 => ("PunCourtsModel", "textLong", "I", false)
  | 8 => ("PunCourtsModel", "spot", "I", false)
  | 9 => ("PunCourtsModel", "sounds", "[I", true)
  | 10 => ("PunCourtsModel", "lengths", "[I", true)
  | 11 => ("PunCourtsModel", "honours", "[I", true)
  | _ => ("PunCourtsModel", "read", "I", false)
def tyX2 : Nat → FieldType := fun k => match k with
  | 0 => .array .int
  | 1 => .array .int
  | 2 => .array .int
  | 3 => .int
  | 4 => .array .int
  | 5 => .array .int
  | 6 => .array .int
  | 7 => .int
  | 8 => .int
  | 9 => .array .int
  | 10 => .array .int
  | 11 => .array .int
  | _ => .int
abbrev wsX20 : List Cond := u_ws RX2 TX2 13
theorem nmX2 : ∀ a, a < 13 → ∀ b, b < 13 → a ≠ b → (TX2 a).2.1 ≠ (TX2 b).2.1 := by decide +kernel
theorem tyX2_ok : ∀ k, k < 13 → parseFieldDescriptor (TX2 k).2.2.1 = some (tyX2 k) := by decide +kernel
abbrev cX2_init : ByteArray := prog_4_method_1_code
def yX2_init : MethodName := ⟨RX2, "<init>", "()V"⟩
abbrev cX2_in : ByteArray := prog_4_method_3_code
def yX2_in : MethodName := ⟨RX2, "in", "(JJJ)Z"⟩
abbrev cX2_changes : ByteArray := prog_4_method_4_code
def yX2_changes : MethodName := ⟨RX2, "changes", "()V"⟩
abbrev cX2_keeps : ByteArray := prog_4_method_5_code
def yX2_keeps : MethodName := ⟨RX2, "keeps", "()V"⟩
abbrev cX2_comesBack : ByteArray := prog_4_method_6_code
def yX2_comesBack : MethodName := ⟨RX2, "comesBack", "()V"⟩
abbrev cX2_isName : ByteArray := prog_4_method_7_code
def yX2_isName : MethodName := ⟨RX2, "isName", "(I)Z"⟩
abbrev cX2_isCorner : ByteArray := prog_4_method_8_code
def yX2_isCorner : MethodName := ⟨RX2, "isCorner", "(I)Z"⟩
abbrev cX2_get : ByteArray := prog_4_method_9_code
def yX2_get : MethodName := ⟨RX2, "get", "(II)I"⟩
abbrev cX2_lays : ByteArray := prog_4_method_10_code
def yX2_lays : MethodName := ⟨RX2, "lays", "(III)V"⟩
abbrev cX2_sign : ByteArray := prog_4_method_11_code
def yX2_sign : MethodName := ⟨RX2, "sign", "(I)I"⟩
abbrev cX2_bearers : ByteArray := prog_4_method_12_code
def yX2_bearers : MethodName := ⟨RX2, "bearers", "(I)I"⟩
abbrev cX2_bits : ByteArray := prog_4_method_13_code
def yX2_bits : MethodName := ⟨RX2, "bits", "(I)I"⟩
abbrev cX2_whereIs : ByteArray := prog_4_method_14_code
def yX2_whereIs : MethodName := ⟨RX2, "whereIs", "(I)I"⟩
abbrev cX2_soundAlike : ByteArray := prog_4_method_15_code
def yX2_soundAlike : MethodName := ⟨RX2, "soundAlike", "(II)Z"⟩
abbrev cX2_comesFirst : ByteArray := prog_4_method_16_code
def yX2_comesFirst : MethodName := ⟨RX2, "comesFirst", "(II)Z"⟩
abbrev cX2_isPun : ByteArray := prog_4_method_17_code
def yX2_isPun : MethodName := ⟨RX2, "isPun", "(II)Z"⟩
abbrev cX2_reason : ByteArray := prog_4_method_18_code
def yX2_reason : MethodName := ⟨RX2, "reason", "(II)I"⟩
abbrev cX2_gives : ByteArray := prog_4_method_19_code
def yX2_gives : MethodName := ⟨RX2, "gives", "(II)V"⟩
abbrev cX2_takesAway : ByteArray := prog_4_method_20_code
def yX2_takesAway : MethodName := ⟨RX2, "takesAway", "(I)V"⟩
abbrev cX2_lowest : ByteArray := prog_4_method_21_code
def yX2_lowest : MethodName := ⟨RX2, "lowest", "(I)I"⟩
abbrev cX2_sum : ByteArray := prog_4_method_22_code
def yX2_sum : MethodName := ⟨RX2, "sum", "(I)I"⟩
abbrev cX2_nextGiven : ByteArray := prog_4_method_23_code
def yX2_nextGiven : MethodName := ⟨RX2, "nextGiven", "()I"⟩
abbrev cX2_setsUp : ByteArray := prog_4_method_24_code
def yX2_setsUp : MethodName := ⟨RX2, "setsUp", "()V"⟩
abbrev cX2_day : ByteArray := prog_4_method_25_code
def yX2_day : MethodName := ⟨RX2, "day", "()V"⟩
abbrev cX2_isSetting : ByteArray := prog_4_method_26_code
def yX2_isSetting : MethodName := ⟨RX2, "isSetting", "(II)Z"⟩
abbrev cX2_set : ByteArray := prog_4_method_27_code
def yX2_set : MethodName := ⟨RX2, "set", "(II)I"⟩
abbrev cX2_honour : ByteArray := prog_4_method_28_code
def yX2_honour : MethodName := ⟨RX2, "honour", "(II)I"⟩
abbrev cX2_withdraw : ByteArray := prog_4_method_29_code
def yX2_withdraw : MethodName := ⟨RX2, "withdraw", "(I)I"⟩
abbrev cX2_give : ByteArray := prog_4_method_30_code
def yX2_give : MethodName := ⟨RX2, "give", "(II)I"⟩
abbrev cX2_strip : ByteArray := prog_4_method_31_code
def yX2_strip : MethodName := ⟨RX2, "strip", "(I)I"⟩
abbrev cX2_wrongCorners : ByteArray := prog_4_method_32_code
def yX2_wrongCorners : MethodName := ⟨RX2, "wrongCorners", "()I"⟩
abbrev cX2_issue : ByteArray := prog_4_method_33_code
def yX2_issue : MethodName := ⟨RX2, "issue", "()I"⟩
abbrev cX2_pass : ByteArray := prog_4_method_34_code
def yX2_pass : MethodName := ⟨RX2, "pass", "(I)I"⟩
abbrev cX2_placeOf : ByteArray := prog_4_method_35_code
def yX2_placeOf : MethodName := ⟨RX2, "placeOf", "(I)I"⟩
abbrev cX2_name : ByteArray := prog_4_method_36_code
def yX2_name : MethodName := ⟨RX2, "name", "(II)I"⟩
abbrev cX2_alike : ByteArray := prog_4_method_37_code
def yX2_alike : MethodName := ⟨RX2, "alike", "(III)I"⟩
abbrev cX2_corner : ByteArray := prog_4_method_38_code
def yX2_corner : MethodName := ⟨RX2, "corner", "(II)I"⟩
abbrev cX2_why : ByteArray := prog_4_method_39_code
def yX2_why : MethodName := ⟨RX2, "why", "(II)I"⟩
abbrev cX2_waiting : ByteArray := prog_4_method_40_code
def yX2_waiting : MethodName := ⟨RX2, "waiting", "()I"⟩
abbrev cX2_named : ByteArray := prog_4_method_41_code
def yX2_named : MethodName := ⟨RX2, "named", "()I"⟩
abbrev cX2_punPairs : ByteArray := prog_4_method_42_code
def yX2_punPairs : MethodName := ⟨RX2, "punPairs", "()I"⟩
abbrev cX2_count : ByteArray := prog_4_method_43_code
def yX2_count : MethodName := ⟨RX2, "count", "(I)I"⟩
abbrev cX2_bestCorner : ByteArray := prog_4_method_44_code
def yX2_bestCorner : MethodName := ⟨RX2, "bestCorner", "(I)I"⟩
abbrev cX2_until : ByteArray := prog_4_method_45_code
def yX2_until : MethodName := ⟨RX2, "until", "(I)I"⟩
abbrev cX2_untilBorne : ByteArray := prog_4_method_46_code
def yX2_untilBorne : MethodName := ⟨RX2, "untilBorne", "(I)I"⟩
abbrev cX2_untilPosted : ByteArray := prog_4_method_47_code
def yX2_untilPosted : MethodName := ⟨RX2, "untilPosted", "()I"⟩
abbrev cX2_ifPassed : ByteArray := prog_4_method_48_code
def yX2_ifPassed : MethodName := ⟨RX2, "ifPassed", "(II)I"⟩
abbrev cX2_charactersOf : ByteArray := prog_4_method_49_code
def yX2_charactersOf : MethodName := ⟨RX2, "charactersOf", "(J)I"⟩
abbrev cX2_put : ByteArray := prog_4_method_50_code
def yX2_put : MethodName := ⟨RX2, "put", "(J)I"⟩
abbrev cX2_wipe : ByteArray := prog_4_method_51_code
def yX2_wipe : MethodName := ⟨RX2, "wipe", "()I"⟩
abbrev cX2_isHere : ByteArray := prog_4_method_52_code
def yX2_isHere : MethodName := ⟨RX2, "isHere", "(II)Z"⟩
abbrev cX2_soundOf : ByteArray := prog_4_method_53_code
def yX2_soundOf : MethodName := ⟨RX2, "soundOf", "(II)I"⟩
abbrev cX2_readsName : ByteArray := prog_4_method_54_code
def yX2_readsName : MethodName := ⟨RX2, "readsName", "()Z"⟩
abbrev cX2_fault : ByteArray := prog_4_method_55_code
def yX2_fault : MethodName := ⟨RX2, "fault", "()I"⟩
abbrev cX2_read : ByteArray := prog_4_method_56_code
def yX2_read : MethodName := ⟨RX2, "read", "()I"⟩
abbrev cX2_undo : ByteArray := prog_4_method_57_code
def yX2_undo : MethodName := ⟨RX2, "undo", "()I"⟩
abbrev cX2_isSlot : ByteArray := prog_4_method_58_code
def yX2_isSlot : MethodName := ⟨RX2, "isSlot", "(I)Z"⟩
abbrev cX2_save : ByteArray := prog_4_method_59_code
def yX2_save : MethodName := ⟨RX2, "save", "(I)I"⟩
abbrev cX2_restore : ByteArray := prog_4_method_60_code
def yX2_restore : MethodName := ⟨RX2, "restore", "(I)I"⟩
def RJ9 : String := "java/lang/Math"
def TJ9 : u_T := fun k => match k with
  | _ => ("", "", "", false)
def tyJ9 : Nat → FieldType := fun k => match k with
  | _ => .int
abbrev wsJ90 : List Cond := u_ws RJ9 TJ9 0
theorem nmJ9 : ∀ a, a < 0 → ∀ b, b < 0 → a ≠ b → (TJ9 a).2.1 ≠ (TJ9 b).2.1 := by decide +kernel
theorem tyJ9_ok : ∀ k, k < 0 → parseFieldDescriptor (TJ9 k).2.2.1 = some (tyJ9 k) := by decide +kernel
abbrev cJ9_max_7cf53 : ByteArray := prog_5_method_65_code
def yJ9_max_7cf53 : MethodName := ⟨RJ9, "max", "(II)I"⟩
abbrev cJ9_min_7cf53 : ByteArray := prog_5_method_69_code
def yJ9_min_7cf53 : MethodName := ⟨RJ9, "min", "(II)I"⟩
def RJ10 : String := "java/lang/System"
def TJ10 : u_T := fun k => match k with
  | _ => ("", "", "", false)
def tyJ10 : Nat → FieldType := fun k => match k with
  | _ => .int
abbrev wsJ100 : List Cond := u_ws RJ10 TJ10 0
theorem nmJ10 : ∀ a, a < 0 → ∀ b, b < 0 → a ≠ b → (TJ10 a).2.1 ≠ (TJ10 b).2.1 := by decide +kernel
theorem tyJ10_ok : ∀ k, k < 0 → parseFieldDescriptor (TJ10 k).2.2.1 = some (tyJ10 k) := by decide +kernel
def RL : String := "PunCourtsLaw"
abbrev cL_law : ByteArray := code
def yL_law : MethodName := ⟨RL, "law", "([I)Z"⟩
def wsX0_init : List Cond := .code yX0_init cX0_init 2 none :: ([.methodLink RX0 3 objectInit, .instanceMethod objectInit, .code objectInit ⟨#[0xb1]⟩ 1 none, .arrayClass .int, .fieldLink RX0 9 "PunCourts$Court" "settings" "[I", .arrayClass .char, .fieldLink RX0 15 "PunCourts$Court" "letters" "[C", .fieldLink RX0 19 "PunCourts$Court" "lengths" "[I", .fieldLink RX0 22 "PunCourts$Court" "sounds" "[I", .fieldLink RX0 25 "PunCourts$Court" "honours" "[I", .arrayClass .boolean, .fieldLink RX0 28 "PunCourts$Court" "withdrawn" "[Z", .fieldLink RX0 32 "PunCourts$Court" "nameGiven" "[I", .fieldLink RX0 35 "PunCourts$Court" "borne" "[I", .fieldLink RX0 38 "PunCourts$Court" "owed" "[I", .fieldLink RX0 41 "PunCourts$Court" "posted" "[I", .fieldLink RX0 44 "PunCourts$Court" "gotDay" "[I", .fieldLink RX0 47 "PunCourts$Court" "cornerGiven" "[I", .fieldLink RX0 50 "PunCourts$Court" "shown" "[I"] ++ wsX00)
def wsX0_hasName : List Cond := .code yX0_hasName cX0_hasName 2 (some .boolean) :: ([.fieldLink RX0 53 "PunCourts$Court" "names" "I"] ++ wsX00)
def wsX0_signAt : List Cond := .code yX0_signAt cX0_signAt 4 (some .int) :: ([.fieldLink RX0 15 "PunCourts$Court" "letters" "[C"] ++ wsX00)
def wsX0_soundOf : List Cond := .code yX0_soundOf cX0_soundOf 6 (some .int) :: ([.fieldLink RX0 19 "PunCourts$Court" "lengths" "[I", .methodLink RX0 67 yX0_signAt, .instanceMethod yX0_signAt, .selects RX0 yX0_signAt yX0_signAt, .initialized RX0, .code yX0_signAt cX0_signAt 4 (some .int), .fieldLink RX0 15 "PunCourts$Court" "letters" "[C"] ++ wsX00)
def wsX0_apply : List Cond := .code yX0_apply cX0_apply 6 none :: ([.fieldLink RX0 53 "PunCourts$Court" "names" "I", .fieldLink RX0 15 "PunCourts$Court" "letters" "[C", .methodLink RX0 57 arraycopyName, .native arraycopyName, .static arraycopyName, .initialized "java/lang/System", .fieldLink RX0 19 "PunCourts$Court" "lengths" "[I", .fieldLink RX0 25 "PunCourts$Court" "honours" "[I", .fieldLink RX0 28 "PunCourts$Court" "withdrawn" "[Z", .fieldLink RX0 32 "PunCourts$Court" "nameGiven" "[I", .fieldLink RX0 22 "PunCourts$Court" "sounds" "[I", .methodLink RX0 63 yX0_soundOf, .instanceMethod yX0_soundOf, .selects RX0 yX0_soundOf yX0_soundOf, .initialized RX0, .code yX0_soundOf cX0_soundOf 6 (some .int), .methodLink RX0 67 yX0_signAt, .instanceMethod yX0_signAt, .selects RX0 yX0_signAt yX0_signAt, .code yX0_signAt cX0_signAt 4 (some .int)] ++ wsX00)
def wsX0_isHeard : List Cond := .code yX0_isHeard cX0_isHeard 6 (some .boolean) :: ([.methodLink RX0 67 yX0_signAt, .instanceMethod yX0_signAt, .selects RX0 yX0_signAt yX0_signAt, .initialized RX0, .code yX0_signAt cX0_signAt 4 (some .int), .fieldLink RX0 15 "PunCourts$Court" "letters" "[C"] ++ wsX00)
def wsX0_nextHeard : List Cond := .code yX0_nextHeard cX0_nextHeard 4 (some .int) :: ([.fieldLink RX0 19 "PunCourts$Court" "lengths" "[I", .methodLink RX0 77 yX0_isHeard, .instanceMethod yX0_isHeard, .selects RX0 yX0_isHeard yX0_isHeard, .initialized RX0, .code yX0_isHeard cX0_isHeard 6 (some .boolean), .methodLink RX0 67 yX0_signAt, .instanceMethod yX0_signAt, .selects RX0 yX0_signAt yX0_signAt, .code yX0_signAt cX0_signAt 4 (some .int), .fieldLink RX0 15 "PunCourts$Court" "letters" "[C"] ++ wsX00)
def wsX0_alikeByLetters : List Cond := .code yX0_alikeByLetters cX0_alikeByLetters 6 (some .boolean) :: ([.fieldLink RX0 19 "PunCourts$Court" "lengths" "[I", .methodLink RX0 74 yX0_nextHeard, .instanceMethod yX0_nextHeard, .selects RX0 yX0_nextHeard yX0_nextHeard, .initialized RX0, .code yX0_nextHeard cX0_nextHeard 4 (some .int), .methodLink RX0 77 yX0_isHeard, .instanceMethod yX0_isHeard, .selects RX0 yX0_isHeard yX0_isHeard, .code yX0_isHeard cX0_isHeard 6 (some .boolean), .methodLink RX0 67 yX0_signAt, .instanceMethod yX0_signAt, .selects RX0 yX0_signAt yX0_signAt, .code yX0_signAt cX0_signAt 4 (some .int), .fieldLink RX0 15 "PunCourts$Court" "letters" "[C"] ++ wsX00)
def wsX0_bearers : List Cond := .code yX0_bearers cX0_bearers 4 (some .int) :: ([.fieldLink RX0 35 "PunCourts$Court" "borne" "[I"] ++ wsX00)
def wsX0_bearerSet : List Cond := .code yX0_bearerSet cX0_bearerSet 4 (some .int) :: ([.fieldLink RX0 35 "PunCourts$Court" "borne" "[I"] ++ wsX00)
def wsX0_whereIs : List Cond := .code yX0_whereIs cX0_whereIs 2 (some .int) :: ([.fieldLink RX0 28 "PunCourts$Court" "withdrawn" "[Z", .methodLink RX0 81 yX0_bearers, .instanceMethod yX0_bearers, .selects RX0 yX0_bearers yX0_bearers, .initialized RX0, .code yX0_bearers cX0_bearers 4 (some .int), .fieldLink RX0 35 "PunCourts$Court" "borne" "[I"] ++ wsX00)
def wsX0_waits : List Cond := .code yX0_waits cX0_waits 2 (some .boolean) :: ([.methodLink RX0 84 yX0_whereIs, .instanceMethod yX0_whereIs, .selects RX0 yX0_whereIs yX0_whereIs, .initialized RX0, .code yX0_whereIs cX0_whereIs 2 (some .int), .fieldLink RX0 28 "PunCourts$Court" "withdrawn" "[Z", .methodLink RX0 81 yX0_bearers, .instanceMethod yX0_bearers, .selects RX0 yX0_bearers yX0_bearers, .code yX0_bearers cX0_bearers 4 (some .int), .fieldLink RX0 35 "PunCourts$Court" "borne" "[I"] ++ wsX00)
def wsX0_placeInQueue : List Cond := .code yX0_placeInQueue cX0_placeInQueue 5 (some .int) :: ([.fieldLink RX0 53 "PunCourts$Court" "names" "I", .fieldLink RX0 25 "PunCourts$Court" "honours" "[I", .methodLink RX0 87 yX0_waits, .instanceMethod yX0_waits, .selects RX0 yX0_waits yX0_waits, .initialized RX0, .code yX0_waits cX0_waits 2 (some .boolean), .methodLink RX0 84 yX0_whereIs, .instanceMethod yX0_whereIs, .selects RX0 yX0_whereIs yX0_whereIs, .code yX0_whereIs cX0_whereIs 2 (some .int), .fieldLink RX0 28 "PunCourts$Court" "withdrawn" "[Z", .methodLink RX0 81 yX0_bearers, .instanceMethod yX0_bearers, .selects RX0 yX0_bearers yX0_bearers, .code yX0_bearers cX0_bearers 4 (some .int), .fieldLink RX0 35 "PunCourts$Court" "borne" "[I"] ++ wsX00)
def wsX0_waitingNames : List Cond := .code yX0_waitingNames cX0_waitingNames 3 (some .int) :: ([.fieldLink RX0 53 "PunCourts$Court" "names" "I", .methodLink RX0 87 yX0_waits, .instanceMethod yX0_waits, .selects RX0 yX0_waits yX0_waits, .initialized RX0, .code yX0_waits cX0_waits 2 (some .boolean), .methodLink RX0 84 yX0_whereIs, .instanceMethod yX0_whereIs, .selects RX0 yX0_whereIs yX0_whereIs, .code yX0_whereIs cX0_whereIs 2 (some .int), .fieldLink RX0 28 "PunCourts$Court" "withdrawn" "[Z", .methodLink RX0 81 yX0_bearers, .instanceMethod yX0_bearers, .selects RX0 yX0_bearers yX0_bearers, .code yX0_bearers cX0_bearers 4 (some .int), .fieldLink RX0 35 "PunCourts$Court" "borne" "[I"] ++ wsX00)
def wsX0_bearingCorners : List Cond := .code yX0_bearingCorners cX0_bearingCorners 1 (some .int) :: ([.methodLink RX0 81 yX0_bearers, .instanceMethod yX0_bearers, .selects RX0 yX0_bearers yX0_bearers, .initialized RX0, .code yX0_bearers cX0_bearers 4 (some .int), .fieldLink RX0 35 "PunCourts$Court" "borne" "[I"] ++ wsX00)
def wsX0_isPun : List Cond := .code yX0_isPun cX0_isPun 3 (some .boolean) :: ([.fieldLink RX0 22 "PunCourts$Court" "sounds" "[I", .methodLink RX0 94 yX0_hasName, .instanceMethod yX0_hasName, .selects RX0 yX0_hasName yX0_hasName, .initialized RX0, .code yX0_hasName cX0_hasName 2 (some .boolean), .fieldLink RX0 53 "PunCourts$Court" "names" "I"] ++ wsX00)
def wsX0_punPairs : List Cond := .code yX0_punPairs cX0_punPairs 4 (some .int) :: ([.fieldLink RX0 35 "PunCourts$Court" "borne" "[I", .methodLink RX0 91 yX0_isPun, .instanceMethod yX0_isPun, .selects RX0 yX0_isPun yX0_isPun, .initialized RX0, .code yX0_isPun cX0_isPun 3 (some .boolean), .fieldLink RX0 22 "PunCourts$Court" "sounds" "[I", .methodLink RX0 94 yX0_hasName, .instanceMethod yX0_hasName, .selects RX0 yX0_hasName yX0_hasName, .code yX0_hasName cX0_hasName 2 (some .boolean), .fieldLink RX0 53 "PunCourts$Court" "names" "I"] ++ wsX00)
def wsX0_around : List Cond := .code yX0_around cX0_around 6 (some .int) :: ([.fieldLink RX0 9 "PunCourts$Court" "settings" "[I", .methodLink RX0 110 Lib.Math.max.name, .static Lib.Math.max.name, .initialized "java/lang/Math", .code Lib.Math.max.name Lib.Math.max.code 2 (some .int), .methodLink RX0 115 Lib.Math.min.name, .static Lib.Math.min.name, .code Lib.Math.min.name Lib.Math.min.code 2 (some .int)] ++ wsX00)
def wsX0_nearPuns : List Cond := .code yX0_nearPuns cX0_nearPuns 4 (some .int) :: ([.fieldLink RX0 35 "PunCourts$Court" "borne" "[I", .methodLink RX0 91 yX0_isPun, .instanceMethod yX0_isPun, .selects RX0 yX0_isPun yX0_isPun, .initialized RX0, .code yX0_isPun cX0_isPun 3 (some .boolean), .fieldLink RX0 22 "PunCourts$Court" "sounds" "[I", .methodLink RX0 94 yX0_hasName, .instanceMethod yX0_hasName, .selects RX0 yX0_hasName yX0_hasName, .code yX0_hasName cX0_hasName 2 (some .boolean), .fieldLink RX0 53 "PunCourts$Court" "names" "I", .methodLink RX0 107 yX0_around, .instanceMethod yX0_around, .selects RX0 yX0_around yX0_around, .code yX0_around cX0_around 6 (some .int), .fieldLink RX0 9 "PunCourts$Court" "settings" "[I", .methodLink RX0 110 Lib.Math.max.name, .static Lib.Math.max.name, .initialized "java/lang/Math", .code Lib.Math.max.name Lib.Math.max.code 2 (some .int), .methodLink RX0 115 Lib.Math.min.name, .static Lib.Math.min.name, .code Lib.Math.min.name Lib.Math.min.code 2 (some .int)] ++ wsX00)
def wsX0_reason : List Cond := .code yX0_reason cX0_reason 6 (some .int) :: ([.fieldLink RX0 35 "PunCourts$Court" "borne" "[I", .fieldLink RX0 28 "PunCourts$Court" "withdrawn" "[Z", .fieldLink RX0 9 "PunCourts$Court" "settings" "[I", .fieldLink RX0 25 "PunCourts$Court" "honours" "[I", .fieldLink RX0 104 "PunCourts$Court" "days" "I", .fieldLink RX0 44 "PunCourts$Court" "gotDay" "[I", .methodLink RX0 94 yX0_hasName, .instanceMethod yX0_hasName, .selects RX0 yX0_hasName yX0_hasName, .initialized RX0, .code yX0_hasName cX0_hasName 2 (some .boolean), .fieldLink RX0 53 "PunCourts$Court" "names" "I"] ++ wsX00)
def wsX0_refusal_r1 : List Cond := [Cond.methodLink RX0 81 yX0_bearers, Cond.instanceMethod yX0_bearers, Cond.selects RX0 yX0_bearers yX0_bearers, Cond.initialized RX0, Cond.code yX0_bearers cX0_bearers 4 (some .int), Cond.fieldLink RX0 35 "PunCourts$Court" "borne" "[I", Cond.methodLink RX0 97 yX0_nearPuns, Cond.instanceMethod yX0_nearPuns, Cond.selects RX0 yX0_nearPuns yX0_nearPuns, Cond.code yX0_nearPuns cX0_nearPuns 4 (some .int), Cond.methodLink RX0 91 yX0_isPun, Cond.instanceMethod yX0_isPun, Cond.selects RX0 yX0_isPun yX0_isPun, Cond.code yX0_isPun cX0_isPun 3 (some .boolean), Cond.fieldLink RX0 22 "PunCourts$Court" "sounds" "[I", Cond.methodLink RX0 94 yX0_hasName, Cond.instanceMethod yX0_hasName, Cond.selects RX0 yX0_hasName yX0_hasName, Cond.code yX0_hasName cX0_hasName 2 (some .boolean), Cond.fieldLink RX0 53 "PunCourts$Court" "names" "I", Cond.methodLink RX0 107 yX0_around, Cond.instanceMethod yX0_around, Cond.selects RX0 yX0_around yX0_around, Cond.code yX0_around cX0_around 6 (some .int)]
def wsX0_refusal_r2 : List Cond := [Cond.fieldLink RX0 9 "PunCourts$Court" "settings" "[I", Cond.methodLink RX0 110 Lib.Math.max.name, Cond.static Lib.Math.max.name, Cond.initialized "java/lang/Math", Cond.code Lib.Math.max.name Lib.Math.max.code 2 (some .int), Cond.methodLink RX0 115 Lib.Math.min.name, Cond.static Lib.Math.min.name, Cond.code Lib.Math.min.name Lib.Math.min.code 2 (some .int), Cond.methodLink RX0 100 yX0_reason, Cond.instanceMethod yX0_reason, Cond.selects RX0 yX0_reason yX0_reason, Cond.code yX0_reason cX0_reason 6 (some .int), Cond.fieldLink RX0 28 "PunCourts$Court" "withdrawn" "[Z", Cond.fieldLink RX0 25 "PunCourts$Court" "honours" "[I", Cond.fieldLink RX0 104 "PunCourts$Court" "days" "I", Cond.fieldLink RX0 44 "PunCourts$Court" "gotDay" "[I"]
def wsX0_refusal : List Cond := .code yX0_refusal cX0_refusal 3 (some .int) :: ((wsX0_refusal_r1 ++ wsX0_refusal_r2) ++ wsX00)
def wsX0_lowestFree_r1 : List Cond := [Cond.methodLink RX0 81 yX0_bearers, Cond.instanceMethod yX0_bearers, Cond.selects RX0 yX0_bearers yX0_bearers, Cond.initialized RX0, Cond.code yX0_bearers cX0_bearers 4 (some .int), Cond.fieldLink RX0 35 "PunCourts$Court" "borne" "[I", Cond.methodLink RX0 97 yX0_nearPuns, Cond.instanceMethod yX0_nearPuns, Cond.selects RX0 yX0_nearPuns yX0_nearPuns, Cond.code yX0_nearPuns cX0_nearPuns 4 (some .int), Cond.methodLink RX0 91 yX0_isPun, Cond.instanceMethod yX0_isPun, Cond.selects RX0 yX0_isPun yX0_isPun, Cond.code yX0_isPun cX0_isPun 3 (some .boolean), Cond.fieldLink RX0 22 "PunCourts$Court" "sounds" "[I", Cond.methodLink RX0 94 yX0_hasName, Cond.instanceMethod yX0_hasName, Cond.selects RX0 yX0_hasName yX0_hasName, Cond.code yX0_hasName cX0_hasName 2 (some .boolean), Cond.fieldLink RX0 53 "PunCourts$Court" "names" "I", Cond.methodLink RX0 107 yX0_around, Cond.instanceMethod yX0_around, Cond.selects RX0 yX0_around yX0_around, Cond.code yX0_around cX0_around 6 (some .int)]
def wsX0_lowestFree_r2 : List Cond := [Cond.fieldLink RX0 9 "PunCourts$Court" "settings" "[I", Cond.methodLink RX0 110 Lib.Math.max.name, Cond.static Lib.Math.max.name, Cond.initialized "java/lang/Math", Cond.code Lib.Math.max.name Lib.Math.max.code 2 (some .int), Cond.methodLink RX0 115 Lib.Math.min.name, Cond.static Lib.Math.min.name, Cond.code Lib.Math.min.name Lib.Math.min.code 2 (some .int), Cond.methodLink RX0 100 yX0_reason, Cond.instanceMethod yX0_reason, Cond.selects RX0 yX0_reason yX0_reason, Cond.code yX0_reason cX0_reason 6 (some .int), Cond.fieldLink RX0 28 "PunCourts$Court" "withdrawn" "[Z", Cond.fieldLink RX0 25 "PunCourts$Court" "honours" "[I", Cond.fieldLink RX0 104 "PunCourts$Court" "days" "I", Cond.fieldLink RX0 44 "PunCourts$Court" "gotDay" "[I"]
def wsX0_lowestFree : List Cond := .code yX0_lowestFree cX0_lowestFree 5 (some .int) :: ((wsX0_lowestFree_r1 ++ wsX0_lowestFree_r2) ++ wsX00)
def wsX0_place : List Cond := .code yX0_place cX0_place 3 none :: ([.fieldLink RX0 35 "PunCourts$Court" "borne" "[I", .fieldLink RX0 44 "PunCourts$Court" "gotDay" "[I", .fieldLink RX0 104 "PunCourts$Court" "days" "I", .fieldLink RX0 47 "PunCourts$Court" "cornerGiven" "[I", .fieldLink RX0 32 "PunCourts$Court" "nameGiven" "[I", .fieldLink RX0 38 "PunCourts$Court" "owed" "[I"] ++ wsX00)
def wsX0_bare : List Cond := .code yX0_bare cX0_bare 2 none :: ([.fieldLink RX0 35 "PunCourts$Court" "borne" "[I"] ++ wsX00)
def wsX0_drop : List Cond := .code yX0_drop cX0_drop 4 (some .int) :: ([.fieldLink RX0 28 "PunCourts$Court" "withdrawn" "[Z", .fieldLink RX0 35 "PunCourts$Court" "borne" "[I", .methodLink RX0 81 yX0_bearers, .instanceMethod yX0_bearers, .selects RX0 yX0_bearers yX0_bearers, .initialized RX0, .code yX0_bearers cX0_bearers 4 (some .int), .methodLink RX0 118 yX0_bare, .instanceMethod yX0_bare, .selects RX0 yX0_bare yX0_bare, .code yX0_bare cX0_bare 2 none] ++ wsX00)
def wsX0_giveFromQueue_r1 : List Cond := [Cond.fieldLink RX0 53 "PunCourts$Court" "names" "I", Cond.fieldLink RX0 25 "PunCourts$Court" "honours" "[I", Cond.methodLink RX0 87 yX0_waits, Cond.instanceMethod yX0_waits, Cond.selects RX0 yX0_waits yX0_waits, Cond.initialized RX0, Cond.code yX0_waits cX0_waits 2 (some .boolean), Cond.methodLink RX0 84 yX0_whereIs, Cond.instanceMethod yX0_whereIs, Cond.selects RX0 yX0_whereIs yX0_whereIs, Cond.code yX0_whereIs cX0_whereIs 2 (some .int), Cond.fieldLink RX0 28 "PunCourts$Court" "withdrawn" "[Z", Cond.methodLink RX0 81 yX0_bearers, Cond.instanceMethod yX0_bearers, Cond.selects RX0 yX0_bearers yX0_bearers, Cond.code yX0_bearers cX0_bearers 4 (some .int), Cond.fieldLink RX0 35 "PunCourts$Court" "borne" "[I", Cond.methodLink RX0 129 yX0_lowestFree, Cond.instanceMethod yX0_lowestFree, Cond.selects RX0 yX0_lowestFree yX0_lowestFree, Cond.code yX0_lowestFree cX0_lowestFree 5 (some .int), Cond.methodLink RX0 97 yX0_nearPuns, Cond.instanceMethod yX0_nearPuns, Cond.selects RX0 yX0_nearPuns yX0_nearPuns]
def wsX0_giveFromQueue_r2 : List Cond := [Cond.code yX0_nearPuns cX0_nearPuns 4 (some .int), Cond.methodLink RX0 91 yX0_isPun, Cond.instanceMethod yX0_isPun, Cond.selects RX0 yX0_isPun yX0_isPun, Cond.code yX0_isPun cX0_isPun 3 (some .boolean), Cond.fieldLink RX0 22 "PunCourts$Court" "sounds" "[I", Cond.methodLink RX0 94 yX0_hasName, Cond.instanceMethod yX0_hasName, Cond.selects RX0 yX0_hasName yX0_hasName, Cond.code yX0_hasName cX0_hasName 2 (some .boolean), Cond.methodLink RX0 107 yX0_around, Cond.instanceMethod yX0_around, Cond.selects RX0 yX0_around yX0_around, Cond.code yX0_around cX0_around 6 (some .int), Cond.fieldLink RX0 9 "PunCourts$Court" "settings" "[I", Cond.methodLink RX0 110 Lib.Math.max.name, Cond.static Lib.Math.max.name, Cond.initialized "java/lang/Math", Cond.code Lib.Math.max.name Lib.Math.max.code 2 (some .int), Cond.methodLink RX0 115 Lib.Math.min.name, Cond.static Lib.Math.min.name, Cond.code Lib.Math.min.name Lib.Math.min.code 2 (some .int), Cond.methodLink RX0 100 yX0_reason, Cond.instanceMethod yX0_reason]
def wsX0_giveFromQueue_r3 : List Cond := [Cond.selects RX0 yX0_reason yX0_reason, Cond.code yX0_reason cX0_reason 6 (some .int), Cond.fieldLink RX0 104 "PunCourts$Court" "days" "I", Cond.fieldLink RX0 44 "PunCourts$Court" "gotDay" "[I", Cond.methodLink RX0 132 yX0_place, Cond.instanceMethod yX0_place, Cond.selects RX0 yX0_place yX0_place, Cond.code yX0_place cX0_place 3 none, Cond.fieldLink RX0 47 "PunCourts$Court" "cornerGiven" "[I", Cond.fieldLink RX0 32 "PunCourts$Court" "nameGiven" "[I", Cond.fieldLink RX0 38 "PunCourts$Court" "owed" "[I"]
def wsX0_giveFromQueue : List Cond := .code yX0_giveFromQueue cX0_giveFromQueue 4 (some .boolean) :: ((wsX0_giveFromQueue_r1 ++ (wsX0_giveFromQueue_r2 ++ wsX0_giveFromQueue_r3)) ++ wsX00)
def wsX0_mostOwing : List Cond := .code yX0_mostOwing cX0_mostOwing 3 (some .int) :: ([.fieldLink RX0 38 "PunCourts$Court" "owed" "[I"] ++ wsX00)
def wsX0_setUpPosts : List Cond := .code yX0_setUpPosts cX0_setUpPosts 3 none :: ([.fieldLink RX0 9 "PunCourts$Court" "settings" "[I", .fieldLink RX0 38 "PunCourts$Court" "owed" "[I", .fieldLink RX0 41 "PunCourts$Court" "posted" "[I", .methodLink RX0 136 yX0_mostOwing, .instanceMethod yX0_mostOwing, .selects RX0 yX0_mostOwing yX0_mostOwing, .initialized RX0, .code yX0_mostOwing cX0_mostOwing 3 (some .int)] ++ wsX00)
def wsX0_live_r1 : List Cond := [Cond.fieldLink RX0 104 "PunCourts$Court" "days" "I", Cond.methodLink RX0 122 yX0_giveFromQueue, Cond.instanceMethod yX0_giveFromQueue, Cond.selects RX0 yX0_giveFromQueue yX0_giveFromQueue, Cond.initialized RX0, Cond.code yX0_giveFromQueue cX0_giveFromQueue 4 (some .boolean), Cond.fieldLink RX0 53 "PunCourts$Court" "names" "I", Cond.fieldLink RX0 25 "PunCourts$Court" "honours" "[I", Cond.methodLink RX0 87 yX0_waits, Cond.instanceMethod yX0_waits, Cond.selects RX0 yX0_waits yX0_waits, Cond.code yX0_waits cX0_waits 2 (some .boolean), Cond.methodLink RX0 84 yX0_whereIs, Cond.instanceMethod yX0_whereIs, Cond.selects RX0 yX0_whereIs yX0_whereIs, Cond.code yX0_whereIs cX0_whereIs 2 (some .int), Cond.fieldLink RX0 28 "PunCourts$Court" "withdrawn" "[Z", Cond.methodLink RX0 81 yX0_bearers, Cond.instanceMethod yX0_bearers, Cond.selects RX0 yX0_bearers yX0_bearers, Cond.code yX0_bearers cX0_bearers 4 (some .int), Cond.fieldLink RX0 35 "PunCourts$Court" "borne" "[I", Cond.methodLink RX0 129 yX0_lowestFree, Cond.instanceMethod yX0_lowestFree]
def wsX0_live_r2 : List Cond := [Cond.selects RX0 yX0_lowestFree yX0_lowestFree, Cond.code yX0_lowestFree cX0_lowestFree 5 (some .int), Cond.methodLink RX0 97 yX0_nearPuns, Cond.instanceMethod yX0_nearPuns, Cond.selects RX0 yX0_nearPuns yX0_nearPuns, Cond.code yX0_nearPuns cX0_nearPuns 4 (some .int), Cond.methodLink RX0 91 yX0_isPun, Cond.instanceMethod yX0_isPun, Cond.selects RX0 yX0_isPun yX0_isPun, Cond.code yX0_isPun cX0_isPun 3 (some .boolean), Cond.fieldLink RX0 22 "PunCourts$Court" "sounds" "[I", Cond.methodLink RX0 94 yX0_hasName, Cond.instanceMethod yX0_hasName, Cond.selects RX0 yX0_hasName yX0_hasName, Cond.code yX0_hasName cX0_hasName 2 (some .boolean), Cond.methodLink RX0 107 yX0_around, Cond.instanceMethod yX0_around, Cond.selects RX0 yX0_around yX0_around, Cond.code yX0_around cX0_around 6 (some .int), Cond.fieldLink RX0 9 "PunCourts$Court" "settings" "[I", Cond.methodLink RX0 110 Lib.Math.max.name, Cond.static Lib.Math.max.name, Cond.initialized "java/lang/Math", Cond.code Lib.Math.max.name Lib.Math.max.code 2 (some .int)]
def wsX0_live_r3 : List Cond := [Cond.methodLink RX0 115 Lib.Math.min.name, Cond.static Lib.Math.min.name, Cond.code Lib.Math.min.name Lib.Math.min.code 2 (some .int), Cond.methodLink RX0 100 yX0_reason, Cond.instanceMethod yX0_reason, Cond.selects RX0 yX0_reason yX0_reason, Cond.code yX0_reason cX0_reason 6 (some .int), Cond.fieldLink RX0 44 "PunCourts$Court" "gotDay" "[I", Cond.methodLink RX0 132 yX0_place, Cond.instanceMethod yX0_place, Cond.selects RX0 yX0_place yX0_place, Cond.code yX0_place cX0_place 3 none, Cond.fieldLink RX0 47 "PunCourts$Court" "cornerGiven" "[I", Cond.fieldLink RX0 32 "PunCourts$Court" "nameGiven" "[I", Cond.fieldLink RX0 38 "PunCourts$Court" "owed" "[I", Cond.methodLink RX0 126 yX0_setUpPosts, Cond.instanceMethod yX0_setUpPosts, Cond.selects RX0 yX0_setUpPosts yX0_setUpPosts, Cond.code yX0_setUpPosts cX0_setUpPosts 3 none, Cond.fieldLink RX0 41 "PunCourts$Court" "posted" "[I", Cond.methodLink RX0 136 yX0_mostOwing, Cond.instanceMethod yX0_mostOwing, Cond.selects RX0 yX0_mostOwing yX0_mostOwing, Cond.code yX0_mostOwing cX0_mostOwing 3 (some .int)]
def wsX0_live : List Cond := .code yX0_live cX0_live 4 (some .int) :: ((wsX0_live_r1 ++ (wsX0_live_r2 ++ wsX0_live_r3)) ++ wsX00)
def wsX0_wrongOnMap : List Cond := .code yX0_wrongOnMap cX0_wrongOnMap 3 (some .int) :: ([.fieldLink RX0 140 "PunCourts$Court" "mapIssued" "Z", .fieldLink RX0 50 "PunCourts$Court" "shown" "[I", .fieldLink RX0 35 "PunCourts$Court" "borne" "[I"] ++ wsX00)
def wsX1_copyRow : List Cond := .code yX1_copyRow cX1_copyRow 2 none :: ([.methodLink RX1 202 Lib.Math.min.name, .static Lib.Math.min.name, .initialized "java/lang/Math", .code Lib.Math.min.name Lib.Math.min.code 2 (some .int), .methodLink RX1 207 arraycopyName, .native arraycopyName, .static arraycopyName, .initialized "java/lang/System"])
def wsX0_drawMap : List Cond := .code yX0_drawMap cX0_drawMap 1 none :: ([.fieldLink RX0 140 "PunCourts$Court" "mapIssued" "Z", .fieldLink RX0 35 "PunCourts$Court" "borne" "[I", .fieldLink RX0 50 "PunCourts$Court" "shown" "[I", .static yX1_copyRow, .initialized RX1, .code yX1_copyRow cX1_copyRow 2 none, .methodLink RX1 202 Lib.Math.min.name, .static Lib.Math.min.name, .initialized "java/lang/Math", .code Lib.Math.min.name Lib.Math.min.code 2 (some .int), .methodLink RX1 207 arraycopyName, .native arraycopyName, .static arraycopyName, .initialized "java/lang/System"] ++ wsX00)
def wsX1_init_r1 : List Cond := [Cond.methodLink RX1 1 objectInit, Cond.instanceMethod objectInit, Cond.code objectInit ⟨#[0xb1]⟩ 1 none, Cond.classLink RX1 7 RX0, Cond.instantiable RX0 16, Cond.initialized RX0, Cond.fieldLink RX1 10 "PunCourts" "now" "LPunCourts$Court;", Cond.fieldLink RX1 16 "PunCourts" "trial" "LPunCourts$Court;", Cond.fieldLink RX1 19 "PunCourts" "past" "[LPunCourts$Court;", Cond.fieldLink RX1 23 "PunCourts" "slots" "[LPunCourts$Court;", Cond.arrayClass .boolean, Cond.fieldLink RX1 26 "PunCourts" "slotUsed" "[Z", Cond.arrayClass .char, Cond.fieldLink RX1 30 "PunCourts" "pad" "[C", Cond.methodLink RX1 9 yX0_init, Cond.instanceMethod yX0_init, Cond.code yX0_init cX0_init 2 none, Cond.methodLink RX0 3 objectInit, Cond.arrayClass .int, Cond.fieldLink RX0 9 "PunCourts$Court" "settings" "[I", Cond.fieldLink RX0 15 "PunCourts$Court" "letters" "[C", Cond.fieldLink RX0 19 "PunCourts$Court" "lengths" "[I", Cond.fieldLink RX0 22 "PunCourts$Court" "sounds" "[I", Cond.fieldLink RX0 25 "PunCourts$Court" "honours" "[I"]
def wsX1_init_r2 : List Cond := [Cond.fieldLink RX0 28 "PunCourts$Court" "withdrawn" "[Z", Cond.fieldLink RX0 32 "PunCourts$Court" "nameGiven" "[I", Cond.fieldLink RX0 35 "PunCourts$Court" "borne" "[I", Cond.fieldLink RX0 38 "PunCourts$Court" "owed" "[I", Cond.fieldLink RX0 41 "PunCourts$Court" "posted" "[I", Cond.fieldLink RX0 44 "PunCourts$Court" "gotDay" "[I", Cond.fieldLink RX0 47 "PunCourts$Court" "cornerGiven" "[I", Cond.fieldLink RX0 50 "PunCourts$Court" "shown" "[I"]
def wsX1_init : List Cond := .code yX1_init cX1_init 2 none :: ((wsX1_init_r1 ++ wsX1_init_r2) ++ wsX00 ++ wsX10)
def wsX1_copy_r1 : List Cond := [Cond.fieldLink RX1 44 "PunCourts$Court" "settings" "[I", Cond.fieldLink RX1 110 "PunCourts$Court" "days" "I", Cond.fieldLink RX1 51 "PunCourts$Court" "names" "I", Cond.fieldLink RX1 199 "PunCourts$Court" "letters" "[C", Cond.methodLink RX1 202 Lib.Math.min.name, Cond.static Lib.Math.min.name, Cond.initialized "java/lang/Math", Cond.code Lib.Math.min.name Lib.Math.min.code 2 (some .int), Cond.methodLink RX1 207 arraycopyName, Cond.native arraycopyName, Cond.static arraycopyName, Cond.initialized "java/lang/System", Cond.fieldLink RX1 128 "PunCourts$Court" "lengths" "[I", Cond.fieldLink RX1 125 "PunCourts$Court" "sounds" "[I", Cond.fieldLink RX1 73 "PunCourts$Court" "honours" "[I", Cond.fieldLink RX1 76 "PunCourts$Court" "withdrawn" "[Z", Cond.fieldLink RX1 131 "PunCourts$Court" "nameGiven" "[I", Cond.fieldLink RX1 97 "PunCourts$Court" "borne" "[I", Cond.fieldLink RX1 94 "PunCourts$Court" "owed" "[I", Cond.fieldLink RX1 138 "PunCourts$Court" "posted" "[I", Cond.fieldLink RX1 141 "PunCourts$Court" "gotDay" "[I", Cond.fieldLink RX1 144 "PunCourts$Court" "cornerGiven" "[I", Cond.fieldLink RX1 147 "PunCourts$Court" "mapIssued" "Z", Cond.fieldLink RX1 151 "PunCourts$Court" "shown" "[I"]
def wsX1_copy_r2 : List Cond := [Cond.methodLink RX1 195 yX1_copyRow, Cond.static yX1_copyRow, Cond.initialized RX1, Cond.code yX1_copyRow cX1_copyRow 2 none]
def wsX1_copy : List Cond := .code yX1_copy cX1_copy 2 none :: ((wsX1_copy_r1 ++ wsX1_copy_r2) ++ wsX00)
def wsX1_record_r1 : List Cond := [Cond.fieldLink RX1 167 "PunCourts" "pastLength" "I", Cond.fieldLink RX1 19 "PunCourts" "past" "[LPunCourts$Court;", Cond.fieldLink RX1 10 "PunCourts" "now" "LPunCourts$Court;", Cond.methodLink RX1 176 yX1_copy, Cond.static yX1_copy, Cond.initialized RX1, Cond.code yX1_copy cX1_copy 2 none, Cond.fieldLink RX1 44 "PunCourts$Court" "settings" "[I", Cond.fieldLink RX1 110 "PunCourts$Court" "days" "I", Cond.fieldLink RX1 51 "PunCourts$Court" "names" "I", Cond.fieldLink RX1 199 "PunCourts$Court" "letters" "[C", Cond.methodLink RX1 202 Lib.Math.min.name, Cond.static Lib.Math.min.name, Cond.initialized "java/lang/Math", Cond.code Lib.Math.min.name Lib.Math.min.code 2 (some .int), Cond.methodLink RX1 207 arraycopyName, Cond.native arraycopyName, Cond.static arraycopyName, Cond.initialized "java/lang/System", Cond.fieldLink RX1 128 "PunCourts$Court" "lengths" "[I", Cond.fieldLink RX1 125 "PunCourts$Court" "sounds" "[I", Cond.fieldLink RX1 73 "PunCourts$Court" "honours" "[I", Cond.fieldLink RX1 76 "PunCourts$Court" "withdrawn" "[Z", Cond.fieldLink RX1 131 "PunCourts$Court" "nameGiven" "[I"]
def wsX1_record_r2 : List Cond := [Cond.fieldLink RX1 97 "PunCourts$Court" "borne" "[I", Cond.fieldLink RX1 94 "PunCourts$Court" "owed" "[I", Cond.fieldLink RX1 138 "PunCourts$Court" "posted" "[I", Cond.fieldLink RX1 141 "PunCourts$Court" "gotDay" "[I", Cond.fieldLink RX1 144 "PunCourts$Court" "cornerGiven" "[I", Cond.fieldLink RX1 147 "PunCourts$Court" "mapIssued" "Z", Cond.fieldLink RX1 151 "PunCourts$Court" "shown" "[I", Cond.methodLink RX1 195 yX1_copyRow, Cond.static yX1_copyRow, Cond.code yX1_copyRow cX1_copyRow 2 none]
def wsX1_record : List Cond := .code yX1_record cX1_record 3 none :: ((wsX1_record_r1 ++ wsX1_record_r2) ++ wsX10 ++ wsX00)
def wsX1_set_r1 : List Cond := [Cond.fieldLink RX1 34 "PunCourts" "LOWEST" "[I", Cond.fieldLink RX1 38 "PunCourts" "HIGHEST" "[I", Cond.fieldLink RX1 10 "PunCourts" "now" "LPunCourts$Court;", Cond.fieldLink RX1 44 "PunCourts$Court" "settings" "[I", Cond.methodLink RX1 41 yX1_record, Cond.instanceMethod yX1_record, Cond.selects RX1 yX1_record yX1_record, Cond.initialized RX1, Cond.code yX1_record cX1_record 3 none, Cond.fieldLink RX1 167 "PunCourts" "pastLength" "I", Cond.fieldLink RX1 19 "PunCourts" "past" "[LPunCourts$Court;", Cond.methodLink RX1 176 yX1_copy, Cond.static yX1_copy, Cond.code yX1_copy cX1_copy 2 none, Cond.fieldLink RX1 110 "PunCourts$Court" "days" "I", Cond.fieldLink RX1 51 "PunCourts$Court" "names" "I", Cond.fieldLink RX1 199 "PunCourts$Court" "letters" "[C", Cond.methodLink RX1 202 Lib.Math.min.name, Cond.static Lib.Math.min.name, Cond.initialized "java/lang/Math", Cond.code Lib.Math.min.name Lib.Math.min.code 2 (some .int), Cond.methodLink RX1 207 arraycopyName, Cond.native arraycopyName, Cond.static arraycopyName]
def wsX1_set_r2 : List Cond := [Cond.initialized "java/lang/System", Cond.fieldLink RX1 128 "PunCourts$Court" "lengths" "[I", Cond.fieldLink RX1 125 "PunCourts$Court" "sounds" "[I", Cond.fieldLink RX1 73 "PunCourts$Court" "honours" "[I", Cond.fieldLink RX1 76 "PunCourts$Court" "withdrawn" "[Z", Cond.fieldLink RX1 131 "PunCourts$Court" "nameGiven" "[I", Cond.fieldLink RX1 97 "PunCourts$Court" "borne" "[I", Cond.fieldLink RX1 94 "PunCourts$Court" "owed" "[I", Cond.fieldLink RX1 138 "PunCourts$Court" "posted" "[I", Cond.fieldLink RX1 141 "PunCourts$Court" "gotDay" "[I", Cond.fieldLink RX1 144 "PunCourts$Court" "cornerGiven" "[I", Cond.fieldLink RX1 147 "PunCourts$Court" "mapIssued" "Z", Cond.fieldLink RX1 151 "PunCourts$Court" "shown" "[I", Cond.methodLink RX1 195 yX1_copyRow, Cond.static yX1_copyRow, Cond.code yX1_copyRow cX1_copyRow 2 none]
def wsX1_set : List Cond := .code yX1_set cX1_set 4 (some .int) :: ((wsX1_set_r1 ++ wsX1_set_r2) ++ wsX10 ++ wsX00)
def wsX1_isLetter : List Cond := .code yX1_isLetter cX1_isLetter 1 (some .boolean) :: ([])
def wsX1_isDigit : List Cond := .code yX1_isDigit cX1_isDigit 1 (some .boolean) :: ([])
def wsX1_padFault : List Cond := .code yX1_padFault cX1_padFault 3 (some .int) :: ([.fieldLink RX1 58 "PunCourts" "padLength" "I", .fieldLink RX1 30 "PunCourts" "pad" "[C", .methodLink RX1 213 yX1_isLetter, .static yX1_isLetter, .initialized RX1, .code yX1_isLetter cX1_isLetter 1 (some .boolean), .methodLink RX1 61 yX1_isDigit, .static yX1_isDigit, .code yX1_isDigit cX1_isDigit 1 (some .boolean)] ++ wsX10)
def wsX1_padNames : List Cond := .code yX1_padNames cX1_padNames 3 (some .int) :: ([.fieldLink RX1 58 "PunCourts" "padLength" "I", .fieldLink RX1 30 "PunCourts" "pad" "[C", .methodLink RX1 61 yX1_isDigit, .static yX1_isDigit, .initialized RX1, .code yX1_isDigit cX1_isDigit 1 (some .boolean)] ++ wsX10)
def wsX1_read_r1 : List Cond := [Cond.fieldLink RX1 10 "PunCourts" "now" "LPunCourts$Court;", Cond.fieldLink RX1 51 "PunCourts$Court" "names" "I", Cond.fieldLink RX1 58 "PunCourts" "padLength" "I", Cond.fieldLink RX1 30 "PunCourts" "pad" "[C", Cond.methodLink RX1 47 yX1_padFault, Cond.instanceMethod yX1_padFault, Cond.selects RX1 yX1_padFault yX1_padFault, Cond.initialized RX1, Cond.code yX1_padFault cX1_padFault 3 (some .int), Cond.methodLink RX1 213 yX1_isLetter, Cond.static yX1_isLetter, Cond.code yX1_isLetter cX1_isLetter 1 (some .boolean), Cond.methodLink RX1 61 yX1_isDigit, Cond.static yX1_isDigit, Cond.code yX1_isDigit cX1_isDigit 1 (some .boolean), Cond.methodLink RX1 55 yX1_padNames, Cond.instanceMethod yX1_padNames, Cond.selects RX1 yX1_padNames yX1_padNames, Cond.code yX1_padNames cX1_padNames 3 (some .int), Cond.methodLink RX1 41 yX1_record, Cond.instanceMethod yX1_record, Cond.selects RX1 yX1_record yX1_record, Cond.code yX1_record cX1_record 3 none, Cond.fieldLink RX1 167 "PunCourts" "pastLength" "I"]
def wsX1_read_r2 : List Cond := [Cond.fieldLink RX1 19 "PunCourts" "past" "[LPunCourts$Court;", Cond.methodLink RX1 176 yX1_copy, Cond.static yX1_copy, Cond.code yX1_copy cX1_copy 2 none, Cond.fieldLink RX1 44 "PunCourts$Court" "settings" "[I", Cond.fieldLink RX1 110 "PunCourts$Court" "days" "I", Cond.fieldLink RX1 199 "PunCourts$Court" "letters" "[C", Cond.methodLink RX1 202 Lib.Math.min.name, Cond.static Lib.Math.min.name, Cond.initialized "java/lang/Math", Cond.code Lib.Math.min.name Lib.Math.min.code 2 (some .int), Cond.methodLink RX1 207 arraycopyName, Cond.native arraycopyName, Cond.static arraycopyName, Cond.initialized "java/lang/System", Cond.fieldLink RX1 128 "PunCourts$Court" "lengths" "[I", Cond.fieldLink RX1 125 "PunCourts$Court" "sounds" "[I", Cond.fieldLink RX1 73 "PunCourts$Court" "honours" "[I", Cond.fieldLink RX1 76 "PunCourts$Court" "withdrawn" "[Z", Cond.fieldLink RX1 131 "PunCourts$Court" "nameGiven" "[I", Cond.fieldLink RX1 97 "PunCourts$Court" "borne" "[I", Cond.fieldLink RX1 94 "PunCourts$Court" "owed" "[I", Cond.fieldLink RX1 138 "PunCourts$Court" "posted" "[I", Cond.fieldLink RX1 141 "PunCourts$Court" "gotDay" "[I"]
def wsX1_read_r3 : List Cond := [Cond.fieldLink RX1 144 "PunCourts$Court" "cornerGiven" "[I", Cond.fieldLink RX1 147 "PunCourts$Court" "mapIssued" "Z", Cond.fieldLink RX1 151 "PunCourts$Court" "shown" "[I", Cond.methodLink RX1 195 yX1_copyRow, Cond.static yX1_copyRow, Cond.code yX1_copyRow cX1_copyRow 2 none, Cond.methodLink RX1 65 yX0_apply, Cond.instanceMethod yX0_apply, Cond.selects RX0 yX0_apply yX0_apply, Cond.initialized RX0, Cond.code yX0_apply cX0_apply 6 none, Cond.fieldLink RX0 53 "PunCourts$Court" "names" "I", Cond.fieldLink RX0 15 "PunCourts$Court" "letters" "[C", Cond.methodLink RX0 57 arraycopyName, Cond.fieldLink RX0 19 "PunCourts$Court" "lengths" "[I", Cond.fieldLink RX0 25 "PunCourts$Court" "honours" "[I", Cond.fieldLink RX0 28 "PunCourts$Court" "withdrawn" "[Z", Cond.fieldLink RX0 32 "PunCourts$Court" "nameGiven" "[I", Cond.fieldLink RX0 22 "PunCourts$Court" "sounds" "[I", Cond.methodLink RX0 63 yX0_soundOf, Cond.instanceMethod yX0_soundOf, Cond.selects RX0 yX0_soundOf yX0_soundOf, Cond.code yX0_soundOf cX0_soundOf 6 (some .int), Cond.methodLink RX0 67 yX0_signAt]
def wsX1_read_r4 : List Cond := [Cond.instanceMethod yX0_signAt, Cond.selects RX0 yX0_signAt yX0_signAt, Cond.code yX0_signAt cX0_signAt 4 (some .int)]
def wsX1_read : List Cond := .code yX1_read cX1_read 3 (some .int) :: ((wsX1_read_r1 ++ (wsX1_read_r2 ++ (wsX1_read_r3 ++ wsX1_read_r4))) ++ wsX10 ++ wsX00)
def wsX1_honour_r1 : List Cond := [Cond.fieldLink RX1 10 "PunCourts" "now" "LPunCourts$Court;", Cond.fieldLink RX1 73 "PunCourts$Court" "honours" "[I", Cond.methodLink RX1 69 yX0_hasName, Cond.instanceMethod yX0_hasName, Cond.selects RX0 yX0_hasName yX0_hasName, Cond.initialized RX0, Cond.code yX0_hasName cX0_hasName 2 (some .boolean), Cond.fieldLink RX0 53 "PunCourts$Court" "names" "I", Cond.methodLink RX1 41 yX1_record, Cond.instanceMethod yX1_record, Cond.selects RX1 yX1_record yX1_record, Cond.initialized RX1, Cond.code yX1_record cX1_record 3 none, Cond.fieldLink RX1 167 "PunCourts" "pastLength" "I", Cond.fieldLink RX1 19 "PunCourts" "past" "[LPunCourts$Court;", Cond.methodLink RX1 176 yX1_copy, Cond.static yX1_copy, Cond.code yX1_copy cX1_copy 2 none, Cond.fieldLink RX1 44 "PunCourts$Court" "settings" "[I", Cond.fieldLink RX1 110 "PunCourts$Court" "days" "I", Cond.fieldLink RX1 51 "PunCourts$Court" "names" "I", Cond.fieldLink RX1 199 "PunCourts$Court" "letters" "[C", Cond.methodLink RX1 202 Lib.Math.min.name, Cond.static Lib.Math.min.name]
def wsX1_honour_r2 : List Cond := [Cond.initialized "java/lang/Math", Cond.code Lib.Math.min.name Lib.Math.min.code 2 (some .int), Cond.methodLink RX1 207 arraycopyName, Cond.native arraycopyName, Cond.static arraycopyName, Cond.initialized "java/lang/System", Cond.fieldLink RX1 128 "PunCourts$Court" "lengths" "[I", Cond.fieldLink RX1 125 "PunCourts$Court" "sounds" "[I", Cond.fieldLink RX1 76 "PunCourts$Court" "withdrawn" "[Z", Cond.fieldLink RX1 131 "PunCourts$Court" "nameGiven" "[I", Cond.fieldLink RX1 97 "PunCourts$Court" "borne" "[I", Cond.fieldLink RX1 94 "PunCourts$Court" "owed" "[I", Cond.fieldLink RX1 138 "PunCourts$Court" "posted" "[I", Cond.fieldLink RX1 141 "PunCourts$Court" "gotDay" "[I", Cond.fieldLink RX1 144 "PunCourts$Court" "cornerGiven" "[I", Cond.fieldLink RX1 147 "PunCourts$Court" "mapIssued" "Z", Cond.fieldLink RX1 151 "PunCourts$Court" "shown" "[I", Cond.methodLink RX1 195 yX1_copyRow, Cond.static yX1_copyRow, Cond.code yX1_copyRow cX1_copyRow 2 none]
def wsX1_honour : List Cond := .code yX1_honour cX1_honour 4 (some .int) :: ((wsX1_honour_r1 ++ wsX1_honour_r2) ++ wsX10 ++ wsX00)
def wsX1_withdraw_r1 : List Cond := [Cond.fieldLink RX1 10 "PunCourts" "now" "LPunCourts$Court;", Cond.fieldLink RX1 76 "PunCourts$Court" "withdrawn" "[Z", Cond.methodLink RX1 69 yX0_hasName, Cond.instanceMethod yX0_hasName, Cond.selects RX0 yX0_hasName yX0_hasName, Cond.initialized RX0, Cond.code yX0_hasName cX0_hasName 2 (some .boolean), Cond.fieldLink RX0 53 "PunCourts$Court" "names" "I", Cond.methodLink RX1 41 yX1_record, Cond.instanceMethod yX1_record, Cond.selects RX1 yX1_record yX1_record, Cond.initialized RX1, Cond.code yX1_record cX1_record 3 none, Cond.fieldLink RX1 167 "PunCourts" "pastLength" "I", Cond.fieldLink RX1 19 "PunCourts" "past" "[LPunCourts$Court;", Cond.methodLink RX1 176 yX1_copy, Cond.static yX1_copy, Cond.code yX1_copy cX1_copy 2 none, Cond.fieldLink RX1 44 "PunCourts$Court" "settings" "[I", Cond.fieldLink RX1 110 "PunCourts$Court" "days" "I", Cond.fieldLink RX1 51 "PunCourts$Court" "names" "I", Cond.fieldLink RX1 199 "PunCourts$Court" "letters" "[C", Cond.methodLink RX1 202 Lib.Math.min.name, Cond.static Lib.Math.min.name]
def wsX1_withdraw_r2 : List Cond := [Cond.initialized "java/lang/Math", Cond.code Lib.Math.min.name Lib.Math.min.code 2 (some .int), Cond.methodLink RX1 207 arraycopyName, Cond.native arraycopyName, Cond.static arraycopyName, Cond.initialized "java/lang/System", Cond.fieldLink RX1 128 "PunCourts$Court" "lengths" "[I", Cond.fieldLink RX1 125 "PunCourts$Court" "sounds" "[I", Cond.fieldLink RX1 73 "PunCourts$Court" "honours" "[I", Cond.fieldLink RX1 131 "PunCourts$Court" "nameGiven" "[I", Cond.fieldLink RX1 97 "PunCourts$Court" "borne" "[I", Cond.fieldLink RX1 94 "PunCourts$Court" "owed" "[I", Cond.fieldLink RX1 138 "PunCourts$Court" "posted" "[I", Cond.fieldLink RX1 141 "PunCourts$Court" "gotDay" "[I", Cond.fieldLink RX1 144 "PunCourts$Court" "cornerGiven" "[I", Cond.fieldLink RX1 147 "PunCourts$Court" "mapIssued" "Z", Cond.fieldLink RX1 151 "PunCourts$Court" "shown" "[I", Cond.methodLink RX1 195 yX1_copyRow, Cond.static yX1_copyRow, Cond.code yX1_copyRow cX1_copyRow 2 none, Cond.methodLink RX1 79 yX0_drop, Cond.instanceMethod yX0_drop, Cond.selects RX0 yX0_drop yX0_drop, Cond.code yX0_drop cX0_drop 4 (some .int)]
def wsX1_withdraw_r3 : List Cond := [Cond.fieldLink RX0 28 "PunCourts$Court" "withdrawn" "[Z", Cond.fieldLink RX0 35 "PunCourts$Court" "borne" "[I", Cond.methodLink RX0 81 yX0_bearers, Cond.instanceMethod yX0_bearers, Cond.selects RX0 yX0_bearers yX0_bearers, Cond.code yX0_bearers cX0_bearers 4 (some .int), Cond.methodLink RX0 118 yX0_bare, Cond.instanceMethod yX0_bare, Cond.selects RX0 yX0_bare yX0_bare, Cond.code yX0_bare cX0_bare 2 none]
def wsX1_withdraw : List Cond := .code yX1_withdraw cX1_withdraw 2 (some .int) :: ((wsX1_withdraw_r1 ++ (wsX1_withdraw_r2 ++ wsX1_withdraw_r3)) ++ wsX10 ++ wsX00)
def wsX1_isCorner : List Cond := .code yX1_isCorner cX1_isCorner 1 (some .boolean) :: ([])
def wsX1_give_r1 : List Cond := [Cond.fieldLink RX1 10 "PunCourts" "now" "LPunCourts$Court;", Cond.fieldLink RX1 94 "PunCourts$Court" "owed" "[I", Cond.methodLink RX1 69 yX0_hasName, Cond.instanceMethod yX0_hasName, Cond.selects RX0 yX0_hasName yX0_hasName, Cond.initialized RX0, Cond.code yX0_hasName cX0_hasName 2 (some .boolean), Cond.fieldLink RX0 53 "PunCourts$Court" "names" "I", Cond.methodLink RX1 83 yX1_isCorner, Cond.static yX1_isCorner, Cond.initialized RX1, Cond.code yX1_isCorner cX1_isCorner 1 (some .boolean), Cond.methodLink RX1 86 yX0_refusal, Cond.instanceMethod yX0_refusal, Cond.selects RX0 yX0_refusal yX0_refusal, Cond.code yX0_refusal cX0_refusal 3 (some .int), Cond.methodLink RX0 81 yX0_bearers, Cond.instanceMethod yX0_bearers, Cond.selects RX0 yX0_bearers yX0_bearers, Cond.code yX0_bearers cX0_bearers 4 (some .int), Cond.fieldLink RX0 35 "PunCourts$Court" "borne" "[I", Cond.methodLink RX0 97 yX0_nearPuns, Cond.instanceMethod yX0_nearPuns, Cond.selects RX0 yX0_nearPuns yX0_nearPuns]
def wsX1_give_r2 : List Cond := [Cond.code yX0_nearPuns cX0_nearPuns 4 (some .int), Cond.methodLink RX0 91 yX0_isPun, Cond.instanceMethod yX0_isPun, Cond.selects RX0 yX0_isPun yX0_isPun, Cond.code yX0_isPun cX0_isPun 3 (some .boolean), Cond.fieldLink RX0 22 "PunCourts$Court" "sounds" "[I", Cond.methodLink RX0 94 yX0_hasName, Cond.methodLink RX0 107 yX0_around, Cond.instanceMethod yX0_around, Cond.selects RX0 yX0_around yX0_around, Cond.code yX0_around cX0_around 6 (some .int), Cond.fieldLink RX0 9 "PunCourts$Court" "settings" "[I", Cond.methodLink RX0 110 Lib.Math.max.name, Cond.static Lib.Math.max.name, Cond.initialized "java/lang/Math", Cond.code Lib.Math.max.name Lib.Math.max.code 2 (some .int), Cond.methodLink RX0 115 Lib.Math.min.name, Cond.static Lib.Math.min.name, Cond.code Lib.Math.min.name Lib.Math.min.code 2 (some .int), Cond.methodLink RX0 100 yX0_reason, Cond.instanceMethod yX0_reason, Cond.selects RX0 yX0_reason yX0_reason, Cond.code yX0_reason cX0_reason 6 (some .int), Cond.fieldLink RX0 28 "PunCourts$Court" "withdrawn" "[Z"]
def wsX1_give_r3 : List Cond := [Cond.fieldLink RX0 25 "PunCourts$Court" "honours" "[I", Cond.fieldLink RX0 104 "PunCourts$Court" "days" "I", Cond.fieldLink RX0 44 "PunCourts$Court" "gotDay" "[I", Cond.methodLink RX1 41 yX1_record, Cond.instanceMethod yX1_record, Cond.selects RX1 yX1_record yX1_record, Cond.code yX1_record cX1_record 3 none, Cond.fieldLink RX1 167 "PunCourts" "pastLength" "I", Cond.fieldLink RX1 19 "PunCourts" "past" "[LPunCourts$Court;", Cond.methodLink RX1 176 yX1_copy, Cond.static yX1_copy, Cond.code yX1_copy cX1_copy 2 none, Cond.fieldLink RX1 44 "PunCourts$Court" "settings" "[I", Cond.fieldLink RX1 110 "PunCourts$Court" "days" "I", Cond.fieldLink RX1 51 "PunCourts$Court" "names" "I", Cond.fieldLink RX1 199 "PunCourts$Court" "letters" "[C", Cond.methodLink RX1 202 Lib.Math.min.name, Cond.methodLink RX1 207 arraycopyName, Cond.native arraycopyName, Cond.static arraycopyName, Cond.initialized "java/lang/System", Cond.fieldLink RX1 128 "PunCourts$Court" "lengths" "[I", Cond.fieldLink RX1 125 "PunCourts$Court" "sounds" "[I", Cond.fieldLink RX1 73 "PunCourts$Court" "honours" "[I"]
def wsX1_give_r4 : List Cond := [Cond.fieldLink RX1 76 "PunCourts$Court" "withdrawn" "[Z", Cond.fieldLink RX1 131 "PunCourts$Court" "nameGiven" "[I", Cond.fieldLink RX1 97 "PunCourts$Court" "borne" "[I", Cond.fieldLink RX1 138 "PunCourts$Court" "posted" "[I", Cond.fieldLink RX1 141 "PunCourts$Court" "gotDay" "[I", Cond.fieldLink RX1 144 "PunCourts$Court" "cornerGiven" "[I", Cond.fieldLink RX1 147 "PunCourts$Court" "mapIssued" "Z", Cond.fieldLink RX1 151 "PunCourts$Court" "shown" "[I", Cond.methodLink RX1 195 yX1_copyRow, Cond.static yX1_copyRow, Cond.code yX1_copyRow cX1_copyRow 2 none, Cond.methodLink RX1 90 yX0_place, Cond.instanceMethod yX0_place, Cond.selects RX0 yX0_place yX0_place, Cond.code yX0_place cX0_place 3 none, Cond.fieldLink RX0 47 "PunCourts$Court" "cornerGiven" "[I", Cond.fieldLink RX0 32 "PunCourts$Court" "nameGiven" "[I", Cond.fieldLink RX0 38 "PunCourts$Court" "owed" "[I"]
def wsX1_give : List Cond := .code yX1_give cX1_give 3 (some .int) :: ((wsX1_give_r1 ++ (wsX1_give_r2 ++ (wsX1_give_r3 ++ wsX1_give_r4))) ++ wsX10 ++ wsX00)
def wsX1_strip_r1 : List Cond := [Cond.fieldLink RX1 10 "PunCourts" "now" "LPunCourts$Court;", Cond.fieldLink RX1 97 "PunCourts$Court" "borne" "[I", Cond.fieldLink RX1 94 "PunCourts$Court" "owed" "[I", Cond.methodLink RX1 83 yX1_isCorner, Cond.static yX1_isCorner, Cond.initialized RX1, Cond.code yX1_isCorner cX1_isCorner 1 (some .boolean), Cond.methodLink RX1 41 yX1_record, Cond.instanceMethod yX1_record, Cond.selects RX1 yX1_record yX1_record, Cond.code yX1_record cX1_record 3 none, Cond.fieldLink RX1 167 "PunCourts" "pastLength" "I", Cond.fieldLink RX1 19 "PunCourts" "past" "[LPunCourts$Court;", Cond.methodLink RX1 176 yX1_copy, Cond.static yX1_copy, Cond.code yX1_copy cX1_copy 2 none, Cond.fieldLink RX1 44 "PunCourts$Court" "settings" "[I", Cond.fieldLink RX1 110 "PunCourts$Court" "days" "I", Cond.fieldLink RX1 51 "PunCourts$Court" "names" "I", Cond.fieldLink RX1 199 "PunCourts$Court" "letters" "[C", Cond.methodLink RX1 202 Lib.Math.min.name, Cond.static Lib.Math.min.name, Cond.initialized "java/lang/Math", Cond.code Lib.Math.min.name Lib.Math.min.code 2 (some .int)]
def wsX1_strip_r2 : List Cond := [Cond.methodLink RX1 207 arraycopyName, Cond.native arraycopyName, Cond.static arraycopyName, Cond.initialized "java/lang/System", Cond.fieldLink RX1 128 "PunCourts$Court" "lengths" "[I", Cond.fieldLink RX1 125 "PunCourts$Court" "sounds" "[I", Cond.fieldLink RX1 73 "PunCourts$Court" "honours" "[I", Cond.fieldLink RX1 76 "PunCourts$Court" "withdrawn" "[Z", Cond.fieldLink RX1 131 "PunCourts$Court" "nameGiven" "[I", Cond.fieldLink RX1 138 "PunCourts$Court" "posted" "[I", Cond.fieldLink RX1 141 "PunCourts$Court" "gotDay" "[I", Cond.fieldLink RX1 144 "PunCourts$Court" "cornerGiven" "[I", Cond.fieldLink RX1 147 "PunCourts$Court" "mapIssued" "Z", Cond.fieldLink RX1 151 "PunCourts$Court" "shown" "[I", Cond.methodLink RX1 195 yX1_copyRow, Cond.static yX1_copyRow, Cond.code yX1_copyRow cX1_copyRow 2 none, Cond.methodLink RX1 100 yX0_bare, Cond.instanceMethod yX0_bare, Cond.selects RX0 yX0_bare yX0_bare, Cond.initialized RX0, Cond.code yX0_bare cX0_bare 2 none, Cond.fieldLink RX0 35 "PunCourts$Court" "borne" "[I"]
def wsX1_strip : List Cond := .code yX1_strip cX1_strip 3 (some .int) :: ((wsX1_strip_r1 ++ wsX1_strip_r2) ++ wsX10 ++ wsX00)
def wsX1_issue_r1 : List Cond := [Cond.fieldLink RX1 10 "PunCourts" "now" "LPunCourts$Court;", Cond.methodLink RX1 41 yX1_record, Cond.instanceMethod yX1_record, Cond.selects RX1 yX1_record yX1_record, Cond.initialized RX1, Cond.code yX1_record cX1_record 3 none, Cond.fieldLink RX1 167 "PunCourts" "pastLength" "I", Cond.fieldLink RX1 19 "PunCourts" "past" "[LPunCourts$Court;", Cond.methodLink RX1 176 yX1_copy, Cond.static yX1_copy, Cond.code yX1_copy cX1_copy 2 none, Cond.fieldLink RX1 44 "PunCourts$Court" "settings" "[I", Cond.fieldLink RX1 110 "PunCourts$Court" "days" "I", Cond.fieldLink RX1 51 "PunCourts$Court" "names" "I", Cond.fieldLink RX1 199 "PunCourts$Court" "letters" "[C", Cond.methodLink RX1 202 Lib.Math.min.name, Cond.static Lib.Math.min.name, Cond.initialized "java/lang/Math", Cond.code Lib.Math.min.name Lib.Math.min.code 2 (some .int), Cond.methodLink RX1 207 arraycopyName, Cond.native arraycopyName, Cond.static arraycopyName, Cond.initialized "java/lang/System", Cond.fieldLink RX1 128 "PunCourts$Court" "lengths" "[I"]
def wsX1_issue_r2 : List Cond := [Cond.fieldLink RX1 125 "PunCourts$Court" "sounds" "[I", Cond.fieldLink RX1 73 "PunCourts$Court" "honours" "[I", Cond.fieldLink RX1 76 "PunCourts$Court" "withdrawn" "[Z", Cond.fieldLink RX1 131 "PunCourts$Court" "nameGiven" "[I", Cond.fieldLink RX1 97 "PunCourts$Court" "borne" "[I", Cond.fieldLink RX1 94 "PunCourts$Court" "owed" "[I", Cond.fieldLink RX1 138 "PunCourts$Court" "posted" "[I", Cond.fieldLink RX1 141 "PunCourts$Court" "gotDay" "[I", Cond.fieldLink RX1 144 "PunCourts$Court" "cornerGiven" "[I", Cond.fieldLink RX1 147 "PunCourts$Court" "mapIssued" "Z", Cond.fieldLink RX1 151 "PunCourts$Court" "shown" "[I", Cond.methodLink RX1 195 yX1_copyRow, Cond.static yX1_copyRow, Cond.code yX1_copyRow cX1_copyRow 2 none, Cond.methodLink RX1 104 yX0_wrongOnMap, Cond.instanceMethod yX0_wrongOnMap, Cond.selects RX0 yX0_wrongOnMap yX0_wrongOnMap, Cond.initialized RX0, Cond.code yX0_wrongOnMap cX0_wrongOnMap 3 (some .int), Cond.fieldLink RX0 140 "PunCourts$Court" "mapIssued" "Z", Cond.fieldLink RX0 50 "PunCourts$Court" "shown" "[I", Cond.fieldLink RX0 35 "PunCourts$Court" "borne" "[I", Cond.methodLink RX1 107 yX0_drawMap, Cond.instanceMethod yX0_drawMap]
def wsX1_issue_r3 : List Cond := [Cond.selects RX0 yX0_drawMap yX0_drawMap, Cond.code yX0_drawMap cX0_drawMap 1 none]
def wsX1_issue : List Cond := .code yX1_issue cX1_issue 2 (some .int) :: ((wsX1_issue_r1 ++ (wsX1_issue_r2 ++ wsX1_issue_r3)) ++ wsX10 ++ wsX00)
def wsX1_pass_r1 : List Cond := [Cond.fieldLink RX1 10 "PunCourts" "now" "LPunCourts$Court;", Cond.fieldLink RX1 110 "PunCourts$Court" "days" "I", Cond.methodLink RX1 41 yX1_record, Cond.instanceMethod yX1_record, Cond.selects RX1 yX1_record yX1_record, Cond.initialized RX1, Cond.code yX1_record cX1_record 3 none, Cond.fieldLink RX1 167 "PunCourts" "pastLength" "I", Cond.fieldLink RX1 19 "PunCourts" "past" "[LPunCourts$Court;", Cond.methodLink RX1 176 yX1_copy, Cond.static yX1_copy, Cond.code yX1_copy cX1_copy 2 none, Cond.fieldLink RX1 44 "PunCourts$Court" "settings" "[I", Cond.fieldLink RX1 51 "PunCourts$Court" "names" "I", Cond.fieldLink RX1 199 "PunCourts$Court" "letters" "[C", Cond.methodLink RX1 202 Lib.Math.min.name, Cond.static Lib.Math.min.name, Cond.initialized "java/lang/Math", Cond.code Lib.Math.min.name Lib.Math.min.code 2 (some .int), Cond.methodLink RX1 207 arraycopyName, Cond.native arraycopyName, Cond.static arraycopyName, Cond.initialized "java/lang/System", Cond.fieldLink RX1 128 "PunCourts$Court" "lengths" "[I"]
def wsX1_pass_r2 : List Cond := [Cond.fieldLink RX1 125 "PunCourts$Court" "sounds" "[I", Cond.fieldLink RX1 73 "PunCourts$Court" "honours" "[I", Cond.fieldLink RX1 76 "PunCourts$Court" "withdrawn" "[Z", Cond.fieldLink RX1 131 "PunCourts$Court" "nameGiven" "[I", Cond.fieldLink RX1 97 "PunCourts$Court" "borne" "[I", Cond.fieldLink RX1 94 "PunCourts$Court" "owed" "[I", Cond.fieldLink RX1 138 "PunCourts$Court" "posted" "[I", Cond.fieldLink RX1 141 "PunCourts$Court" "gotDay" "[I", Cond.fieldLink RX1 144 "PunCourts$Court" "cornerGiven" "[I", Cond.fieldLink RX1 147 "PunCourts$Court" "mapIssued" "Z", Cond.fieldLink RX1 151 "PunCourts$Court" "shown" "[I", Cond.methodLink RX1 195 yX1_copyRow, Cond.static yX1_copyRow, Cond.code yX1_copyRow cX1_copyRow 2 none, Cond.methodLink RX1 113 yX0_live, Cond.instanceMethod yX0_live, Cond.selects RX0 yX0_live yX0_live, Cond.initialized RX0, Cond.code yX0_live cX0_live 4 (some .int), Cond.fieldLink RX0 104 "PunCourts$Court" "days" "I", Cond.methodLink RX0 122 yX0_giveFromQueue, Cond.instanceMethod yX0_giveFromQueue, Cond.selects RX0 yX0_giveFromQueue yX0_giveFromQueue, Cond.code yX0_giveFromQueue cX0_giveFromQueue 4 (some .boolean)]
def wsX1_pass_r3 : List Cond := [Cond.fieldLink RX0 53 "PunCourts$Court" "names" "I", Cond.fieldLink RX0 25 "PunCourts$Court" "honours" "[I", Cond.methodLink RX0 87 yX0_waits, Cond.instanceMethod yX0_waits, Cond.selects RX0 yX0_waits yX0_waits, Cond.code yX0_waits cX0_waits 2 (some .boolean), Cond.methodLink RX0 84 yX0_whereIs, Cond.instanceMethod yX0_whereIs, Cond.selects RX0 yX0_whereIs yX0_whereIs, Cond.code yX0_whereIs cX0_whereIs 2 (some .int), Cond.fieldLink RX0 28 "PunCourts$Court" "withdrawn" "[Z", Cond.methodLink RX0 81 yX0_bearers, Cond.instanceMethod yX0_bearers, Cond.selects RX0 yX0_bearers yX0_bearers, Cond.code yX0_bearers cX0_bearers 4 (some .int), Cond.fieldLink RX0 35 "PunCourts$Court" "borne" "[I", Cond.methodLink RX0 129 yX0_lowestFree, Cond.instanceMethod yX0_lowestFree, Cond.selects RX0 yX0_lowestFree yX0_lowestFree, Cond.code yX0_lowestFree cX0_lowestFree 5 (some .int), Cond.methodLink RX0 97 yX0_nearPuns, Cond.instanceMethod yX0_nearPuns, Cond.selects RX0 yX0_nearPuns yX0_nearPuns, Cond.code yX0_nearPuns cX0_nearPuns 4 (some .int)]
def wsX1_pass_r4 : List Cond := [Cond.methodLink RX0 91 yX0_isPun, Cond.instanceMethod yX0_isPun, Cond.selects RX0 yX0_isPun yX0_isPun, Cond.code yX0_isPun cX0_isPun 3 (some .boolean), Cond.fieldLink RX0 22 "PunCourts$Court" "sounds" "[I", Cond.methodLink RX0 94 yX0_hasName, Cond.instanceMethod yX0_hasName, Cond.selects RX0 yX0_hasName yX0_hasName, Cond.code yX0_hasName cX0_hasName 2 (some .boolean), Cond.methodLink RX0 107 yX0_around, Cond.instanceMethod yX0_around, Cond.selects RX0 yX0_around yX0_around, Cond.code yX0_around cX0_around 6 (some .int), Cond.fieldLink RX0 9 "PunCourts$Court" "settings" "[I", Cond.methodLink RX0 110 Lib.Math.max.name, Cond.static Lib.Math.max.name, Cond.code Lib.Math.max.name Lib.Math.max.code 2 (some .int), Cond.methodLink RX0 115 Lib.Math.min.name, Cond.methodLink RX0 100 yX0_reason, Cond.instanceMethod yX0_reason, Cond.selects RX0 yX0_reason yX0_reason, Cond.code yX0_reason cX0_reason 6 (some .int), Cond.fieldLink RX0 44 "PunCourts$Court" "gotDay" "[I", Cond.methodLink RX0 132 yX0_place]
def wsX1_pass_r5 : List Cond := [Cond.instanceMethod yX0_place, Cond.selects RX0 yX0_place yX0_place, Cond.code yX0_place cX0_place 3 none, Cond.fieldLink RX0 47 "PunCourts$Court" "cornerGiven" "[I", Cond.fieldLink RX0 32 "PunCourts$Court" "nameGiven" "[I", Cond.fieldLink RX0 38 "PunCourts$Court" "owed" "[I", Cond.methodLink RX0 126 yX0_setUpPosts, Cond.instanceMethod yX0_setUpPosts, Cond.selects RX0 yX0_setUpPosts yX0_setUpPosts, Cond.code yX0_setUpPosts cX0_setUpPosts 3 none, Cond.fieldLink RX0 41 "PunCourts$Court" "posted" "[I", Cond.methodLink RX0 136 yX0_mostOwing, Cond.instanceMethod yX0_mostOwing, Cond.selects RX0 yX0_mostOwing yX0_mostOwing, Cond.code yX0_mostOwing cX0_mostOwing 3 (some .int)]
def wsX1_pass : List Cond := .code yX1_pass cX1_pass 2 (some .int) :: ((wsX1_pass_r1 ++ (wsX1_pass_r2 ++ (wsX1_pass_r3 ++ (wsX1_pass_r4 ++ wsX1_pass_r5)))) ++ wsX10 ++ wsX00)
def wsX1_name_r1 : List Cond := [Cond.fieldLink RX1 10 "PunCourts" "now" "LPunCourts$Court;", Cond.fieldLink RX1 73 "PunCourts$Court" "honours" "[I", Cond.fieldLink RX1 125 "PunCourts$Court" "sounds" "[I", Cond.fieldLink RX1 128 "PunCourts$Court" "lengths" "[I", Cond.fieldLink RX1 131 "PunCourts$Court" "nameGiven" "[I", Cond.methodLink RX1 69 yX0_hasName, Cond.instanceMethod yX0_hasName, Cond.selects RX0 yX0_hasName yX0_hasName, Cond.initialized RX0, Cond.code yX0_hasName cX0_hasName 2 (some .boolean), Cond.fieldLink RX0 53 "PunCourts$Court" "names" "I", Cond.methodLink RX1 116 yX0_whereIs, Cond.instanceMethod yX0_whereIs, Cond.selects RX0 yX0_whereIs yX0_whereIs, Cond.code yX0_whereIs cX0_whereIs 2 (some .int), Cond.fieldLink RX0 28 "PunCourts$Court" "withdrawn" "[Z", Cond.methodLink RX0 81 yX0_bearers, Cond.instanceMethod yX0_bearers, Cond.selects RX0 yX0_bearers yX0_bearers, Cond.code yX0_bearers cX0_bearers 4 (some .int), Cond.fieldLink RX0 35 "PunCourts$Court" "borne" "[I", Cond.methodLink RX1 119 yX0_bearerSet, Cond.instanceMethod yX0_bearerSet, Cond.selects RX0 yX0_bearerSet yX0_bearerSet]
def wsX1_name_r2 : List Cond := [Cond.code yX0_bearerSet cX0_bearerSet 4 (some .int), Cond.methodLink RX1 122 yX0_placeInQueue, Cond.instanceMethod yX0_placeInQueue, Cond.selects RX0 yX0_placeInQueue yX0_placeInQueue, Cond.code yX0_placeInQueue cX0_placeInQueue 5 (some .int), Cond.fieldLink RX0 25 "PunCourts$Court" "honours" "[I", Cond.methodLink RX0 87 yX0_waits, Cond.instanceMethod yX0_waits, Cond.selects RX0 yX0_waits yX0_waits, Cond.code yX0_waits cX0_waits 2 (some .boolean), Cond.methodLink RX0 84 yX0_whereIs]
def wsX1_name : List Cond := .code yX1_name cX1_name 3 (some .int) :: ((wsX1_name_r1 ++ wsX1_name_r2) ++ wsX10 ++ wsX00)
def wsX1_alike_r1 : List Cond := [Cond.fieldLink RX1 10 "PunCourts" "now" "LPunCourts$Court;", Cond.fieldLink RX1 125 "PunCourts$Court" "sounds" "[I", Cond.methodLink RX1 69 yX0_hasName, Cond.instanceMethod yX0_hasName, Cond.selects RX0 yX0_hasName yX0_hasName, Cond.initialized RX0, Cond.code yX0_hasName cX0_hasName 2 (some .boolean), Cond.fieldLink RX0 53 "PunCourts$Court" "names" "I", Cond.methodLink RX1 134 yX0_alikeByLetters, Cond.instanceMethod yX0_alikeByLetters, Cond.selects RX0 yX0_alikeByLetters yX0_alikeByLetters, Cond.code yX0_alikeByLetters cX0_alikeByLetters 6 (some .boolean), Cond.fieldLink RX0 19 "PunCourts$Court" "lengths" "[I", Cond.methodLink RX0 74 yX0_nextHeard, Cond.instanceMethod yX0_nextHeard, Cond.selects RX0 yX0_nextHeard yX0_nextHeard, Cond.code yX0_nextHeard cX0_nextHeard 4 (some .int), Cond.methodLink RX0 77 yX0_isHeard, Cond.instanceMethod yX0_isHeard, Cond.selects RX0 yX0_isHeard yX0_isHeard, Cond.code yX0_isHeard cX0_isHeard 6 (some .boolean), Cond.methodLink RX0 67 yX0_signAt, Cond.instanceMethod yX0_signAt, Cond.selects RX0 yX0_signAt yX0_signAt]
def wsX1_alike_r2 : List Cond := [Cond.code yX0_signAt cX0_signAt 4 (some .int), Cond.fieldLink RX0 15 "PunCourts$Court" "letters" "[C"]
def wsX1_alike : List Cond := .code yX1_alike cX1_alike 4 (some .int) :: ((wsX1_alike_r1 ++ wsX1_alike_r2) ++ wsX10 ++ wsX00)
def wsX1_corner : List Cond := .code yX1_corner cX1_corner 3 (some .int) :: ([.fieldLink RX1 10 "PunCourts" "now" "LPunCourts$Court;", .fieldLink RX1 97 "PunCourts$Court" "borne" "[I", .fieldLink RX1 94 "PunCourts$Court" "owed" "[I", .fieldLink RX1 138 "PunCourts$Court" "posted" "[I", .fieldLink RX1 141 "PunCourts$Court" "gotDay" "[I", .fieldLink RX1 144 "PunCourts$Court" "cornerGiven" "[I", .fieldLink RX1 147 "PunCourts$Court" "mapIssued" "Z", .fieldLink RX1 151 "PunCourts$Court" "shown" "[I", .methodLink RX1 83 yX1_isCorner, .static yX1_isCorner, .initialized RX1, .code yX1_isCorner cX1_isCorner 1 (some .boolean)] ++ wsX10 ++ wsX00)
def wsX1_why_r1 : List Cond := [Cond.fieldLink RX1 10 "PunCourts" "now" "LPunCourts$Court;", Cond.methodLink RX1 69 yX0_hasName, Cond.instanceMethod yX0_hasName, Cond.selects RX0 yX0_hasName yX0_hasName, Cond.initialized RX0, Cond.code yX0_hasName cX0_hasName 2 (some .boolean), Cond.fieldLink RX0 53 "PunCourts$Court" "names" "I", Cond.methodLink RX1 83 yX1_isCorner, Cond.static yX1_isCorner, Cond.initialized RX1, Cond.code yX1_isCorner cX1_isCorner 1 (some .boolean), Cond.methodLink RX1 86 yX0_refusal, Cond.instanceMethod yX0_refusal, Cond.selects RX0 yX0_refusal yX0_refusal, Cond.code yX0_refusal cX0_refusal 3 (some .int), Cond.methodLink RX0 81 yX0_bearers, Cond.instanceMethod yX0_bearers, Cond.selects RX0 yX0_bearers yX0_bearers, Cond.code yX0_bearers cX0_bearers 4 (some .int), Cond.fieldLink RX0 35 "PunCourts$Court" "borne" "[I", Cond.methodLink RX0 97 yX0_nearPuns, Cond.instanceMethod yX0_nearPuns, Cond.selects RX0 yX0_nearPuns yX0_nearPuns, Cond.code yX0_nearPuns cX0_nearPuns 4 (some .int)]
def wsX1_why_r2 : List Cond := [Cond.methodLink RX0 91 yX0_isPun, Cond.instanceMethod yX0_isPun, Cond.selects RX0 yX0_isPun yX0_isPun, Cond.code yX0_isPun cX0_isPun 3 (some .boolean), Cond.fieldLink RX0 22 "PunCourts$Court" "sounds" "[I", Cond.methodLink RX0 94 yX0_hasName, Cond.methodLink RX0 107 yX0_around, Cond.instanceMethod yX0_around, Cond.selects RX0 yX0_around yX0_around, Cond.code yX0_around cX0_around 6 (some .int), Cond.fieldLink RX0 9 "PunCourts$Court" "settings" "[I", Cond.methodLink RX0 110 Lib.Math.max.name, Cond.static Lib.Math.max.name, Cond.initialized "java/lang/Math", Cond.code Lib.Math.max.name Lib.Math.max.code 2 (some .int), Cond.methodLink RX0 115 Lib.Math.min.name, Cond.static Lib.Math.min.name, Cond.code Lib.Math.min.name Lib.Math.min.code 2 (some .int), Cond.methodLink RX0 100 yX0_reason, Cond.instanceMethod yX0_reason, Cond.selects RX0 yX0_reason yX0_reason, Cond.code yX0_reason cX0_reason 6 (some .int), Cond.fieldLink RX0 28 "PunCourts$Court" "withdrawn" "[Z", Cond.fieldLink RX0 25 "PunCourts$Court" "honours" "[I"]
def wsX1_why_r3 : List Cond := [Cond.fieldLink RX0 104 "PunCourts$Court" "days" "I", Cond.fieldLink RX0 44 "PunCourts$Court" "gotDay" "[I"]
def wsX1_why : List Cond := .code yX1_why cX1_why 3 (some .int) :: ((wsX1_why_r1 ++ (wsX1_why_r2 ++ wsX1_why_r3)) ++ wsX10 ++ wsX00)
def wsX1_sum : List Cond := .code yX1_sum cX1_sum 3 (some .int) :: ([])
def wsX1_count_r1 : List Cond := [Cond.fieldLink RX1 10 "PunCourts" "now" "LPunCourts$Court;", Cond.fieldLink RX1 44 "PunCourts$Court" "settings" "[I", Cond.fieldLink RX1 110 "PunCourts$Court" "days" "I", Cond.fieldLink RX1 51 "PunCourts$Court" "names" "I", Cond.fieldLink RX1 94 "PunCourts$Court" "owed" "[I", Cond.fieldLink RX1 138 "PunCourts$Court" "posted" "[I", Cond.fieldLink RX1 131 "PunCourts$Court" "nameGiven" "[I", Cond.fieldLink RX1 58 "PunCourts" "padLength" "I", Cond.fieldLink RX1 167 "PunCourts" "pastLength" "I", Cond.methodLink RX1 154 yX0_waitingNames, Cond.instanceMethod yX0_waitingNames, Cond.selects RX0 yX0_waitingNames yX0_waitingNames, Cond.initialized RX0, Cond.code yX0_waitingNames cX0_waitingNames 3 (some .int), Cond.fieldLink RX0 53 "PunCourts$Court" "names" "I", Cond.methodLink RX0 87 yX0_waits, Cond.instanceMethod yX0_waits, Cond.selects RX0 yX0_waits yX0_waits, Cond.code yX0_waits cX0_waits 2 (some .boolean), Cond.methodLink RX0 84 yX0_whereIs, Cond.instanceMethod yX0_whereIs, Cond.selects RX0 yX0_whereIs yX0_whereIs, Cond.code yX0_whereIs cX0_whereIs 2 (some .int), Cond.fieldLink RX0 28 "PunCourts$Court" "withdrawn" "[Z"]
def wsX1_count_r2 : List Cond := [Cond.methodLink RX0 81 yX0_bearers, Cond.instanceMethod yX0_bearers, Cond.selects RX0 yX0_bearers yX0_bearers, Cond.code yX0_bearers cX0_bearers 4 (some .int), Cond.fieldLink RX0 35 "PunCourts$Court" "borne" "[I", Cond.methodLink RX1 157 yX0_bearingCorners, Cond.instanceMethod yX0_bearingCorners, Cond.selects RX0 yX0_bearingCorners yX0_bearingCorners, Cond.code yX0_bearingCorners cX0_bearingCorners 1 (some .int), Cond.methodLink RX1 160 yX1_sum, Cond.static yX1_sum, Cond.initialized RX1, Cond.code yX1_sum cX1_sum 3 (some .int), Cond.methodLink RX1 104 yX0_wrongOnMap, Cond.instanceMethod yX0_wrongOnMap, Cond.selects RX0 yX0_wrongOnMap yX0_wrongOnMap, Cond.code yX0_wrongOnMap cX0_wrongOnMap 3 (some .int), Cond.fieldLink RX0 140 "PunCourts$Court" "mapIssued" "Z", Cond.fieldLink RX0 50 "PunCourts$Court" "shown" "[I", Cond.methodLink RX1 164 yX0_punPairs, Cond.instanceMethod yX0_punPairs, Cond.selects RX0 yX0_punPairs yX0_punPairs, Cond.code yX0_punPairs cX0_punPairs 4 (some .int), Cond.methodLink RX0 91 yX0_isPun]
def wsX1_count_r3 : List Cond := [Cond.instanceMethod yX0_isPun, Cond.selects RX0 yX0_isPun yX0_isPun, Cond.code yX0_isPun cX0_isPun 3 (some .boolean), Cond.fieldLink RX0 22 "PunCourts$Court" "sounds" "[I", Cond.methodLink RX0 94 yX0_hasName, Cond.instanceMethod yX0_hasName, Cond.selects RX0 yX0_hasName yX0_hasName, Cond.code yX0_hasName cX0_hasName 2 (some .boolean)]
def wsX1_count : List Cond := .code yX1_count cX1_count 2 (some .int) :: ((wsX1_count_r1 ++ (wsX1_count_r2 ++ wsX1_count_r3)) ++ wsX10 ++ wsX00)
def wsX1_bestCorner_r1 : List Cond := [Cond.fieldLink RX1 10 "PunCourts" "now" "LPunCourts$Court;", Cond.methodLink RX1 69 yX0_hasName, Cond.instanceMethod yX0_hasName, Cond.selects RX0 yX0_hasName yX0_hasName, Cond.initialized RX0, Cond.code yX0_hasName cX0_hasName 2 (some .boolean), Cond.fieldLink RX0 53 "PunCourts$Court" "names" "I", Cond.methodLink RX1 170 yX0_lowestFree, Cond.instanceMethod yX0_lowestFree, Cond.selects RX0 yX0_lowestFree yX0_lowestFree, Cond.code yX0_lowestFree cX0_lowestFree 5 (some .int), Cond.methodLink RX0 81 yX0_bearers, Cond.instanceMethod yX0_bearers, Cond.selects RX0 yX0_bearers yX0_bearers, Cond.code yX0_bearers cX0_bearers 4 (some .int), Cond.fieldLink RX0 35 "PunCourts$Court" "borne" "[I", Cond.methodLink RX0 97 yX0_nearPuns, Cond.instanceMethod yX0_nearPuns, Cond.selects RX0 yX0_nearPuns yX0_nearPuns, Cond.code yX0_nearPuns cX0_nearPuns 4 (some .int), Cond.methodLink RX0 91 yX0_isPun, Cond.instanceMethod yX0_isPun, Cond.selects RX0 yX0_isPun yX0_isPun, Cond.code yX0_isPun cX0_isPun 3 (some .boolean)]
def wsX1_bestCorner_r2 : List Cond := [Cond.fieldLink RX0 22 "PunCourts$Court" "sounds" "[I", Cond.methodLink RX0 94 yX0_hasName, Cond.methodLink RX0 107 yX0_around, Cond.instanceMethod yX0_around, Cond.selects RX0 yX0_around yX0_around, Cond.code yX0_around cX0_around 6 (some .int), Cond.fieldLink RX0 9 "PunCourts$Court" "settings" "[I", Cond.methodLink RX0 110 Lib.Math.max.name, Cond.static Lib.Math.max.name, Cond.initialized "java/lang/Math", Cond.code Lib.Math.max.name Lib.Math.max.code 2 (some .int), Cond.methodLink RX0 115 Lib.Math.min.name, Cond.static Lib.Math.min.name, Cond.code Lib.Math.min.name Lib.Math.min.code 2 (some .int), Cond.methodLink RX0 100 yX0_reason, Cond.instanceMethod yX0_reason, Cond.selects RX0 yX0_reason yX0_reason, Cond.code yX0_reason cX0_reason 6 (some .int), Cond.fieldLink RX0 28 "PunCourts$Court" "withdrawn" "[Z", Cond.fieldLink RX0 25 "PunCourts$Court" "honours" "[I", Cond.fieldLink RX0 104 "PunCourts$Court" "days" "I", Cond.fieldLink RX0 44 "PunCourts$Court" "gotDay" "[I"]
def wsX1_bestCorner : List Cond := .code yX1_bestCorner cX1_bestCorner 2 (some .int) :: ((wsX1_bestCorner_r1 ++ wsX1_bestCorner_r2) ++ wsX10 ++ wsX00)
def wsX1_untilBorne_r1 : List Cond := [Cond.fieldLink RX1 10 "PunCourts" "now" "LPunCourts$Court;", Cond.fieldLink RX1 16 "PunCourts" "trial" "LPunCourts$Court;", Cond.methodLink RX1 69 yX0_hasName, Cond.instanceMethod yX0_hasName, Cond.selects RX0 yX0_hasName yX0_hasName, Cond.initialized RX0, Cond.code yX0_hasName cX0_hasName 2 (some .boolean), Cond.fieldLink RX0 53 "PunCourts$Court" "names" "I", Cond.methodLink RX1 173 yX0_bearers, Cond.instanceMethod yX0_bearers, Cond.selects RX0 yX0_bearers yX0_bearers, Cond.code yX0_bearers cX0_bearers 4 (some .int), Cond.fieldLink RX0 35 "PunCourts$Court" "borne" "[I", Cond.methodLink RX1 176 yX1_copy, Cond.static yX1_copy, Cond.initialized RX1, Cond.code yX1_copy cX1_copy 2 none, Cond.fieldLink RX1 44 "PunCourts$Court" "settings" "[I", Cond.fieldLink RX1 110 "PunCourts$Court" "days" "I", Cond.fieldLink RX1 51 "PunCourts$Court" "names" "I", Cond.fieldLink RX1 199 "PunCourts$Court" "letters" "[C", Cond.methodLink RX1 202 Lib.Math.min.name, Cond.static Lib.Math.min.name, Cond.initialized "java/lang/Math"]
def wsX1_untilBorne_r2 : List Cond := [Cond.code Lib.Math.min.name Lib.Math.min.code 2 (some .int), Cond.methodLink RX1 207 arraycopyName, Cond.native arraycopyName, Cond.static arraycopyName, Cond.initialized "java/lang/System", Cond.fieldLink RX1 128 "PunCourts$Court" "lengths" "[I", Cond.fieldLink RX1 125 "PunCourts$Court" "sounds" "[I", Cond.fieldLink RX1 73 "PunCourts$Court" "honours" "[I", Cond.fieldLink RX1 76 "PunCourts$Court" "withdrawn" "[Z", Cond.fieldLink RX1 131 "PunCourts$Court" "nameGiven" "[I", Cond.fieldLink RX1 97 "PunCourts$Court" "borne" "[I", Cond.fieldLink RX1 94 "PunCourts$Court" "owed" "[I", Cond.fieldLink RX1 138 "PunCourts$Court" "posted" "[I", Cond.fieldLink RX1 141 "PunCourts$Court" "gotDay" "[I", Cond.fieldLink RX1 144 "PunCourts$Court" "cornerGiven" "[I", Cond.fieldLink RX1 147 "PunCourts$Court" "mapIssued" "Z", Cond.fieldLink RX1 151 "PunCourts$Court" "shown" "[I", Cond.methodLink RX1 195 yX1_copyRow, Cond.static yX1_copyRow, Cond.code yX1_copyRow cX1_copyRow 2 none, Cond.methodLink RX1 113 yX0_live, Cond.instanceMethod yX0_live, Cond.selects RX0 yX0_live yX0_live, Cond.code yX0_live cX0_live 4 (some .int)]
def wsX1_untilBorne_r3 : List Cond := [Cond.fieldLink RX0 104 "PunCourts$Court" "days" "I", Cond.methodLink RX0 122 yX0_giveFromQueue, Cond.instanceMethod yX0_giveFromQueue, Cond.selects RX0 yX0_giveFromQueue yX0_giveFromQueue, Cond.code yX0_giveFromQueue cX0_giveFromQueue 4 (some .boolean), Cond.fieldLink RX0 25 "PunCourts$Court" "honours" "[I", Cond.methodLink RX0 87 yX0_waits, Cond.instanceMethod yX0_waits, Cond.selects RX0 yX0_waits yX0_waits, Cond.code yX0_waits cX0_waits 2 (some .boolean), Cond.methodLink RX0 84 yX0_whereIs, Cond.instanceMethod yX0_whereIs, Cond.selects RX0 yX0_whereIs yX0_whereIs, Cond.code yX0_whereIs cX0_whereIs 2 (some .int), Cond.fieldLink RX0 28 "PunCourts$Court" "withdrawn" "[Z", Cond.methodLink RX0 81 yX0_bearers, Cond.methodLink RX0 129 yX0_lowestFree, Cond.instanceMethod yX0_lowestFree, Cond.selects RX0 yX0_lowestFree yX0_lowestFree, Cond.code yX0_lowestFree cX0_lowestFree 5 (some .int), Cond.methodLink RX0 97 yX0_nearPuns, Cond.instanceMethod yX0_nearPuns, Cond.selects RX0 yX0_nearPuns yX0_nearPuns, Cond.code yX0_nearPuns cX0_nearPuns 4 (some .int)]
def wsX1_untilBorne_r4 : List Cond := [Cond.methodLink RX0 91 yX0_isPun, Cond.instanceMethod yX0_isPun, Cond.selects RX0 yX0_isPun yX0_isPun, Cond.code yX0_isPun cX0_isPun 3 (some .boolean), Cond.fieldLink RX0 22 "PunCourts$Court" "sounds" "[I", Cond.methodLink RX0 94 yX0_hasName, Cond.methodLink RX0 107 yX0_around, Cond.instanceMethod yX0_around, Cond.selects RX0 yX0_around yX0_around, Cond.code yX0_around cX0_around 6 (some .int), Cond.fieldLink RX0 9 "PunCourts$Court" "settings" "[I", Cond.methodLink RX0 110 Lib.Math.max.name, Cond.static Lib.Math.max.name, Cond.code Lib.Math.max.name Lib.Math.max.code 2 (some .int), Cond.methodLink RX0 115 Lib.Math.min.name, Cond.methodLink RX0 100 yX0_reason, Cond.instanceMethod yX0_reason, Cond.selects RX0 yX0_reason yX0_reason, Cond.code yX0_reason cX0_reason 6 (some .int), Cond.fieldLink RX0 44 "PunCourts$Court" "gotDay" "[I", Cond.methodLink RX0 132 yX0_place, Cond.instanceMethod yX0_place, Cond.selects RX0 yX0_place yX0_place, Cond.code yX0_place cX0_place 3 none]
def wsX1_untilBorne_r5 : List Cond := [Cond.fieldLink RX0 47 "PunCourts$Court" "cornerGiven" "[I", Cond.fieldLink RX0 32 "PunCourts$Court" "nameGiven" "[I", Cond.fieldLink RX0 38 "PunCourts$Court" "owed" "[I", Cond.methodLink RX0 126 yX0_setUpPosts, Cond.instanceMethod yX0_setUpPosts, Cond.selects RX0 yX0_setUpPosts yX0_setUpPosts, Cond.code yX0_setUpPosts cX0_setUpPosts 3 none, Cond.fieldLink RX0 41 "PunCourts$Court" "posted" "[I", Cond.methodLink RX0 136 yX0_mostOwing, Cond.instanceMethod yX0_mostOwing, Cond.selects RX0 yX0_mostOwing yX0_mostOwing, Cond.code yX0_mostOwing cX0_mostOwing 3 (some .int)]
def wsX1_untilBorne : List Cond := .code yX1_untilBorne cX1_untilBorne 3 (some .int) :: ((wsX1_untilBorne_r1 ++ (wsX1_untilBorne_r2 ++ (wsX1_untilBorne_r3 ++ (wsX1_untilBorne_r4 ++ wsX1_untilBorne_r5)))) ++ wsX10 ++ wsX00)
def wsX1_untilPosted_r1 : List Cond := [Cond.fieldLink RX1 10 "PunCourts" "now" "LPunCourts$Court;", Cond.fieldLink RX1 94 "PunCourts$Court" "owed" "[I", Cond.fieldLink RX1 16 "PunCourts" "trial" "LPunCourts$Court;", Cond.methodLink RX1 160 yX1_sum, Cond.static yX1_sum, Cond.initialized RX1, Cond.code yX1_sum cX1_sum 3 (some .int), Cond.methodLink RX1 176 yX1_copy, Cond.static yX1_copy, Cond.code yX1_copy cX1_copy 2 none, Cond.fieldLink RX1 44 "PunCourts$Court" "settings" "[I", Cond.fieldLink RX1 110 "PunCourts$Court" "days" "I", Cond.fieldLink RX1 51 "PunCourts$Court" "names" "I", Cond.fieldLink RX1 199 "PunCourts$Court" "letters" "[C", Cond.methodLink RX1 202 Lib.Math.min.name, Cond.static Lib.Math.min.name, Cond.initialized "java/lang/Math", Cond.code Lib.Math.min.name Lib.Math.min.code 2 (some .int), Cond.methodLink RX1 207 arraycopyName, Cond.native arraycopyName, Cond.static arraycopyName, Cond.initialized "java/lang/System", Cond.fieldLink RX1 128 "PunCourts$Court" "lengths" "[I", Cond.fieldLink RX1 125 "PunCourts$Court" "sounds" "[I"]
def wsX1_untilPosted_r2 : List Cond := [Cond.fieldLink RX1 73 "PunCourts$Court" "honours" "[I", Cond.fieldLink RX1 76 "PunCourts$Court" "withdrawn" "[Z", Cond.fieldLink RX1 131 "PunCourts$Court" "nameGiven" "[I", Cond.fieldLink RX1 97 "PunCourts$Court" "borne" "[I", Cond.fieldLink RX1 138 "PunCourts$Court" "posted" "[I", Cond.fieldLink RX1 141 "PunCourts$Court" "gotDay" "[I", Cond.fieldLink RX1 144 "PunCourts$Court" "cornerGiven" "[I", Cond.fieldLink RX1 147 "PunCourts$Court" "mapIssued" "Z", Cond.fieldLink RX1 151 "PunCourts$Court" "shown" "[I", Cond.methodLink RX1 195 yX1_copyRow, Cond.static yX1_copyRow, Cond.code yX1_copyRow cX1_copyRow 2 none, Cond.methodLink RX1 113 yX0_live, Cond.instanceMethod yX0_live, Cond.selects RX0 yX0_live yX0_live, Cond.initialized RX0, Cond.code yX0_live cX0_live 4 (some .int), Cond.fieldLink RX0 104 "PunCourts$Court" "days" "I", Cond.methodLink RX0 122 yX0_giveFromQueue, Cond.instanceMethod yX0_giveFromQueue, Cond.selects RX0 yX0_giveFromQueue yX0_giveFromQueue, Cond.code yX0_giveFromQueue cX0_giveFromQueue 4 (some .boolean), Cond.fieldLink RX0 53 "PunCourts$Court" "names" "I", Cond.fieldLink RX0 25 "PunCourts$Court" "honours" "[I"]
def wsX1_untilPosted_r3 : List Cond := [Cond.methodLink RX0 87 yX0_waits, Cond.instanceMethod yX0_waits, Cond.selects RX0 yX0_waits yX0_waits, Cond.code yX0_waits cX0_waits 2 (some .boolean), Cond.methodLink RX0 84 yX0_whereIs, Cond.instanceMethod yX0_whereIs, Cond.selects RX0 yX0_whereIs yX0_whereIs, Cond.code yX0_whereIs cX0_whereIs 2 (some .int), Cond.fieldLink RX0 28 "PunCourts$Court" "withdrawn" "[Z", Cond.methodLink RX0 81 yX0_bearers, Cond.instanceMethod yX0_bearers, Cond.selects RX0 yX0_bearers yX0_bearers, Cond.code yX0_bearers cX0_bearers 4 (some .int), Cond.fieldLink RX0 35 "PunCourts$Court" "borne" "[I", Cond.methodLink RX0 129 yX0_lowestFree, Cond.instanceMethod yX0_lowestFree, Cond.selects RX0 yX0_lowestFree yX0_lowestFree, Cond.code yX0_lowestFree cX0_lowestFree 5 (some .int), Cond.methodLink RX0 97 yX0_nearPuns, Cond.instanceMethod yX0_nearPuns, Cond.selects RX0 yX0_nearPuns yX0_nearPuns, Cond.code yX0_nearPuns cX0_nearPuns 4 (some .int), Cond.methodLink RX0 91 yX0_isPun, Cond.instanceMethod yX0_isPun]
def wsX1_untilPosted_r4 : List Cond := [Cond.selects RX0 yX0_isPun yX0_isPun, Cond.code yX0_isPun cX0_isPun 3 (some .boolean), Cond.fieldLink RX0 22 "PunCourts$Court" "sounds" "[I", Cond.methodLink RX0 94 yX0_hasName, Cond.instanceMethod yX0_hasName, Cond.selects RX0 yX0_hasName yX0_hasName, Cond.code yX0_hasName cX0_hasName 2 (some .boolean), Cond.methodLink RX0 107 yX0_around, Cond.instanceMethod yX0_around, Cond.selects RX0 yX0_around yX0_around, Cond.code yX0_around cX0_around 6 (some .int), Cond.fieldLink RX0 9 "PunCourts$Court" "settings" "[I", Cond.methodLink RX0 110 Lib.Math.max.name, Cond.static Lib.Math.max.name, Cond.code Lib.Math.max.name Lib.Math.max.code 2 (some .int), Cond.methodLink RX0 115 Lib.Math.min.name, Cond.methodLink RX0 100 yX0_reason, Cond.instanceMethod yX0_reason, Cond.selects RX0 yX0_reason yX0_reason, Cond.code yX0_reason cX0_reason 6 (some .int), Cond.fieldLink RX0 44 "PunCourts$Court" "gotDay" "[I", Cond.methodLink RX0 132 yX0_place, Cond.instanceMethod yX0_place, Cond.selects RX0 yX0_place yX0_place]
def wsX1_untilPosted_r5 : List Cond := [Cond.code yX0_place cX0_place 3 none, Cond.fieldLink RX0 47 "PunCourts$Court" "cornerGiven" "[I", Cond.fieldLink RX0 32 "PunCourts$Court" "nameGiven" "[I", Cond.fieldLink RX0 38 "PunCourts$Court" "owed" "[I", Cond.methodLink RX0 126 yX0_setUpPosts, Cond.instanceMethod yX0_setUpPosts, Cond.selects RX0 yX0_setUpPosts yX0_setUpPosts, Cond.code yX0_setUpPosts cX0_setUpPosts 3 none, Cond.fieldLink RX0 41 "PunCourts$Court" "posted" "[I", Cond.methodLink RX0 136 yX0_mostOwing, Cond.instanceMethod yX0_mostOwing, Cond.selects RX0 yX0_mostOwing yX0_mostOwing, Cond.code yX0_mostOwing cX0_mostOwing 3 (some .int)]
def wsX1_untilPosted : List Cond := .code yX1_untilPosted cX1_untilPosted 2 (some .int) :: ((wsX1_untilPosted_r1 ++ (wsX1_untilPosted_r2 ++ (wsX1_untilPosted_r3 ++ (wsX1_untilPosted_r4 ++ wsX1_untilPosted_r5)))) ++ wsX10 ++ wsX00)
def wsX1_ifPassed_r1 : List Cond := [Cond.fieldLink RX1 10 "PunCourts" "now" "LPunCourts$Court;", Cond.fieldLink RX1 16 "PunCourts" "trial" "LPunCourts$Court;", Cond.fieldLink RX1 138 "PunCourts$Court" "posted" "[I", Cond.fieldLink RX1 94 "PunCourts$Court" "owed" "[I", Cond.methodLink RX1 176 yX1_copy, Cond.static yX1_copy, Cond.initialized RX1, Cond.code yX1_copy cX1_copy 2 none, Cond.fieldLink RX1 44 "PunCourts$Court" "settings" "[I", Cond.fieldLink RX1 110 "PunCourts$Court" "days" "I", Cond.fieldLink RX1 51 "PunCourts$Court" "names" "I", Cond.fieldLink RX1 199 "PunCourts$Court" "letters" "[C", Cond.methodLink RX1 202 Lib.Math.min.name, Cond.static Lib.Math.min.name, Cond.initialized "java/lang/Math", Cond.code Lib.Math.min.name Lib.Math.min.code 2 (some .int), Cond.methodLink RX1 207 arraycopyName, Cond.native arraycopyName, Cond.static arraycopyName, Cond.initialized "java/lang/System", Cond.fieldLink RX1 128 "PunCourts$Court" "lengths" "[I", Cond.fieldLink RX1 125 "PunCourts$Court" "sounds" "[I", Cond.fieldLink RX1 73 "PunCourts$Court" "honours" "[I", Cond.fieldLink RX1 76 "PunCourts$Court" "withdrawn" "[Z"]
def wsX1_ifPassed_r2 : List Cond := [Cond.fieldLink RX1 131 "PunCourts$Court" "nameGiven" "[I", Cond.fieldLink RX1 97 "PunCourts$Court" "borne" "[I", Cond.fieldLink RX1 141 "PunCourts$Court" "gotDay" "[I", Cond.fieldLink RX1 144 "PunCourts$Court" "cornerGiven" "[I", Cond.fieldLink RX1 147 "PunCourts$Court" "mapIssued" "Z", Cond.fieldLink RX1 151 "PunCourts$Court" "shown" "[I", Cond.methodLink RX1 195 yX1_copyRow, Cond.static yX1_copyRow, Cond.code yX1_copyRow cX1_copyRow 2 none, Cond.methodLink RX1 113 yX0_live, Cond.instanceMethod yX0_live, Cond.selects RX0 yX0_live yX0_live, Cond.initialized RX0, Cond.code yX0_live cX0_live 4 (some .int), Cond.fieldLink RX0 104 "PunCourts$Court" "days" "I", Cond.methodLink RX0 122 yX0_giveFromQueue, Cond.instanceMethod yX0_giveFromQueue, Cond.selects RX0 yX0_giveFromQueue yX0_giveFromQueue, Cond.code yX0_giveFromQueue cX0_giveFromQueue 4 (some .boolean), Cond.fieldLink RX0 53 "PunCourts$Court" "names" "I", Cond.fieldLink RX0 25 "PunCourts$Court" "honours" "[I", Cond.methodLink RX0 87 yX0_waits, Cond.instanceMethod yX0_waits, Cond.selects RX0 yX0_waits yX0_waits]
def wsX1_ifPassed_r3 : List Cond := [Cond.code yX0_waits cX0_waits 2 (some .boolean), Cond.methodLink RX0 84 yX0_whereIs, Cond.instanceMethod yX0_whereIs, Cond.selects RX0 yX0_whereIs yX0_whereIs, Cond.code yX0_whereIs cX0_whereIs 2 (some .int), Cond.fieldLink RX0 28 "PunCourts$Court" "withdrawn" "[Z", Cond.methodLink RX0 81 yX0_bearers, Cond.instanceMethod yX0_bearers, Cond.selects RX0 yX0_bearers yX0_bearers, Cond.code yX0_bearers cX0_bearers 4 (some .int), Cond.fieldLink RX0 35 "PunCourts$Court" "borne" "[I", Cond.methodLink RX0 129 yX0_lowestFree, Cond.instanceMethod yX0_lowestFree, Cond.selects RX0 yX0_lowestFree yX0_lowestFree, Cond.code yX0_lowestFree cX0_lowestFree 5 (some .int), Cond.methodLink RX0 97 yX0_nearPuns, Cond.instanceMethod yX0_nearPuns, Cond.selects RX0 yX0_nearPuns yX0_nearPuns, Cond.code yX0_nearPuns cX0_nearPuns 4 (some .int), Cond.methodLink RX0 91 yX0_isPun, Cond.instanceMethod yX0_isPun, Cond.selects RX0 yX0_isPun yX0_isPun, Cond.code yX0_isPun cX0_isPun 3 (some .boolean), Cond.fieldLink RX0 22 "PunCourts$Court" "sounds" "[I"]
def wsX1_ifPassed_r4 : List Cond := [Cond.methodLink RX0 94 yX0_hasName, Cond.instanceMethod yX0_hasName, Cond.selects RX0 yX0_hasName yX0_hasName, Cond.code yX0_hasName cX0_hasName 2 (some .boolean), Cond.methodLink RX0 107 yX0_around, Cond.instanceMethod yX0_around, Cond.selects RX0 yX0_around yX0_around, Cond.code yX0_around cX0_around 6 (some .int), Cond.fieldLink RX0 9 "PunCourts$Court" "settings" "[I", Cond.methodLink RX0 110 Lib.Math.max.name, Cond.static Lib.Math.max.name, Cond.code Lib.Math.max.name Lib.Math.max.code 2 (some .int), Cond.methodLink RX0 115 Lib.Math.min.name, Cond.methodLink RX0 100 yX0_reason, Cond.instanceMethod yX0_reason, Cond.selects RX0 yX0_reason yX0_reason, Cond.code yX0_reason cX0_reason 6 (some .int), Cond.fieldLink RX0 44 "PunCourts$Court" "gotDay" "[I", Cond.methodLink RX0 132 yX0_place, Cond.instanceMethod yX0_place, Cond.selects RX0 yX0_place yX0_place, Cond.code yX0_place cX0_place 3 none, Cond.fieldLink RX0 47 "PunCourts$Court" "cornerGiven" "[I", Cond.fieldLink RX0 32 "PunCourts$Court" "nameGiven" "[I"]
def wsX1_ifPassed_r5 : List Cond := [Cond.fieldLink RX0 38 "PunCourts$Court" "owed" "[I", Cond.methodLink RX0 126 yX0_setUpPosts, Cond.instanceMethod yX0_setUpPosts, Cond.selects RX0 yX0_setUpPosts yX0_setUpPosts, Cond.code yX0_setUpPosts cX0_setUpPosts 3 none, Cond.fieldLink RX0 41 "PunCourts$Court" "posted" "[I", Cond.methodLink RX0 136 yX0_mostOwing, Cond.instanceMethod yX0_mostOwing, Cond.selects RX0 yX0_mostOwing yX0_mostOwing, Cond.code yX0_mostOwing cX0_mostOwing 3 (some .int), Cond.methodLink RX1 160 yX1_sum, Cond.static yX1_sum, Cond.code yX1_sum cX1_sum 3 (some .int)]
def wsX1_ifPassed : List Cond := .code yX1_ifPassed cX1_ifPassed 4 (some .int) :: ((wsX1_ifPassed_r1 ++ (wsX1_ifPassed_r2 ++ (wsX1_ifPassed_r3 ++ (wsX1_ifPassed_r4 ++ wsX1_ifPassed_r5)))) ++ wsX10 ++ wsX00)
def wsX1_codeAt : List Cond := .code yX1_codeAt cX1_codeAt 3 (some .int) :: ([.constantLong RX1 216 (255)])
def wsX1_charactersIn : List Cond := .code yX1_charactersIn cX1_charactersIn 4 (some .int) :: ([.methodLink RX1 184 yX1_codeAt, .static yX1_codeAt, .initialized RX1, .code yX1_codeAt cX1_codeAt 3 (some .int), .constantLong RX1 216 (255)])
def wsX1_append : List Cond := .code yX1_append cX1_append 2 none :: ([.fieldLink RX1 58 "PunCourts" "padLength" "I", .fieldLink RX1 30 "PunCourts" "pad" "[C"] ++ wsX10)
def wsX1_put : List Cond := .code yX1_put cX1_put 5 (some .int) :: ([.fieldLink RX1 58 "PunCourts" "padLength" "I", .methodLink RX1 180 yX1_charactersIn, .static yX1_charactersIn, .initialized RX1, .code yX1_charactersIn cX1_charactersIn 4 (some .int), .methodLink RX1 184 yX1_codeAt, .static yX1_codeAt, .code yX1_codeAt cX1_codeAt 3 (some .int), .constantLong RX1 216 (255), .methodLink RX1 188 yX1_append, .instanceMethod yX1_append, .selects RX1 yX1_append yX1_append, .code yX1_append cX1_append 2 none, .fieldLink RX1 30 "PunCourts" "pad" "[C"] ++ wsX10)
def wsX1_wipe : List Cond := .code yX1_wipe cX1_wipe 2 (some .int) :: ([.fieldLink RX1 58 "PunCourts" "padLength" "I"] ++ wsX10)
def wsX1_fault : List Cond := .code yX1_fault cX1_fault 1 (some .int) :: ([.methodLink RX1 47 yX1_padFault, .instanceMethod yX1_padFault, .selects RX1 yX1_padFault yX1_padFault, .initialized RX1, .code yX1_padFault cX1_padFault 3 (some .int), .fieldLink RX1 58 "PunCourts" "padLength" "I", .fieldLink RX1 30 "PunCourts" "pad" "[C", .methodLink RX1 213 yX1_isLetter, .static yX1_isLetter, .code yX1_isLetter cX1_isLetter 1 (some .boolean), .methodLink RX1 61 yX1_isDigit, .static yX1_isDigit, .code yX1_isDigit cX1_isDigit 1 (some .boolean)] ++ wsX10)
def wsX1_undo_r1 : List Cond := [Cond.fieldLink RX1 167 "PunCourts" "pastLength" "I", Cond.fieldLink RX1 19 "PunCourts" "past" "[LPunCourts$Court;", Cond.fieldLink RX1 10 "PunCourts" "now" "LPunCourts$Court;", Cond.methodLink RX1 176 yX1_copy, Cond.static yX1_copy, Cond.initialized RX1, Cond.code yX1_copy cX1_copy 2 none, Cond.fieldLink RX1 44 "PunCourts$Court" "settings" "[I", Cond.fieldLink RX1 110 "PunCourts$Court" "days" "I", Cond.fieldLink RX1 51 "PunCourts$Court" "names" "I", Cond.fieldLink RX1 199 "PunCourts$Court" "letters" "[C", Cond.methodLink RX1 202 Lib.Math.min.name, Cond.static Lib.Math.min.name, Cond.initialized "java/lang/Math", Cond.code Lib.Math.min.name Lib.Math.min.code 2 (some .int), Cond.methodLink RX1 207 arraycopyName, Cond.native arraycopyName, Cond.static arraycopyName, Cond.initialized "java/lang/System", Cond.fieldLink RX1 128 "PunCourts$Court" "lengths" "[I", Cond.fieldLink RX1 125 "PunCourts$Court" "sounds" "[I", Cond.fieldLink RX1 73 "PunCourts$Court" "honours" "[I", Cond.fieldLink RX1 76 "PunCourts$Court" "withdrawn" "[Z", Cond.fieldLink RX1 131 "PunCourts$Court" "nameGiven" "[I"]
def wsX1_undo_r2 : List Cond := [Cond.fieldLink RX1 97 "PunCourts$Court" "borne" "[I", Cond.fieldLink RX1 94 "PunCourts$Court" "owed" "[I", Cond.fieldLink RX1 138 "PunCourts$Court" "posted" "[I", Cond.fieldLink RX1 141 "PunCourts$Court" "gotDay" "[I", Cond.fieldLink RX1 144 "PunCourts$Court" "cornerGiven" "[I", Cond.fieldLink RX1 147 "PunCourts$Court" "mapIssued" "Z", Cond.fieldLink RX1 151 "PunCourts$Court" "shown" "[I", Cond.methodLink RX1 195 yX1_copyRow, Cond.static yX1_copyRow, Cond.code yX1_copyRow cX1_copyRow 2 none]
def wsX1_undo : List Cond := .code yX1_undo cX1_undo 1 (some .int) :: ((wsX1_undo_r1 ++ wsX1_undo_r2) ++ wsX10 ++ wsX00)
def wsX1_isSlot : List Cond := .code yX1_isSlot cX1_isSlot 1 (some .boolean) :: ([])
def wsX1_save_r1 : List Cond := [Cond.fieldLink RX1 10 "PunCourts" "now" "LPunCourts$Court;", Cond.fieldLink RX1 23 "PunCourts" "slots" "[LPunCourts$Court;", Cond.fieldLink RX1 26 "PunCourts" "slotUsed" "[Z", Cond.fieldLink RX1 110 "PunCourts$Court" "days" "I", Cond.methodLink RX1 192 yX1_isSlot, Cond.static yX1_isSlot, Cond.initialized RX1, Cond.code yX1_isSlot cX1_isSlot 1 (some .boolean), Cond.methodLink RX1 176 yX1_copy, Cond.static yX1_copy, Cond.code yX1_copy cX1_copy 2 none, Cond.fieldLink RX1 44 "PunCourts$Court" "settings" "[I", Cond.fieldLink RX1 51 "PunCourts$Court" "names" "I", Cond.fieldLink RX1 199 "PunCourts$Court" "letters" "[C", Cond.methodLink RX1 202 Lib.Math.min.name, Cond.static Lib.Math.min.name, Cond.initialized "java/lang/Math", Cond.code Lib.Math.min.name Lib.Math.min.code 2 (some .int), Cond.methodLink RX1 207 arraycopyName, Cond.native arraycopyName, Cond.static arraycopyName, Cond.initialized "java/lang/System", Cond.fieldLink RX1 128 "PunCourts$Court" "lengths" "[I", Cond.fieldLink RX1 125 "PunCourts$Court" "sounds" "[I"]
def wsX1_save_r2 : List Cond := [Cond.fieldLink RX1 73 "PunCourts$Court" "honours" "[I", Cond.fieldLink RX1 76 "PunCourts$Court" "withdrawn" "[Z", Cond.fieldLink RX1 131 "PunCourts$Court" "nameGiven" "[I", Cond.fieldLink RX1 97 "PunCourts$Court" "borne" "[I", Cond.fieldLink RX1 94 "PunCourts$Court" "owed" "[I", Cond.fieldLink RX1 138 "PunCourts$Court" "posted" "[I", Cond.fieldLink RX1 141 "PunCourts$Court" "gotDay" "[I", Cond.fieldLink RX1 144 "PunCourts$Court" "cornerGiven" "[I", Cond.fieldLink RX1 147 "PunCourts$Court" "mapIssued" "Z", Cond.fieldLink RX1 151 "PunCourts$Court" "shown" "[I", Cond.methodLink RX1 195 yX1_copyRow, Cond.static yX1_copyRow, Cond.code yX1_copyRow cX1_copyRow 2 none]
def wsX1_save : List Cond := .code yX1_save cX1_save 2 (some .int) :: ((wsX1_save_r1 ++ wsX1_save_r2) ++ wsX10 ++ wsX00)
def wsX1_restore_r1 : List Cond := [Cond.fieldLink RX1 26 "PunCourts" "slotUsed" "[Z", Cond.fieldLink RX1 23 "PunCourts" "slots" "[LPunCourts$Court;", Cond.fieldLink RX1 10 "PunCourts" "now" "LPunCourts$Court;", Cond.fieldLink RX1 110 "PunCourts$Court" "days" "I", Cond.methodLink RX1 192 yX1_isSlot, Cond.static yX1_isSlot, Cond.initialized RX1, Cond.code yX1_isSlot cX1_isSlot 1 (some .boolean), Cond.methodLink RX1 41 yX1_record, Cond.instanceMethod yX1_record, Cond.selects RX1 yX1_record yX1_record, Cond.code yX1_record cX1_record 3 none, Cond.fieldLink RX1 167 "PunCourts" "pastLength" "I", Cond.fieldLink RX1 19 "PunCourts" "past" "[LPunCourts$Court;", Cond.methodLink RX1 176 yX1_copy, Cond.static yX1_copy, Cond.code yX1_copy cX1_copy 2 none, Cond.fieldLink RX1 44 "PunCourts$Court" "settings" "[I", Cond.fieldLink RX1 51 "PunCourts$Court" "names" "I", Cond.fieldLink RX1 199 "PunCourts$Court" "letters" "[C", Cond.methodLink RX1 202 Lib.Math.min.name, Cond.static Lib.Math.min.name, Cond.initialized "java/lang/Math", Cond.code Lib.Math.min.name Lib.Math.min.code 2 (some .int)]
def wsX1_restore_r2 : List Cond := [Cond.methodLink RX1 207 arraycopyName, Cond.native arraycopyName, Cond.static arraycopyName, Cond.initialized "java/lang/System", Cond.fieldLink RX1 128 "PunCourts$Court" "lengths" "[I", Cond.fieldLink RX1 125 "PunCourts$Court" "sounds" "[I", Cond.fieldLink RX1 73 "PunCourts$Court" "honours" "[I", Cond.fieldLink RX1 76 "PunCourts$Court" "withdrawn" "[Z", Cond.fieldLink RX1 131 "PunCourts$Court" "nameGiven" "[I", Cond.fieldLink RX1 97 "PunCourts$Court" "borne" "[I", Cond.fieldLink RX1 94 "PunCourts$Court" "owed" "[I", Cond.fieldLink RX1 138 "PunCourts$Court" "posted" "[I", Cond.fieldLink RX1 141 "PunCourts$Court" "gotDay" "[I", Cond.fieldLink RX1 144 "PunCourts$Court" "cornerGiven" "[I", Cond.fieldLink RX1 147 "PunCourts$Court" "mapIssued" "Z", Cond.fieldLink RX1 151 "PunCourts$Court" "shown" "[I", Cond.methodLink RX1 195 yX1_copyRow, Cond.static yX1_copyRow, Cond.code yX1_copyRow cX1_copyRow 2 none]
def wsX1_restore : List Cond := .code yX1_restore cX1_restore 2 (some .int) :: ((wsX1_restore_r1 ++ wsX1_restore_r2) ++ wsX10 ++ wsX00)
def wsX2_init : List Cond := .code yX2_init cX2_init 2 none :: ([.methodLink RX2 1 objectInit, .instanceMethod objectInit, .code objectInit ⟨#[0xb1]⟩ 1 none, .arrayClass .int, .fieldLink RX2 7 "PunCourtsModel" "all" "[I", .fieldLink RX2 13 "PunCourtsModel" "kept" "[I", .fieldLink RX2 16 "PunCourtsModel" "history" "[I", .fieldLink RX2 19 "PunCourtsModel" "slots" "[I", .fieldLink RX2 22 "PunCourtsModel" "isSaved" "[I", .fieldLink RX2 25 "PunCourtsModel" "text" "[I", .fieldLink RX2 28 "PunCourtsModel" "sounds" "[I", .fieldLink RX2 31 "PunCourtsModel" "lengths" "[I", .fieldLink RX2 34 "PunCourtsModel" "honours" "[I"] ++ wsX20)
def wsX2_in : List Cond := .code yX2_in cX2_in 6 (some .boolean) :: ([])
def wsX2_changes : List Cond := .code yX2_changes cX2_changes 2 none :: ([.fieldLink RX2 37 "PunCourtsModel" "historyLong" "I", .fieldLink RX2 16 "PunCourtsModel" "history" "[I", .fieldLink RX2 7 "PunCourtsModel" "all" "[I"] ++ wsX20)
def wsX2_keeps : List Cond := .code yX2_keeps cX2_keeps 2 none :: ([.fieldLink RX2 13 "PunCourtsModel" "kept" "[I", .fieldLink RX2 7 "PunCourtsModel" "all" "[I"] ++ wsX20)
def wsX2_comesBack : List Cond := .code yX2_comesBack cX2_comesBack 2 none :: ([.fieldLink RX2 7 "PunCourtsModel" "all" "[I", .fieldLink RX2 13 "PunCourtsModel" "kept" "[I"] ++ wsX20)
def wsX2_isName : List Cond := .code yX2_isName cX2_isName 2 (some .boolean) :: ([.fieldLink RX2 7 "PunCourtsModel" "all" "[I", .methodLink RX2 41 yX2_in, .static yX2_in, .initialized RX2, .code yX2_in cX2_in 6 (some .boolean)] ++ wsX20)
def wsX2_isCorner : List Cond := .code yX2_isCorner cX2_isCorner 1 (some .boolean) :: ([.constantLong RX2 45 (11), .methodLink RX2 41 yX2_in, .static yX2_in, .initialized RX2, .code yX2_in cX2_in 6 (some .boolean)])
def wsX2_get : List Cond := .code yX2_get cX2_get 3 (some .int) :: ([.fieldLink RX2 7 "PunCourtsModel" "all" "[I"] ++ wsX20)
def wsX2_lays : List Cond := .code yX2_lays cX2_lays 4 none :: ([.fieldLink RX2 7 "PunCourtsModel" "all" "[I"] ++ wsX20)
def wsX2_sign : List Cond := .code yX2_sign cX2_sign 1 (some .int) :: ([])
def wsX2_bearers : List Cond := .code yX2_bearers cX2_bearers 4 (some .int) :: ([.fieldLink RX2 7 "PunCourtsModel" "all" "[I"] ++ wsX20)
def wsX2_bits : List Cond := .code yX2_bits cX2_bits 3 (some .int) :: ([])
def wsX2_whereIs : List Cond := .code yX2_whereIs cX2_whereIs 2 (some .int) :: ([.methodLink RX2 47 yX2_get, .instanceMethod yX2_get, .selects RX2 yX2_get yX2_get, .initialized RX2, .code yX2_get cX2_get 3 (some .int), .fieldLink RX2 7 "PunCourtsModel" "all" "[I", .methodLink RX2 51 yX2_bearers, .instanceMethod yX2_bearers, .selects RX2 yX2_bearers yX2_bearers, .code yX2_bearers cX2_bearers 4 (some .int)] ++ wsX20)
def wsX2_soundAlike : List Cond := .code yX2_soundAlike cX2_soundAlike 3 (some .boolean) :: ([.methodLink RX2 47 yX2_get, .instanceMethod yX2_get, .selects RX2 yX2_get yX2_get, .initialized RX2, .code yX2_get cX2_get 3 (some .int), .fieldLink RX2 7 "PunCourtsModel" "all" "[I"] ++ wsX20)
def wsX2_comesFirst : List Cond := .code yX2_comesFirst cX2_comesFirst 3 (some .boolean) :: ([.methodLink RX2 47 yX2_get, .instanceMethod yX2_get, .selects RX2 yX2_get yX2_get, .initialized RX2, .code yX2_get cX2_get 3 (some .int), .fieldLink RX2 7 "PunCourtsModel" "all" "[I"] ++ wsX20)
def wsX2_isPun : List Cond := .code yX2_isPun cX2_isPun 6 (some .boolean) :: ([.fieldLink RX2 7 "PunCourtsModel" "all" "[I", .methodLink RX2 55 yX2_soundAlike, .instanceMethod yX2_soundAlike, .selects RX2 yX2_soundAlike yX2_soundAlike, .initialized RX2, .code yX2_soundAlike cX2_soundAlike 3 (some .boolean), .methodLink RX2 47 yX2_get, .instanceMethod yX2_get, .selects RX2 yX2_get yX2_get, .code yX2_get cX2_get 3 (some .int)] ++ wsX20)
def wsX2_reason : List Cond := .code yX2_reason cX2_reason 4 (some .int) :: ([.fieldLink RX2 7 "PunCourtsModel" "all" "[I", .methodLink RX2 47 yX2_get, .instanceMethod yX2_get, .selects RX2 yX2_get yX2_get, .initialized RX2, .code yX2_get cX2_get 3 (some .int), .methodLink RX2 51 yX2_bearers, .instanceMethod yX2_bearers, .selects RX2 yX2_bearers yX2_bearers, .code yX2_bearers cX2_bearers 4 (some .int), .methodLink RX2 59 yX2_bits, .static yX2_bits, .code yX2_bits cX2_bits 3 (some .int), .methodLink RX2 62 yX2_isPun, .instanceMethod yX2_isPun, .selects RX2 yX2_isPun yX2_isPun, .code yX2_isPun cX2_isPun 6 (some .boolean), .methodLink RX2 55 yX2_soundAlike, .instanceMethod yX2_soundAlike, .selects RX2 yX2_soundAlike yX2_soundAlike, .code yX2_soundAlike cX2_soundAlike 3 (some .boolean)] ++ wsX20)
def wsX2_gives : List Cond := .code yX2_gives cX2_gives 3 none :: ([.fieldLink RX2 7 "PunCourtsModel" "all" "[I", .methodLink RX2 47 yX2_get, .instanceMethod yX2_get, .selects RX2 yX2_get yX2_get, .initialized RX2, .code yX2_get cX2_get 3 (some .int), .methodLink RX2 65 yX2_lays, .instanceMethod yX2_lays, .selects RX2 yX2_lays yX2_lays, .code yX2_lays cX2_lays 4 none] ++ wsX20)
def wsX2_takesAway : List Cond := .code yX2_takesAway cX2_takesAway 2 none :: ([.fieldLink RX2 7 "PunCourtsModel" "all" "[I"] ++ wsX20)
def wsX2_lowest_r1 : List Cond := [Cond.methodLink RX2 69 yX2_reason, Cond.instanceMethod yX2_reason, Cond.selects RX2 yX2_reason yX2_reason, Cond.initialized RX2, Cond.code yX2_reason cX2_reason 4 (some .int), Cond.fieldLink RX2 7 "PunCourtsModel" "all" "[I", Cond.methodLink RX2 47 yX2_get, Cond.instanceMethod yX2_get, Cond.selects RX2 yX2_get yX2_get, Cond.code yX2_get cX2_get 3 (some .int), Cond.methodLink RX2 51 yX2_bearers, Cond.instanceMethod yX2_bearers, Cond.selects RX2 yX2_bearers yX2_bearers, Cond.code yX2_bearers cX2_bearers 4 (some .int), Cond.methodLink RX2 59 yX2_bits, Cond.static yX2_bits, Cond.code yX2_bits cX2_bits 3 (some .int), Cond.methodLink RX2 62 yX2_isPun, Cond.instanceMethod yX2_isPun, Cond.selects RX2 yX2_isPun yX2_isPun, Cond.code yX2_isPun cX2_isPun 6 (some .boolean), Cond.methodLink RX2 55 yX2_soundAlike, Cond.instanceMethod yX2_soundAlike, Cond.selects RX2 yX2_soundAlike yX2_soundAlike]
def wsX2_lowest_r2 : List Cond := [Cond.code yX2_soundAlike cX2_soundAlike 3 (some .boolean)]
def wsX2_lowest : List Cond := .code yX2_lowest cX2_lowest 3 (some .int) :: ((wsX2_lowest_r1 ++ wsX2_lowest_r2) ++ wsX20)
def wsX2_sum : List Cond := .code yX2_sum cX2_sum 4 (some .int) :: ([.fieldLink RX2 7 "PunCourtsModel" "all" "[I"] ++ wsX20)
def wsX2_nextGiven_r1 : List Cond := [Cond.fieldLink RX2 7 "PunCourtsModel" "all" "[I", Cond.methodLink RX2 72 yX2_whereIs, Cond.instanceMethod yX2_whereIs, Cond.selects RX2 yX2_whereIs yX2_whereIs, Cond.initialized RX2, Cond.code yX2_whereIs cX2_whereIs 2 (some .int), Cond.methodLink RX2 47 yX2_get, Cond.instanceMethod yX2_get, Cond.selects RX2 yX2_get yX2_get, Cond.code yX2_get cX2_get 3 (some .int), Cond.methodLink RX2 51 yX2_bearers, Cond.instanceMethod yX2_bearers, Cond.selects RX2 yX2_bearers yX2_bearers, Cond.code yX2_bearers cX2_bearers 4 (some .int), Cond.methodLink RX2 75 yX2_comesFirst, Cond.instanceMethod yX2_comesFirst, Cond.selects RX2 yX2_comesFirst yX2_comesFirst, Cond.code yX2_comesFirst cX2_comesFirst 3 (some .boolean), Cond.methodLink RX2 78 yX2_lowest, Cond.instanceMethod yX2_lowest, Cond.selects RX2 yX2_lowest yX2_lowest, Cond.code yX2_lowest cX2_lowest 3 (some .int), Cond.methodLink RX2 69 yX2_reason, Cond.instanceMethod yX2_reason]
def wsX2_nextGiven_r2 : List Cond := [Cond.selects RX2 yX2_reason yX2_reason, Cond.code yX2_reason cX2_reason 4 (some .int), Cond.methodLink RX2 59 yX2_bits, Cond.static yX2_bits, Cond.code yX2_bits cX2_bits 3 (some .int), Cond.methodLink RX2 62 yX2_isPun, Cond.instanceMethod yX2_isPun, Cond.selects RX2 yX2_isPun yX2_isPun, Cond.code yX2_isPun cX2_isPun 6 (some .boolean), Cond.methodLink RX2 55 yX2_soundAlike, Cond.instanceMethod yX2_soundAlike, Cond.selects RX2 yX2_soundAlike yX2_soundAlike, Cond.code yX2_soundAlike cX2_soundAlike 3 (some .boolean)]
def wsX2_nextGiven : List Cond := .code yX2_nextGiven cX2_nextGiven 4 (some .int) :: ((wsX2_nextGiven_r1 ++ wsX2_nextGiven_r2) ++ wsX20)
def wsX2_setsUp : List Cond := .code yX2_setsUp cX2_setsUp 3 none :: ([.fieldLink RX2 7 "PunCourtsModel" "all" "[I"] ++ wsX20)
def wsX2_day_r1 : List Cond := [Cond.fieldLink RX2 7 "PunCourtsModel" "all" "[I", Cond.methodLink RX2 81 yX2_nextGiven, Cond.instanceMethod yX2_nextGiven, Cond.selects RX2 yX2_nextGiven yX2_nextGiven, Cond.initialized RX2, Cond.code yX2_nextGiven cX2_nextGiven 4 (some .int), Cond.methodLink RX2 72 yX2_whereIs, Cond.instanceMethod yX2_whereIs, Cond.selects RX2 yX2_whereIs yX2_whereIs, Cond.code yX2_whereIs cX2_whereIs 2 (some .int), Cond.methodLink RX2 47 yX2_get, Cond.instanceMethod yX2_get, Cond.selects RX2 yX2_get yX2_get, Cond.code yX2_get cX2_get 3 (some .int), Cond.methodLink RX2 51 yX2_bearers, Cond.instanceMethod yX2_bearers, Cond.selects RX2 yX2_bearers yX2_bearers, Cond.code yX2_bearers cX2_bearers 4 (some .int), Cond.methodLink RX2 75 yX2_comesFirst, Cond.instanceMethod yX2_comesFirst, Cond.selects RX2 yX2_comesFirst yX2_comesFirst, Cond.code yX2_comesFirst cX2_comesFirst 3 (some .boolean), Cond.methodLink RX2 78 yX2_lowest, Cond.instanceMethod yX2_lowest]
def wsX2_day_r2 : List Cond := [Cond.selects RX2 yX2_lowest yX2_lowest, Cond.code yX2_lowest cX2_lowest 3 (some .int), Cond.methodLink RX2 69 yX2_reason, Cond.instanceMethod yX2_reason, Cond.selects RX2 yX2_reason yX2_reason, Cond.code yX2_reason cX2_reason 4 (some .int), Cond.methodLink RX2 59 yX2_bits, Cond.static yX2_bits, Cond.code yX2_bits cX2_bits 3 (some .int), Cond.methodLink RX2 62 yX2_isPun, Cond.instanceMethod yX2_isPun, Cond.selects RX2 yX2_isPun yX2_isPun, Cond.code yX2_isPun cX2_isPun 6 (some .boolean), Cond.methodLink RX2 55 yX2_soundAlike, Cond.instanceMethod yX2_soundAlike, Cond.selects RX2 yX2_soundAlike yX2_soundAlike, Cond.code yX2_soundAlike cX2_soundAlike 3 (some .boolean), Cond.methodLink RX2 85 yX2_gives, Cond.instanceMethod yX2_gives, Cond.selects RX2 yX2_gives yX2_gives, Cond.code yX2_gives cX2_gives 3 none, Cond.methodLink RX2 65 yX2_lays, Cond.instanceMethod yX2_lays, Cond.selects RX2 yX2_lays yX2_lays]
def wsX2_day_r3 : List Cond := [Cond.code yX2_lays cX2_lays 4 none, Cond.methodLink RX2 89 yX2_setsUp, Cond.instanceMethod yX2_setsUp, Cond.selects RX2 yX2_setsUp yX2_setsUp, Cond.code yX2_setsUp cX2_setsUp 3 none]
def wsX2_day : List Cond := .code yX2_day cX2_day 3 none :: ((wsX2_day_r1 ++ (wsX2_day_r2 ++ wsX2_day_r3)) ++ wsX20)
def wsX2_isSetting : List Cond := .code yX2_isSetting cX2_isSetting 2 (some .boolean) :: ([.constantLong RX2 45 (11), .constantLong RX2 92 (6), .constantLong RX2 94 (9), .constantLong RX2 96 (60), .methodLink RX2 41 yX2_in, .static yX2_in, .initialized RX2, .code yX2_in cX2_in 6 (some .boolean)])
def wsX2_set : List Cond := .code yX2_set cX2_set 4 (some .int) :: ([.fieldLink RX2 7 "PunCourtsModel" "all" "[I", .methodLink RX2 98 yX2_isSetting, .static yX2_isSetting, .initialized RX2, .code yX2_isSetting cX2_isSetting 2 (some .boolean), .constantLong RX2 45 (11), .constantLong RX2 92 (6), .constantLong RX2 94 (9), .constantLong RX2 96 (60), .methodLink RX2 41 yX2_in, .static yX2_in, .code yX2_in cX2_in 6 (some .boolean), .methodLink RX2 101 yX2_changes, .instanceMethod yX2_changes, .selects RX2 yX2_changes yX2_changes, .code yX2_changes cX2_changes 2 none, .fieldLink RX2 37 "PunCourtsModel" "historyLong" "I", .fieldLink RX2 16 "PunCourtsModel" "history" "[I"] ++ wsX20)
def wsX2_honour : List Cond := .code yX2_honour cX2_honour 4 (some .int) :: ([.constantLong RX2 94 (9), .methodLink RX2 104 yX2_isName, .instanceMethod yX2_isName, .selects RX2 yX2_isName yX2_isName, .initialized RX2, .code yX2_isName cX2_isName 2 (some .boolean), .fieldLink RX2 7 "PunCourtsModel" "all" "[I", .methodLink RX2 41 yX2_in, .static yX2_in, .code yX2_in cX2_in 6 (some .boolean), .methodLink RX2 101 yX2_changes, .instanceMethod yX2_changes, .selects RX2 yX2_changes yX2_changes, .code yX2_changes cX2_changes 2 none, .fieldLink RX2 37 "PunCourtsModel" "historyLong" "I", .fieldLink RX2 16 "PunCourtsModel" "history" "[I", .methodLink RX2 47 yX2_get, .instanceMethod yX2_get, .selects RX2 yX2_get yX2_get, .code yX2_get cX2_get 3 (some .int), .methodLink RX2 65 yX2_lays, .instanceMethod yX2_lays, .selects RX2 yX2_lays yX2_lays, .code yX2_lays cX2_lays 4 none] ++ wsX20)
def wsX2_withdraw_r1 : List Cond := [Cond.methodLink RX2 104 yX2_isName, Cond.instanceMethod yX2_isName, Cond.selects RX2 yX2_isName yX2_isName, Cond.initialized RX2, Cond.code yX2_isName cX2_isName 2 (some .boolean), Cond.fieldLink RX2 7 "PunCourtsModel" "all" "[I", Cond.methodLink RX2 41 yX2_in, Cond.static yX2_in, Cond.code yX2_in cX2_in 6 (some .boolean), Cond.methodLink RX2 47 yX2_get, Cond.instanceMethod yX2_get, Cond.selects RX2 yX2_get yX2_get, Cond.code yX2_get cX2_get 3 (some .int), Cond.methodLink RX2 101 yX2_changes, Cond.instanceMethod yX2_changes, Cond.selects RX2 yX2_changes yX2_changes, Cond.code yX2_changes cX2_changes 2 none, Cond.fieldLink RX2 37 "PunCourtsModel" "historyLong" "I", Cond.fieldLink RX2 16 "PunCourtsModel" "history" "[I", Cond.methodLink RX2 51 yX2_bearers, Cond.instanceMethod yX2_bearers, Cond.selects RX2 yX2_bearers yX2_bearers, Cond.code yX2_bearers cX2_bearers 4 (some .int), Cond.methodLink RX2 108 yX2_takesAway]
def wsX2_withdraw_r2 : List Cond := [Cond.instanceMethod yX2_takesAway, Cond.selects RX2 yX2_takesAway yX2_takesAway, Cond.code yX2_takesAway cX2_takesAway 2 none, Cond.methodLink RX2 65 yX2_lays, Cond.instanceMethod yX2_lays, Cond.selects RX2 yX2_lays yX2_lays, Cond.code yX2_lays cX2_lays 4 none, Cond.methodLink RX2 59 yX2_bits, Cond.static yX2_bits, Cond.code yX2_bits cX2_bits 3 (some .int)]
def wsX2_withdraw : List Cond := .code yX2_withdraw cX2_withdraw 4 (some .int) :: ((wsX2_withdraw_r1 ++ wsX2_withdraw_r2) ++ wsX20)
def wsX2_give_r1 : List Cond := [Cond.fieldLink RX2 7 "PunCourtsModel" "all" "[I", Cond.methodLink RX2 104 yX2_isName, Cond.instanceMethod yX2_isName, Cond.selects RX2 yX2_isName yX2_isName, Cond.initialized RX2, Cond.code yX2_isName cX2_isName 2 (some .boolean), Cond.methodLink RX2 41 yX2_in, Cond.static yX2_in, Cond.code yX2_in cX2_in 6 (some .boolean), Cond.methodLink RX2 112 yX2_isCorner, Cond.static yX2_isCorner, Cond.code yX2_isCorner cX2_isCorner 1 (some .boolean), Cond.constantLong RX2 45 (11), Cond.methodLink RX2 69 yX2_reason, Cond.instanceMethod yX2_reason, Cond.selects RX2 yX2_reason yX2_reason, Cond.code yX2_reason cX2_reason 4 (some .int), Cond.methodLink RX2 47 yX2_get, Cond.instanceMethod yX2_get, Cond.selects RX2 yX2_get yX2_get, Cond.code yX2_get cX2_get 3 (some .int), Cond.methodLink RX2 51 yX2_bearers, Cond.instanceMethod yX2_bearers, Cond.selects RX2 yX2_bearers yX2_bearers]
def wsX2_give_r2 : List Cond := [Cond.code yX2_bearers cX2_bearers 4 (some .int), Cond.methodLink RX2 59 yX2_bits, Cond.static yX2_bits, Cond.code yX2_bits cX2_bits 3 (some .int), Cond.methodLink RX2 62 yX2_isPun, Cond.instanceMethod yX2_isPun, Cond.selects RX2 yX2_isPun yX2_isPun, Cond.code yX2_isPun cX2_isPun 6 (some .boolean), Cond.methodLink RX2 55 yX2_soundAlike, Cond.instanceMethod yX2_soundAlike, Cond.selects RX2 yX2_soundAlike yX2_soundAlike, Cond.code yX2_soundAlike cX2_soundAlike 3 (some .boolean), Cond.methodLink RX2 101 yX2_changes, Cond.instanceMethod yX2_changes, Cond.selects RX2 yX2_changes yX2_changes, Cond.code yX2_changes cX2_changes 2 none, Cond.fieldLink RX2 37 "PunCourtsModel" "historyLong" "I", Cond.fieldLink RX2 16 "PunCourtsModel" "history" "[I", Cond.methodLink RX2 85 yX2_gives, Cond.instanceMethod yX2_gives, Cond.selects RX2 yX2_gives yX2_gives, Cond.code yX2_gives cX2_gives 3 none, Cond.methodLink RX2 65 yX2_lays, Cond.instanceMethod yX2_lays]
def wsX2_give_r3 : List Cond := [Cond.selects RX2 yX2_lays yX2_lays, Cond.code yX2_lays cX2_lays 4 none]
def wsX2_give : List Cond := .code yX2_give cX2_give 3 (some .int) :: ((wsX2_give_r1 ++ (wsX2_give_r2 ++ wsX2_give_r3)) ++ wsX20)
def wsX2_strip : List Cond := .code yX2_strip cX2_strip 3 (some .int) :: ([.fieldLink RX2 7 "PunCourtsModel" "all" "[I", .methodLink RX2 112 yX2_isCorner, .static yX2_isCorner, .initialized RX2, .code yX2_isCorner cX2_isCorner 1 (some .boolean), .constantLong RX2 45 (11), .methodLink RX2 41 yX2_in, .static yX2_in, .code yX2_in cX2_in 6 (some .boolean), .methodLink RX2 101 yX2_changes, .instanceMethod yX2_changes, .selects RX2 yX2_changes yX2_changes, .code yX2_changes cX2_changes 2 none, .fieldLink RX2 37 "PunCourtsModel" "historyLong" "I", .fieldLink RX2 16 "PunCourtsModel" "history" "[I", .methodLink RX2 108 yX2_takesAway, .instanceMethod yX2_takesAway, .selects RX2 yX2_takesAway yX2_takesAway, .code yX2_takesAway cX2_takesAway 2 none] ++ wsX20)
def wsX2_wrongCorners : List Cond := .code yX2_wrongCorners cX2_wrongCorners 3 (some .int) :: ([.fieldLink RX2 7 "PunCourtsModel" "all" "[I"] ++ wsX20)
def wsX2_issue : List Cond := .code yX2_issue cX2_issue 3 (some .int) :: ([.fieldLink RX2 7 "PunCourtsModel" "all" "[I", .methodLink RX2 101 yX2_changes, .instanceMethod yX2_changes, .selects RX2 yX2_changes yX2_changes, .initialized RX2, .code yX2_changes cX2_changes 2 none, .fieldLink RX2 37 "PunCourtsModel" "historyLong" "I", .fieldLink RX2 16 "PunCourtsModel" "history" "[I", .methodLink RX2 115 yX2_wrongCorners, .instanceMethod yX2_wrongCorners, .selects RX2 yX2_wrongCorners yX2_wrongCorners, .code yX2_wrongCorners cX2_wrongCorners 3 (some .int)] ++ wsX20)
def wsX2_pass_r1 : List Cond := [Cond.constantLong RX2 118 (99), Cond.fieldLink RX2 7 "PunCourtsModel" "all" "[I", Cond.methodLink RX2 41 yX2_in, Cond.static yX2_in, Cond.initialized RX2, Cond.code yX2_in cX2_in 6 (some .boolean), Cond.methodLink RX2 101 yX2_changes, Cond.instanceMethod yX2_changes, Cond.selects RX2 yX2_changes yX2_changes, Cond.code yX2_changes cX2_changes 2 none, Cond.fieldLink RX2 37 "PunCourtsModel" "historyLong" "I", Cond.fieldLink RX2 16 "PunCourtsModel" "history" "[I", Cond.methodLink RX2 120 yX2_day, Cond.instanceMethod yX2_day, Cond.selects RX2 yX2_day yX2_day, Cond.code yX2_day cX2_day 3 none, Cond.methodLink RX2 81 yX2_nextGiven, Cond.instanceMethod yX2_nextGiven, Cond.selects RX2 yX2_nextGiven yX2_nextGiven, Cond.code yX2_nextGiven cX2_nextGiven 4 (some .int), Cond.methodLink RX2 72 yX2_whereIs, Cond.instanceMethod yX2_whereIs, Cond.selects RX2 yX2_whereIs yX2_whereIs, Cond.code yX2_whereIs cX2_whereIs 2 (some .int)]
def wsX2_pass_r2 : List Cond := [Cond.methodLink RX2 47 yX2_get, Cond.instanceMethod yX2_get, Cond.selects RX2 yX2_get yX2_get, Cond.code yX2_get cX2_get 3 (some .int), Cond.methodLink RX2 51 yX2_bearers, Cond.instanceMethod yX2_bearers, Cond.selects RX2 yX2_bearers yX2_bearers, Cond.code yX2_bearers cX2_bearers 4 (some .int), Cond.methodLink RX2 75 yX2_comesFirst, Cond.instanceMethod yX2_comesFirst, Cond.selects RX2 yX2_comesFirst yX2_comesFirst, Cond.code yX2_comesFirst cX2_comesFirst 3 (some .boolean), Cond.methodLink RX2 78 yX2_lowest, Cond.instanceMethod yX2_lowest, Cond.selects RX2 yX2_lowest yX2_lowest, Cond.code yX2_lowest cX2_lowest 3 (some .int), Cond.methodLink RX2 69 yX2_reason, Cond.instanceMethod yX2_reason, Cond.selects RX2 yX2_reason yX2_reason, Cond.code yX2_reason cX2_reason 4 (some .int), Cond.methodLink RX2 59 yX2_bits, Cond.static yX2_bits, Cond.code yX2_bits cX2_bits 3 (some .int), Cond.methodLink RX2 62 yX2_isPun]
def wsX2_pass_r3 : List Cond := [Cond.instanceMethod yX2_isPun, Cond.selects RX2 yX2_isPun yX2_isPun, Cond.code yX2_isPun cX2_isPun 6 (some .boolean), Cond.methodLink RX2 55 yX2_soundAlike, Cond.instanceMethod yX2_soundAlike, Cond.selects RX2 yX2_soundAlike yX2_soundAlike, Cond.code yX2_soundAlike cX2_soundAlike 3 (some .boolean), Cond.methodLink RX2 85 yX2_gives, Cond.instanceMethod yX2_gives, Cond.selects RX2 yX2_gives yX2_gives, Cond.code yX2_gives cX2_gives 3 none, Cond.methodLink RX2 65 yX2_lays, Cond.instanceMethod yX2_lays, Cond.selects RX2 yX2_lays yX2_lays, Cond.code yX2_lays cX2_lays 4 none, Cond.methodLink RX2 89 yX2_setsUp, Cond.instanceMethod yX2_setsUp, Cond.selects RX2 yX2_setsUp yX2_setsUp, Cond.code yX2_setsUp cX2_setsUp 3 none]
def wsX2_pass : List Cond := .code yX2_pass cX2_pass 4 (some .int) :: ((wsX2_pass_r1 ++ (wsX2_pass_r2 ++ wsX2_pass_r3)) ++ wsX20)
def wsX2_placeOf : List Cond := .code yX2_placeOf cX2_placeOf 4 (some .int) :: ([.fieldLink RX2 7 "PunCourtsModel" "all" "[I", .methodLink RX2 72 yX2_whereIs, .instanceMethod yX2_whereIs, .selects RX2 yX2_whereIs yX2_whereIs, .initialized RX2, .code yX2_whereIs cX2_whereIs 2 (some .int), .methodLink RX2 47 yX2_get, .instanceMethod yX2_get, .selects RX2 yX2_get yX2_get, .code yX2_get cX2_get 3 (some .int), .methodLink RX2 51 yX2_bearers, .instanceMethod yX2_bearers, .selects RX2 yX2_bearers yX2_bearers, .code yX2_bearers cX2_bearers 4 (some .int), .methodLink RX2 75 yX2_comesFirst, .instanceMethod yX2_comesFirst, .selects RX2 yX2_comesFirst yX2_comesFirst, .code yX2_comesFirst cX2_comesFirst 3 (some .boolean)] ++ wsX20)
def wsX2_name_r1 : List Cond := [Cond.methodLink RX2 104 yX2_isName, Cond.instanceMethod yX2_isName, Cond.selects RX2 yX2_isName yX2_isName, Cond.initialized RX2, Cond.code yX2_isName cX2_isName 2 (some .boolean), Cond.fieldLink RX2 7 "PunCourtsModel" "all" "[I", Cond.methodLink RX2 41 yX2_in, Cond.static yX2_in, Cond.code yX2_in cX2_in 6 (some .boolean), Cond.methodLink RX2 47 yX2_get, Cond.instanceMethod yX2_get, Cond.selects RX2 yX2_get yX2_get, Cond.code yX2_get cX2_get 3 (some .int), Cond.methodLink RX2 72 yX2_whereIs, Cond.instanceMethod yX2_whereIs, Cond.selects RX2 yX2_whereIs yX2_whereIs, Cond.code yX2_whereIs cX2_whereIs 2 (some .int), Cond.methodLink RX2 51 yX2_bearers, Cond.instanceMethod yX2_bearers, Cond.selects RX2 yX2_bearers yX2_bearers, Cond.code yX2_bearers cX2_bearers 4 (some .int), Cond.methodLink RX2 123 yX2_placeOf, Cond.instanceMethod yX2_placeOf, Cond.selects RX2 yX2_placeOf yX2_placeOf]
def wsX2_name_r2 : List Cond := [Cond.code yX2_placeOf cX2_placeOf 4 (some .int), Cond.methodLink RX2 75 yX2_comesFirst, Cond.instanceMethod yX2_comesFirst, Cond.selects RX2 yX2_comesFirst yX2_comesFirst, Cond.code yX2_comesFirst cX2_comesFirst 3 (some .boolean)]
def wsX2_name : List Cond := .code yX2_name cX2_name 3 (some .int) :: ((wsX2_name_r1 ++ wsX2_name_r2) ++ wsX20)
def wsX2_alike : List Cond := .code yX2_alike cX2_alike 4 (some .int) :: ([.methodLink RX2 104 yX2_isName, .instanceMethod yX2_isName, .selects RX2 yX2_isName yX2_isName, .initialized RX2, .code yX2_isName cX2_isName 2 (some .boolean), .fieldLink RX2 7 "PunCourtsModel" "all" "[I", .methodLink RX2 41 yX2_in, .static yX2_in, .code yX2_in cX2_in 6 (some .boolean), .methodLink RX2 55 yX2_soundAlike, .instanceMethod yX2_soundAlike, .selects RX2 yX2_soundAlike yX2_soundAlike, .code yX2_soundAlike cX2_soundAlike 3 (some .boolean), .methodLink RX2 47 yX2_get, .instanceMethod yX2_get, .selects RX2 yX2_get yX2_get, .code yX2_get cX2_get 3 (some .int)] ++ wsX20)
def wsX2_corner : List Cond := .code yX2_corner cX2_corner 3 (some .int) :: ([.constantLong RX2 126 (5), .fieldLink RX2 7 "PunCourtsModel" "all" "[I", .methodLink RX2 112 yX2_isCorner, .static yX2_isCorner, .initialized RX2, .code yX2_isCorner cX2_isCorner 1 (some .boolean), .constantLong RX2 45 (11), .methodLink RX2 41 yX2_in, .static yX2_in, .code yX2_in cX2_in 6 (some .boolean)] ++ wsX20)
def wsX2_why_r1 : List Cond := [Cond.methodLink RX2 104 yX2_isName, Cond.instanceMethod yX2_isName, Cond.selects RX2 yX2_isName yX2_isName, Cond.initialized RX2, Cond.code yX2_isName cX2_isName 2 (some .boolean), Cond.fieldLink RX2 7 "PunCourtsModel" "all" "[I", Cond.methodLink RX2 41 yX2_in, Cond.static yX2_in, Cond.code yX2_in cX2_in 6 (some .boolean), Cond.methodLink RX2 112 yX2_isCorner, Cond.static yX2_isCorner, Cond.code yX2_isCorner cX2_isCorner 1 (some .boolean), Cond.constantLong RX2 45 (11), Cond.methodLink RX2 69 yX2_reason, Cond.instanceMethod yX2_reason, Cond.selects RX2 yX2_reason yX2_reason, Cond.code yX2_reason cX2_reason 4 (some .int), Cond.methodLink RX2 47 yX2_get, Cond.instanceMethod yX2_get, Cond.selects RX2 yX2_get yX2_get, Cond.code yX2_get cX2_get 3 (some .int), Cond.methodLink RX2 51 yX2_bearers, Cond.instanceMethod yX2_bearers, Cond.selects RX2 yX2_bearers yX2_bearers]
def wsX2_why_r2 : List Cond := [Cond.code yX2_bearers cX2_bearers 4 (some .int), Cond.methodLink RX2 59 yX2_bits, Cond.static yX2_bits, Cond.code yX2_bits cX2_bits 3 (some .int), Cond.methodLink RX2 62 yX2_isPun, Cond.instanceMethod yX2_isPun, Cond.selects RX2 yX2_isPun yX2_isPun, Cond.code yX2_isPun cX2_isPun 6 (some .boolean), Cond.methodLink RX2 55 yX2_soundAlike, Cond.instanceMethod yX2_soundAlike, Cond.selects RX2 yX2_soundAlike yX2_soundAlike, Cond.code yX2_soundAlike cX2_soundAlike 3 (some .boolean)]
def wsX2_why : List Cond := .code yX2_why cX2_why 3 (some .int) :: ((wsX2_why_r1 ++ wsX2_why_r2) ++ wsX20)
def wsX2_waiting : List Cond := .code yX2_waiting cX2_waiting 3 (some .int) :: ([.fieldLink RX2 7 "PunCourtsModel" "all" "[I", .methodLink RX2 72 yX2_whereIs, .instanceMethod yX2_whereIs, .selects RX2 yX2_whereIs yX2_whereIs, .initialized RX2, .code yX2_whereIs cX2_whereIs 2 (some .int), .methodLink RX2 47 yX2_get, .instanceMethod yX2_get, .selects RX2 yX2_get yX2_get, .code yX2_get cX2_get 3 (some .int), .methodLink RX2 51 yX2_bearers, .instanceMethod yX2_bearers, .selects RX2 yX2_bearers yX2_bearers, .code yX2_bearers cX2_bearers 4 (some .int)] ++ wsX20)
def wsX2_named : List Cond := .code yX2_named cX2_named 3 (some .int) :: ([.fieldLink RX2 7 "PunCourtsModel" "all" "[I"] ++ wsX20)
def wsX2_punPairs : List Cond := .code yX2_punPairs cX2_punPairs 6 (some .int) :: ([.fieldLink RX2 7 "PunCourtsModel" "all" "[I", .methodLink RX2 55 yX2_soundAlike, .instanceMethod yX2_soundAlike, .selects RX2 yX2_soundAlike yX2_soundAlike, .initialized RX2, .code yX2_soundAlike cX2_soundAlike 3 (some .boolean), .methodLink RX2 47 yX2_get, .instanceMethod yX2_get, .selects RX2 yX2_get yX2_get, .code yX2_get cX2_get 3 (some .int)] ++ wsX20)
def wsX2_count_r1 : List Cond := [Cond.fieldLink RX2 7 "PunCourtsModel" "all" "[I", Cond.fieldLink RX2 140 "PunCourtsModel" "textLong" "I", Cond.fieldLink RX2 37 "PunCourtsModel" "historyLong" "I", Cond.constantLong RX2 126 (5), Cond.methodLink RX2 128 yX2_waiting, Cond.instanceMethod yX2_waiting, Cond.selects RX2 yX2_waiting yX2_waiting, Cond.initialized RX2, Cond.code yX2_waiting cX2_waiting 3 (some .int), Cond.methodLink RX2 72 yX2_whereIs, Cond.instanceMethod yX2_whereIs, Cond.selects RX2 yX2_whereIs yX2_whereIs, Cond.code yX2_whereIs cX2_whereIs 2 (some .int), Cond.methodLink RX2 47 yX2_get, Cond.instanceMethod yX2_get, Cond.selects RX2 yX2_get yX2_get, Cond.code yX2_get cX2_get 3 (some .int), Cond.methodLink RX2 51 yX2_bearers, Cond.instanceMethod yX2_bearers, Cond.selects RX2 yX2_bearers yX2_bearers, Cond.code yX2_bearers cX2_bearers 4 (some .int), Cond.methodLink RX2 131 yX2_named, Cond.instanceMethod yX2_named, Cond.selects RX2 yX2_named yX2_named]
def wsX2_count_r2 : List Cond := [Cond.code yX2_named cX2_named 3 (some .int), Cond.methodLink RX2 134 yX2_sum, Cond.instanceMethod yX2_sum, Cond.selects RX2 yX2_sum yX2_sum, Cond.code yX2_sum cX2_sum 4 (some .int), Cond.methodLink RX2 115 yX2_wrongCorners, Cond.instanceMethod yX2_wrongCorners, Cond.selects RX2 yX2_wrongCorners yX2_wrongCorners, Cond.code yX2_wrongCorners cX2_wrongCorners 3 (some .int), Cond.methodLink RX2 137 yX2_punPairs, Cond.instanceMethod yX2_punPairs, Cond.selects RX2 yX2_punPairs yX2_punPairs, Cond.code yX2_punPairs cX2_punPairs 6 (some .int), Cond.methodLink RX2 55 yX2_soundAlike, Cond.instanceMethod yX2_soundAlike, Cond.selects RX2 yX2_soundAlike yX2_soundAlike, Cond.code yX2_soundAlike cX2_soundAlike 3 (some .boolean), Cond.methodLink RX2 41 yX2_in, Cond.static yX2_in, Cond.code yX2_in cX2_in 6 (some .boolean)]
def wsX2_count : List Cond := .code yX2_count cX2_count 2 (some .int) :: ((wsX2_count_r1 ++ wsX2_count_r2) ++ wsX20)
def wsX2_bestCorner_r1 : List Cond := [Cond.methodLink RX2 104 yX2_isName, Cond.instanceMethod yX2_isName, Cond.selects RX2 yX2_isName yX2_isName, Cond.initialized RX2, Cond.code yX2_isName cX2_isName 2 (some .boolean), Cond.fieldLink RX2 7 "PunCourtsModel" "all" "[I", Cond.methodLink RX2 41 yX2_in, Cond.static yX2_in, Cond.code yX2_in cX2_in 6 (some .boolean), Cond.methodLink RX2 78 yX2_lowest, Cond.instanceMethod yX2_lowest, Cond.selects RX2 yX2_lowest yX2_lowest, Cond.code yX2_lowest cX2_lowest 3 (some .int), Cond.methodLink RX2 69 yX2_reason, Cond.instanceMethod yX2_reason, Cond.selects RX2 yX2_reason yX2_reason, Cond.code yX2_reason cX2_reason 4 (some .int), Cond.methodLink RX2 47 yX2_get, Cond.instanceMethod yX2_get, Cond.selects RX2 yX2_get yX2_get, Cond.code yX2_get cX2_get 3 (some .int), Cond.methodLink RX2 51 yX2_bearers, Cond.instanceMethod yX2_bearers, Cond.selects RX2 yX2_bearers yX2_bearers]
def wsX2_bestCorner_r2 : List Cond := [Cond.code yX2_bearers cX2_bearers 4 (some .int), Cond.methodLink RX2 59 yX2_bits, Cond.static yX2_bits, Cond.code yX2_bits cX2_bits 3 (some .int), Cond.methodLink RX2 62 yX2_isPun, Cond.instanceMethod yX2_isPun, Cond.selects RX2 yX2_isPun yX2_isPun, Cond.code yX2_isPun cX2_isPun 6 (some .boolean), Cond.methodLink RX2 55 yX2_soundAlike, Cond.instanceMethod yX2_soundAlike, Cond.selects RX2 yX2_soundAlike yX2_soundAlike, Cond.code yX2_soundAlike cX2_soundAlike 3 (some .boolean)]
def wsX2_bestCorner : List Cond := .code yX2_bestCorner cX2_bestCorner 2 (some .int) :: ((wsX2_bestCorner_r1 ++ wsX2_bestCorner_r2) ++ wsX20)
def wsX2_until_r1 : List Cond := [Cond.methodLink RX2 143 yX2_keeps, Cond.instanceMethod yX2_keeps, Cond.selects RX2 yX2_keeps yX2_keeps, Cond.initialized RX2, Cond.code yX2_keeps cX2_keeps 2 none, Cond.fieldLink RX2 13 "PunCourtsModel" "kept" "[I", Cond.fieldLink RX2 7 "PunCourtsModel" "all" "[I", Cond.methodLink RX2 134 yX2_sum, Cond.instanceMethod yX2_sum, Cond.selects RX2 yX2_sum yX2_sum, Cond.code yX2_sum cX2_sum 4 (some .int), Cond.methodLink RX2 72 yX2_whereIs, Cond.instanceMethod yX2_whereIs, Cond.selects RX2 yX2_whereIs yX2_whereIs, Cond.code yX2_whereIs cX2_whereIs 2 (some .int), Cond.methodLink RX2 47 yX2_get, Cond.instanceMethod yX2_get, Cond.selects RX2 yX2_get yX2_get, Cond.code yX2_get cX2_get 3 (some .int), Cond.methodLink RX2 51 yX2_bearers, Cond.instanceMethod yX2_bearers, Cond.selects RX2 yX2_bearers yX2_bearers, Cond.code yX2_bearers cX2_bearers 4 (some .int), Cond.methodLink RX2 120 yX2_day]
def wsX2_until_r2 : List Cond := [Cond.instanceMethod yX2_day, Cond.selects RX2 yX2_day yX2_day, Cond.code yX2_day cX2_day 3 none, Cond.methodLink RX2 81 yX2_nextGiven, Cond.instanceMethod yX2_nextGiven, Cond.selects RX2 yX2_nextGiven yX2_nextGiven, Cond.code yX2_nextGiven cX2_nextGiven 4 (some .int), Cond.methodLink RX2 75 yX2_comesFirst, Cond.instanceMethod yX2_comesFirst, Cond.selects RX2 yX2_comesFirst yX2_comesFirst, Cond.code yX2_comesFirst cX2_comesFirst 3 (some .boolean), Cond.methodLink RX2 78 yX2_lowest, Cond.instanceMethod yX2_lowest, Cond.selects RX2 yX2_lowest yX2_lowest, Cond.code yX2_lowest cX2_lowest 3 (some .int), Cond.methodLink RX2 69 yX2_reason, Cond.instanceMethod yX2_reason, Cond.selects RX2 yX2_reason yX2_reason, Cond.code yX2_reason cX2_reason 4 (some .int), Cond.methodLink RX2 59 yX2_bits, Cond.static yX2_bits, Cond.code yX2_bits cX2_bits 3 (some .int), Cond.methodLink RX2 62 yX2_isPun, Cond.instanceMethod yX2_isPun]
def wsX2_until_r3 : List Cond := [Cond.selects RX2 yX2_isPun yX2_isPun, Cond.code yX2_isPun cX2_isPun 6 (some .boolean), Cond.methodLink RX2 55 yX2_soundAlike, Cond.instanceMethod yX2_soundAlike, Cond.selects RX2 yX2_soundAlike yX2_soundAlike, Cond.code yX2_soundAlike cX2_soundAlike 3 (some .boolean), Cond.methodLink RX2 85 yX2_gives, Cond.instanceMethod yX2_gives, Cond.selects RX2 yX2_gives yX2_gives, Cond.code yX2_gives cX2_gives 3 none, Cond.methodLink RX2 65 yX2_lays, Cond.instanceMethod yX2_lays, Cond.selects RX2 yX2_lays yX2_lays, Cond.code yX2_lays cX2_lays 4 none, Cond.methodLink RX2 89 yX2_setsUp, Cond.instanceMethod yX2_setsUp, Cond.selects RX2 yX2_setsUp yX2_setsUp, Cond.code yX2_setsUp cX2_setsUp 3 none, Cond.methodLink RX2 146 yX2_comesBack, Cond.instanceMethod yX2_comesBack, Cond.selects RX2 yX2_comesBack yX2_comesBack, Cond.code yX2_comesBack cX2_comesBack 2 none]
def wsX2_until : List Cond := .code yX2_until cX2_until 3 (some .int) :: ((wsX2_until_r1 ++ (wsX2_until_r2 ++ wsX2_until_r3)) ++ wsX20)
def wsX2_untilBorne_r1 : List Cond := [Cond.methodLink RX2 104 yX2_isName, Cond.instanceMethod yX2_isName, Cond.selects RX2 yX2_isName yX2_isName, Cond.initialized RX2, Cond.code yX2_isName cX2_isName 2 (some .boolean), Cond.fieldLink RX2 7 "PunCourtsModel" "all" "[I", Cond.methodLink RX2 41 yX2_in, Cond.static yX2_in, Cond.code yX2_in cX2_in 6 (some .boolean), Cond.methodLink RX2 149 yX2_until, Cond.instanceMethod yX2_until, Cond.selects RX2 yX2_until yX2_until, Cond.code yX2_until cX2_until 3 (some .int), Cond.methodLink RX2 143 yX2_keeps, Cond.instanceMethod yX2_keeps, Cond.selects RX2 yX2_keeps yX2_keeps, Cond.code yX2_keeps cX2_keeps 2 none, Cond.fieldLink RX2 13 "PunCourtsModel" "kept" "[I", Cond.methodLink RX2 134 yX2_sum, Cond.instanceMethod yX2_sum, Cond.selects RX2 yX2_sum yX2_sum, Cond.code yX2_sum cX2_sum 4 (some .int), Cond.methodLink RX2 72 yX2_whereIs, Cond.instanceMethod yX2_whereIs]
def wsX2_untilBorne_r2 : List Cond := [Cond.selects RX2 yX2_whereIs yX2_whereIs, Cond.code yX2_whereIs cX2_whereIs 2 (some .int), Cond.methodLink RX2 47 yX2_get, Cond.instanceMethod yX2_get, Cond.selects RX2 yX2_get yX2_get, Cond.code yX2_get cX2_get 3 (some .int), Cond.methodLink RX2 51 yX2_bearers, Cond.instanceMethod yX2_bearers, Cond.selects RX2 yX2_bearers yX2_bearers, Cond.code yX2_bearers cX2_bearers 4 (some .int), Cond.methodLink RX2 120 yX2_day, Cond.instanceMethod yX2_day, Cond.selects RX2 yX2_day yX2_day, Cond.code yX2_day cX2_day 3 none, Cond.methodLink RX2 81 yX2_nextGiven, Cond.instanceMethod yX2_nextGiven, Cond.selects RX2 yX2_nextGiven yX2_nextGiven, Cond.code yX2_nextGiven cX2_nextGiven 4 (some .int), Cond.methodLink RX2 75 yX2_comesFirst, Cond.instanceMethod yX2_comesFirst, Cond.selects RX2 yX2_comesFirst yX2_comesFirst, Cond.code yX2_comesFirst cX2_comesFirst 3 (some .boolean), Cond.methodLink RX2 78 yX2_lowest, Cond.instanceMethod yX2_lowest]
def wsX2_untilBorne_r3 : List Cond := [Cond.selects RX2 yX2_lowest yX2_lowest, Cond.code yX2_lowest cX2_lowest 3 (some .int), Cond.methodLink RX2 69 yX2_reason, Cond.instanceMethod yX2_reason, Cond.selects RX2 yX2_reason yX2_reason, Cond.code yX2_reason cX2_reason 4 (some .int), Cond.methodLink RX2 59 yX2_bits, Cond.static yX2_bits, Cond.code yX2_bits cX2_bits 3 (some .int), Cond.methodLink RX2 62 yX2_isPun, Cond.instanceMethod yX2_isPun, Cond.selects RX2 yX2_isPun yX2_isPun, Cond.code yX2_isPun cX2_isPun 6 (some .boolean), Cond.methodLink RX2 55 yX2_soundAlike, Cond.instanceMethod yX2_soundAlike, Cond.selects RX2 yX2_soundAlike yX2_soundAlike, Cond.code yX2_soundAlike cX2_soundAlike 3 (some .boolean), Cond.methodLink RX2 85 yX2_gives, Cond.instanceMethod yX2_gives, Cond.selects RX2 yX2_gives yX2_gives, Cond.code yX2_gives cX2_gives 3 none, Cond.methodLink RX2 65 yX2_lays, Cond.instanceMethod yX2_lays, Cond.selects RX2 yX2_lays yX2_lays]
def wsX2_untilBorne_r4 : List Cond := [Cond.code yX2_lays cX2_lays 4 none, Cond.methodLink RX2 89 yX2_setsUp, Cond.instanceMethod yX2_setsUp, Cond.selects RX2 yX2_setsUp yX2_setsUp, Cond.code yX2_setsUp cX2_setsUp 3 none, Cond.methodLink RX2 146 yX2_comesBack, Cond.instanceMethod yX2_comesBack, Cond.selects RX2 yX2_comesBack yX2_comesBack, Cond.code yX2_comesBack cX2_comesBack 2 none]
def wsX2_untilBorne : List Cond := .code yX2_untilBorne cX2_untilBorne 2 (some .int) :: ((wsX2_untilBorne_r1 ++ (wsX2_untilBorne_r2 ++ (wsX2_untilBorne_r3 ++ wsX2_untilBorne_r4))) ++ wsX20)
def wsX2_untilPosted_r1 : List Cond := [Cond.methodLink RX2 149 yX2_until, Cond.instanceMethod yX2_until, Cond.selects RX2 yX2_until yX2_until, Cond.initialized RX2, Cond.code yX2_until cX2_until 3 (some .int), Cond.methodLink RX2 143 yX2_keeps, Cond.instanceMethod yX2_keeps, Cond.selects RX2 yX2_keeps yX2_keeps, Cond.code yX2_keeps cX2_keeps 2 none, Cond.fieldLink RX2 13 "PunCourtsModel" "kept" "[I", Cond.fieldLink RX2 7 "PunCourtsModel" "all" "[I", Cond.methodLink RX2 134 yX2_sum, Cond.instanceMethod yX2_sum, Cond.selects RX2 yX2_sum yX2_sum, Cond.code yX2_sum cX2_sum 4 (some .int), Cond.methodLink RX2 72 yX2_whereIs, Cond.instanceMethod yX2_whereIs, Cond.selects RX2 yX2_whereIs yX2_whereIs, Cond.code yX2_whereIs cX2_whereIs 2 (some .int), Cond.methodLink RX2 47 yX2_get, Cond.instanceMethod yX2_get, Cond.selects RX2 yX2_get yX2_get, Cond.code yX2_get cX2_get 3 (some .int), Cond.methodLink RX2 51 yX2_bearers]
def wsX2_untilPosted_r2 : List Cond := [Cond.instanceMethod yX2_bearers, Cond.selects RX2 yX2_bearers yX2_bearers, Cond.code yX2_bearers cX2_bearers 4 (some .int), Cond.methodLink RX2 120 yX2_day, Cond.instanceMethod yX2_day, Cond.selects RX2 yX2_day yX2_day, Cond.code yX2_day cX2_day 3 none, Cond.methodLink RX2 81 yX2_nextGiven, Cond.instanceMethod yX2_nextGiven, Cond.selects RX2 yX2_nextGiven yX2_nextGiven, Cond.code yX2_nextGiven cX2_nextGiven 4 (some .int), Cond.methodLink RX2 75 yX2_comesFirst, Cond.instanceMethod yX2_comesFirst, Cond.selects RX2 yX2_comesFirst yX2_comesFirst, Cond.code yX2_comesFirst cX2_comesFirst 3 (some .boolean), Cond.methodLink RX2 78 yX2_lowest, Cond.instanceMethod yX2_lowest, Cond.selects RX2 yX2_lowest yX2_lowest, Cond.code yX2_lowest cX2_lowest 3 (some .int), Cond.methodLink RX2 69 yX2_reason, Cond.instanceMethod yX2_reason, Cond.selects RX2 yX2_reason yX2_reason, Cond.code yX2_reason cX2_reason 4 (some .int), Cond.methodLink RX2 59 yX2_bits]
def wsX2_untilPosted_r3 : List Cond := [Cond.static yX2_bits, Cond.code yX2_bits cX2_bits 3 (some .int), Cond.methodLink RX2 62 yX2_isPun, Cond.instanceMethod yX2_isPun, Cond.selects RX2 yX2_isPun yX2_isPun, Cond.code yX2_isPun cX2_isPun 6 (some .boolean), Cond.methodLink RX2 55 yX2_soundAlike, Cond.instanceMethod yX2_soundAlike, Cond.selects RX2 yX2_soundAlike yX2_soundAlike, Cond.code yX2_soundAlike cX2_soundAlike 3 (some .boolean), Cond.methodLink RX2 85 yX2_gives, Cond.instanceMethod yX2_gives, Cond.selects RX2 yX2_gives yX2_gives, Cond.code yX2_gives cX2_gives 3 none, Cond.methodLink RX2 65 yX2_lays, Cond.instanceMethod yX2_lays, Cond.selects RX2 yX2_lays yX2_lays, Cond.code yX2_lays cX2_lays 4 none, Cond.methodLink RX2 89 yX2_setsUp, Cond.instanceMethod yX2_setsUp, Cond.selects RX2 yX2_setsUp yX2_setsUp, Cond.code yX2_setsUp cX2_setsUp 3 none, Cond.methodLink RX2 146 yX2_comesBack, Cond.instanceMethod yX2_comesBack]
def wsX2_untilPosted_r4 : List Cond := [Cond.selects RX2 yX2_comesBack yX2_comesBack, Cond.code yX2_comesBack cX2_comesBack 2 none]
def wsX2_untilPosted : List Cond := .code yX2_untilPosted cX2_untilPosted 1 (some .int) :: ((wsX2_untilPosted_r1 ++ (wsX2_untilPosted_r2 ++ (wsX2_untilPosted_r3 ++ wsX2_untilPosted_r4))) ++ wsX20)
def wsX2_ifPassed_r1 : List Cond := [Cond.constantLong RX2 152 (300), Cond.constantLong RX2 154 (2), Cond.fieldLink RX2 7 "PunCourtsModel" "all" "[I", Cond.fieldLink RX2 13 "PunCourtsModel" "kept" "[I", Cond.methodLink RX2 41 yX2_in, Cond.static yX2_in, Cond.initialized RX2, Cond.code yX2_in cX2_in 6 (some .boolean), Cond.methodLink RX2 143 yX2_keeps, Cond.instanceMethod yX2_keeps, Cond.selects RX2 yX2_keeps yX2_keeps, Cond.code yX2_keeps cX2_keeps 2 none, Cond.methodLink RX2 120 yX2_day, Cond.instanceMethod yX2_day, Cond.selects RX2 yX2_day yX2_day, Cond.code yX2_day cX2_day 3 none, Cond.methodLink RX2 81 yX2_nextGiven, Cond.instanceMethod yX2_nextGiven, Cond.selects RX2 yX2_nextGiven yX2_nextGiven, Cond.code yX2_nextGiven cX2_nextGiven 4 (some .int), Cond.methodLink RX2 72 yX2_whereIs, Cond.instanceMethod yX2_whereIs, Cond.selects RX2 yX2_whereIs yX2_whereIs, Cond.code yX2_whereIs cX2_whereIs 2 (some .int)]
def wsX2_ifPassed_r2 : List Cond := [Cond.methodLink RX2 47 yX2_get, Cond.instanceMethod yX2_get, Cond.selects RX2 yX2_get yX2_get, Cond.code yX2_get cX2_get 3 (some .int), Cond.methodLink RX2 51 yX2_bearers, Cond.instanceMethod yX2_bearers, Cond.selects RX2 yX2_bearers yX2_bearers, Cond.code yX2_bearers cX2_bearers 4 (some .int), Cond.methodLink RX2 75 yX2_comesFirst, Cond.instanceMethod yX2_comesFirst, Cond.selects RX2 yX2_comesFirst yX2_comesFirst, Cond.code yX2_comesFirst cX2_comesFirst 3 (some .boolean), Cond.methodLink RX2 78 yX2_lowest, Cond.instanceMethod yX2_lowest, Cond.selects RX2 yX2_lowest yX2_lowest, Cond.code yX2_lowest cX2_lowest 3 (some .int), Cond.methodLink RX2 69 yX2_reason, Cond.instanceMethod yX2_reason, Cond.selects RX2 yX2_reason yX2_reason, Cond.code yX2_reason cX2_reason 4 (some .int), Cond.methodLink RX2 59 yX2_bits, Cond.static yX2_bits, Cond.code yX2_bits cX2_bits 3 (some .int), Cond.methodLink RX2 62 yX2_isPun]
def wsX2_ifPassed_r3 : List Cond := [Cond.instanceMethod yX2_isPun, Cond.selects RX2 yX2_isPun yX2_isPun, Cond.code yX2_isPun cX2_isPun 6 (some .boolean), Cond.methodLink RX2 55 yX2_soundAlike, Cond.instanceMethod yX2_soundAlike, Cond.selects RX2 yX2_soundAlike yX2_soundAlike, Cond.code yX2_soundAlike cX2_soundAlike 3 (some .boolean), Cond.methodLink RX2 85 yX2_gives, Cond.instanceMethod yX2_gives, Cond.selects RX2 yX2_gives yX2_gives, Cond.code yX2_gives cX2_gives 3 none, Cond.methodLink RX2 65 yX2_lays, Cond.instanceMethod yX2_lays, Cond.selects RX2 yX2_lays yX2_lays, Cond.code yX2_lays cX2_lays 4 none, Cond.methodLink RX2 89 yX2_setsUp, Cond.instanceMethod yX2_setsUp, Cond.selects RX2 yX2_setsUp yX2_setsUp, Cond.code yX2_setsUp cX2_setsUp 3 none, Cond.methodLink RX2 134 yX2_sum, Cond.instanceMethod yX2_sum, Cond.selects RX2 yX2_sum yX2_sum, Cond.code yX2_sum cX2_sum 4 (some .int), Cond.methodLink RX2 146 yX2_comesBack]
def wsX2_ifPassed_r4 : List Cond := [Cond.instanceMethod yX2_comesBack, Cond.selects RX2 yX2_comesBack yX2_comesBack, Cond.code yX2_comesBack cX2_comesBack 2 none]
def wsX2_ifPassed : List Cond := .code yX2_ifPassed cX2_ifPassed 4 (some .int) :: ((wsX2_ifPassed_r1 ++ (wsX2_ifPassed_r2 ++ (wsX2_ifPassed_r3 ++ wsX2_ifPassed_r4))) ++ wsX20)
def wsX2_charactersOf : List Cond := .code yX2_charactersOf cX2_charactersOf 5 (some .int) :: ([.constantLong RX2 156 (255), .constantLong RX2 158 (33), .constantLong RX2 160 (126), .methodLink RX2 41 yX2_in, .static yX2_in, .initialized RX2, .code yX2_in cX2_in 6 (some .boolean)])
def wsX2_put : List Cond := .code yX2_put cX2_put 5 (some .int) :: ([.fieldLink RX2 140 "PunCourtsModel" "textLong" "I", .fieldLink RX2 25 "PunCourtsModel" "text" "[I", .constantLong RX2 156 (255), .methodLink RX2 162 yX2_charactersOf, .static yX2_charactersOf, .initialized RX2, .code yX2_charactersOf cX2_charactersOf 5 (some .int), .constantLong RX2 158 (33), .constantLong RX2 160 (126), .methodLink RX2 41 yX2_in, .static yX2_in, .code yX2_in cX2_in 6 (some .boolean)] ++ wsX20)
def wsX2_wipe : List Cond := .code yX2_wipe cX2_wipe 2 (some .int) :: ([.fieldLink RX2 140 "PunCourtsModel" "textLong" "I"] ++ wsX20)
def wsX2_isHere : List Cond := .code yX2_isHere cX2_isHere 3 (some .boolean) :: ([.fieldLink RX2 166 "PunCourtsModel" "spot" "I", .fieldLink RX2 140 "PunCourtsModel" "textLong" "I", .fieldLink RX2 25 "PunCourtsModel" "text" "[I", .methodLink RX2 41 yX2_in, .static yX2_in, .initialized RX2, .code yX2_in cX2_in 6 (some .boolean)] ++ wsX20)
def wsX2_soundOf : List Cond := .code yX2_soundOf cX2_soundOf 7 (some .int) :: ([.fieldLink RX2 25 "PunCourtsModel" "text" "[I", .methodLink RX2 169 yX2_sign, .static yX2_sign, .initialized RX2, .code yX2_sign cX2_sign 1 (some .int)] ++ wsX20)
def wsX2_readsName : List Cond := .code yX2_readsName cX2_readsName 2 (some .boolean) :: ([.fieldLink RX2 166 "PunCourtsModel" "spot" "I", .fieldLink RX2 28 "PunCourtsModel" "sounds" "[I", .fieldLink RX2 175 "PunCourtsModel" "read" "I", .fieldLink RX2 31 "PunCourtsModel" "lengths" "[I", .fieldLink RX2 34 "PunCourtsModel" "honours" "[I", .fieldLink RX2 25 "PunCourtsModel" "text" "[I", .methodLink RX2 172 yX2_isHere, .instanceMethod yX2_isHere, .selects RX2 yX2_isHere yX2_isHere, .initialized RX2, .code yX2_isHere cX2_isHere 3 (some .boolean), .fieldLink RX2 140 "PunCourtsModel" "textLong" "I", .methodLink RX2 41 yX2_in, .static yX2_in, .code yX2_in cX2_in 6 (some .boolean), .methodLink RX2 178 yX2_soundOf, .instanceMethod yX2_soundOf, .selects RX2 yX2_soundOf yX2_soundOf, .code yX2_soundOf cX2_soundOf 7 (some .int), .methodLink RX2 169 yX2_sign, .static yX2_sign, .code yX2_sign cX2_sign 1 (some .int)] ++ wsX20)
def wsX2_fault_r1 : List Cond := [Cond.fieldLink RX2 166 "PunCourtsModel" "spot" "I", Cond.fieldLink RX2 175 "PunCourtsModel" "read" "I", Cond.fieldLink RX2 140 "PunCourtsModel" "textLong" "I", Cond.methodLink RX2 181 yX2_readsName, Cond.instanceMethod yX2_readsName, Cond.selects RX2 yX2_readsName yX2_readsName, Cond.initialized RX2, Cond.code yX2_readsName cX2_readsName 2 (some .boolean), Cond.fieldLink RX2 28 "PunCourtsModel" "sounds" "[I", Cond.fieldLink RX2 31 "PunCourtsModel" "lengths" "[I", Cond.fieldLink RX2 34 "PunCourtsModel" "honours" "[I", Cond.fieldLink RX2 25 "PunCourtsModel" "text" "[I", Cond.methodLink RX2 172 yX2_isHere, Cond.instanceMethod yX2_isHere, Cond.selects RX2 yX2_isHere yX2_isHere, Cond.code yX2_isHere cX2_isHere 3 (some .boolean), Cond.methodLink RX2 41 yX2_in, Cond.static yX2_in, Cond.code yX2_in cX2_in 6 (some .boolean), Cond.methodLink RX2 178 yX2_soundOf, Cond.instanceMethod yX2_soundOf, Cond.selects RX2 yX2_soundOf yX2_soundOf, Cond.code yX2_soundOf cX2_soundOf 7 (some .int), Cond.methodLink RX2 169 yX2_sign]
def wsX2_fault_r2 : List Cond := [Cond.static yX2_sign, Cond.code yX2_sign cX2_sign 1 (some .int)]
def wsX2_fault : List Cond := .code yX2_fault cX2_fault 2 (some .int) :: ((wsX2_fault_r1 ++ wsX2_fault_r2) ++ wsX20)
def wsX2_read_r1 : List Cond := [Cond.fieldLink RX2 7 "PunCourtsModel" "all" "[I", Cond.fieldLink RX2 175 "PunCourtsModel" "read" "I", Cond.fieldLink RX2 34 "PunCourtsModel" "honours" "[I", Cond.fieldLink RX2 31 "PunCourtsModel" "lengths" "[I", Cond.fieldLink RX2 28 "PunCourtsModel" "sounds" "[I", Cond.fieldLink RX2 140 "PunCourtsModel" "textLong" "I", Cond.methodLink RX2 185 yX2_fault, Cond.instanceMethod yX2_fault, Cond.selects RX2 yX2_fault yX2_fault, Cond.initialized RX2, Cond.code yX2_fault cX2_fault 2 (some .int), Cond.fieldLink RX2 166 "PunCourtsModel" "spot" "I", Cond.methodLink RX2 181 yX2_readsName, Cond.instanceMethod yX2_readsName, Cond.selects RX2 yX2_readsName yX2_readsName, Cond.code yX2_readsName cX2_readsName 2 (some .boolean), Cond.fieldLink RX2 25 "PunCourtsModel" "text" "[I", Cond.methodLink RX2 172 yX2_isHere, Cond.instanceMethod yX2_isHere, Cond.selects RX2 yX2_isHere yX2_isHere, Cond.code yX2_isHere cX2_isHere 3 (some .boolean), Cond.methodLink RX2 41 yX2_in, Cond.static yX2_in, Cond.code yX2_in cX2_in 6 (some .boolean)]
def wsX2_read_r2 : List Cond := [Cond.methodLink RX2 178 yX2_soundOf, Cond.instanceMethod yX2_soundOf, Cond.selects RX2 yX2_soundOf yX2_soundOf, Cond.code yX2_soundOf cX2_soundOf 7 (some .int), Cond.methodLink RX2 169 yX2_sign, Cond.static yX2_sign, Cond.code yX2_sign cX2_sign 1 (some .int), Cond.methodLink RX2 101 yX2_changes, Cond.instanceMethod yX2_changes, Cond.selects RX2 yX2_changes yX2_changes, Cond.code yX2_changes cX2_changes 2 none, Cond.fieldLink RX2 37 "PunCourtsModel" "historyLong" "I", Cond.fieldLink RX2 16 "PunCourtsModel" "history" "[I", Cond.methodLink RX2 65 yX2_lays, Cond.instanceMethod yX2_lays, Cond.selects RX2 yX2_lays yX2_lays, Cond.code yX2_lays cX2_lays 4 none]
def wsX2_read : List Cond := .code yX2_read cX2_read 4 (some .int) :: ((wsX2_read_r1 ++ wsX2_read_r2) ++ wsX20)
def wsX2_undo : List Cond := .code yX2_undo cX2_undo 2 (some .int) :: ([.fieldLink RX2 37 "PunCourtsModel" "historyLong" "I", .fieldLink RX2 7 "PunCourtsModel" "all" "[I", .fieldLink RX2 16 "PunCourtsModel" "history" "[I"] ++ wsX20)
def wsX2_isSlot : List Cond := .code yX2_isSlot cX2_isSlot 1 (some .boolean) :: ([])
def wsX2_save : List Cond := .code yX2_save cX2_save 3 (some .int) :: ([.fieldLink RX2 19 "PunCourtsModel" "slots" "[I", .fieldLink RX2 7 "PunCourtsModel" "all" "[I", .fieldLink RX2 22 "PunCourtsModel" "isSaved" "[I", .methodLink RX2 188 yX2_isSlot, .static yX2_isSlot, .initialized RX2, .code yX2_isSlot cX2_isSlot 1 (some .boolean)] ++ wsX20)
def wsX2_restore : List Cond := .code yX2_restore cX2_restore 3 (some .int) :: ([.fieldLink RX2 22 "PunCourtsModel" "isSaved" "[I", .fieldLink RX2 7 "PunCourtsModel" "all" "[I", .fieldLink RX2 19 "PunCourtsModel" "slots" "[I", .methodLink RX2 188 yX2_isSlot, .static yX2_isSlot, .initialized RX2, .code yX2_isSlot cX2_isSlot 1 (some .boolean), .methodLink RX2 101 yX2_changes, .instanceMethod yX2_changes, .selects RX2 yX2_changes yX2_changes, .code yX2_changes cX2_changes 2 none, .fieldLink RX2 37 "PunCourtsModel" "historyLong" "I", .fieldLink RX2 16 "PunCourtsModel" "history" "[I"] ++ wsX20)
def wsJ9_max_7cf53 : List Cond := .code yJ9_max_7cf53 cJ9_max_7cf53 2 (some .int) :: ([])
def wsJ9_min_7cf53 : List Cond := .code yJ9_min_7cf53 cJ9_min_7cf53 2 (some .int) :: ([])
def wsL_law_r1 : List Cond := [Cond.classLink RL 7 RX1, Cond.instantiable RX1 8, Cond.initialized RX1, Cond.classLink RL 10 RX2, Cond.instantiable RX2 13, Cond.initialized RX2, Cond.constantLong RL 85 (4294967295), Cond.methodLink RL 9 yX1_init, Cond.instanceMethod yX1_init, Cond.code yX1_init cX1_init 2 none, Cond.methodLink RX1 1 objectInit, Cond.instanceMethod objectInit, Cond.code objectInit ⟨#[0xb1]⟩ 1 none, Cond.classLink RX1 7 RX0, Cond.instantiable RX0 16, Cond.initialized RX0, Cond.fieldLink RX1 10 "PunCourts" "now" "LPunCourts$Court;", Cond.fieldLink RX1 16 "PunCourts" "trial" "LPunCourts$Court;", Cond.fieldLink RX1 19 "PunCourts" "past" "[LPunCourts$Court;", Cond.fieldLink RX1 23 "PunCourts" "slots" "[LPunCourts$Court;", Cond.arrayClass .boolean, Cond.fieldLink RX1 26 "PunCourts" "slotUsed" "[Z", Cond.arrayClass .char, Cond.fieldLink RX1 30 "PunCourts" "pad" "[C"]
def wsL_law_r2 : List Cond := [Cond.methodLink RX1 9 yX0_init, Cond.instanceMethod yX0_init, Cond.code yX0_init cX0_init 2 none, Cond.methodLink RX0 3 objectInit, Cond.arrayClass .int, Cond.fieldLink RX0 9 "PunCourts$Court" "settings" "[I", Cond.fieldLink RX0 15 "PunCourts$Court" "letters" "[C", Cond.fieldLink RX0 19 "PunCourts$Court" "lengths" "[I", Cond.fieldLink RX0 22 "PunCourts$Court" "sounds" "[I", Cond.fieldLink RX0 25 "PunCourts$Court" "honours" "[I", Cond.fieldLink RX0 28 "PunCourts$Court" "withdrawn" "[Z", Cond.fieldLink RX0 32 "PunCourts$Court" "nameGiven" "[I", Cond.fieldLink RX0 35 "PunCourts$Court" "borne" "[I", Cond.fieldLink RX0 38 "PunCourts$Court" "owed" "[I", Cond.fieldLink RX0 41 "PunCourts$Court" "posted" "[I", Cond.fieldLink RX0 44 "PunCourts$Court" "gotDay" "[I", Cond.fieldLink RX0 47 "PunCourts$Court" "cornerGiven" "[I", Cond.fieldLink RX0 50 "PunCourts$Court" "shown" "[I", Cond.methodLink RL 12 yX2_init, Cond.instanceMethod yX2_init, Cond.code yX2_init cX2_init 2 none, Cond.methodLink RX2 1 objectInit, Cond.fieldLink RX2 7 "PunCourtsModel" "all" "[I", Cond.fieldLink RX2 13 "PunCourtsModel" "kept" "[I"]
def wsL_law_r3 : List Cond := [Cond.fieldLink RX2 16 "PunCourtsModel" "history" "[I", Cond.fieldLink RX2 19 "PunCourtsModel" "slots" "[I", Cond.fieldLink RX2 22 "PunCourtsModel" "isSaved" "[I", Cond.fieldLink RX2 25 "PunCourtsModel" "text" "[I", Cond.fieldLink RX2 28 "PunCourtsModel" "sounds" "[I", Cond.fieldLink RX2 31 "PunCourtsModel" "lengths" "[I", Cond.fieldLink RX2 34 "PunCourtsModel" "honours" "[I", Cond.methodLink RL 13 yX1_set, Cond.instanceMethod yX1_set, Cond.selects RX1 yX1_set yX1_set, Cond.code yX1_set cX1_set 4 (some .int), Cond.fieldLink RX1 34 "PunCourts" "LOWEST" "[I", Cond.fieldLink RX1 38 "PunCourts" "HIGHEST" "[I", Cond.fieldLink RX1 44 "PunCourts$Court" "settings" "[I", Cond.methodLink RX1 41 yX1_record, Cond.instanceMethod yX1_record, Cond.selects RX1 yX1_record yX1_record, Cond.code yX1_record cX1_record 3 none, Cond.fieldLink RX1 167 "PunCourts" "pastLength" "I", Cond.methodLink RX1 176 yX1_copy, Cond.static yX1_copy, Cond.code yX1_copy cX1_copy 2 none, Cond.fieldLink RX1 110 "PunCourts$Court" "days" "I", Cond.fieldLink RX1 51 "PunCourts$Court" "names" "I"]
def wsL_law_r4 : List Cond := [Cond.fieldLink RX1 199 "PunCourts$Court" "letters" "[C", Cond.methodLink RX1 202 Lib.Math.min.name, Cond.static Lib.Math.min.name, Cond.initialized "java/lang/Math", Cond.code Lib.Math.min.name Lib.Math.min.code 2 (some .int), Cond.methodLink RX1 207 arraycopyName, Cond.native arraycopyName, Cond.static arraycopyName, Cond.initialized "java/lang/System", Cond.fieldLink RX1 128 "PunCourts$Court" "lengths" "[I", Cond.fieldLink RX1 125 "PunCourts$Court" "sounds" "[I", Cond.fieldLink RX1 73 "PunCourts$Court" "honours" "[I", Cond.fieldLink RX1 76 "PunCourts$Court" "withdrawn" "[Z", Cond.fieldLink RX1 131 "PunCourts$Court" "nameGiven" "[I", Cond.fieldLink RX1 97 "PunCourts$Court" "borne" "[I", Cond.fieldLink RX1 94 "PunCourts$Court" "owed" "[I", Cond.fieldLink RX1 138 "PunCourts$Court" "posted" "[I", Cond.fieldLink RX1 141 "PunCourts$Court" "gotDay" "[I", Cond.fieldLink RX1 144 "PunCourts$Court" "cornerGiven" "[I", Cond.fieldLink RX1 147 "PunCourts$Court" "mapIssued" "Z", Cond.fieldLink RX1 151 "PunCourts$Court" "shown" "[I", Cond.methodLink RX1 195 yX1_copyRow, Cond.static yX1_copyRow, Cond.code yX1_copyRow cX1_copyRow 2 none]
def wsL_law_r5 : List Cond := [Cond.methodLink RL 17 yX2_set, Cond.instanceMethod yX2_set, Cond.selects RX2 yX2_set yX2_set, Cond.code yX2_set cX2_set 4 (some .int), Cond.methodLink RX2 98 yX2_isSetting, Cond.static yX2_isSetting, Cond.code yX2_isSetting cX2_isSetting 2 (some .boolean), Cond.constantLong RX2 45 (11), Cond.constantLong RX2 92 (6), Cond.constantLong RX2 94 (9), Cond.constantLong RX2 96 (60), Cond.methodLink RX2 41 yX2_in, Cond.static yX2_in, Cond.code yX2_in cX2_in 6 (some .boolean), Cond.methodLink RX2 101 yX2_changes, Cond.instanceMethod yX2_changes, Cond.selects RX2 yX2_changes yX2_changes, Cond.code yX2_changes cX2_changes 2 none, Cond.fieldLink RX2 37 "PunCourtsModel" "historyLong" "I", Cond.methodLink RL 18 yX1_read, Cond.instanceMethod yX1_read, Cond.selects RX1 yX1_read yX1_read, Cond.code yX1_read cX1_read 3 (some .int), Cond.fieldLink RX1 58 "PunCourts" "padLength" "I"]
def wsL_law_r6 : List Cond := [Cond.methodLink RX1 47 yX1_padFault, Cond.instanceMethod yX1_padFault, Cond.selects RX1 yX1_padFault yX1_padFault, Cond.code yX1_padFault cX1_padFault 3 (some .int), Cond.methodLink RX1 213 yX1_isLetter, Cond.static yX1_isLetter, Cond.code yX1_isLetter cX1_isLetter 1 (some .boolean), Cond.methodLink RX1 61 yX1_isDigit, Cond.static yX1_isDigit, Cond.code yX1_isDigit cX1_isDigit 1 (some .boolean), Cond.methodLink RX1 55 yX1_padNames, Cond.instanceMethod yX1_padNames, Cond.selects RX1 yX1_padNames yX1_padNames, Cond.code yX1_padNames cX1_padNames 3 (some .int), Cond.methodLink RX1 65 yX0_apply, Cond.instanceMethod yX0_apply, Cond.selects RX0 yX0_apply yX0_apply, Cond.code yX0_apply cX0_apply 6 none, Cond.fieldLink RX0 53 "PunCourts$Court" "names" "I", Cond.methodLink RX0 57 arraycopyName, Cond.methodLink RX0 63 yX0_soundOf, Cond.instanceMethod yX0_soundOf, Cond.selects RX0 yX0_soundOf yX0_soundOf, Cond.code yX0_soundOf cX0_soundOf 6 (some .int)]
def wsL_law_r7 : List Cond := [Cond.methodLink RX0 67 yX0_signAt, Cond.instanceMethod yX0_signAt, Cond.selects RX0 yX0_signAt yX0_signAt, Cond.code yX0_signAt cX0_signAt 4 (some .int), Cond.methodLink RL 22 yX2_read, Cond.instanceMethod yX2_read, Cond.selects RX2 yX2_read yX2_read, Cond.code yX2_read cX2_read 4 (some .int), Cond.fieldLink RX2 175 "PunCourtsModel" "read" "I", Cond.fieldLink RX2 140 "PunCourtsModel" "textLong" "I", Cond.methodLink RX2 185 yX2_fault, Cond.instanceMethod yX2_fault, Cond.selects RX2 yX2_fault yX2_fault, Cond.code yX2_fault cX2_fault 2 (some .int), Cond.fieldLink RX2 166 "PunCourtsModel" "spot" "I", Cond.methodLink RX2 181 yX2_readsName, Cond.instanceMethod yX2_readsName, Cond.selects RX2 yX2_readsName yX2_readsName, Cond.code yX2_readsName cX2_readsName 2 (some .boolean), Cond.methodLink RX2 172 yX2_isHere, Cond.instanceMethod yX2_isHere, Cond.selects RX2 yX2_isHere yX2_isHere, Cond.code yX2_isHere cX2_isHere 3 (some .boolean), Cond.methodLink RX2 178 yX2_soundOf]
def wsL_law_r8 : List Cond := [Cond.instanceMethod yX2_soundOf, Cond.selects RX2 yX2_soundOf yX2_soundOf, Cond.code yX2_soundOf cX2_soundOf 7 (some .int), Cond.methodLink RX2 169 yX2_sign, Cond.static yX2_sign, Cond.code yX2_sign cX2_sign 1 (some .int), Cond.methodLink RX2 65 yX2_lays, Cond.instanceMethod yX2_lays, Cond.selects RX2 yX2_lays yX2_lays, Cond.code yX2_lays cX2_lays 4 none, Cond.methodLink RL 23 yX1_honour, Cond.instanceMethod yX1_honour, Cond.selects RX1 yX1_honour yX1_honour, Cond.code yX1_honour cX1_honour 4 (some .int), Cond.methodLink RX1 69 yX0_hasName, Cond.instanceMethod yX0_hasName, Cond.selects RX0 yX0_hasName yX0_hasName, Cond.code yX0_hasName cX0_hasName 2 (some .boolean), Cond.methodLink RL 26 yX2_honour, Cond.instanceMethod yX2_honour, Cond.selects RX2 yX2_honour yX2_honour, Cond.code yX2_honour cX2_honour 4 (some .int), Cond.methodLink RX2 104 yX2_isName, Cond.instanceMethod yX2_isName]
def wsL_law_r9 : List Cond := [Cond.selects RX2 yX2_isName yX2_isName, Cond.code yX2_isName cX2_isName 2 (some .boolean), Cond.methodLink RX2 47 yX2_get, Cond.instanceMethod yX2_get, Cond.selects RX2 yX2_get yX2_get, Cond.code yX2_get cX2_get 3 (some .int), Cond.methodLink RL 27 yX1_withdraw, Cond.instanceMethod yX1_withdraw, Cond.selects RX1 yX1_withdraw yX1_withdraw, Cond.code yX1_withdraw cX1_withdraw 2 (some .int), Cond.methodLink RX1 79 yX0_drop, Cond.instanceMethod yX0_drop, Cond.selects RX0 yX0_drop yX0_drop, Cond.code yX0_drop cX0_drop 4 (some .int), Cond.methodLink RX0 81 yX0_bearers, Cond.instanceMethod yX0_bearers, Cond.selects RX0 yX0_bearers yX0_bearers, Cond.code yX0_bearers cX0_bearers 4 (some .int), Cond.methodLink RX0 118 yX0_bare, Cond.instanceMethod yX0_bare, Cond.selects RX0 yX0_bare yX0_bare, Cond.code yX0_bare cX0_bare 2 none, Cond.methodLink RL 31 yX2_withdraw, Cond.instanceMethod yX2_withdraw]
def wsL_law_r10 : List Cond := [Cond.selects RX2 yX2_withdraw yX2_withdraw, Cond.code yX2_withdraw cX2_withdraw 4 (some .int), Cond.methodLink RX2 51 yX2_bearers, Cond.instanceMethod yX2_bearers, Cond.selects RX2 yX2_bearers yX2_bearers, Cond.code yX2_bearers cX2_bearers 4 (some .int), Cond.methodLink RX2 108 yX2_takesAway, Cond.instanceMethod yX2_takesAway, Cond.selects RX2 yX2_takesAway yX2_takesAway, Cond.code yX2_takesAway cX2_takesAway 2 none, Cond.methodLink RX2 59 yX2_bits, Cond.static yX2_bits, Cond.code yX2_bits cX2_bits 3 (some .int), Cond.methodLink RL 32 yX1_give, Cond.instanceMethod yX1_give, Cond.selects RX1 yX1_give yX1_give, Cond.code yX1_give cX1_give 3 (some .int), Cond.methodLink RX1 83 yX1_isCorner, Cond.static yX1_isCorner, Cond.code yX1_isCorner cX1_isCorner 1 (some .boolean), Cond.methodLink RX1 86 yX0_refusal, Cond.instanceMethod yX0_refusal, Cond.selects RX0 yX0_refusal yX0_refusal, Cond.code yX0_refusal cX0_refusal 3 (some .int)]
def wsL_law_r11 : List Cond := [Cond.methodLink RX0 97 yX0_nearPuns, Cond.instanceMethod yX0_nearPuns, Cond.selects RX0 yX0_nearPuns yX0_nearPuns, Cond.code yX0_nearPuns cX0_nearPuns 4 (some .int), Cond.methodLink RX0 91 yX0_isPun, Cond.instanceMethod yX0_isPun, Cond.selects RX0 yX0_isPun yX0_isPun, Cond.code yX0_isPun cX0_isPun 3 (some .boolean), Cond.methodLink RX0 94 yX0_hasName, Cond.methodLink RX0 107 yX0_around, Cond.instanceMethod yX0_around, Cond.selects RX0 yX0_around yX0_around, Cond.code yX0_around cX0_around 6 (some .int), Cond.methodLink RX0 110 Lib.Math.max.name, Cond.static Lib.Math.max.name, Cond.code Lib.Math.max.name Lib.Math.max.code 2 (some .int), Cond.methodLink RX0 115 Lib.Math.min.name, Cond.methodLink RX0 100 yX0_reason, Cond.instanceMethod yX0_reason, Cond.selects RX0 yX0_reason yX0_reason, Cond.code yX0_reason cX0_reason 6 (some .int), Cond.fieldLink RX0 104 "PunCourts$Court" "days" "I", Cond.methodLink RX1 90 yX0_place, Cond.instanceMethod yX0_place]
def wsL_law_r12 : List Cond := [Cond.selects RX0 yX0_place yX0_place, Cond.code yX0_place cX0_place 3 none, Cond.methodLink RL 35 yX2_give, Cond.instanceMethod yX2_give, Cond.selects RX2 yX2_give yX2_give, Cond.code yX2_give cX2_give 3 (some .int), Cond.methodLink RX2 112 yX2_isCorner, Cond.static yX2_isCorner, Cond.code yX2_isCorner cX2_isCorner 1 (some .boolean), Cond.methodLink RX2 69 yX2_reason, Cond.instanceMethod yX2_reason, Cond.selects RX2 yX2_reason yX2_reason, Cond.code yX2_reason cX2_reason 4 (some .int), Cond.methodLink RX2 62 yX2_isPun, Cond.instanceMethod yX2_isPun, Cond.selects RX2 yX2_isPun yX2_isPun, Cond.code yX2_isPun cX2_isPun 6 (some .boolean), Cond.methodLink RX2 55 yX2_soundAlike, Cond.instanceMethod yX2_soundAlike, Cond.selects RX2 yX2_soundAlike yX2_soundAlike, Cond.code yX2_soundAlike cX2_soundAlike 3 (some .boolean), Cond.methodLink RX2 85 yX2_gives, Cond.instanceMethod yX2_gives, Cond.selects RX2 yX2_gives yX2_gives]
def wsL_law_r13 : List Cond := [Cond.code yX2_gives cX2_gives 3 none, Cond.methodLink RL 36 yX1_strip, Cond.instanceMethod yX1_strip, Cond.selects RX1 yX1_strip yX1_strip, Cond.code yX1_strip cX1_strip 3 (some .int), Cond.methodLink RX1 100 yX0_bare, Cond.methodLink RL 39 yX2_strip, Cond.instanceMethod yX2_strip, Cond.selects RX2 yX2_strip yX2_strip, Cond.code yX2_strip cX2_strip 3 (some .int), Cond.methodLink RL 40 yX1_issue, Cond.instanceMethod yX1_issue, Cond.selects RX1 yX1_issue yX1_issue, Cond.code yX1_issue cX1_issue 2 (some .int), Cond.methodLink RX1 104 yX0_wrongOnMap, Cond.instanceMethod yX0_wrongOnMap, Cond.selects RX0 yX0_wrongOnMap yX0_wrongOnMap, Cond.code yX0_wrongOnMap cX0_wrongOnMap 3 (some .int), Cond.fieldLink RX0 140 "PunCourts$Court" "mapIssued" "Z", Cond.methodLink RX1 107 yX0_drawMap, Cond.instanceMethod yX0_drawMap, Cond.selects RX0 yX0_drawMap yX0_drawMap, Cond.code yX0_drawMap cX0_drawMap 1 none, Cond.methodLink RL 43 yX2_issue]
def wsL_law_r14 : List Cond := [Cond.instanceMethod yX2_issue, Cond.selects RX2 yX2_issue yX2_issue, Cond.code yX2_issue cX2_issue 3 (some .int), Cond.methodLink RX2 115 yX2_wrongCorners, Cond.instanceMethod yX2_wrongCorners, Cond.selects RX2 yX2_wrongCorners yX2_wrongCorners, Cond.code yX2_wrongCorners cX2_wrongCorners 3 (some .int), Cond.methodLink RL 44 yX1_pass, Cond.instanceMethod yX1_pass, Cond.selects RX1 yX1_pass yX1_pass, Cond.code yX1_pass cX1_pass 2 (some .int), Cond.methodLink RX1 113 yX0_live, Cond.instanceMethod yX0_live, Cond.selects RX0 yX0_live yX0_live, Cond.code yX0_live cX0_live 4 (some .int), Cond.methodLink RX0 122 yX0_giveFromQueue, Cond.instanceMethod yX0_giveFromQueue, Cond.selects RX0 yX0_giveFromQueue yX0_giveFromQueue, Cond.code yX0_giveFromQueue cX0_giveFromQueue 4 (some .boolean), Cond.methodLink RX0 87 yX0_waits, Cond.instanceMethod yX0_waits, Cond.selects RX0 yX0_waits yX0_waits, Cond.code yX0_waits cX0_waits 2 (some .boolean), Cond.methodLink RX0 84 yX0_whereIs]
def wsL_law_r15 : List Cond := [Cond.instanceMethod yX0_whereIs, Cond.selects RX0 yX0_whereIs yX0_whereIs, Cond.code yX0_whereIs cX0_whereIs 2 (some .int), Cond.methodLink RX0 129 yX0_lowestFree, Cond.instanceMethod yX0_lowestFree, Cond.selects RX0 yX0_lowestFree yX0_lowestFree, Cond.code yX0_lowestFree cX0_lowestFree 5 (some .int), Cond.methodLink RX0 132 yX0_place, Cond.methodLink RX0 126 yX0_setUpPosts, Cond.instanceMethod yX0_setUpPosts, Cond.selects RX0 yX0_setUpPosts yX0_setUpPosts, Cond.code yX0_setUpPosts cX0_setUpPosts 3 none, Cond.methodLink RX0 136 yX0_mostOwing, Cond.instanceMethod yX0_mostOwing, Cond.selects RX0 yX0_mostOwing yX0_mostOwing, Cond.code yX0_mostOwing cX0_mostOwing 3 (some .int), Cond.methodLink RL 47 yX2_pass, Cond.instanceMethod yX2_pass, Cond.selects RX2 yX2_pass yX2_pass, Cond.code yX2_pass cX2_pass 4 (some .int), Cond.constantLong RX2 118 (99), Cond.methodLink RX2 120 yX2_day, Cond.instanceMethod yX2_day, Cond.selects RX2 yX2_day yX2_day]
def wsL_law_r16 : List Cond := [Cond.code yX2_day cX2_day 3 none, Cond.methodLink RX2 81 yX2_nextGiven, Cond.instanceMethod yX2_nextGiven, Cond.selects RX2 yX2_nextGiven yX2_nextGiven, Cond.code yX2_nextGiven cX2_nextGiven 4 (some .int), Cond.methodLink RX2 72 yX2_whereIs, Cond.instanceMethod yX2_whereIs, Cond.selects RX2 yX2_whereIs yX2_whereIs, Cond.code yX2_whereIs cX2_whereIs 2 (some .int), Cond.methodLink RX2 75 yX2_comesFirst, Cond.instanceMethod yX2_comesFirst, Cond.selects RX2 yX2_comesFirst yX2_comesFirst, Cond.code yX2_comesFirst cX2_comesFirst 3 (some .boolean), Cond.methodLink RX2 78 yX2_lowest, Cond.instanceMethod yX2_lowest, Cond.selects RX2 yX2_lowest yX2_lowest, Cond.code yX2_lowest cX2_lowest 3 (some .int), Cond.methodLink RX2 89 yX2_setsUp, Cond.instanceMethod yX2_setsUp, Cond.selects RX2 yX2_setsUp yX2_setsUp, Cond.code yX2_setsUp cX2_setsUp 3 none, Cond.methodLink RL 48 yX1_name, Cond.instanceMethod yX1_name, Cond.selects RX1 yX1_name yX1_name]
def wsL_law_r17 : List Cond := [Cond.code yX1_name cX1_name 3 (some .int), Cond.methodLink RX1 116 yX0_whereIs, Cond.methodLink RX1 119 yX0_bearerSet, Cond.instanceMethod yX0_bearerSet, Cond.selects RX0 yX0_bearerSet yX0_bearerSet, Cond.code yX0_bearerSet cX0_bearerSet 4 (some .int), Cond.methodLink RX1 122 yX0_placeInQueue, Cond.instanceMethod yX0_placeInQueue, Cond.selects RX0 yX0_placeInQueue yX0_placeInQueue, Cond.code yX0_placeInQueue cX0_placeInQueue 5 (some .int), Cond.methodLink RL 51 yX2_name, Cond.instanceMethod yX2_name, Cond.selects RX2 yX2_name yX2_name, Cond.code yX2_name cX2_name 3 (some .int), Cond.methodLink RX2 123 yX2_placeOf, Cond.instanceMethod yX2_placeOf, Cond.selects RX2 yX2_placeOf yX2_placeOf, Cond.code yX2_placeOf cX2_placeOf 4 (some .int), Cond.methodLink RL 52 yX1_alike, Cond.instanceMethod yX1_alike, Cond.selects RX1 yX1_alike yX1_alike, Cond.code yX1_alike cX1_alike 4 (some .int), Cond.methodLink RX1 134 yX0_alikeByLetters, Cond.instanceMethod yX0_alikeByLetters]
def wsL_law_r18 : List Cond := [Cond.selects RX0 yX0_alikeByLetters yX0_alikeByLetters, Cond.code yX0_alikeByLetters cX0_alikeByLetters 6 (some .boolean), Cond.methodLink RX0 74 yX0_nextHeard, Cond.instanceMethod yX0_nextHeard, Cond.selects RX0 yX0_nextHeard yX0_nextHeard, Cond.code yX0_nextHeard cX0_nextHeard 4 (some .int), Cond.methodLink RX0 77 yX0_isHeard, Cond.instanceMethod yX0_isHeard, Cond.selects RX0 yX0_isHeard yX0_isHeard, Cond.code yX0_isHeard cX0_isHeard 6 (some .boolean), Cond.methodLink RL 56 yX2_alike, Cond.instanceMethod yX2_alike, Cond.selects RX2 yX2_alike yX2_alike, Cond.code yX2_alike cX2_alike 4 (some .int), Cond.methodLink RL 57 yX1_corner, Cond.instanceMethod yX1_corner, Cond.selects RX1 yX1_corner yX1_corner, Cond.code yX1_corner cX1_corner 3 (some .int), Cond.methodLink RL 60 yX2_corner, Cond.instanceMethod yX2_corner, Cond.selects RX2 yX2_corner yX2_corner, Cond.code yX2_corner cX2_corner 3 (some .int), Cond.constantLong RX2 126 (5), Cond.methodLink RL 61 yX1_why]
def wsL_law_r19 : List Cond := [Cond.instanceMethod yX1_why, Cond.selects RX1 yX1_why yX1_why, Cond.code yX1_why cX1_why 3 (some .int), Cond.methodLink RL 64 yX2_why, Cond.instanceMethod yX2_why, Cond.selects RX2 yX2_why yX2_why, Cond.code yX2_why cX2_why 3 (some .int), Cond.methodLink RL 65 yX1_count, Cond.instanceMethod yX1_count, Cond.selects RX1 yX1_count yX1_count, Cond.code yX1_count cX1_count 2 (some .int), Cond.methodLink RX1 154 yX0_waitingNames, Cond.instanceMethod yX0_waitingNames, Cond.selects RX0 yX0_waitingNames yX0_waitingNames, Cond.code yX0_waitingNames cX0_waitingNames 3 (some .int), Cond.methodLink RX1 157 yX0_bearingCorners, Cond.instanceMethod yX0_bearingCorners, Cond.selects RX0 yX0_bearingCorners yX0_bearingCorners, Cond.code yX0_bearingCorners cX0_bearingCorners 1 (some .int), Cond.methodLink RX1 160 yX1_sum, Cond.static yX1_sum, Cond.code yX1_sum cX1_sum 3 (some .int), Cond.methodLink RX1 164 yX0_punPairs, Cond.instanceMethod yX0_punPairs]
def wsL_law_r20 : List Cond := [Cond.selects RX0 yX0_punPairs yX0_punPairs, Cond.code yX0_punPairs cX0_punPairs 4 (some .int), Cond.methodLink RL 68 yX2_count, Cond.instanceMethod yX2_count, Cond.selects RX2 yX2_count yX2_count, Cond.code yX2_count cX2_count 2 (some .int), Cond.methodLink RX2 128 yX2_waiting, Cond.instanceMethod yX2_waiting, Cond.selects RX2 yX2_waiting yX2_waiting, Cond.code yX2_waiting cX2_waiting 3 (some .int), Cond.methodLink RX2 131 yX2_named, Cond.instanceMethod yX2_named, Cond.selects RX2 yX2_named yX2_named, Cond.code yX2_named cX2_named 3 (some .int), Cond.methodLink RX2 134 yX2_sum, Cond.instanceMethod yX2_sum, Cond.selects RX2 yX2_sum yX2_sum, Cond.code yX2_sum cX2_sum 4 (some .int), Cond.methodLink RX2 137 yX2_punPairs, Cond.instanceMethod yX2_punPairs, Cond.selects RX2 yX2_punPairs yX2_punPairs, Cond.code yX2_punPairs cX2_punPairs 6 (some .int), Cond.methodLink RL 69 yX1_bestCorner, Cond.instanceMethod yX1_bestCorner]
def wsL_law_r21 : List Cond := [Cond.selects RX1 yX1_bestCorner yX1_bestCorner, Cond.code yX1_bestCorner cX1_bestCorner 2 (some .int), Cond.methodLink RX1 170 yX0_lowestFree, Cond.methodLink RL 72 yX2_bestCorner, Cond.instanceMethod yX2_bestCorner, Cond.selects RX2 yX2_bestCorner yX2_bestCorner, Cond.code yX2_bestCorner cX2_bestCorner 2 (some .int), Cond.methodLink RL 73 yX1_untilBorne, Cond.instanceMethod yX1_untilBorne, Cond.selects RX1 yX1_untilBorne yX1_untilBorne, Cond.code yX1_untilBorne cX1_untilBorne 3 (some .int), Cond.methodLink RX1 173 yX0_bearers, Cond.methodLink RL 76 yX2_untilBorne, Cond.instanceMethod yX2_untilBorne, Cond.selects RX2 yX2_untilBorne yX2_untilBorne, Cond.code yX2_untilBorne cX2_untilBorne 2 (some .int), Cond.methodLink RX2 149 yX2_until, Cond.instanceMethod yX2_until, Cond.selects RX2 yX2_until yX2_until, Cond.code yX2_until cX2_until 3 (some .int), Cond.methodLink RX2 143 yX2_keeps, Cond.instanceMethod yX2_keeps, Cond.selects RX2 yX2_keeps yX2_keeps, Cond.code yX2_keeps cX2_keeps 2 none]
def wsL_law_r22 : List Cond := [Cond.methodLink RX2 146 yX2_comesBack, Cond.instanceMethod yX2_comesBack, Cond.selects RX2 yX2_comesBack yX2_comesBack, Cond.code yX2_comesBack cX2_comesBack 2 none, Cond.methodLink RL 77 yX1_untilPosted, Cond.instanceMethod yX1_untilPosted, Cond.selects RX1 yX1_untilPosted yX1_untilPosted, Cond.code yX1_untilPosted cX1_untilPosted 2 (some .int), Cond.methodLink RL 80 yX2_untilPosted, Cond.instanceMethod yX2_untilPosted, Cond.selects RX2 yX2_untilPosted yX2_untilPosted, Cond.code yX2_untilPosted cX2_untilPosted 1 (some .int), Cond.methodLink RL 81 yX1_ifPassed, Cond.instanceMethod yX1_ifPassed, Cond.selects RX1 yX1_ifPassed yX1_ifPassed, Cond.code yX1_ifPassed cX1_ifPassed 4 (some .int), Cond.methodLink RL 84 yX2_ifPassed, Cond.instanceMethod yX2_ifPassed, Cond.selects RX2 yX2_ifPassed yX2_ifPassed, Cond.code yX2_ifPassed cX2_ifPassed 4 (some .int), Cond.constantLong RX2 152 (300), Cond.constantLong RX2 154 (2), Cond.methodLink RL 87 yX1_put, Cond.instanceMethod yX1_put]
def wsL_law_r23 : List Cond := [Cond.selects RX1 yX1_put yX1_put, Cond.code yX1_put cX1_put 5 (some .int), Cond.methodLink RX1 180 yX1_charactersIn, Cond.static yX1_charactersIn, Cond.code yX1_charactersIn cX1_charactersIn 4 (some .int), Cond.methodLink RX1 184 yX1_codeAt, Cond.static yX1_codeAt, Cond.code yX1_codeAt cX1_codeAt 3 (some .int), Cond.constantLong RX1 216 (255), Cond.methodLink RX1 188 yX1_append, Cond.instanceMethod yX1_append, Cond.selects RX1 yX1_append yX1_append, Cond.code yX1_append cX1_append 2 none, Cond.methodLink RL 91 yX2_put, Cond.instanceMethod yX2_put, Cond.selects RX2 yX2_put yX2_put, Cond.code yX2_put cX2_put 5 (some .int), Cond.constantLong RX2 156 (255), Cond.methodLink RX2 162 yX2_charactersOf, Cond.static yX2_charactersOf, Cond.code yX2_charactersOf cX2_charactersOf 5 (some .int), Cond.constantLong RX2 158 (33), Cond.constantLong RX2 160 (126), Cond.methodLink RL 92 yX1_wipe]
def wsL_law_r24 : List Cond := [Cond.instanceMethod yX1_wipe, Cond.selects RX1 yX1_wipe yX1_wipe, Cond.code yX1_wipe cX1_wipe 2 (some .int), Cond.methodLink RL 95 yX2_wipe, Cond.instanceMethod yX2_wipe, Cond.selects RX2 yX2_wipe yX2_wipe, Cond.code yX2_wipe cX2_wipe 2 (some .int), Cond.methodLink RL 96 yX1_fault, Cond.instanceMethod yX1_fault, Cond.selects RX1 yX1_fault yX1_fault, Cond.code yX1_fault cX1_fault 1 (some .int), Cond.methodLink RL 99 yX2_fault, Cond.methodLink RL 100 yX1_undo, Cond.instanceMethod yX1_undo, Cond.selects RX1 yX1_undo yX1_undo, Cond.code yX1_undo cX1_undo 1 (some .int), Cond.methodLink RL 103 yX2_undo, Cond.instanceMethod yX2_undo, Cond.selects RX2 yX2_undo yX2_undo, Cond.code yX2_undo cX2_undo 2 (some .int), Cond.methodLink RL 104 yX1_save, Cond.instanceMethod yX1_save, Cond.selects RX1 yX1_save yX1_save, Cond.code yX1_save cX1_save 2 (some .int)]
def wsL_law_r25 : List Cond := [Cond.methodLink RX1 192 yX1_isSlot, Cond.static yX1_isSlot, Cond.code yX1_isSlot cX1_isSlot 1 (some .boolean), Cond.methodLink RL 107 yX2_save, Cond.instanceMethod yX2_save, Cond.selects RX2 yX2_save yX2_save, Cond.code yX2_save cX2_save 3 (some .int), Cond.methodLink RX2 188 yX2_isSlot, Cond.static yX2_isSlot, Cond.code yX2_isSlot cX2_isSlot 1 (some .boolean), Cond.methodLink RL 108 yX1_restore, Cond.instanceMethod yX1_restore, Cond.selects RX1 yX1_restore yX1_restore, Cond.code yX1_restore cX1_restore 2 (some .int), Cond.methodLink RL 111 yX2_restore, Cond.instanceMethod yX2_restore, Cond.selects RX2 yX2_restore yX2_restore, Cond.code yX2_restore cX2_restore 3 (some .int)]
def wsL_law : List Cond := (wsL_law_r1 ++ (wsL_law_r2 ++ (wsL_law_r3 ++ (wsL_law_r4 ++ (wsL_law_r5 ++ (wsL_law_r6 ++ (wsL_law_r7 ++ (wsL_law_r8 ++ (wsL_law_r9 ++ (wsL_law_r10 ++ (wsL_law_r11 ++ (wsL_law_r12 ++ (wsL_law_r13 ++ (wsL_law_r14 ++ (wsL_law_r15 ++ (wsL_law_r16 ++ (wsL_law_r17 ++ (wsL_law_r18 ++ (wsL_law_r19 ++ (wsL_law_r20 ++ (wsL_law_r21 ++ (wsL_law_r22 ++ (wsL_law_r23 ++ (wsL_law_r24 ++ wsL_law_r25)))))))))))))))))))))))) ++ wsX10 ++ wsX20 ++ wsX00 ++ ([] : List Cond)
end
section
set_option maxRecDepth 20000 in
theorem lwi_1 : ∀ w ∈ wsL_law_r1, w ∈ lw_tbl := fun w h => (goodIn_p wsL_law_r1 [53, 56] (by decide +kernel) (by decide +kernel) w h).1
set_option maxRecDepth 20000 in
theorem lwi_2 : ∀ w ∈ wsL_law_r2, w ∈ lw_tbl := fun w h => (goodIn_p wsL_law_r2 [61, 441] (by decide +kernel) (by decide +kernel) w h).1
set_option maxRecDepth 20000 in
theorem lwi_3 : ∀ w ∈ wsL_law_r3, w ∈ lw_tbl := fun w h => (goodIn_p wsL_law_r3 [160, 168, 171] (by decide +kernel) (by decide +kernel) w h).1
set_option maxRecDepth 20000 in
theorem lwi_4 : ∀ w ∈ wsL_law_r4, w ∈ lw_tbl := fun w h => (goodIn_p wsL_law_r4 [177, 174] (by decide +kernel) (by decide +kernel) w h).1
set_option maxRecDepth 20000 in
theorem lwi_5 : ∀ w ∈ wsL_law_r5, w ∈ lw_tbl := fun w h => (goodIn_p wsL_law_r5 [486, 489, 493, 500, 184] (by decide +kernel) (by decide +kernel) w h).1
set_option maxRecDepth 20000 in
theorem lwi_6 : ∀ w ∈ wsL_law_r6, w ∈ lw_tbl := fun w h => (goodIn_p wsL_law_r6 [188, 191, 194, 198, 202, 207] (by decide +kernel) (by decide +kernel) w h).1
set_option maxRecDepth 20000 in
theorem lwi_7 : ∀ w ∈ wsL_law_r7, w ∈ lw_tbl := fun w h => (goodIn_p wsL_law_r7 [211, 703, 684, 688, 692] (by decide +kernel) (by decide +kernel) w h).1
set_option maxRecDepth 20000 in
theorem lwi_8 : ∀ w ∈ wsL_law_r8, w ∈ lw_tbl := fun w h => (goodIn_p wsL_law_r8 [696, 699, 516, 217, 221, 504] (by decide +kernel) (by decide +kernel) w h).1
set_option maxRecDepth 20000 in
theorem lwi_9 : ∀ w ∈ wsL_law_r9, w ∈ lw_tbl := fun w h => (goodIn_p wsL_law_r9 [508, 512, 225, 229, 233, 237] (by decide +kernel) (by decide +kernel) w h).1
set_option maxRecDepth 20000 in
theorem lwi_10 : ∀ w ∈ wsL_law_r10, w ∈ lw_tbl := fun w h => (goodIn_p wsL_law_r10 [520, 524, 528, 531, 241, 244, 248] (by decide +kernel) (by decide +kernel) w h).1
set_option maxRecDepth 20000 in
theorem lwi_11 : ∀ w ∈ wsL_law_r11, w ∈ lw_tbl := fun w h => (goodIn_p wsL_law_r11 [252, 256, 261, 264, 269] (by decide +kernel) (by decide +kernel) w h).1
set_option maxRecDepth 20000 in
theorem lwi_12 : ∀ w ∈ wsL_law_r12, w ∈ lw_tbl := fun w h => (goodIn_p wsL_law_r12 [273, 535, 538, 542, 546, 550] (by decide +kernel) (by decide +kernel) w h).1
set_option maxRecDepth 20000 in
theorem lwi_13 : ∀ w ∈ wsL_law_r13, w ∈ lw_tbl := fun w h => (goodIn_p wsL_law_r13 [554, 277, 558, 282, 286, 290] (by decide +kernel) (by decide +kernel) w h).1
set_option maxRecDepth 20000 in
theorem lwi_14 : ∀ w ∈ wsL_law_r14, w ∈ lw_tbl := fun w h => (goodIn_p wsL_law_r14 [562, 566, 295, 299, 303, 307] (by decide +kernel) (by decide +kernel) w h).1
set_option maxRecDepth 20000 in
theorem lwi_15 : ∀ w ∈ wsL_law_r15, w ∈ lw_tbl := fun w h => (goodIn_p wsL_law_r15 [311, 315, 320, 324, 570] (by decide +kernel) (by decide +kernel) w h).1
set_option maxRecDepth 20000 in
theorem lwi_16 : ∀ w ∈ wsL_law_r16, w ∈ lw_tbl := fun w h => (goodIn_p wsL_law_r16 [575, 579, 583, 587, 591, 595] (by decide +kernel) (by decide +kernel) w h).1
set_option maxRecDepth 20000 in
theorem lwi_17 : ∀ w ∈ wsL_law_r17, w ∈ lw_tbl := fun w h => (goodIn_p wsL_law_r17 [328, 333, 337, 599, 603, 341] (by decide +kernel) (by decide +kernel) w h).1
set_option maxRecDepth 20000 in
theorem lwi_18 : ∀ w ∈ wsL_law_r18, w ∈ lw_tbl := fun w h => (goodIn_p wsL_law_r18 [345, 349, 353, 607, 357, 611] (by decide +kernel) (by decide +kernel) w h).1
set_option maxRecDepth 20000 in
theorem lwi_19 : ∀ w ∈ wsL_law_r19, w ∈ lw_tbl := fun w h => (goodIn_p wsL_law_r19 [361, 616, 365, 369, 373, 376] (by decide +kernel) (by decide +kernel) w h).1
set_option maxRecDepth 20000 in
theorem lwi_20 : ∀ w ∈ wsL_law_r20, w ∈ lw_tbl := fun w h => (goodIn_p wsL_law_r20 [380, 620, 624, 628, 632, 636] (by decide +kernel) (by decide +kernel) w h).1
set_option maxRecDepth 20000 in
theorem lwi_21 : ∀ w ∈ wsL_law_r21, w ∈ lw_tbl := fun w h => (goodIn_p wsL_law_r21 [384, 640, 389, 644, 648, 652] (by decide +kernel) (by decide +kernel) w h).1
set_option maxRecDepth 20000 in
theorem lwi_22 : ∀ w ∈ wsL_law_r22, w ∈ lw_tbl := fun w h => (goodIn_p wsL_law_r22 [656, 394, 660, 398, 664] (by decide +kernel) (by decide +kernel) w h).1
set_option maxRecDepth 20000 in
theorem lwi_23 : ∀ w ∈ wsL_law_r23, w ∈ lw_tbl := fun w h => (goodIn_p wsL_law_r23 [402, 405, 408, 413, 670, 673] (by decide +kernel) (by decide +kernel) w h).1
set_option maxRecDepth 20000 in
theorem lwi_24 : ∀ w ∈ wsL_law_r24, w ∈ lw_tbl := fun w h => (goodIn_p wsL_law_r24 [417, 680, 421, 425, 708, 429] (by decide +kernel) (by decide +kernel) w h).1
set_option maxRecDepth 20000 in
theorem lwi_25 : ∀ w ∈ wsL_law_r25, w ∈ lw_tbl := fun w h => (goodIn_p wsL_law_r25 [432, 712, 715, 436, 719] (by decide +kernel) (by decide +kernel) w h).1
set_option maxRecDepth 20000 in
theorem lwx_1 : ∀ w ∈ wsX10, w ∈ lw_tbl := fun w h => (goodIn_of wsX10 (by decide +kernel) w h).1
set_option maxRecDepth 20000 in
theorem lwx_2 : ∀ w ∈ wsX20, w ∈ lw_tbl := fun w h => (goodIn_of wsX20 (by decide +kernel) w h).1
set_option maxRecDepth 20000 in
theorem lwx_0 : ∀ w ∈ wsX00, w ∈ lw_tbl := fun w h => (goodIn_of wsX00 (by decide +kernel) w h).1
theorem lwi_all : ∀ w ∈ (wsL_law_r1 ++ (wsL_law_r2 ++ (wsL_law_r3 ++ (wsL_law_r4 ++ (wsL_law_r5 ++ (wsL_law_r6 ++ (wsL_law_r7 ++ (wsL_law_r8 ++ (wsL_law_r9 ++ (wsL_law_r10 ++ (wsL_law_r11 ++ (wsL_law_r12 ++ (wsL_law_r13 ++ (wsL_law_r14 ++ (wsL_law_r15 ++ (wsL_law_r16 ++ (wsL_law_r17 ++ (wsL_law_r18 ++ (wsL_law_r19 ++ (wsL_law_r20 ++ (wsL_law_r21 ++ (wsL_law_r22 ++ (wsL_law_r23 ++ (wsL_law_r24 ++ wsL_law_r25)))))))))))))))))))))))), w ∈ lw_tbl := List.forall_mem_append.mpr ⟨lwi_1, List.forall_mem_append.mpr ⟨lwi_2, List.forall_mem_append.mpr ⟨lwi_3, List.forall_mem_append.mpr ⟨lwi_4, List.forall_mem_append.mpr ⟨lwi_5, List.forall_mem_append.mpr ⟨lwi_6, List.forall_mem_append.mpr ⟨lwi_7, List.forall_mem_append.mpr ⟨lwi_8, List.forall_mem_append.mpr ⟨lwi_9, List.forall_mem_append.mpr ⟨lwi_10, List.forall_mem_append.mpr ⟨lwi_11, List.forall_mem_append.mpr ⟨lwi_12, List.forall_mem_append.mpr ⟨lwi_13, List.forall_mem_append.mpr ⟨lwi_14, List.forall_mem_append.mpr ⟨lwi_15, List.forall_mem_append.mpr ⟨lwi_16, List.forall_mem_append.mpr ⟨lwi_17, List.forall_mem_append.mpr ⟨lwi_18, List.forall_mem_append.mpr ⟨lwi_19, List.forall_mem_append.mpr ⟨lwi_20, List.forall_mem_append.mpr ⟨lwi_21, List.forall_mem_append.mpr ⟨lwi_22, List.forall_mem_append.mpr ⟨lwi_23, List.forall_mem_append.mpr ⟨lwi_24, lwi_25⟩⟩⟩⟩⟩⟩⟩⟩⟩⟩⟩⟩⟩⟩⟩⟩⟩⟩⟩⟩⟩⟩⟩⟩
theorem wsL_law_in : ∀ w ∈ wsL_law, w ∈ lw_tbl := List.forall_mem_append.mpr ⟨List.forall_mem_append.mpr ⟨List.forall_mem_append.mpr ⟨List.forall_mem_append.mpr ⟨lwi_all, lwx_1⟩, lwx_2⟩, lwx_0⟩, fun _ h => absurd h List.not_mem_nil⟩
theorem inlX0 : ∀ w ∈ wsX00, w ∈ wsL_law := fun _ h => List.mem_append_left _ (List.mem_append_right _ h)
theorem inX0 : ∀ w ∈ wsX00, w ∈ lw_tbl := fun w h => wsL_law_in w (inlX0 w h)
theorem inlX1 : ∀ w ∈ wsX10, w ∈ wsL_law := fun _ h => List.mem_append_left _ (List.mem_append_left _ (List.mem_append_left _ (List.mem_append_right _ h)))
theorem inX1 : ∀ w ∈ wsX10, w ∈ lw_tbl := fun w h => wsL_law_in w (inlX1 w h)
theorem inlX2 : ∀ w ∈ wsX20, w ∈ wsL_law := fun _ h => List.mem_append_left _ (List.mem_append_left _ (List.mem_append_right _ h))
theorem inX2 : ∀ w ∈ wsX20, w ∈ lw_tbl := fun w h => wsL_law_in w (inlX2 w h)
theorem inJ9 : ∀ w ∈ wsJ90, w ∈ lw_tbl := by decide +kernel
theorem inJ10 : ∀ w ∈ wsJ100, w ∈ lw_tbl := by decide +kernel
end
section
theorem dX0_init_0 : decode cX0_init 0 = .ok (.aload_n 0, 1) := by decide +kernel
theorem dX0_init_1 : decode cX0_init 1 = .ok (.invokespecial 3, 3) := by decide +kernel
theorem dX0_init_4 : decode cX0_init 4 = .ok (.aload_n 0, 1) := by decide +kernel
theorem dX0_init_5 : decode cX0_init 5 = .ok (.iconst 4, 1) := by decide +kernel
theorem dX0_init_6 : decode cX0_init 6 = .ok (.newarray .int, 2) := by decide +kernel
theorem dX0_init_8 : decode cX0_init 8 = .ok (.dup, 1) := by decide +kernel
theorem dX0_init_9 : decode cX0_init 9 = .ok (.iconst 0, 1) := by decide +kernel
theorem dX0_init_10 : decode cX0_init 10 = .ok (.iconst 3, 1) := by decide +kernel
theorem dX0_init_11 : decode cX0_init 11 = .ok (.iastore, 1) := by decide +kernel
theorem dX0_init_12 : decode cX0_init 12 = .ok (.dup, 1) := by decide +kernel
theorem dX0_init_13 : decode cX0_init 13 = .ok (.iconst 1, 1) := by decide +kernel
theorem dX0_init_14 : decode cX0_init 14 = .ok (.iconst 2, 1) := by decide +kernel
theorem dX0_init_15 : decode cX0_init 15 = .ok (.iastore, 1) := by decide +kernel
theorem dX0_init_16 : decode cX0_init 16 = .ok (.dup, 1) := by decide +kernel
theorem dX0_init_17 : decode cX0_init 17 = .ok (.iconst 2, 1) := by decide +kernel
theorem dX0_init_18 : decode cX0_init 18 = .ok (.iconst 2, 1) := by decide +kernel
theorem dX0_init_19 : decode cX0_init 19 = .ok (.iastore, 1) := by decide +kernel
theorem dX0_init_20 : decode cX0_init 20 = .ok (.dup, 1) := by decide +kernel
theorem dX0_init_21 : decode cX0_init 21 = .ok (.iconst 3, 1) := by decide +kernel
theorem dX0_init_22 : decode cX0_init 22 = .ok (.bipush 10, 2) := by decide +kernel
theorem dX0_init_24 : decode cX0_init 24 = .ok (.iastore, 1) := by decide +kernel
theorem dX0_init_25 : decode cX0_init 25 = .ok (.putfield 9, 3) := by decide +kernel
theorem dX0_init_28 : decode cX0_init 28 = .ok (.aload_n 0, 1) := by decide +kernel
theorem dX0_init_29 : decode cX0_init 29 = .ok (.sipush 180, 3) := by decide +kernel
theorem dX0_init_32 : decode cX0_init 32 = .ok (.newarray .char, 2) := by decide +kernel
theorem dX0_init_34 : decode cX0_init 34 = .ok (.putfield 15, 3) := by decide +kernel
theorem dX0_init_37 : decode cX0_init 37 = .ok (.aload_n 0, 1) := by decide +kernel
theorem dX0_init_38 : decode cX0_init 38 = .ok (.bipush 20, 2) := by decide +kernel
theorem dX0_init_40 : decode cX0_init 40 = .ok (.newarray .int, 2) := by decide +kernel
theorem dX0_init_42 : decode cX0_init 42 = .ok (.putfield 19, 3) := by decide +kernel
theorem dX0_init_45 : decode cX0_init 45 = .ok (.aload_n 0, 1) := by decide +kernel
theorem dX0_init_46 : decode cX0_init 46 = .ok (.bipush 20, 2) := by decide +kernel
theorem dX0_init_48 : decode cX0_init 48 = .ok (.newarray .int, 2) := by decide +kernel
theorem dX0_init_50 : decode cX0_init 50 = .ok (.putfield 22, 3) := by decide +kernel
theorem dX0_init_53 : decode cX0_init 53 = .ok (.aload_n 0, 1) := by decide +kernel
theorem dX0_init_54 : decode cX0_init 54 = .ok (.bipush 20, 2) := by decide +kernel
theorem dX0_init_56 : decode cX0_init 56 = .ok (.newarray .int, 2) := by decide +kernel
theorem dX0_init_58 : decode cX0_init 58 = .ok (.putfield 25, 3) := by decide +kernel
theorem dX0_init_61 : decode cX0_init 61 = .ok (.aload_n 0, 1) := by decide +kernel
theorem dX0_init_62 : decode cX0_init 62 = .ok (.bipush 20, 2) := by decide +kernel
theorem dX0_init_64 : decode cX0_init 64 = .ok (.newarray .boolean, 2) := by decide +kernel
theorem dX0_init_66 : decode cX0_init 66 = .ok (.putfield 28, 3) := by decide +kernel
theorem dX0_init_69 : decode cX0_init 69 = .ok (.aload_n 0, 1) := by decide +kernel
theorem dX0_init_70 : decode cX0_init 70 = .ok (.bipush 20, 2) := by decide +kernel
theorem dX0_init_72 : decode cX0_init 72 = .ok (.newarray .int, 2) := by decide +kernel
theorem dX0_init_74 : decode cX0_init 74 = .ok (.putfield 32, 3) := by decide +kernel
theorem dX0_init_77 : decode cX0_init 77 = .ok (.aload_n 0, 1) := by decide +kernel
theorem dX0_init_78 : decode cX0_init 78 = .ok (.bipush 12, 2) := by decide +kernel
theorem dX0_init_80 : decode cX0_init 80 = .ok (.newarray .int, 2) := by decide +kernel
theorem dX0_init_82 : decode cX0_init 82 = .ok (.putfield 35, 3) := by decide +kernel
theorem dX0_init_85 : decode cX0_init 85 = .ok (.aload_n 0, 1) := by decide +kernel
theorem dX0_init_86 : decode cX0_init 86 = .ok (.bipush 12, 2) := by decide +kernel
theorem dX0_init_88 : decode cX0_init 88 = .ok (.newarray .int, 2) := by decide +kernel
theorem dX0_init_90 : decode cX0_init 90 = .ok (.putfield 38, 3) := by decide +kernel
theorem dX0_init_93 : decode cX0_init 93 = .ok (.aload_n 0, 1) := by decide +kernel
theorem dX0_init_94 : decode cX0_init 94 = .ok (.bipush 12, 2) := by decide +kernel
theorem dX0_init_96 : decode cX0_init 96 = .ok (.newarray .int, 2) := by decide +kernel
theorem dX0_init_98 : decode cX0_init 98 = .ok (.putfield 41, 3) := by decide +kernel
theorem dX0_init_101 : decode cX0_init 101 = .ok (.aload_n 0, 1) := by decide +kernel
theorem dX0_init_102 : decode cX0_init 102 = .ok (.bipush 12, 2) := by decide +kernel
theorem dX0_init_104 : decode cX0_init 104 = .ok (.newarray .int, 2) := by decide +kernel
theorem dX0_init_106 : decode cX0_init 106 = .ok (.putfield 44, 3) := by decide +kernel
theorem dX0_init_109 : decode cX0_init 109 = .ok (.aload_n 0, 1) := by decide +kernel
theorem dX0_init_110 : decode cX0_init 110 = .ok (.bipush 12, 2) := by decide +kernel
theorem dX0_init_112 : decode cX0_init 112 = .ok (.newarray .int, 2) := by decide +kernel
theorem dX0_init_114 : decode cX0_init 114 = .ok (.putfield 47, 3) := by decide +kernel
theorem dX0_init_117 : decode cX0_init 117 = .ok (.aload_n 0, 1) := by decide +kernel
theorem dX0_init_118 : decode cX0_init 118 = .ok (.bipush 12, 2) := by decide +kernel
theorem dX0_init_120 : decode cX0_init 120 = .ok (.newarray .int, 2) := by decide +kernel
theorem dX0_init_122 : decode cX0_init 122 = .ok (.putfield 50, 3) := by decide +kernel
theorem dX0_init_125 : decode cX0_init 125 = .ok (.iconst 0, 1) := by decide +kernel
theorem dX0_init_126 : decode cX0_init 126 = .ok (.istore_n 1, 1) := by decide +kernel
theorem dX0_init_127 : decode cX0_init 127 = .ok (.iload_n 1, 1) := by decide +kernel
theorem dX0_init_128 : decode cX0_init 128 = .ok (.bipush 12, 2) := by decide +kernel
theorem dX0_init_130 : decode cX0_init 130 = .ok (.if_icmp .ge 25, 3) := by decide +kernel
theorem dX0_init_133 : decode cX0_init 133 = .ok (.aload_n 0, 1) := by decide +kernel
theorem dX0_init_134 : decode cX0_init 134 = .ok (.getfield 35, 3) := by decide +kernel
theorem dX0_init_137 : decode cX0_init 137 = .ok (.iload_n 1, 1) := by decide +kernel
theorem dX0_init_138 : decode cX0_init 138 = .ok (.bipush (-6), 2) := by decide +kernel
theorem dX0_init_140 : decode cX0_init 140 = .ok (.iastore, 1) := by decide +kernel
theorem dX0_init_141 : decode cX0_init 141 = .ok (.aload_n 0, 1) := by decide +kernel
theorem dX0_init_142 : decode cX0_init 142 = .ok (.getfield 50, 3) := by decide +kernel
theorem dX0_init_145 : decode cX0_init 145 = .ok (.iload_n 1, 1) := by decide +kernel
theorem dX0_init_146 : decode cX0_init 146 = .ok (.bipush (-6), 2) := by decide +kernel
theorem dX0_init_148 : decode cX0_init 148 = .ok (.iastore, 1) := by decide +kernel
theorem dX0_init_149 : decode cX0_init 149 = .ok (.iinc 1 1, 3) := by decide +kernel
theorem dX0_init_152 : decode cX0_init 152 = .ok (.goto (-25), 3) := by decide +kernel
theorem dX0_init_155 : decode cX0_init 155 = .ok (.return_, 1) := by decide +kernel
theorem dX0_hasName_0 : decode cX0_hasName 0 = .ok (.iload_n 1, 1) := by decide +kernel
theorem dX0_hasName_1 : decode cX0_hasName 1 = .ok (.ifCond .lt 21, 3) := by decide +kernel
theorem dX0_hasName_4 : decode cX0_hasName 4 = .ok (.iload_n 1, 1) := by decide +kernel
theorem dX0_hasName_5 : decode cX0_hasName 5 = .ok (.aload_n 0, 1) := by decide +kernel
theorem dX0_hasName_6 : decode cX0_hasName 6 = .ok (.getfield 53, 3) := by decide +kernel
theorem dX0_hasName_9 : decode cX0_hasName 9 = .ok (.if_icmp .ge 13, 3) := by decide +kernel
theorem dX0_hasName_12 : decode cX0_hasName 12 = .ok (.iload_n 1, 1) := by decide +kernel
theorem dX0_hasName_13 : decode cX0_hasName 13 = .ok (.bipush 20, 2) := by decide +kernel
theorem dX0_hasName_15 : decode cX0_hasName 15 = .ok (.if_icmp .ge 7, 3) := by decide +kernel
theorem dX0_hasName_18 : decode cX0_hasName 18 = .ok (.iconst 1, 1) := by decide +kernel
theorem dX0_hasName_19 : decode cX0_hasName 19 = .ok (.goto 4, 3) := by decide +kernel
theorem dX0_hasName_22 : decode cX0_hasName 22 = .ok (.iconst 0, 1) := by decide +kernel
theorem dX0_hasName_23 : decode cX0_hasName 23 = .ok (.ireturn, 1) := by decide +kernel
set_option maxRecDepth 20000 in
theorem ggX0_apply_X0_soundOf : GoodIn wsX0_apply wsX0_soundOf := goodIn_r _ [16, 7, 17, 18, 19, 15, 20, 2, 21, 22, 23, 24, 25, 26, 27, 28, 29, 30, 31, 32, 33, 34, 35, 36] (by decide +kernel) (by decide +kernel)
set_option maxRecDepth 20000 in
theorem gX0_apply_X0_soundOf : GoodIn wsX0_apply (wsV RX0 63 RX0 yX0_soundOf wsX0_soundOf) := goodIn_app (goodIn_of _ (by decide +kernel)) ggX0_apply_X0_soundOf
theorem dX0_apply_0 : decode cX0_apply 0 = .ok (.aload_n 0, 1) := by decide +kernel
theorem dX0_apply_1 : decode cX0_apply 1 = .ok (.getfield 53, 3) := by decide +kernel
theorem dX0_apply_4 : decode cX0_apply 4 = .ok (.ifCond .lt 22, 3) := by decide +kernel
theorem dX0_apply_7 : decode cX0_apply 7 = .ok (.aload_n 0, 1) := by decide +kernel
theorem dX0_apply_8 : decode cX0_apply 8 = .ok (.getfield 53, 3) := by decide +kernel
theorem dX0_apply_11 : decode cX0_apply 11 = .ok (.bipush 20, 2) := by decide +kernel
theorem dX0_apply_13 : decode cX0_apply 13 = .ok (.if_icmp .ge 13, 3) := by decide +kernel
theorem dX0_apply_16 : decode cX0_apply 16 = .ok (.iload_n 3, 1) := by decide +kernel
theorem dX0_apply_17 : decode cX0_apply 17 = .ok (.ifCond .lt 9, 3) := by decide +kernel
theorem dX0_apply_20 : decode cX0_apply 20 = .ok (.iload_n 3, 1) := by decide +kernel
theorem dX0_apply_21 : decode cX0_apply 21 = .ok (.bipush 9, 2) := by decide +kernel
theorem dX0_apply_23 : decode cX0_apply 23 = .ok (.if_icmp .le 4, 3) := by decide +kernel
theorem dX0_apply_26 : decode cX0_apply 26 = .ok (.return_, 1) := by decide +kernel
theorem dX0_apply_27 : decode cX0_apply 27 = .ok (.iload_n 2, 1) := by decide +kernel
theorem dX0_apply_28 : decode cX0_apply 28 = .ok (.ifCond .lt 11, 3) := by decide +kernel
theorem dX0_apply_31 : decode cX0_apply 31 = .ok (.iload_n 2, 1) := by decide +kernel
theorem dX0_apply_32 : decode cX0_apply 32 = .ok (.iload_n 3, 1) := by decide +kernel
theorem dX0_apply_33 : decode cX0_apply 33 = .ok (.iadd, 1) := by decide +kernel
theorem dX0_apply_34 : decode cX0_apply 34 = .ok (.aload_n 1, 1) := by decide +kernel
theorem dX0_apply_35 : decode cX0_apply 35 = .ok (.arraylength, 1) := by decide +kernel
theorem dX0_apply_36 : decode cX0_apply 36 = .ok (.if_icmp .le 4, 3) := by decide +kernel
theorem dX0_apply_39 : decode cX0_apply 39 = .ok (.return_, 1) := by decide +kernel
theorem dX0_apply_40 : decode cX0_apply 40 = .ok (.aload_n 0, 1) := by decide +kernel
theorem dX0_apply_41 : decode cX0_apply 41 = .ok (.getfield 53, 3) := by decide +kernel
theorem dX0_apply_44 : decode cX0_apply 44 = .ok (.istore 5, 2) := by decide +kernel
theorem dX0_apply_46 : decode cX0_apply 46 = .ok (.aload_n 1, 1) := by decide +kernel
theorem dX0_apply_47 : decode cX0_apply 47 = .ok (.iload_n 2, 1) := by decide +kernel
theorem dX0_apply_48 : decode cX0_apply 48 = .ok (.aload_n 0, 1) := by decide +kernel
theorem dX0_apply_49 : decode cX0_apply 49 = .ok (.getfield 15, 3) := by decide +kernel
theorem dX0_apply_52 : decode cX0_apply 52 = .ok (.iload 5, 2) := by decide +kernel
theorem dX0_apply_54 : decode cX0_apply 54 = .ok (.bipush 9, 2) := by decide +kernel
theorem dX0_apply_56 : decode cX0_apply 56 = .ok (.imul, 1) := by decide +kernel
theorem dX0_apply_57 : decode cX0_apply 57 = .ok (.iload_n 3, 1) := by decide +kernel
theorem dX0_apply_58 : decode cX0_apply 58 = .ok (.invokestatic 57, 3) := by decide +kernel
theorem dX0_apply_61 : decode cX0_apply 61 = .ok (.aload_n 0, 1) := by decide +kernel
theorem dX0_apply_62 : decode cX0_apply 62 = .ok (.getfield 19, 3) := by decide +kernel
theorem dX0_apply_65 : decode cX0_apply 65 = .ok (.iload 5, 2) := by decide +kernel
theorem dX0_apply_67 : decode cX0_apply 67 = .ok (.iload_n 3, 1) := by decide +kernel
theorem dX0_apply_68 : decode cX0_apply 68 = .ok (.iastore, 1) := by decide +kernel
theorem dX0_apply_69 : decode cX0_apply 69 = .ok (.aload_n 0, 1) := by decide +kernel
theorem dX0_apply_70 : decode cX0_apply 70 = .ok (.getfield 25, 3) := by decide +kernel
theorem dX0_apply_73 : decode cX0_apply 73 = .ok (.iload 5, 2) := by decide +kernel
theorem dX0_apply_75 : decode cX0_apply 75 = .ok (.iload 4, 2) := by decide +kernel
theorem dX0_apply_77 : decode cX0_apply 77 = .ok (.iastore, 1) := by decide +kernel
theorem dX0_apply_78 : decode cX0_apply 78 = .ok (.aload_n 0, 1) := by decide +kernel
theorem dX0_apply_79 : decode cX0_apply 79 = .ok (.getfield 28, 3) := by decide +kernel
theorem dX0_apply_82 : decode cX0_apply 82 = .ok (.iload 5, 2) := by decide +kernel
theorem dX0_apply_84 : decode cX0_apply 84 = .ok (.iconst 0, 1) := by decide +kernel
theorem dX0_apply_85 : decode cX0_apply 85 = .ok (.bastore, 1) := by decide +kernel
theorem dX0_apply_86 : decode cX0_apply 86 = .ok (.aload_n 0, 1) := by decide +kernel
theorem dX0_apply_87 : decode cX0_apply 87 = .ok (.getfield 32, 3) := by decide +kernel
theorem dX0_apply_90 : decode cX0_apply 90 = .ok (.iload 5, 2) := by decide +kernel
theorem dX0_apply_92 : decode cX0_apply 92 = .ok (.iconst 0, 1) := by decide +kernel
theorem dX0_apply_93 : decode cX0_apply 93 = .ok (.iastore, 1) := by decide +kernel
theorem dX0_apply_94 : decode cX0_apply 94 = .ok (.aload_n 0, 1) := by decide +kernel
theorem dX0_apply_95 : decode cX0_apply 95 = .ok (.getfield 22, 3) := by decide +kernel
theorem dX0_apply_98 : decode cX0_apply 98 = .ok (.iload 5, 2) := by decide +kernel
theorem dX0_apply_100 : decode cX0_apply 100 = .ok (.aload_n 0, 1) := by decide +kernel
theorem dX0_apply_101 : decode cX0_apply 101 = .ok (.iload 5, 2) := by decide +kernel
theorem dX0_apply_103 : decode cX0_apply 103 = .ok (.invokevirtual 63, 3) := by decide +kernel
theorem dX0_apply_106 : decode cX0_apply 106 = .ok (.iastore, 1) := by decide +kernel
theorem dX0_apply_107 : decode cX0_apply 107 = .ok (.aload_n 0, 1) := by decide +kernel
theorem dX0_apply_108 : decode cX0_apply 108 = .ok (.dup, 1) := by decide +kernel
theorem dX0_apply_109 : decode cX0_apply 109 = .ok (.getfield 53, 3) := by decide +kernel
theorem dX0_apply_112 : decode cX0_apply 112 = .ok (.iconst 1, 1) := by decide +kernel
theorem dX0_apply_113 : decode cX0_apply 113 = .ok (.iadd, 1) := by decide +kernel
theorem dX0_apply_114 : decode cX0_apply 114 = .ok (.putfield 53, 3) := by decide +kernel
theorem dX0_apply_117 : decode cX0_apply 117 = .ok (.return_, 1) := by decide +kernel
set_option maxRecDepth 20000 in
theorem ggX0_soundOf_X0_signAt : GoodIn wsX0_soundOf wsX0_signAt := goodIn_r _ [6, 7, 8, 9, 10, 11, 12, 13, 14, 15, 16, 17, 18, 19, 20, 21, 22, 23] (by decide +kernel) (by decide +kernel)
set_option maxRecDepth 20000 in
theorem gX0_soundOf_X0_signAt : GoodIn wsX0_soundOf (wsV RX0 67 RX0 yX0_signAt wsX0_signAt) := goodIn_app (goodIn_of _ (by decide +kernel)) ggX0_soundOf_X0_signAt
theorem dX0_soundOf_0 : decode cX0_soundOf 0 = .ok (.iconst 0, 1) := by decide +kernel
theorem dX0_soundOf_1 : decode cX0_soundOf 1 = .ok (.istore_n 2, 1) := by decide +kernel
theorem dX0_soundOf_2 : decode cX0_soundOf 2 = .ok (.iconst 0, 1) := by decide +kernel
theorem dX0_soundOf_3 : decode cX0_soundOf 3 = .ok (.istore_n 3, 1) := by decide +kernel
theorem dX0_soundOf_4 : decode cX0_soundOf 4 = .ok (.iconst 0, 1) := by decide +kernel
theorem dX0_soundOf_5 : decode cX0_soundOf 5 = .ok (.istore 4, 2) := by decide +kernel
theorem dX0_soundOf_7 : decode cX0_soundOf 7 = .ok (.iload 4, 2) := by decide +kernel
theorem dX0_soundOf_9 : decode cX0_soundOf 9 = .ok (.aload_n 0, 1) := by decide +kernel
theorem dX0_soundOf_10 : decode cX0_soundOf 10 = .ok (.getfield 19, 3) := by decide +kernel
theorem dX0_soundOf_13 : decode cX0_soundOf 13 = .ok (.iload_n 1, 1) := by decide +kernel
theorem dX0_soundOf_14 : decode cX0_soundOf 14 = .ok (.iaload, 1) := by decide +kernel
theorem dX0_soundOf_15 : decode cX0_soundOf 15 = .ok (.if_icmp .ge 51, 3) := by decide +kernel
theorem dX0_soundOf_18 : decode cX0_soundOf 18 = .ok (.aload_n 0, 1) := by decide +kernel
theorem dX0_soundOf_19 : decode cX0_soundOf 19 = .ok (.iload_n 1, 1) := by decide +kernel
theorem dX0_soundOf_20 : decode cX0_soundOf 20 = .ok (.iload 4, 2) := by decide +kernel
theorem dX0_soundOf_22 : decode cX0_soundOf 22 = .ok (.invokevirtual 67, 3) := by decide +kernel
theorem dX0_soundOf_25 : decode cX0_soundOf 25 = .ok (.istore 5, 2) := by decide +kernel
theorem dX0_soundOf_27 : decode cX0_soundOf 27 = .ok (.iload 5, 2) := by decide +kernel
theorem dX0_soundOf_29 : decode cX0_soundOf 29 = .ok (.ifCond .eq 31, 3) := by decide +kernel
theorem dX0_soundOf_32 : decode cX0_soundOf 32 = .ok (.iload 5, 2) := by decide +kernel
theorem dX0_soundOf_34 : decode cX0_soundOf 34 = .ok (.iload_n 3, 1) := by decide +kernel
theorem dX0_soundOf_35 : decode cX0_soundOf 35 = .ok (.if_icmp .eq 25, 3) := by decide +kernel
theorem dX0_soundOf_38 : decode cX0_soundOf 38 = .ok (.iload 5, 2) := by decide +kernel
theorem dX0_soundOf_40 : decode cX0_soundOf 40 = .ok (.bipush 7, 2) := by decide +kernel
theorem dX0_soundOf_42 : decode cX0_soundOf 42 = .ok (.if_icmp .ne 7, 3) := by decide +kernel
theorem dX0_soundOf_45 : decode cX0_soundOf 45 = .ok (.iload_n 3, 1) := by decide +kernel
theorem dX0_soundOf_46 : decode cX0_soundOf 46 = .ok (.ifCond .ne 11, 3) := by decide +kernel
theorem dX0_soundOf_49 : decode cX0_soundOf 49 = .ok (.iload_n 2, 1) := by decide +kernel
theorem dX0_soundOf_50 : decode cX0_soundOf 50 = .ok (.bipush 10, 2) := by decide +kernel
theorem dX0_soundOf_52 : decode cX0_soundOf 52 = .ok (.imul, 1) := by decide +kernel
theorem dX0_soundOf_53 : decode cX0_soundOf 53 = .ok (.iload 5, 2) := by decide +kernel
theorem dX0_soundOf_55 : decode cX0_soundOf 55 = .ok (.iadd, 1) := by decide +kernel
theorem dX0_soundOf_56 : decode cX0_soundOf 56 = .ok (.istore_n 2, 1) := by decide +kernel
theorem dX0_soundOf_57 : decode cX0_soundOf 57 = .ok (.iload 5, 2) := by decide +kernel
theorem dX0_soundOf_59 : decode cX0_soundOf 59 = .ok (.istore_n 3, 1) := by decide +kernel
theorem dX0_soundOf_60 : decode cX0_soundOf 60 = .ok (.iinc 4 1, 3) := by decide +kernel
theorem dX0_soundOf_63 : decode cX0_soundOf 63 = .ok (.goto (-56), 3) := by decide +kernel
theorem dX0_soundOf_66 : decode cX0_soundOf 66 = .ok (.iload_n 2, 1) := by decide +kernel
theorem dX0_soundOf_67 : decode cX0_soundOf 67 = .ok (.ireturn, 1) := by decide +kernel
theorem dX0_signAt_0 : decode cX0_signAt 0 = .ok (.iload_n 2, 1) := by decide +kernel
theorem dX0_signAt_1 : decode cX0_signAt 1 = .ok (.ifCond .lt 9, 3) := by decide +kernel
theorem dX0_signAt_4 : decode cX0_signAt 4 = .ok (.iload_n 2, 1) := by decide +kernel
theorem dX0_signAt_5 : decode cX0_signAt 5 = .ok (.bipush 9, 2) := by decide +kernel
theorem dX0_signAt_7 : decode cX0_signAt 7 = .ok (.if_icmp .lt 5, 3) := by decide +kernel
theorem dX0_signAt_10 : decode cX0_signAt 10 = .ok (.iconst 0, 1) := by decide +kernel
theorem dX0_signAt_11 : decode cX0_signAt 11 = .ok (.ireturn, 1) := by decide +kernel
theorem dX0_signAt_12 : decode cX0_signAt 12 = .ok (.aload_n 0, 1) := by decide +kernel
theorem dX0_signAt_13 : decode cX0_signAt 13 = .ok (.getfield 15, 3) := by decide +kernel
theorem dX0_signAt_16 : decode cX0_signAt 16 = .ok (.iload_n 1, 1) := by decide +kernel
theorem dX0_signAt_17 : decode cX0_signAt 17 = .ok (.bipush 9, 2) := by decide +kernel
theorem dX0_signAt_19 : decode cX0_signAt 19 = .ok (.imul, 1) := by decide +kernel
theorem dX0_signAt_20 : decode cX0_signAt 20 = .ok (.iload_n 2, 1) := by decide +kernel
theorem dX0_signAt_21 : decode cX0_signAt 21 = .ok (.iadd, 1) := by decide +kernel
theorem dX0_signAt_22 : decode cX0_signAt 22 = .ok (.caload, 1) := by decide +kernel
theorem dX0_signAt_23 : decode cX0_signAt 23 = .ok (.bipush 97, 2) := by decide +kernel
theorem dX0_signAt_25 : decode cX0_signAt 25 = .ok (.isub, 1) := by decide +kernel
theorem dX0_signAt_26 : decode cX0_signAt 26 = .ok (.istore_n 3, 1) := by decide +kernel
theorem dX0_signAt_27 : decode cX0_signAt 27 = .ok (.iload_n 3, 1) := by decide +kernel
theorem dX0_signAt_28 : decode cX0_signAt 28 = .ok (.ifCond .lt 19, 3) := by decide +kernel
theorem dX0_signAt_31 : decode cX0_signAt 31 = .ok (.iload_n 3, 1) := by decide +kernel
theorem dX0_signAt_32 : decode cX0_signAt 32 = .ok (.getstatic 71, 3) := by decide +kernel
theorem dX0_signAt_35 : decode cX0_signAt 35 = .ok (.arraylength, 1) := by decide +kernel
theorem dX0_signAt_36 : decode cX0_signAt 36 = .ok (.if_icmp .ge 11, 3) := by decide +kernel
theorem dX0_signAt_39 : decode cX0_signAt 39 = .ok (.getstatic 71, 3) := by decide +kernel
theorem dX0_signAt_42 : decode cX0_signAt 42 = .ok (.iload_n 3, 1) := by decide +kernel
theorem dX0_signAt_43 : decode cX0_signAt 43 = .ok (.iaload, 1) := by decide +kernel
theorem dX0_signAt_44 : decode cX0_signAt 44 = .ok (.goto 4, 3) := by decide +kernel
theorem dX0_signAt_47 : decode cX0_signAt 47 = .ok (.iconst 0, 1) := by decide +kernel
theorem dX0_signAt_48 : decode cX0_signAt 48 = .ok (.ireturn, 1) := by decide +kernel
set_option maxRecDepth 20000 in
theorem ggX0_alikeByLetters_X0_nextHeard : GoodIn wsX0_alikeByLetters wsX0_nextHeard := goodIn_r _ [6, 1, 7, 8, 9, 5, 10, 11, 12, 13, 14, 15, 16, 17, 18, 19, 20, 21, 22, 23, 24, 25, 26, 27, 28, 29, 30, 31] (by decide +kernel) (by decide +kernel)
set_option maxRecDepth 20000 in
theorem gX0_alikeByLetters_X0_nextHeard : GoodIn wsX0_alikeByLetters (wsV RX0 74 RX0 yX0_nextHeard wsX0_nextHeard) := goodIn_app (goodIn_of _ (by decide +kernel)) ggX0_alikeByLetters_X0_nextHeard
set_option maxRecDepth 20000 in
theorem ggX0_alikeByLetters_X0_signAt : GoodIn wsX0_alikeByLetters wsX0_signAt := goodIn_r _ [14, 15, 16, 17, 18, 19, 20, 21, 22, 23, 24, 25, 26, 27, 28, 29, 30, 31] (by decide +kernel) (by decide +kernel)
set_option maxRecDepth 20000 in
theorem gX0_alikeByLetters_X0_signAt : GoodIn wsX0_alikeByLetters (wsV RX0 67 RX0 yX0_signAt wsX0_signAt) := goodIn_app (goodIn_of _ (by decide +kernel)) ggX0_alikeByLetters_X0_signAt
theorem dX0_alikeByLetters_0 : decode cX0_alikeByLetters 0 = .ok (.aload_n 0, 1) := by decide +kernel
theorem dX0_alikeByLetters_1 : decode cX0_alikeByLetters 1 = .ok (.iload_n 1, 1) := by decide +kernel
theorem dX0_alikeByLetters_2 : decode cX0_alikeByLetters 2 = .ok (.iconst 0, 1) := by decide +kernel
theorem dX0_alikeByLetters_3 : decode cX0_alikeByLetters 3 = .ok (.invokevirtual 74, 3) := by decide +kernel
theorem dX0_alikeByLetters_6 : decode cX0_alikeByLetters 6 = .ok (.istore_n 3, 1) := by decide +kernel
theorem dX0_alikeByLetters_7 : decode cX0_alikeByLetters 7 = .ok (.aload_n 0, 1) := by decide +kernel
theorem dX0_alikeByLetters_8 : decode cX0_alikeByLetters 8 = .ok (.iload_n 2, 1) := by decide +kernel
theorem dX0_alikeByLetters_9 : decode cX0_alikeByLetters 9 = .ok (.iconst 0, 1) := by decide +kernel
theorem dX0_alikeByLetters_10 : decode cX0_alikeByLetters 10 = .ok (.invokevirtual 74, 3) := by decide +kernel
theorem dX0_alikeByLetters_13 : decode cX0_alikeByLetters 13 = .ok (.istore 4, 2) := by decide +kernel
theorem dX0_alikeByLetters_15 : decode cX0_alikeByLetters 15 = .ok (.iconst 0, 1) := by decide +kernel
theorem dX0_alikeByLetters_16 : decode cX0_alikeByLetters 16 = .ok (.istore 5, 2) := by decide +kernel
theorem dX0_alikeByLetters_18 : decode cX0_alikeByLetters 18 = .ok (.iload 5, 2) := by decide +kernel
theorem dX0_alikeByLetters_20 : decode cX0_alikeByLetters 20 = .ok (.bipush 9, 2) := by decide +kernel
theorem dX0_alikeByLetters_22 : decode cX0_alikeByLetters 22 = .ok (.if_icmp .ge 68, 3) := by decide +kernel
theorem dX0_alikeByLetters_25 : decode cX0_alikeByLetters 25 = .ok (.iload_n 3, 1) := by decide +kernel
theorem dX0_alikeByLetters_26 : decode cX0_alikeByLetters 26 = .ok (.aload_n 0, 1) := by decide +kernel
theorem dX0_alikeByLetters_27 : decode cX0_alikeByLetters 27 = .ok (.getfield 19, 3) := by decide +kernel
theorem dX0_alikeByLetters_30 : decode cX0_alikeByLetters 30 = .ok (.iload_n 1, 1) := by decide +kernel
theorem dX0_alikeByLetters_31 : decode cX0_alikeByLetters 31 = .ok (.iaload, 1) := by decide +kernel
theorem dX0_alikeByLetters_32 : decode cX0_alikeByLetters 32 = .ok (.if_icmp .ge 58, 3) := by decide +kernel
theorem dX0_alikeByLetters_35 : decode cX0_alikeByLetters 35 = .ok (.iload 4, 2) := by decide +kernel
theorem dX0_alikeByLetters_37 : decode cX0_alikeByLetters 37 = .ok (.aload_n 0, 1) := by decide +kernel
theorem dX0_alikeByLetters_38 : decode cX0_alikeByLetters 38 = .ok (.getfield 19, 3) := by decide +kernel
theorem dX0_alikeByLetters_41 : decode cX0_alikeByLetters 41 = .ok (.iload_n 2, 1) := by decide +kernel
theorem dX0_alikeByLetters_42 : decode cX0_alikeByLetters 42 = .ok (.iaload, 1) := by decide +kernel
theorem dX0_alikeByLetters_43 : decode cX0_alikeByLetters 43 = .ok (.if_icmp .ge 47, 3) := by decide +kernel
theorem dX0_alikeByLetters_46 : decode cX0_alikeByLetters 46 = .ok (.aload_n 0, 1) := by decide +kernel
theorem dX0_alikeByLetters_47 : decode cX0_alikeByLetters 47 = .ok (.iload_n 1, 1) := by decide +kernel
theorem dX0_alikeByLetters_48 : decode cX0_alikeByLetters 48 = .ok (.iload_n 3, 1) := by decide +kernel
theorem dX0_alikeByLetters_49 : decode cX0_alikeByLetters 49 = .ok (.invokevirtual 67, 3) := by decide +kernel
theorem dX0_alikeByLetters_52 : decode cX0_alikeByLetters 52 = .ok (.aload_n 0, 1) := by decide +kernel
theorem dX0_alikeByLetters_53 : decode cX0_alikeByLetters 53 = .ok (.iload_n 2, 1) := by decide +kernel
theorem dX0_alikeByLetters_54 : decode cX0_alikeByLetters 54 = .ok (.iload 4, 2) := by decide +kernel
theorem dX0_alikeByLetters_56 : decode cX0_alikeByLetters 56 = .ok (.invokevirtual 67, 3) := by decide +kernel
theorem dX0_alikeByLetters_59 : decode cX0_alikeByLetters 59 = .ok (.if_icmp .eq 5, 3) := by decide +kernel
theorem dX0_alikeByLetters_62 : decode cX0_alikeByLetters 62 = .ok (.iconst 0, 1) := by decide +kernel
theorem dX0_alikeByLetters_63 : decode cX0_alikeByLetters 63 = .ok (.ireturn, 1) := by decide +kernel
theorem dX0_alikeByLetters_64 : decode cX0_alikeByLetters 64 = .ok (.aload_n 0, 1) := by decide +kernel
theorem dX0_alikeByLetters_65 : decode cX0_alikeByLetters 65 = .ok (.iload_n 1, 1) := by decide +kernel
theorem dX0_alikeByLetters_66 : decode cX0_alikeByLetters 66 = .ok (.iload_n 3, 1) := by decide +kernel
theorem dX0_alikeByLetters_67 : decode cX0_alikeByLetters 67 = .ok (.iconst 1, 1) := by decide +kernel
theorem dX0_alikeByLetters_68 : decode cX0_alikeByLetters 68 = .ok (.iadd, 1) := by decide +kernel
theorem dX0_alikeByLetters_69 : decode cX0_alikeByLetters 69 = .ok (.invokevirtual 74, 3) := by decide +kernel
theorem dX0_alikeByLetters_72 : decode cX0_alikeByLetters 72 = .ok (.istore_n 3, 1) := by decide +kernel
theorem dX0_alikeByLetters_73 : decode cX0_alikeByLetters 73 = .ok (.aload_n 0, 1) := by decide +kernel
theorem dX0_alikeByLetters_74 : decode cX0_alikeByLetters 74 = .ok (.iload_n 2, 1) := by decide +kernel
theorem dX0_alikeByLetters_75 : decode cX0_alikeByLetters 75 = .ok (.iload 4, 2) := by decide +kernel
theorem dX0_alikeByLetters_77 : decode cX0_alikeByLetters 77 = .ok (.iconst 1, 1) := by decide +kernel
theorem dX0_alikeByLetters_78 : decode cX0_alikeByLetters 78 = .ok (.iadd, 1) := by decide +kernel
theorem dX0_alikeByLetters_79 : decode cX0_alikeByLetters 79 = .ok (.invokevirtual 74, 3) := by decide +kernel
theorem dX0_alikeByLetters_82 : decode cX0_alikeByLetters 82 = .ok (.istore 4, 2) := by decide +kernel
theorem dX0_alikeByLetters_84 : decode cX0_alikeByLetters 84 = .ok (.iinc 5 1, 3) := by decide +kernel
theorem dX0_alikeByLetters_87 : decode cX0_alikeByLetters 87 = .ok (.goto (-69), 3) := by decide +kernel
theorem dX0_alikeByLetters_90 : decode cX0_alikeByLetters 90 = .ok (.iload_n 3, 1) := by decide +kernel
theorem dX0_alikeByLetters_91 : decode cX0_alikeByLetters 91 = .ok (.aload_n 0, 1) := by decide +kernel
theorem dX0_alikeByLetters_92 : decode cX0_alikeByLetters 92 = .ok (.getfield 19, 3) := by decide +kernel
theorem dX0_alikeByLetters_95 : decode cX0_alikeByLetters 95 = .ok (.iload_n 1, 1) := by decide +kernel
theorem dX0_alikeByLetters_96 : decode cX0_alikeByLetters 96 = .ok (.iaload, 1) := by decide +kernel
theorem dX0_alikeByLetters_97 : decode cX0_alikeByLetters 97 = .ok (.if_icmp .lt 18, 3) := by decide +kernel
theorem dX0_alikeByLetters_100 : decode cX0_alikeByLetters 100 = .ok (.iload 4, 2) := by decide +kernel
theorem dX0_alikeByLetters_102 : decode cX0_alikeByLetters 102 = .ok (.aload_n 0, 1) := by decide +kernel
theorem dX0_alikeByLetters_103 : decode cX0_alikeByLetters 103 = .ok (.getfield 19, 3) := by decide +kernel
theorem dX0_alikeByLetters_106 : decode cX0_alikeByLetters 106 = .ok (.iload_n 2, 1) := by decide +kernel
theorem dX0_alikeByLetters_107 : decode cX0_alikeByLetters 107 = .ok (.iaload, 1) := by decide +kernel
theorem dX0_alikeByLetters_108 : decode cX0_alikeByLetters 108 = .ok (.if_icmp .lt 7, 3) := by decide +kernel
theorem dX0_alikeByLetters_111 : decode cX0_alikeByLetters 111 = .ok (.iconst 1, 1) := by decide +kernel
theorem dX0_alikeByLetters_112 : decode cX0_alikeByLetters 112 = .ok (.goto 4, 3) := by decide +kernel
theorem dX0_alikeByLetters_115 : decode cX0_alikeByLetters 115 = .ok (.iconst 0, 1) := by decide +kernel
theorem dX0_alikeByLetters_116 : decode cX0_alikeByLetters 116 = .ok (.ireturn, 1) := by decide +kernel
set_option maxRecDepth 20000 in
theorem ggX0_nextHeard_X0_isHeard : GoodIn wsX0_nextHeard wsX0_isHeard := goodIn_r _ [6, 7, 8, 9, 5, 10, 11, 12, 13, 14, 15, 16, 17, 18, 19, 20, 21, 22, 23, 24, 25, 26, 27] (by decide +kernel) (by decide +kernel)
set_option maxRecDepth 20000 in
theorem gX0_nextHeard_X0_isHeard : GoodIn wsX0_nextHeard (wsV RX0 77 RX0 yX0_isHeard wsX0_isHeard) := goodIn_app (goodIn_of _ (by decide +kernel)) ggX0_nextHeard_X0_isHeard
theorem dX0_nextHeard_0 : decode cX0_nextHeard 0 = .ok (.iload_n 2, 1) := by decide +kernel
theorem dX0_nextHeard_1 : decode cX0_nextHeard 1 = .ok (.istore_n 3, 1) := by decide +kernel
theorem dX0_nextHeard_2 : decode cX0_nextHeard 2 = .ok (.iload_n 3, 1) := by decide +kernel
theorem dX0_nextHeard_3 : decode cX0_nextHeard 3 = .ok (.aload_n 0, 1) := by decide +kernel
theorem dX0_nextHeard_4 : decode cX0_nextHeard 4 = .ok (.getfield 19, 3) := by decide +kernel
theorem dX0_nextHeard_7 : decode cX0_nextHeard 7 = .ok (.iload_n 1, 1) := by decide +kernel
theorem dX0_nextHeard_8 : decode cX0_nextHeard 8 = .ok (.iaload, 1) := by decide +kernel
theorem dX0_nextHeard_9 : decode cX0_nextHeard 9 = .ok (.if_icmp .ge 18, 3) := by decide +kernel
theorem dX0_nextHeard_12 : decode cX0_nextHeard 12 = .ok (.aload_n 0, 1) := by decide +kernel
theorem dX0_nextHeard_13 : decode cX0_nextHeard 13 = .ok (.iload_n 1, 1) := by decide +kernel
theorem dX0_nextHeard_14 : decode cX0_nextHeard 14 = .ok (.iload_n 3, 1) := by decide +kernel
theorem dX0_nextHeard_15 : decode cX0_nextHeard 15 = .ok (.invokevirtual 77, 3) := by decide +kernel
theorem dX0_nextHeard_18 : decode cX0_nextHeard 18 = .ok (.ifCond .ne 9, 3) := by decide +kernel
theorem dX0_nextHeard_21 : decode cX0_nextHeard 21 = .ok (.iinc 3 1, 3) := by decide +kernel
theorem dX0_nextHeard_24 : decode cX0_nextHeard 24 = .ok (.goto (-22), 3) := by decide +kernel
theorem dX0_nextHeard_27 : decode cX0_nextHeard 27 = .ok (.iload_n 3, 1) := by decide +kernel
theorem dX0_nextHeard_28 : decode cX0_nextHeard 28 = .ok (.ireturn, 1) := by decide +kernel
set_option maxRecDepth 20000 in
theorem ggX0_isHeard_X0_signAt : GoodIn wsX0_isHeard wsX0_signAt := goodIn_r _ [5, 6, 7, 8, 9, 10, 11, 12, 13, 14, 15, 16, 17, 18, 19, 20, 21, 22] (by decide +kernel) (by decide +kernel)
set_option maxRecDepth 20000 in
theorem gX0_isHeard_X0_signAt : GoodIn wsX0_isHeard (wsV RX0 67 RX0 yX0_signAt wsX0_signAt) := goodIn_app (goodIn_of _ (by decide +kernel)) ggX0_isHeard_X0_signAt
theorem dX0_isHeard_0 : decode cX0_isHeard 0 = .ok (.aload_n 0, 1) := by decide +kernel
theorem dX0_isHeard_1 : decode cX0_isHeard 1 = .ok (.iload_n 1, 1) := by decide +kernel
theorem dX0_isHeard_2 : decode cX0_isHeard 2 = .ok (.iload_n 2, 1) := by decide +kernel
theorem dX0_isHeard_3 : decode cX0_isHeard 3 = .ok (.invokevirtual 67, 3) := by decide +kernel
theorem dX0_isHeard_6 : decode cX0_isHeard 6 = .ok (.istore_n 3, 1) := by decide +kernel
theorem dX0_isHeard_7 : decode cX0_isHeard 7 = .ok (.iconst 0, 1) := by decide +kernel
theorem dX0_isHeard_8 : decode cX0_isHeard 8 = .ok (.istore 4, 2) := by decide +kernel
theorem dX0_isHeard_10 : decode cX0_isHeard 10 = .ok (.iload_n 2, 1) := by decide +kernel
theorem dX0_isHeard_11 : decode cX0_isHeard 11 = .ok (.iconst 1, 1) := by decide +kernel
theorem dX0_isHeard_12 : decode cX0_isHeard 12 = .ok (.isub, 1) := by decide +kernel
theorem dX0_isHeard_13 : decode cX0_isHeard 13 = .ok (.istore 5, 2) := by decide +kernel
theorem dX0_isHeard_15 : decode cX0_isHeard 15 = .ok (.iload 5, 2) := by decide +kernel
theorem dX0_isHeard_17 : decode cX0_isHeard 17 = .ok (.ifCond .lt 23, 3) := by decide +kernel
theorem dX0_isHeard_20 : decode cX0_isHeard 20 = .ok (.iload 4, 2) := by decide +kernel
theorem dX0_isHeard_22 : decode cX0_isHeard 22 = .ok (.ifCond .ne 18, 3) := by decide +kernel
theorem dX0_isHeard_25 : decode cX0_isHeard 25 = .ok (.aload_n 0, 1) := by decide +kernel
theorem dX0_isHeard_26 : decode cX0_isHeard 26 = .ok (.iload_n 1, 1) := by decide +kernel
theorem dX0_isHeard_27 : decode cX0_isHeard 27 = .ok (.iload 5, 2) := by decide +kernel
theorem dX0_isHeard_29 : decode cX0_isHeard 29 = .ok (.invokevirtual 67, 3) := by decide +kernel
theorem dX0_isHeard_32 : decode cX0_isHeard 32 = .ok (.istore 4, 2) := by decide +kernel
theorem dX0_isHeard_34 : decode cX0_isHeard 34 = .ok (.iinc 5 (-1), 3) := by decide +kernel
theorem dX0_isHeard_37 : decode cX0_isHeard 37 = .ok (.goto (-22), 3) := by decide +kernel
theorem dX0_isHeard_40 : decode cX0_isHeard 40 = .ok (.iload_n 3, 1) := by decide +kernel
theorem dX0_isHeard_41 : decode cX0_isHeard 41 = .ok (.ifCond .eq 24, 3) := by decide +kernel
theorem dX0_isHeard_44 : decode cX0_isHeard 44 = .ok (.iload_n 3, 1) := by decide +kernel
theorem dX0_isHeard_45 : decode cX0_isHeard 45 = .ok (.iload 4, 2) := by decide +kernel
theorem dX0_isHeard_47 : decode cX0_isHeard 47 = .ok (.if_icmp .eq 18, 3) := by decide +kernel
theorem dX0_isHeard_50 : decode cX0_isHeard 50 = .ok (.iload_n 3, 1) := by decide +kernel
theorem dX0_isHeard_51 : decode cX0_isHeard 51 = .ok (.bipush 7, 2) := by decide +kernel
theorem dX0_isHeard_53 : decode cX0_isHeard 53 = .ok (.if_icmp .ne 8, 3) := by decide +kernel
theorem dX0_isHeard_56 : decode cX0_isHeard 56 = .ok (.iload 4, 2) := by decide +kernel
theorem dX0_isHeard_58 : decode cX0_isHeard 58 = .ok (.ifCond .ne 7, 3) := by decide +kernel
theorem dX0_isHeard_61 : decode cX0_isHeard 61 = .ok (.iconst 1, 1) := by decide +kernel
theorem dX0_isHeard_62 : decode cX0_isHeard 62 = .ok (.goto 4, 3) := by decide +kernel
theorem dX0_isHeard_65 : decode cX0_isHeard 65 = .ok (.iconst 0, 1) := by decide +kernel
theorem dX0_isHeard_66 : decode cX0_isHeard 66 = .ok (.ireturn, 1) := by decide +kernel
theorem dX0_bearers_0 : decode cX0_bearers 0 = .ok (.iconst 0, 1) := by decide +kernel
theorem dX0_bearers_1 : decode cX0_bearers 1 = .ok (.istore_n 2, 1) := by decide +kernel
theorem dX0_bearers_2 : decode cX0_bearers 2 = .ok (.iconst 0, 1) := by decide +kernel
theorem dX0_bearers_3 : decode cX0_bearers 3 = .ok (.istore_n 3, 1) := by decide +kernel
theorem dX0_bearers_4 : decode cX0_bearers 4 = .ok (.iload_n 3, 1) := by decide +kernel
theorem dX0_bearers_5 : decode cX0_bearers 5 = .ok (.bipush 12, 2) := by decide +kernel
theorem dX0_bearers_7 : decode cX0_bearers 7 = .ok (.if_icmp .ge 22, 3) := by decide +kernel
theorem dX0_bearers_10 : decode cX0_bearers 10 = .ok (.aload_n 0, 1) := by decide +kernel
theorem dX0_bearers_11 : decode cX0_bearers 11 = .ok (.getfield 35, 3) := by decide +kernel
theorem dX0_bearers_14 : decode cX0_bearers 14 = .ok (.iload_n 3, 1) := by decide +kernel
theorem dX0_bearers_15 : decode cX0_bearers 15 = .ok (.iaload, 1) := by decide +kernel
theorem dX0_bearers_16 : decode cX0_bearers 16 = .ok (.iload_n 1, 1) := by decide +kernel
theorem dX0_bearers_17 : decode cX0_bearers 17 = .ok (.if_icmp .ne 6, 3) := by decide +kernel
theorem dX0_bearers_20 : decode cX0_bearers 20 = .ok (.iinc 2 1, 3) := by decide +kernel
theorem dX0_bearers_23 : decode cX0_bearers 23 = .ok (.iinc 3 1, 3) := by decide +kernel
theorem dX0_bearers_26 : decode cX0_bearers 26 = .ok (.goto (-22), 3) := by decide +kernel
theorem dX0_bearers_29 : decode cX0_bearers 29 = .ok (.iload_n 2, 1) := by decide +kernel
theorem dX0_bearers_30 : decode cX0_bearers 30 = .ok (.ireturn, 1) := by decide +kernel
theorem dX0_bearerSet_0 : decode cX0_bearerSet 0 = .ok (.iconst 0, 1) := by decide +kernel
theorem dX0_bearerSet_1 : decode cX0_bearerSet 1 = .ok (.istore_n 2, 1) := by decide +kernel
theorem dX0_bearerSet_2 : decode cX0_bearerSet 2 = .ok (.iconst 0, 1) := by decide +kernel
theorem dX0_bearerSet_3 : decode cX0_bearerSet 3 = .ok (.istore_n 3, 1) := by decide +kernel
theorem dX0_bearerSet_4 : decode cX0_bearerSet 4 = .ok (.iload_n 3, 1) := by decide +kernel
theorem dX0_bearerSet_5 : decode cX0_bearerSet 5 = .ok (.bipush 12, 2) := by decide +kernel
theorem dX0_bearerSet_7 : decode cX0_bearerSet 7 = .ok (.if_icmp .ge 25, 3) := by decide +kernel
theorem dX0_bearerSet_10 : decode cX0_bearerSet 10 = .ok (.aload_n 0, 1) := by decide +kernel
theorem dX0_bearerSet_11 : decode cX0_bearerSet 11 = .ok (.getfield 35, 3) := by decide +kernel
theorem dX0_bearerSet_14 : decode cX0_bearerSet 14 = .ok (.iload_n 3, 1) := by decide +kernel
theorem dX0_bearerSet_15 : decode cX0_bearerSet 15 = .ok (.iaload, 1) := by decide +kernel
theorem dX0_bearerSet_16 : decode cX0_bearerSet 16 = .ok (.iload_n 1, 1) := by decide +kernel
theorem dX0_bearerSet_17 : decode cX0_bearerSet 17 = .ok (.if_icmp .ne 9, 3) := by decide +kernel
theorem dX0_bearerSet_20 : decode cX0_bearerSet 20 = .ok (.iload_n 2, 1) := by decide +kernel
theorem dX0_bearerSet_21 : decode cX0_bearerSet 21 = .ok (.iconst 1, 1) := by decide +kernel
theorem dX0_bearerSet_22 : decode cX0_bearerSet 22 = .ok (.iload_n 3, 1) := by decide +kernel
theorem dX0_bearerSet_23 : decode cX0_bearerSet 23 = .ok (.ishl, 1) := by decide +kernel
theorem dX0_bearerSet_24 : decode cX0_bearerSet 24 = .ok (.ior, 1) := by decide +kernel
theorem dX0_bearerSet_25 : decode cX0_bearerSet 25 = .ok (.istore_n 2, 1) := by decide +kernel
theorem dX0_bearerSet_26 : decode cX0_bearerSet 26 = .ok (.iinc 3 1, 3) := by decide +kernel
theorem dX0_bearerSet_29 : decode cX0_bearerSet 29 = .ok (.goto (-25), 3) := by decide +kernel
theorem dX0_bearerSet_32 : decode cX0_bearerSet 32 = .ok (.iload_n 2, 1) := by decide +kernel
theorem dX0_bearerSet_33 : decode cX0_bearerSet 33 = .ok (.ireturn, 1) := by decide +kernel
set_option maxRecDepth 20000 in
theorem ggX0_whereIs_X0_bearers : GoodIn wsX0_whereIs wsX0_bearers := goodIn_r _ [6, 7, 8, 9, 10, 11, 12, 13, 14, 15, 16, 17, 18, 19, 20, 21, 22, 23] (by decide +kernel) (by decide +kernel)
set_option maxRecDepth 20000 in
theorem gX0_whereIs_X0_bearers : GoodIn wsX0_whereIs (wsV RX0 81 RX0 yX0_bearers wsX0_bearers) := goodIn_app (goodIn_of _ (by decide +kernel)) ggX0_whereIs_X0_bearers
theorem dX0_whereIs_0 : decode cX0_whereIs 0 = .ok (.aload_n 0, 1) := by decide +kernel
theorem dX0_whereIs_1 : decode cX0_whereIs 1 = .ok (.getfield 28, 3) := by decide +kernel
theorem dX0_whereIs_4 : decode cX0_whereIs 4 = .ok (.iload_n 1, 1) := by decide +kernel
theorem dX0_whereIs_5 : decode cX0_whereIs 5 = .ok (.baload, 1) := by decide +kernel
theorem dX0_whereIs_6 : decode cX0_whereIs 6 = .ok (.ifCond .eq 5, 3) := by decide +kernel
theorem dX0_whereIs_9 : decode cX0_whereIs 9 = .ok (.iconst 2, 1) := by decide +kernel
theorem dX0_whereIs_10 : decode cX0_whereIs 10 = .ok (.ireturn, 1) := by decide +kernel
theorem dX0_whereIs_11 : decode cX0_whereIs 11 = .ok (.aload_n 0, 1) := by decide +kernel
theorem dX0_whereIs_12 : decode cX0_whereIs 12 = .ok (.iload_n 1, 1) := by decide +kernel
theorem dX0_whereIs_13 : decode cX0_whereIs 13 = .ok (.invokevirtual 81, 3) := by decide +kernel
theorem dX0_whereIs_16 : decode cX0_whereIs 16 = .ok (.ifCond .le 7, 3) := by decide +kernel
theorem dX0_whereIs_19 : decode cX0_whereIs 19 = .ok (.iconst 1, 1) := by decide +kernel
theorem dX0_whereIs_20 : decode cX0_whereIs 20 = .ok (.goto 4, 3) := by decide +kernel
theorem dX0_whereIs_23 : decode cX0_whereIs 23 = .ok (.iconst 0, 1) := by decide +kernel
theorem dX0_whereIs_24 : decode cX0_whereIs 24 = .ok (.ireturn, 1) := by decide +kernel
set_option maxRecDepth 20000 in
theorem ggX0_waits_X0_whereIs : GoodIn wsX0_waits wsX0_whereIs := goodIn_r _ [5, 6, 7, 8, 9, 4, 10, 11, 12, 13, 14, 15, 16, 17, 18, 19, 20, 21, 22, 23, 24, 25, 26, 27] (by decide +kernel) (by decide +kernel)
set_option maxRecDepth 20000 in
theorem gX0_waits_X0_whereIs : GoodIn wsX0_waits (wsV RX0 84 RX0 yX0_whereIs wsX0_whereIs) := goodIn_app (goodIn_of _ (by decide +kernel)) ggX0_waits_X0_whereIs
theorem dX0_waits_0 : decode cX0_waits 0 = .ok (.aload_n 0, 1) := by decide +kernel
theorem dX0_waits_1 : decode cX0_waits 1 = .ok (.iload_n 1, 1) := by decide +kernel
theorem dX0_waits_2 : decode cX0_waits 2 = .ok (.invokevirtual 84, 3) := by decide +kernel
theorem dX0_waits_5 : decode cX0_waits 5 = .ok (.ifCond .ne 7, 3) := by decide +kernel
theorem dX0_waits_8 : decode cX0_waits 8 = .ok (.iconst 1, 1) := by decide +kernel
theorem dX0_waits_9 : decode cX0_waits 9 = .ok (.goto 4, 3) := by decide +kernel
theorem dX0_waits_12 : decode cX0_waits 12 = .ok (.iconst 0, 1) := by decide +kernel
theorem dX0_waits_13 : decode cX0_waits 13 = .ok (.ireturn, 1) := by decide +kernel
set_option maxRecDepth 20000 in
theorem ggX0_placeInQueue_X0_waits : GoodIn wsX0_placeInQueue wsX0_waits := goodIn_r _ [7, 8, 9, 10, 6, 11, 12, 13, 14, 15, 16, 17, 18, 19, 20, 21, 22, 23, 24, 25, 26, 27, 28, 29, 30, 31, 32, 33] (by decide +kernel) (by decide +kernel)
set_option maxRecDepth 20000 in
theorem gX0_placeInQueue_X0_waits : GoodIn wsX0_placeInQueue (wsV RX0 87 RX0 yX0_waits wsX0_waits) := goodIn_app (goodIn_of _ (by decide +kernel)) ggX0_placeInQueue_X0_waits
theorem dX0_placeInQueue_0 : decode cX0_placeInQueue 0 = .ok (.aload_n 0, 1) := by decide +kernel
theorem dX0_placeInQueue_1 : decode cX0_placeInQueue 1 = .ok (.iload_n 1, 1) := by decide +kernel
theorem dX0_placeInQueue_2 : decode cX0_placeInQueue 2 = .ok (.invokevirtual 87, 3) := by decide +kernel
theorem dX0_placeInQueue_5 : decode cX0_placeInQueue 5 = .ok (.ifCond .ne 6, 3) := by decide +kernel
theorem dX0_placeInQueue_8 : decode cX0_placeInQueue 8 = .ok (.bipush (-6), 2) := by decide +kernel
theorem dX0_placeInQueue_10 : decode cX0_placeInQueue 10 = .ok (.ireturn, 1) := by decide +kernel
theorem dX0_placeInQueue_11 : decode cX0_placeInQueue 11 = .ok (.iconst 0, 1) := by decide +kernel
theorem dX0_placeInQueue_12 : decode cX0_placeInQueue 12 = .ok (.istore_n 2, 1) := by decide +kernel
theorem dX0_placeInQueue_13 : decode cX0_placeInQueue 13 = .ok (.iconst 0, 1) := by decide +kernel
theorem dX0_placeInQueue_14 : decode cX0_placeInQueue 14 = .ok (.istore_n 3, 1) := by decide +kernel
theorem dX0_placeInQueue_15 : decode cX0_placeInQueue 15 = .ok (.iload_n 3, 1) := by decide +kernel
theorem dX0_placeInQueue_16 : decode cX0_placeInQueue 16 = .ok (.aload_n 0, 1) := by decide +kernel
theorem dX0_placeInQueue_17 : decode cX0_placeInQueue 17 = .ok (.getfield 53, 3) := by decide +kernel
theorem dX0_placeInQueue_20 : decode cX0_placeInQueue 20 = .ok (.if_icmp .ge 67, 3) := by decide +kernel
theorem dX0_placeInQueue_23 : decode cX0_placeInQueue 23 = .ok (.aload_n 0, 1) := by decide +kernel
theorem dX0_placeInQueue_24 : decode cX0_placeInQueue 24 = .ok (.getfield 25, 3) := by decide +kernel
theorem dX0_placeInQueue_27 : decode cX0_placeInQueue 27 = .ok (.iload_n 3, 1) := by decide +kernel
theorem dX0_placeInQueue_28 : decode cX0_placeInQueue 28 = .ok (.iaload, 1) := by decide +kernel
theorem dX0_placeInQueue_29 : decode cX0_placeInQueue 29 = .ok (.aload_n 0, 1) := by decide +kernel
theorem dX0_placeInQueue_30 : decode cX0_placeInQueue 30 = .ok (.getfield 25, 3) := by decide +kernel
theorem dX0_placeInQueue_33 : decode cX0_placeInQueue 33 = .ok (.iload_n 1, 1) := by decide +kernel
theorem dX0_placeInQueue_34 : decode cX0_placeInQueue 34 = .ok (.iaload, 1) := by decide +kernel
theorem dX0_placeInQueue_35 : decode cX0_placeInQueue 35 = .ok (.if_icmp .gt 23, 3) := by decide +kernel
theorem dX0_placeInQueue_38 : decode cX0_placeInQueue 38 = .ok (.aload_n 0, 1) := by decide +kernel
theorem dX0_placeInQueue_39 : decode cX0_placeInQueue 39 = .ok (.getfield 25, 3) := by decide +kernel
theorem dX0_placeInQueue_42 : decode cX0_placeInQueue 42 = .ok (.iload_n 3, 1) := by decide +kernel
theorem dX0_placeInQueue_43 : decode cX0_placeInQueue 43 = .ok (.iaload, 1) := by decide +kernel
theorem dX0_placeInQueue_44 : decode cX0_placeInQueue 44 = .ok (.aload_n 0, 1) := by decide +kernel
theorem dX0_placeInQueue_45 : decode cX0_placeInQueue 45 = .ok (.getfield 25, 3) := by decide +kernel
theorem dX0_placeInQueue_48 : decode cX0_placeInQueue 48 = .ok (.iload_n 1, 1) := by decide +kernel
theorem dX0_placeInQueue_49 : decode cX0_placeInQueue 49 = .ok (.iaload, 1) := by decide +kernel
theorem dX0_placeInQueue_50 : decode cX0_placeInQueue 50 = .ok (.if_icmp .ne 12, 3) := by decide +kernel
theorem dX0_placeInQueue_53 : decode cX0_placeInQueue 53 = .ok (.iload_n 3, 1) := by decide +kernel
theorem dX0_placeInQueue_54 : decode cX0_placeInQueue 54 = .ok (.iload_n 1, 1) := by decide +kernel
theorem dX0_placeInQueue_55 : decode cX0_placeInQueue 55 = .ok (.if_icmp .ge 7, 3) := by decide +kernel
theorem dX0_placeInQueue_58 : decode cX0_placeInQueue 58 = .ok (.iconst 1, 1) := by decide +kernel
theorem dX0_placeInQueue_59 : decode cX0_placeInQueue 59 = .ok (.goto 4, 3) := by decide +kernel
theorem dX0_placeInQueue_62 : decode cX0_placeInQueue 62 = .ok (.iconst 0, 1) := by decide +kernel
theorem dX0_placeInQueue_63 : decode cX0_placeInQueue 63 = .ok (.istore 4, 2) := by decide +kernel
theorem dX0_placeInQueue_65 : decode cX0_placeInQueue 65 = .ok (.iload 4, 2) := by decide +kernel
theorem dX0_placeInQueue_67 : decode cX0_placeInQueue 67 = .ok (.ifCond .eq 14, 3) := by decide +kernel
theorem dX0_placeInQueue_70 : decode cX0_placeInQueue 70 = .ok (.aload_n 0, 1) := by decide +kernel
theorem dX0_placeInQueue_71 : decode cX0_placeInQueue 71 = .ok (.iload_n 3, 1) := by decide +kernel
theorem dX0_placeInQueue_72 : decode cX0_placeInQueue 72 = .ok (.invokevirtual 87, 3) := by decide +kernel
theorem dX0_placeInQueue_75 : decode cX0_placeInQueue 75 = .ok (.ifCond .eq 6, 3) := by decide +kernel
theorem dX0_placeInQueue_78 : decode cX0_placeInQueue 78 = .ok (.iinc 2 1, 3) := by decide +kernel
theorem dX0_placeInQueue_81 : decode cX0_placeInQueue 81 = .ok (.iinc 3 1, 3) := by decide +kernel
theorem dX0_placeInQueue_84 : decode cX0_placeInQueue 84 = .ok (.goto (-69), 3) := by decide +kernel
theorem dX0_placeInQueue_87 : decode cX0_placeInQueue 87 = .ok (.iload_n 2, 1) := by decide +kernel
theorem dX0_placeInQueue_88 : decode cX0_placeInQueue 88 = .ok (.ireturn, 1) := by decide +kernel
set_option maxRecDepth 20000 in
theorem ggX0_waitingNames_X0_waits : GoodIn wsX0_waitingNames wsX0_waits := goodIn_r _ [6, 7, 8, 9, 5, 10, 11, 12, 13, 14, 15, 16, 17, 18, 19, 20, 21, 22, 23, 24, 25, 26, 27, 28, 29, 30, 31, 32] (by decide +kernel) (by decide +kernel)
set_option maxRecDepth 20000 in
theorem gX0_waitingNames_X0_waits : GoodIn wsX0_waitingNames (wsV RX0 87 RX0 yX0_waits wsX0_waits) := goodIn_app (goodIn_of _ (by decide +kernel)) ggX0_waitingNames_X0_waits
theorem dX0_waitingNames_0 : decode cX0_waitingNames 0 = .ok (.iconst 0, 1) := by decide +kernel
theorem dX0_waitingNames_1 : decode cX0_waitingNames 1 = .ok (.istore_n 1, 1) := by decide +kernel
theorem dX0_waitingNames_2 : decode cX0_waitingNames 2 = .ok (.iconst 0, 1) := by decide +kernel
theorem dX0_waitingNames_3 : decode cX0_waitingNames 3 = .ok (.istore_n 2, 1) := by decide +kernel
theorem dX0_waitingNames_4 : decode cX0_waitingNames 4 = .ok (.iload_n 2, 1) := by decide +kernel
theorem dX0_waitingNames_5 : decode cX0_waitingNames 5 = .ok (.aload_n 0, 1) := by decide +kernel
theorem dX0_waitingNames_6 : decode cX0_waitingNames 6 = .ok (.getfield 53, 3) := by decide +kernel
theorem dX0_waitingNames_9 : decode cX0_waitingNames 9 = .ok (.if_icmp .ge 20, 3) := by decide +kernel
theorem dX0_waitingNames_12 : decode cX0_waitingNames 12 = .ok (.aload_n 0, 1) := by decide +kernel
theorem dX0_waitingNames_13 : decode cX0_waitingNames 13 = .ok (.iload_n 2, 1) := by decide +kernel
theorem dX0_waitingNames_14 : decode cX0_waitingNames 14 = .ok (.invokevirtual 87, 3) := by decide +kernel
theorem dX0_waitingNames_17 : decode cX0_waitingNames 17 = .ok (.ifCond .eq 6, 3) := by decide +kernel
theorem dX0_waitingNames_20 : decode cX0_waitingNames 20 = .ok (.iinc 1 1, 3) := by decide +kernel
theorem dX0_waitingNames_23 : decode cX0_waitingNames 23 = .ok (.iinc 2 1, 3) := by decide +kernel
theorem dX0_waitingNames_26 : decode cX0_waitingNames 26 = .ok (.goto (-22), 3) := by decide +kernel
theorem dX0_waitingNames_29 : decode cX0_waitingNames 29 = .ok (.iload_n 1, 1) := by decide +kernel
theorem dX0_waitingNames_30 : decode cX0_waitingNames 30 = .ok (.ireturn, 1) := by decide +kernel
set_option maxRecDepth 20000 in
theorem ggX0_bearingCorners_X0_bearers : GoodIn wsX0_bearingCorners wsX0_bearers := goodIn_r _ [5, 6, 7, 8, 9, 10, 11, 12, 13, 14, 15, 16, 17, 18, 19, 20, 21, 22] (by decide +kernel) (by decide +kernel)
set_option maxRecDepth 20000 in
theorem gX0_bearingCorners_X0_bearers : GoodIn wsX0_bearingCorners (wsV RX0 81 RX0 yX0_bearers wsX0_bearers) := goodIn_app (goodIn_of _ (by decide +kernel)) ggX0_bearingCorners_X0_bearers
theorem dX0_bearingCorners_0 : decode cX0_bearingCorners 0 = .ok (.bipush 12, 2) := by decide +kernel
theorem dX0_bearingCorners_2 : decode cX0_bearingCorners 2 = .ok (.aload_n 0, 1) := by decide +kernel
theorem dX0_bearingCorners_3 : decode cX0_bearingCorners 3 = .ok (.bipush (-6), 2) := by decide +kernel
theorem dX0_bearingCorners_5 : decode cX0_bearingCorners 5 = .ok (.invokevirtual 81, 3) := by decide +kernel
theorem dX0_bearingCorners_8 : decode cX0_bearingCorners 8 = .ok (.isub, 1) := by decide +kernel
theorem dX0_bearingCorners_9 : decode cX0_bearingCorners 9 = .ok (.ireturn, 1) := by decide +kernel
set_option maxRecDepth 20000 in
theorem ggX0_punPairs_X0_isPun : GoodIn wsX0_punPairs wsX0_isPun := goodIn_r _ [6, 7, 8, 9, 10, 5, 11, 12, 13, 14, 15, 16, 17, 18, 19, 20, 21, 22, 23, 24, 25, 26, 27, 28] (by decide +kernel) (by decide +kernel)
set_option maxRecDepth 20000 in
theorem gX0_punPairs_X0_isPun : GoodIn wsX0_punPairs (wsV RX0 91 RX0 yX0_isPun wsX0_isPun) := goodIn_app (goodIn_of _ (by decide +kernel)) ggX0_punPairs_X0_isPun
theorem dX0_punPairs_0 : decode cX0_punPairs 0 = .ok (.iconst 0, 1) := by decide +kernel
theorem dX0_punPairs_1 : decode cX0_punPairs 1 = .ok (.istore_n 1, 1) := by decide +kernel
theorem dX0_punPairs_2 : decode cX0_punPairs 2 = .ok (.iconst 0, 1) := by decide +kernel
theorem dX0_punPairs_3 : decode cX0_punPairs 3 = .ok (.istore_n 2, 1) := by decide +kernel
theorem dX0_punPairs_4 : decode cX0_punPairs 4 = .ok (.iload_n 2, 1) := by decide +kernel
theorem dX0_punPairs_5 : decode cX0_punPairs 5 = .ok (.bipush 12, 2) := by decide +kernel
theorem dX0_punPairs_7 : decode cX0_punPairs 7 = .ok (.if_icmp .ge 47, 3) := by decide +kernel
theorem dX0_punPairs_10 : decode cX0_punPairs 10 = .ok (.iload_n 2, 1) := by decide +kernel
theorem dX0_punPairs_11 : decode cX0_punPairs 11 = .ok (.iconst 1, 1) := by decide +kernel
theorem dX0_punPairs_12 : decode cX0_punPairs 12 = .ok (.iadd, 1) := by decide +kernel
theorem dX0_punPairs_13 : decode cX0_punPairs 13 = .ok (.istore_n 3, 1) := by decide +kernel
theorem dX0_punPairs_14 : decode cX0_punPairs 14 = .ok (.iload_n 3, 1) := by decide +kernel
theorem dX0_punPairs_15 : decode cX0_punPairs 15 = .ok (.bipush 12, 2) := by decide +kernel
theorem dX0_punPairs_17 : decode cX0_punPairs 17 = .ok (.if_icmp .ge 31, 3) := by decide +kernel
theorem dX0_punPairs_20 : decode cX0_punPairs 20 = .ok (.aload_n 0, 1) := by decide +kernel
theorem dX0_punPairs_21 : decode cX0_punPairs 21 = .ok (.aload_n 0, 1) := by decide +kernel
theorem dX0_punPairs_22 : decode cX0_punPairs 22 = .ok (.getfield 35, 3) := by decide +kernel
theorem dX0_punPairs_25 : decode cX0_punPairs 25 = .ok (.iload_n 2, 1) := by decide +kernel
theorem dX0_punPairs_26 : decode cX0_punPairs 26 = .ok (.iaload, 1) := by decide +kernel
theorem dX0_punPairs_27 : decode cX0_punPairs 27 = .ok (.aload_n 0, 1) := by decide +kernel
theorem dX0_punPairs_28 : decode cX0_punPairs 28 = .ok (.getfield 35, 3) := by decide +kernel
theorem dX0_punPairs_31 : decode cX0_punPairs 31 = .ok (.iload_n 3, 1) := by decide +kernel
theorem dX0_punPairs_32 : decode cX0_punPairs 32 = .ok (.iaload, 1) := by decide +kernel
theorem dX0_punPairs_33 : decode cX0_punPairs 33 = .ok (.invokevirtual 91, 3) := by decide +kernel
theorem dX0_punPairs_36 : decode cX0_punPairs 36 = .ok (.ifCond .eq 6, 3) := by decide +kernel
theorem dX0_punPairs_39 : decode cX0_punPairs 39 = .ok (.iinc 1 1, 3) := by decide +kernel
theorem dX0_punPairs_42 : decode cX0_punPairs 42 = .ok (.iinc 3 1, 3) := by decide +kernel
theorem dX0_punPairs_45 : decode cX0_punPairs 45 = .ok (.goto (-31), 3) := by decide +kernel
theorem dX0_punPairs_48 : decode cX0_punPairs 48 = .ok (.iinc 2 1, 3) := by decide +kernel
theorem dX0_punPairs_51 : decode cX0_punPairs 51 = .ok (.goto (-47), 3) := by decide +kernel
theorem dX0_punPairs_54 : decode cX0_punPairs 54 = .ok (.iload_n 1, 1) := by decide +kernel
theorem dX0_punPairs_55 : decode cX0_punPairs 55 = .ok (.ireturn, 1) := by decide +kernel
set_option maxRecDepth 20000 in
theorem ggX0_isPun_X0_hasName : GoodIn wsX0_isPun wsX0_hasName := goodIn_r _ [6, 7, 8, 9, 10, 11, 12, 13, 14, 15, 16, 17, 18, 19, 20, 21, 22, 23] (by decide +kernel) (by decide +kernel)
set_option maxRecDepth 20000 in
theorem gX0_isPun_X0_hasName : GoodIn wsX0_isPun (wsV RX0 94 RX0 yX0_hasName wsX0_hasName) := goodIn_app (goodIn_of _ (by decide +kernel)) ggX0_isPun_X0_hasName
theorem dX0_isPun_0 : decode cX0_isPun 0 = .ok (.iload_n 1, 1) := by decide +kernel
theorem dX0_isPun_1 : decode cX0_isPun 1 = .ok (.iload_n 2, 1) := by decide +kernel
theorem dX0_isPun_2 : decode cX0_isPun 2 = .ok (.if_icmp .eq 38, 3) := by decide +kernel
theorem dX0_isPun_5 : decode cX0_isPun 5 = .ok (.aload_n 0, 1) := by decide +kernel
theorem dX0_isPun_6 : decode cX0_isPun 6 = .ok (.iload_n 1, 1) := by decide +kernel
theorem dX0_isPun_7 : decode cX0_isPun 7 = .ok (.invokevirtual 94, 3) := by decide +kernel
theorem dX0_isPun_10 : decode cX0_isPun 10 = .ok (.ifCond .eq 30, 3) := by decide +kernel
theorem dX0_isPun_13 : decode cX0_isPun 13 = .ok (.aload_n 0, 1) := by decide +kernel
theorem dX0_isPun_14 : decode cX0_isPun 14 = .ok (.iload_n 2, 1) := by decide +kernel
theorem dX0_isPun_15 : decode cX0_isPun 15 = .ok (.invokevirtual 94, 3) := by decide +kernel
theorem dX0_isPun_18 : decode cX0_isPun 18 = .ok (.ifCond .eq 22, 3) := by decide +kernel
theorem dX0_isPun_21 : decode cX0_isPun 21 = .ok (.aload_n 0, 1) := by decide +kernel
theorem dX0_isPun_22 : decode cX0_isPun 22 = .ok (.getfield 22, 3) := by decide +kernel
theorem dX0_isPun_25 : decode cX0_isPun 25 = .ok (.iload_n 1, 1) := by decide +kernel
theorem dX0_isPun_26 : decode cX0_isPun 26 = .ok (.iaload, 1) := by decide +kernel
theorem dX0_isPun_27 : decode cX0_isPun 27 = .ok (.aload_n 0, 1) := by decide +kernel
theorem dX0_isPun_28 : decode cX0_isPun 28 = .ok (.getfield 22, 3) := by decide +kernel
theorem dX0_isPun_31 : decode cX0_isPun 31 = .ok (.iload_n 2, 1) := by decide +kernel
theorem dX0_isPun_32 : decode cX0_isPun 32 = .ok (.iaload, 1) := by decide +kernel
theorem dX0_isPun_33 : decode cX0_isPun 33 = .ok (.if_icmp .ne 7, 3) := by decide +kernel
theorem dX0_isPun_36 : decode cX0_isPun 36 = .ok (.iconst 1, 1) := by decide +kernel
theorem dX0_isPun_37 : decode cX0_isPun 37 = .ok (.goto 4, 3) := by decide +kernel
theorem dX0_isPun_40 : decode cX0_isPun 40 = .ok (.iconst 0, 1) := by decide +kernel
theorem dX0_isPun_41 : decode cX0_isPun 41 = .ok (.ireturn, 1) := by decide +kernel
set_option maxRecDepth 20000 in
theorem ggX0_refusal_X0_bearers : GoodIn wsX0_refusal wsX0_bearers := goodIn_r _ [5, 6, 41, 42, 43, 44, 45, 46, 47, 48, 49, 50, 51, 52, 53, 54, 55, 56] (by decide +kernel) (by decide +kernel)
set_option maxRecDepth 20000 in
theorem gX0_refusal_X0_bearers : GoodIn wsX0_refusal (wsV RX0 81 RX0 yX0_bearers wsX0_bearers) := goodIn_app (goodIn_of _ (by decide +kernel)) ggX0_refusal_X0_bearers
set_option maxRecDepth 20000 in
theorem ggX0_refusal_X0_nearPuns : GoodIn wsX0_refusal wsX0_nearPuns := goodIn_r _ [10, 6, 11, 12, 13, 4, 14, 15, 16, 17, 18, 19, 20, 21, 22, 23, 24, 25, 26, 27, 28, 29, 30, 31, 32, 41, 42, 43, 44, 45, 46, 47, 48, 49, 50, 51, 52, 53, 54, 55, 56] (by decide +kernel) (by decide +kernel)
set_option maxRecDepth 20000 in
theorem gX0_refusal_X0_nearPuns : GoodIn wsX0_refusal (wsV RX0 97 RX0 yX0_nearPuns wsX0_nearPuns) := goodIn_app (goodIn_of _ (by decide +kernel)) ggX0_refusal_X0_nearPuns
set_option maxRecDepth 20000 in
theorem ggX0_refusal_X0_reason : GoodIn wsX0_refusal wsX0_reason := goodIn_r _ [36, 6, 37, 25, 38, 39, 40, 16, 17, 18, 4, 19, 20, 41, 42, 43, 44, 45, 46, 47, 48, 49, 50, 51, 52, 53, 54, 55, 56] (by decide +kernel) (by decide +kernel)
set_option maxRecDepth 20000 in
theorem gX0_refusal_X0_reason : GoodIn wsX0_refusal (wsV RX0 100 RX0 yX0_reason wsX0_reason) := goodIn_app (goodIn_of _ (by decide +kernel)) ggX0_refusal_X0_reason
theorem dX0_refusal_0 : decode cX0_refusal 0 = .ok (.aload_n 0, 1) := by decide +kernel
theorem dX0_refusal_1 : decode cX0_refusal 1 = .ok (.iload_n 1, 1) := by decide +kernel
theorem dX0_refusal_2 : decode cX0_refusal 2 = .ok (.iload_n 2, 1) := by decide +kernel
theorem dX0_refusal_3 : decode cX0_refusal 3 = .ok (.aload_n 0, 1) := by decide +kernel
theorem dX0_refusal_4 : decode cX0_refusal 4 = .ok (.iload_n 1, 1) := by decide +kernel
theorem dX0_refusal_5 : decode cX0_refusal 5 = .ok (.invokevirtual 81, 3) := by decide +kernel
theorem dX0_refusal_8 : decode cX0_refusal 8 = .ok (.aload_n 0, 1) := by decide +kernel
theorem dX0_refusal_9 : decode cX0_refusal 9 = .ok (.iload_n 1, 1) := by decide +kernel
theorem dX0_refusal_10 : decode cX0_refusal 10 = .ok (.invokevirtual 97, 3) := by decide +kernel
theorem dX0_refusal_13 : decode cX0_refusal 13 = .ok (.invokevirtual 100, 3) := by decide +kernel
theorem dX0_refusal_16 : decode cX0_refusal 16 = .ok (.ireturn, 1) := by decide +kernel
set_option maxRecDepth 20000 in
theorem ggX0_lowestFree_X0_bearers : GoodIn wsX0_lowestFree wsX0_bearers := goodIn_r _ [5, 6, 41, 42, 43, 44, 45, 46, 47, 48, 49, 50, 51, 52, 53, 54, 55, 56] (by decide +kernel) (by decide +kernel)
set_option maxRecDepth 20000 in
theorem gX0_lowestFree_X0_bearers : GoodIn wsX0_lowestFree (wsV RX0 81 RX0 yX0_bearers wsX0_bearers) := goodIn_app (goodIn_of _ (by decide +kernel)) ggX0_lowestFree_X0_bearers
set_option maxRecDepth 20000 in
theorem ggX0_lowestFree_X0_nearPuns : GoodIn wsX0_lowestFree wsX0_nearPuns := goodIn_r _ [10, 6, 11, 12, 13, 4, 14, 15, 16, 17, 18, 19, 20, 21, 22, 23, 24, 25, 26, 27, 28, 29, 30, 31, 32, 41, 42, 43, 44, 45, 46, 47, 48, 49, 50, 51, 52, 53, 54, 55, 56] (by decide +kernel) (by decide +kernel)
set_option maxRecDepth 20000 in
theorem gX0_lowestFree_X0_nearPuns : GoodIn wsX0_lowestFree (wsV RX0 97 RX0 yX0_nearPuns wsX0_nearPuns) := goodIn_app (goodIn_of _ (by decide +kernel)) ggX0_lowestFree_X0_nearPuns
set_option maxRecDepth 20000 in
theorem ggX0_lowestFree_X0_reason : GoodIn wsX0_lowestFree wsX0_reason := goodIn_r _ [36, 6, 37, 25, 38, 39, 40, 16, 17, 18, 4, 19, 20, 41, 42, 43, 44, 45, 46, 47, 48, 49, 50, 51, 52, 53, 54, 55, 56] (by decide +kernel) (by decide +kernel)
set_option maxRecDepth 20000 in
theorem gX0_lowestFree_X0_reason : GoodIn wsX0_lowestFree (wsV RX0 100 RX0 yX0_reason wsX0_reason) := goodIn_app (goodIn_of _ (by decide +kernel)) ggX0_lowestFree_X0_reason
theorem dX0_lowestFree_0 : decode cX0_lowestFree 0 = .ok (.aload_n 0, 1) := by decide +kernel
theorem dX0_lowestFree_1 : decode cX0_lowestFree 1 = .ok (.iload_n 1, 1) := by decide +kernel
theorem dX0_lowestFree_2 : decode cX0_lowestFree 2 = .ok (.invokevirtual 81, 3) := by decide +kernel
theorem dX0_lowestFree_5 : decode cX0_lowestFree 5 = .ok (.istore_n 2, 1) := by decide +kernel
theorem dX0_lowestFree_6 : decode cX0_lowestFree 6 = .ok (.aload_n 0, 1) := by decide +kernel
theorem dX0_lowestFree_7 : decode cX0_lowestFree 7 = .ok (.iload_n 1, 1) := by decide +kernel
theorem dX0_lowestFree_8 : decode cX0_lowestFree 8 = .ok (.invokevirtual 97, 3) := by decide +kernel
theorem dX0_lowestFree_11 : decode cX0_lowestFree 11 = .ok (.istore_n 3, 1) := by decide +kernel
theorem dX0_lowestFree_12 : decode cX0_lowestFree 12 = .ok (.iconst 0, 1) := by decide +kernel
theorem dX0_lowestFree_13 : decode cX0_lowestFree 13 = .ok (.istore 4, 2) := by decide +kernel
theorem dX0_lowestFree_15 : decode cX0_lowestFree 15 = .ok (.iload 4, 2) := by decide +kernel
theorem dX0_lowestFree_17 : decode cX0_lowestFree 17 = .ok (.bipush 12, 2) := by decide +kernel
theorem dX0_lowestFree_19 : decode cX0_lowestFree 19 = .ok (.if_icmp .ge 24, 3) := by decide +kernel
theorem dX0_lowestFree_22 : decode cX0_lowestFree 22 = .ok (.aload_n 0, 1) := by decide +kernel
theorem dX0_lowestFree_23 : decode cX0_lowestFree 23 = .ok (.iload_n 1, 1) := by decide +kernel
theorem dX0_lowestFree_24 : decode cX0_lowestFree 24 = .ok (.iload 4, 2) := by decide +kernel
theorem dX0_lowestFree_26 : decode cX0_lowestFree 26 = .ok (.iload_n 2, 1) := by decide +kernel
theorem dX0_lowestFree_27 : decode cX0_lowestFree 27 = .ok (.iload_n 3, 1) := by decide +kernel
theorem dX0_lowestFree_28 : decode cX0_lowestFree 28 = .ok (.invokevirtual 100, 3) := by decide +kernel
theorem dX0_lowestFree_31 : decode cX0_lowestFree 31 = .ok (.ifCond .ne 6, 3) := by decide +kernel
theorem dX0_lowestFree_34 : decode cX0_lowestFree 34 = .ok (.iload 4, 2) := by decide +kernel
theorem dX0_lowestFree_36 : decode cX0_lowestFree 36 = .ok (.ireturn, 1) := by decide +kernel
theorem dX0_lowestFree_37 : decode cX0_lowestFree 37 = .ok (.iinc 4 1, 3) := by decide +kernel
theorem dX0_lowestFree_40 : decode cX0_lowestFree 40 = .ok (.goto (-25), 3) := by decide +kernel
theorem dX0_lowestFree_43 : decode cX0_lowestFree 43 = .ok (.bipush (-6), 2) := by decide +kernel
theorem dX0_lowestFree_45 : decode cX0_lowestFree 45 = .ok (.ireturn, 1) := by decide +kernel
set_option maxRecDepth 20000 in
theorem ggX0_reason_X0_hasName : GoodIn wsX0_reason wsX0_hasName := goodIn_r _ [11, 12, 13, 14, 15, 16, 17, 18, 19, 20, 21, 22, 23, 24, 25, 26, 27, 28] (by decide +kernel) (by decide +kernel)
set_option maxRecDepth 20000 in
theorem gX0_reason_X0_hasName : GoodIn wsX0_reason (wsV RX0 94 RX0 yX0_hasName wsX0_hasName) := goodIn_app (goodIn_of _ (by decide +kernel)) ggX0_reason_X0_hasName
theorem dX0_reason_0 : decode cX0_reason 0 = .ok (.aload_n 0, 1) := by decide +kernel
theorem dX0_reason_1 : decode cX0_reason 1 = .ok (.getfield 35, 3) := by decide +kernel
theorem dX0_reason_4 : decode cX0_reason 4 = .ok (.iload_n 2, 1) := by decide +kernel
theorem dX0_reason_5 : decode cX0_reason 5 = .ok (.iaload, 1) := by decide +kernel
theorem dX0_reason_6 : decode cX0_reason 6 = .ok (.istore 5, 2) := by decide +kernel
theorem dX0_reason_8 : decode cX0_reason 8 = .ok (.aload_n 0, 1) := by decide +kernel
theorem dX0_reason_9 : decode cX0_reason 9 = .ok (.getfield 28, 3) := by decide +kernel
theorem dX0_reason_12 : decode cX0_reason 12 = .ok (.iload_n 1, 1) := by decide +kernel
theorem dX0_reason_13 : decode cX0_reason 13 = .ok (.baload, 1) := by decide +kernel
theorem dX0_reason_14 : decode cX0_reason 14 = .ok (.ifCond .eq 5, 3) := by decide +kernel
theorem dX0_reason_17 : decode cX0_reason 17 = .ok (.iconst 1, 1) := by decide +kernel
theorem dX0_reason_18 : decode cX0_reason 18 = .ok (.ireturn, 1) := by decide +kernel
theorem dX0_reason_19 : decode cX0_reason 19 = .ok (.iload 5, 2) := by decide +kernel
theorem dX0_reason_21 : decode cX0_reason 21 = .ok (.iload_n 1, 1) := by decide +kernel
theorem dX0_reason_22 : decode cX0_reason 22 = .ok (.if_icmp .ne 5, 3) := by decide +kernel
theorem dX0_reason_25 : decode cX0_reason 25 = .ok (.iconst 2, 1) := by decide +kernel
theorem dX0_reason_26 : decode cX0_reason 26 = .ok (.ireturn, 1) := by decide +kernel
theorem dX0_reason_27 : decode cX0_reason 27 = .ok (.iload_n 3, 1) := by decide +kernel
theorem dX0_reason_28 : decode cX0_reason 28 = .ok (.aload_n 0, 1) := by decide +kernel
theorem dX0_reason_29 : decode cX0_reason 29 = .ok (.getfield 9, 3) := by decide +kernel
theorem dX0_reason_32 : decode cX0_reason 32 = .ok (.iconst 1, 1) := by decide +kernel
theorem dX0_reason_33 : decode cX0_reason 33 = .ok (.iaload, 1) := by decide +kernel
theorem dX0_reason_34 : decode cX0_reason 34 = .ok (.if_icmp .lt 5, 3) := by decide +kernel
theorem dX0_reason_37 : decode cX0_reason 37 = .ok (.iconst 3, 1) := by decide +kernel
theorem dX0_reason_38 : decode cX0_reason 38 = .ok (.ireturn, 1) := by decide +kernel
theorem dX0_reason_39 : decode cX0_reason 39 = .ok (.iload 4, 2) := by decide +kernel
theorem dX0_reason_41 : decode cX0_reason 41 = .ok (.iconst 1, 1) := by decide +kernel
theorem dX0_reason_42 : decode cX0_reason 42 = .ok (.iload_n 2, 1) := by decide +kernel
theorem dX0_reason_43 : decode cX0_reason 43 = .ok (.ishl, 1) := by decide +kernel
theorem dX0_reason_44 : decode cX0_reason 44 = .ok (.iand, 1) := by decide +kernel
theorem dX0_reason_45 : decode cX0_reason 45 = .ok (.ifCond .eq 5, 3) := by decide +kernel
theorem dX0_reason_48 : decode cX0_reason 48 = .ok (.iconst 4, 1) := by decide +kernel
theorem dX0_reason_49 : decode cX0_reason 49 = .ok (.ireturn, 1) := by decide +kernel
theorem dX0_reason_50 : decode cX0_reason 50 = .ok (.aload_n 0, 1) := by decide +kernel
theorem dX0_reason_51 : decode cX0_reason 51 = .ok (.iload 5, 2) := by decide +kernel
theorem dX0_reason_53 : decode cX0_reason 53 = .ok (.invokevirtual 94, 3) := by decide +kernel
theorem dX0_reason_56 : decode cX0_reason 56 = .ok (.ifCond .eq 21, 3) := by decide +kernel
theorem dX0_reason_59 : decode cX0_reason 59 = .ok (.aload_n 0, 1) := by decide +kernel
theorem dX0_reason_60 : decode cX0_reason 60 = .ok (.getfield 25, 3) := by decide +kernel
theorem dX0_reason_63 : decode cX0_reason 63 = .ok (.iload 5, 2) := by decide +kernel
theorem dX0_reason_65 : decode cX0_reason 65 = .ok (.iaload, 1) := by decide +kernel
theorem dX0_reason_66 : decode cX0_reason 66 = .ok (.aload_n 0, 1) := by decide +kernel
theorem dX0_reason_67 : decode cX0_reason 67 = .ok (.getfield 25, 3) := by decide +kernel
theorem dX0_reason_70 : decode cX0_reason 70 = .ok (.iload_n 1, 1) := by decide +kernel
theorem dX0_reason_71 : decode cX0_reason 71 = .ok (.iaload, 1) := by decide +kernel
theorem dX0_reason_72 : decode cX0_reason 72 = .ok (.if_icmp .le 5, 3) := by decide +kernel
theorem dX0_reason_75 : decode cX0_reason 75 = .ok (.iconst 5, 1) := by decide +kernel
theorem dX0_reason_76 : decode cX0_reason 76 = .ok (.ireturn, 1) := by decide +kernel
theorem dX0_reason_77 : decode cX0_reason 77 = .ok (.aload_n 0, 1) := by decide +kernel
theorem dX0_reason_78 : decode cX0_reason 78 = .ok (.iload 5, 2) := by decide +kernel
theorem dX0_reason_80 : decode cX0_reason 80 = .ok (.invokevirtual 94, 3) := by decide +kernel
theorem dX0_reason_83 : decode cX0_reason 83 = .ok (.ifCond .eq 26, 3) := by decide +kernel
theorem dX0_reason_86 : decode cX0_reason 86 = .ok (.aload_n 0, 1) := by decide +kernel
theorem dX0_reason_87 : decode cX0_reason 87 = .ok (.getfield 104, 3) := by decide +kernel
theorem dX0_reason_90 : decode cX0_reason 90 = .ok (.aload_n 0, 1) := by decide +kernel
theorem dX0_reason_91 : decode cX0_reason 91 = .ok (.getfield 44, 3) := by decide +kernel
theorem dX0_reason_94 : decode cX0_reason 94 = .ok (.iload_n 2, 1) := by decide +kernel
theorem dX0_reason_95 : decode cX0_reason 95 = .ok (.iaload, 1) := by decide +kernel
theorem dX0_reason_96 : decode cX0_reason 96 = .ok (.isub, 1) := by decide +kernel
theorem dX0_reason_97 : decode cX0_reason 97 = .ok (.aload_n 0, 1) := by decide +kernel
theorem dX0_reason_98 : decode cX0_reason 98 = .ok (.getfield 9, 3) := by decide +kernel
theorem dX0_reason_101 : decode cX0_reason 101 = .ok (.iconst 3, 1) := by decide +kernel
theorem dX0_reason_102 : decode cX0_reason 102 = .ok (.iaload, 1) := by decide +kernel
theorem dX0_reason_103 : decode cX0_reason 103 = .ok (.if_icmp .ge 6, 3) := by decide +kernel
theorem dX0_reason_106 : decode cX0_reason 106 = .ok (.bipush 6, 2) := by decide +kernel
theorem dX0_reason_108 : decode cX0_reason 108 = .ok (.ireturn, 1) := by decide +kernel
theorem dX0_reason_109 : decode cX0_reason 109 = .ok (.iconst 0, 1) := by decide +kernel
theorem dX0_reason_110 : decode cX0_reason 110 = .ok (.ireturn, 1) := by decide +kernel
set_option maxRecDepth 20000 in
theorem ggX0_nearPuns_X0_isPun : GoodIn wsX0_nearPuns wsX0_isPun := goodIn_r _ [6, 7, 8, 9, 10, 5, 11, 12, 25, 26, 27, 28, 29, 30, 31, 32, 33, 34, 35, 36, 37, 38, 39, 40] (by decide +kernel) (by decide +kernel)
set_option maxRecDepth 20000 in
theorem gX0_nearPuns_X0_isPun : GoodIn wsX0_nearPuns (wsV RX0 91 RX0 yX0_isPun wsX0_isPun) := goodIn_app (goodIn_of _ (by decide +kernel)) ggX0_nearPuns_X0_isPun
set_option maxRecDepth 20000 in
theorem ggX0_nearPuns_X0_around : GoodIn wsX0_nearPuns wsX0_around := goodIn_r _ [16, 17, 18, 19, 20, 21, 22, 23, 24, 25, 26, 27, 28, 29, 30, 31, 32, 33, 34, 35, 36, 37, 38, 39, 40] (by decide +kernel) (by decide +kernel)
set_option maxRecDepth 20000 in
theorem gX0_nearPuns_X0_around : GoodIn wsX0_nearPuns (wsV RX0 107 RX0 yX0_around wsX0_around) := goodIn_app (goodIn_of _ (by decide +kernel)) ggX0_nearPuns_X0_around
theorem dX0_nearPuns_0 : decode cX0_nearPuns 0 = .ok (.iconst 0, 1) := by decide +kernel
theorem dX0_nearPuns_1 : decode cX0_nearPuns 1 = .ok (.istore_n 2, 1) := by decide +kernel
theorem dX0_nearPuns_2 : decode cX0_nearPuns 2 = .ok (.iconst 0, 1) := by decide +kernel
theorem dX0_nearPuns_3 : decode cX0_nearPuns 3 = .ok (.istore_n 3, 1) := by decide +kernel
theorem dX0_nearPuns_4 : decode cX0_nearPuns 4 = .ok (.iload_n 3, 1) := by decide +kernel
theorem dX0_nearPuns_5 : decode cX0_nearPuns 5 = .ok (.bipush 12, 2) := by decide +kernel
theorem dX0_nearPuns_7 : decode cX0_nearPuns 7 = .ok (.if_icmp .ge 31, 3) := by decide +kernel
theorem dX0_nearPuns_10 : decode cX0_nearPuns 10 = .ok (.aload_n 0, 1) := by decide +kernel
theorem dX0_nearPuns_11 : decode cX0_nearPuns 11 = .ok (.iload_n 1, 1) := by decide +kernel
theorem dX0_nearPuns_12 : decode cX0_nearPuns 12 = .ok (.aload_n 0, 1) := by decide +kernel
theorem dX0_nearPuns_13 : decode cX0_nearPuns 13 = .ok (.getfield 35, 3) := by decide +kernel
theorem dX0_nearPuns_16 : decode cX0_nearPuns 16 = .ok (.iload_n 3, 1) := by decide +kernel
theorem dX0_nearPuns_17 : decode cX0_nearPuns 17 = .ok (.iaload, 1) := by decide +kernel
theorem dX0_nearPuns_18 : decode cX0_nearPuns 18 = .ok (.invokevirtual 91, 3) := by decide +kernel
theorem dX0_nearPuns_21 : decode cX0_nearPuns 21 = .ok (.ifCond .eq 11, 3) := by decide +kernel
theorem dX0_nearPuns_24 : decode cX0_nearPuns 24 = .ok (.iload_n 2, 1) := by decide +kernel
theorem dX0_nearPuns_25 : decode cX0_nearPuns 25 = .ok (.aload_n 0, 1) := by decide +kernel
theorem dX0_nearPuns_26 : decode cX0_nearPuns 26 = .ok (.iload_n 3, 1) := by decide +kernel
theorem dX0_nearPuns_27 : decode cX0_nearPuns 27 = .ok (.invokevirtual 107, 3) := by decide +kernel
theorem dX0_nearPuns_30 : decode cX0_nearPuns 30 = .ok (.ior, 1) := by decide +kernel
theorem dX0_nearPuns_31 : decode cX0_nearPuns 31 = .ok (.istore_n 2, 1) := by decide +kernel
theorem dX0_nearPuns_32 : decode cX0_nearPuns 32 = .ok (.iinc 3 1, 3) := by decide +kernel
theorem dX0_nearPuns_35 : decode cX0_nearPuns 35 = .ok (.goto (-31), 3) := by decide +kernel
theorem dX0_nearPuns_38 : decode cX0_nearPuns 38 = .ok (.iload_n 2, 1) := by decide +kernel
theorem dX0_nearPuns_39 : decode cX0_nearPuns 39 = .ok (.ireturn, 1) := by decide +kernel
theorem dX0_around_0 : decode cX0_around 0 = .ok (.iconst 0, 1) := by decide +kernel
theorem dX0_around_1 : decode cX0_around 1 = .ok (.iload_n 1, 1) := by decide +kernel
theorem dX0_around_2 : decode cX0_around 2 = .ok (.aload_n 0, 1) := by decide +kernel
theorem dX0_around_3 : decode cX0_around 3 = .ok (.getfield 9, 3) := by decide +kernel
theorem dX0_around_6 : decode cX0_around 6 = .ok (.iconst 0, 1) := by decide +kernel
theorem dX0_around_7 : decode cX0_around 7 = .ok (.iaload, 1) := by decide +kernel
theorem dX0_around_8 : decode cX0_around 8 = .ok (.isub, 1) := by decide +kernel
theorem dX0_around_9 : decode cX0_around 9 = .ok (.invokestatic 110, 3) := by decide +kernel
theorem dX0_around_12 : decode cX0_around 12 = .ok (.istore_n 2, 1) := by decide +kernel
theorem dX0_around_13 : decode cX0_around 13 = .ok (.bipush 11, 2) := by decide +kernel
theorem dX0_around_15 : decode cX0_around 15 = .ok (.iload_n 1, 1) := by decide +kernel
theorem dX0_around_16 : decode cX0_around 16 = .ok (.aload_n 0, 1) := by decide +kernel
theorem dX0_around_17 : decode cX0_around 17 = .ok (.getfield 9, 3) := by decide +kernel
theorem dX0_around_20 : decode cX0_around 20 = .ok (.iconst 0, 1) := by decide +kernel
theorem dX0_around_21 : decode cX0_around 21 = .ok (.iaload, 1) := by decide +kernel
theorem dX0_around_22 : decode cX0_around 22 = .ok (.iadd, 1) := by decide +kernel
theorem dX0_around_23 : decode cX0_around 23 = .ok (.invokestatic 115, 3) := by decide +kernel
theorem dX0_around_26 : decode cX0_around 26 = .ok (.istore_n 3, 1) := by decide +kernel
theorem dX0_around_27 : decode cX0_around 27 = .ok (.iconst 0, 1) := by decide +kernel
theorem dX0_around_28 : decode cX0_around 28 = .ok (.istore 4, 2) := by decide +kernel
theorem dX0_around_30 : decode cX0_around 30 = .ok (.iload_n 2, 1) := by decide +kernel
theorem dX0_around_31 : decode cX0_around 31 = .ok (.istore 5, 2) := by decide +kernel
theorem dX0_around_33 : decode cX0_around 33 = .ok (.iload 5, 2) := by decide +kernel
theorem dX0_around_35 : decode cX0_around 35 = .ok (.iload_n 3, 1) := by decide +kernel
theorem dX0_around_36 : decode cX0_around 36 = .ok (.if_icmp .gt 24, 3) := by decide +kernel
theorem dX0_around_39 : decode cX0_around 39 = .ok (.iload 5, 2) := by decide +kernel
theorem dX0_around_41 : decode cX0_around 41 = .ok (.iload_n 1, 1) := by decide +kernel
theorem dX0_around_42 : decode cX0_around 42 = .ok (.if_icmp .eq 12, 3) := by decide +kernel
theorem dX0_around_45 : decode cX0_around 45 = .ok (.iload 4, 2) := by decide +kernel
theorem dX0_around_47 : decode cX0_around 47 = .ok (.iconst 1, 1) := by decide +kernel
theorem dX0_around_48 : decode cX0_around 48 = .ok (.iload 5, 2) := by decide +kernel
theorem dX0_around_50 : decode cX0_around 50 = .ok (.ishl, 1) := by decide +kernel
theorem dX0_around_51 : decode cX0_around 51 = .ok (.ior, 1) := by decide +kernel
theorem dX0_around_52 : decode cX0_around 52 = .ok (.istore 4, 2) := by decide +kernel
theorem dX0_around_54 : decode cX0_around 54 = .ok (.iinc 5 1, 3) := by decide +kernel
theorem dX0_around_57 : decode cX0_around 57 = .ok (.goto (-24), 3) := by decide +kernel
theorem dX0_around_60 : decode cX0_around 60 = .ok (.iload 4, 2) := by decide +kernel
theorem dX0_around_62 : decode cX0_around 62 = .ok (.ireturn, 1) := by decide +kernel
theorem dX0_place_0 : decode cX0_place 0 = .ok (.aload_n 0, 1) := by decide +kernel
theorem dX0_place_1 : decode cX0_place 1 = .ok (.getfield 35, 3) := by decide +kernel
theorem dX0_place_4 : decode cX0_place 4 = .ok (.iload_n 2, 1) := by decide +kernel
theorem dX0_place_5 : decode cX0_place 5 = .ok (.iload_n 1, 1) := by decide +kernel
theorem dX0_place_6 : decode cX0_place 6 = .ok (.iastore, 1) := by decide +kernel
theorem dX0_place_7 : decode cX0_place 7 = .ok (.aload_n 0, 1) := by decide +kernel
theorem dX0_place_8 : decode cX0_place 8 = .ok (.getfield 44, 3) := by decide +kernel
theorem dX0_place_11 : decode cX0_place 11 = .ok (.iload_n 2, 1) := by decide +kernel
theorem dX0_place_12 : decode cX0_place 12 = .ok (.aload_n 0, 1) := by decide +kernel
theorem dX0_place_13 : decode cX0_place 13 = .ok (.getfield 104, 3) := by decide +kernel
theorem dX0_place_16 : decode cX0_place 16 = .ok (.iastore, 1) := by decide +kernel
theorem dX0_place_17 : decode cX0_place 17 = .ok (.aload_n 0, 1) := by decide +kernel
theorem dX0_place_18 : decode cX0_place 18 = .ok (.getfield 47, 3) := by decide +kernel
theorem dX0_place_21 : decode cX0_place 21 = .ok (.iload_n 2, 1) := by decide +kernel
theorem dX0_place_22 : decode cX0_place 22 = .ok (.dup2, 1) := by decide +kernel
theorem dX0_place_23 : decode cX0_place 23 = .ok (.iaload, 1) := by decide +kernel
theorem dX0_place_24 : decode cX0_place 24 = .ok (.iconst 1, 1) := by decide +kernel
theorem dX0_place_25 : decode cX0_place 25 = .ok (.iadd, 1) := by decide +kernel
theorem dX0_place_26 : decode cX0_place 26 = .ok (.iastore, 1) := by decide +kernel
theorem dX0_place_27 : decode cX0_place 27 = .ok (.aload_n 0, 1) := by decide +kernel
theorem dX0_place_28 : decode cX0_place 28 = .ok (.getfield 32, 3) := by decide +kernel
theorem dX0_place_31 : decode cX0_place 31 = .ok (.iload_n 1, 1) := by decide +kernel
theorem dX0_place_32 : decode cX0_place 32 = .ok (.dup2, 1) := by decide +kernel
theorem dX0_place_33 : decode cX0_place 33 = .ok (.iaload, 1) := by decide +kernel
theorem dX0_place_34 : decode cX0_place 34 = .ok (.iconst 1, 1) := by decide +kernel
theorem dX0_place_35 : decode cX0_place 35 = .ok (.iadd, 1) := by decide +kernel
theorem dX0_place_36 : decode cX0_place 36 = .ok (.iastore, 1) := by decide +kernel
theorem dX0_place_37 : decode cX0_place 37 = .ok (.aload_n 0, 1) := by decide +kernel
theorem dX0_place_38 : decode cX0_place 38 = .ok (.getfield 38, 3) := by decide +kernel
theorem dX0_place_41 : decode cX0_place 41 = .ok (.iload_n 2, 1) := by decide +kernel
theorem dX0_place_42 : decode cX0_place 42 = .ok (.dup2, 1) := by decide +kernel
theorem dX0_place_43 : decode cX0_place 43 = .ok (.iaload, 1) := by decide +kernel
theorem dX0_place_44 : decode cX0_place 44 = .ok (.iconst 2, 1) := by decide +kernel
theorem dX0_place_45 : decode cX0_place 45 = .ok (.iadd, 1) := by decide +kernel
theorem dX0_place_46 : decode cX0_place 46 = .ok (.iastore, 1) := by decide +kernel
theorem dX0_place_47 : decode cX0_place 47 = .ok (.iload_n 2, 1) := by decide +kernel
theorem dX0_place_48 : decode cX0_place 48 = .ok (.ifCond .le 15, 3) := by decide +kernel
theorem dX0_place_51 : decode cX0_place 51 = .ok (.aload_n 0, 1) := by decide +kernel
theorem dX0_place_52 : decode cX0_place 52 = .ok (.getfield 38, 3) := by decide +kernel
theorem dX0_place_55 : decode cX0_place 55 = .ok (.iload_n 2, 1) := by decide +kernel
theorem dX0_place_56 : decode cX0_place 56 = .ok (.iconst 1, 1) := by decide +kernel
theorem dX0_place_57 : decode cX0_place 57 = .ok (.isub, 1) := by decide +kernel
theorem dX0_place_58 : decode cX0_place 58 = .ok (.dup2, 1) := by decide +kernel
theorem dX0_place_59 : decode cX0_place 59 = .ok (.iaload, 1) := by decide +kernel
theorem dX0_place_60 : decode cX0_place 60 = .ok (.iconst 1, 1) := by decide +kernel
theorem dX0_place_61 : decode cX0_place 61 = .ok (.iadd, 1) := by decide +kernel
theorem dX0_place_62 : decode cX0_place 62 = .ok (.iastore, 1) := by decide +kernel
theorem dX0_place_63 : decode cX0_place 63 = .ok (.iload_n 2, 1) := by decide +kernel
theorem dX0_place_64 : decode cX0_place 64 = .ok (.bipush 11, 2) := by decide +kernel
theorem dX0_place_66 : decode cX0_place 66 = .ok (.if_icmp .ge 15, 3) := by decide +kernel
theorem dX0_place_69 : decode cX0_place 69 = .ok (.aload_n 0, 1) := by decide +kernel
theorem dX0_place_70 : decode cX0_place 70 = .ok (.getfield 38, 3) := by decide +kernel
theorem dX0_place_73 : decode cX0_place 73 = .ok (.iload_n 2, 1) := by decide +kernel
theorem dX0_place_74 : decode cX0_place 74 = .ok (.iconst 1, 1) := by decide +kernel
theorem dX0_place_75 : decode cX0_place 75 = .ok (.iadd, 1) := by decide +kernel
theorem dX0_place_76 : decode cX0_place 76 = .ok (.dup2, 1) := by decide +kernel
theorem dX0_place_77 : decode cX0_place 77 = .ok (.iaload, 1) := by decide +kernel
theorem dX0_place_78 : decode cX0_place 78 = .ok (.iconst 1, 1) := by decide +kernel
theorem dX0_place_79 : decode cX0_place 79 = .ok (.iadd, 1) := by decide +kernel
theorem dX0_place_80 : decode cX0_place 80 = .ok (.iastore, 1) := by decide +kernel
theorem dX0_place_81 : decode cX0_place 81 = .ok (.return_, 1) := by decide +kernel
theorem dX0_bare_0 : decode cX0_bare 0 = .ok (.aload_n 0, 1) := by decide +kernel
theorem dX0_bare_1 : decode cX0_bare 1 = .ok (.getfield 35, 3) := by decide +kernel
theorem dX0_bare_4 : decode cX0_bare 4 = .ok (.iload_n 1, 1) := by decide +kernel
theorem dX0_bare_5 : decode cX0_bare 5 = .ok (.bipush (-6), 2) := by decide +kernel
theorem dX0_bare_7 : decode cX0_bare 7 = .ok (.iastore, 1) := by decide +kernel
theorem dX0_bare_8 : decode cX0_bare 8 = .ok (.return_, 1) := by decide +kernel
set_option maxRecDepth 20000 in
theorem ggX0_drop_X0_bearers : GoodIn wsX0_drop wsX0_bearers := goodIn_r _ [7, 2, 12, 13, 14, 15, 16, 17, 18, 19, 20, 21, 22, 23, 24, 25, 26, 27] (by decide +kernel) (by decide +kernel)
set_option maxRecDepth 20000 in
theorem gX0_drop_X0_bearers : GoodIn wsX0_drop (wsV RX0 81 RX0 yX0_bearers wsX0_bearers) := goodIn_app (goodIn_of _ (by decide +kernel)) ggX0_drop_X0_bearers
set_option maxRecDepth 20000 in
theorem ggX0_drop_X0_bare : GoodIn wsX0_drop wsX0_bare := goodIn_r _ [11, 2, 12, 13, 14, 15, 16, 17, 18, 19, 20, 21, 22, 23, 24, 25, 26, 27] (by decide +kernel) (by decide +kernel)
set_option maxRecDepth 20000 in
theorem gX0_drop_X0_bare : GoodIn wsX0_drop (wsV RX0 118 RX0 yX0_bare wsX0_bare) := goodIn_app (goodIn_of _ (by decide +kernel)) ggX0_drop_X0_bare
theorem dX0_drop_0 : decode cX0_drop 0 = .ok (.aload_n 0, 1) := by decide +kernel
theorem dX0_drop_1 : decode cX0_drop 1 = .ok (.iload_n 1, 1) := by decide +kernel
theorem dX0_drop_2 : decode cX0_drop 2 = .ok (.invokevirtual 81, 3) := by decide +kernel
theorem dX0_drop_5 : decode cX0_drop 5 = .ok (.istore_n 2, 1) := by decide +kernel
theorem dX0_drop_6 : decode cX0_drop 6 = .ok (.aload_n 0, 1) := by decide +kernel
theorem dX0_drop_7 : decode cX0_drop 7 = .ok (.getfield 28, 3) := by decide +kernel
theorem dX0_drop_10 : decode cX0_drop 10 = .ok (.iload_n 1, 1) := by decide +kernel
theorem dX0_drop_11 : decode cX0_drop 11 = .ok (.iconst 1, 1) := by decide +kernel
theorem dX0_drop_12 : decode cX0_drop 12 = .ok (.bastore, 1) := by decide +kernel
theorem dX0_drop_13 : decode cX0_drop 13 = .ok (.iconst 0, 1) := by decide +kernel
theorem dX0_drop_14 : decode cX0_drop 14 = .ok (.istore_n 3, 1) := by decide +kernel
theorem dX0_drop_15 : decode cX0_drop 15 = .ok (.iload_n 3, 1) := by decide +kernel
theorem dX0_drop_16 : decode cX0_drop 16 = .ok (.bipush 12, 2) := by decide +kernel
theorem dX0_drop_18 : decode cX0_drop 18 = .ok (.if_icmp .ge 24, 3) := by decide +kernel
theorem dX0_drop_21 : decode cX0_drop 21 = .ok (.aload_n 0, 1) := by decide +kernel
theorem dX0_drop_22 : decode cX0_drop 22 = .ok (.getfield 35, 3) := by decide +kernel
theorem dX0_drop_25 : decode cX0_drop 25 = .ok (.iload_n 3, 1) := by decide +kernel
theorem dX0_drop_26 : decode cX0_drop 26 = .ok (.iaload, 1) := by decide +kernel
theorem dX0_drop_27 : decode cX0_drop 27 = .ok (.iload_n 1, 1) := by decide +kernel
theorem dX0_drop_28 : decode cX0_drop 28 = .ok (.if_icmp .ne 8, 3) := by decide +kernel
theorem dX0_drop_31 : decode cX0_drop 31 = .ok (.aload_n 0, 1) := by decide +kernel
theorem dX0_drop_32 : decode cX0_drop 32 = .ok (.iload_n 3, 1) := by decide +kernel
theorem dX0_drop_33 : decode cX0_drop 33 = .ok (.invokevirtual 118, 3) := by decide +kernel
theorem dX0_drop_36 : decode cX0_drop 36 = .ok (.iinc 3 1, 3) := by decide +kernel
theorem dX0_drop_39 : decode cX0_drop 39 = .ok (.goto (-24), 3) := by decide +kernel
theorem dX0_drop_42 : decode cX0_drop 42 = .ok (.iload_n 2, 1) := by decide +kernel
theorem dX0_drop_43 : decode cX0_drop 43 = .ok (.ireturn, 1) := by decide +kernel
set_option maxRecDepth 20000 in
theorem ggX0_live_X0_giveFromQueue : GoodIn wsX0_live wsX0_giveFromQueue := goodIn_r _ [6, 7, 8, 9, 10, 11, 5, 12, 13, 14, 15, 16, 17, 18, 19, 20, 21, 22, 23, 24, 25, 26, 27, 28, 29, 30, 31, 32, 33, 34, 35, 36, 37, 38, 39, 40, 41, 42, 43, 44, 45, 46, 47, 48, 49, 50, 51, 52, 53, 54, 55, 1, 56, 57, 58, 59, 60, 61, 62, 63, 73, 74, 75, 76, 77, 78, 79, 80, 81, 82, 83, 84, 85, 86, 87, 88] (by decide +kernel) (by decide +kernel)
set_option maxRecDepth 20000 in
theorem gX0_live_X0_giveFromQueue : GoodIn wsX0_live (wsV RX0 122 RX0 yX0_giveFromQueue wsX0_giveFromQueue) := goodIn_app (goodIn_of _ (by decide +kernel)) ggX0_live_X0_giveFromQueue
set_option maxRecDepth 20000 in
theorem ggX0_live_X0_setUpPosts : GoodIn wsX0_live wsX0_setUpPosts := goodIn_r _ [67, 44, 63, 68, 69, 70, 71, 5, 72, 73, 74, 75, 76, 77, 78, 79, 80, 81, 82, 83, 84, 85, 86, 87, 88] (by decide +kernel) (by decide +kernel)
set_option maxRecDepth 20000 in
theorem gX0_live_X0_setUpPosts : GoodIn wsX0_live (wsV RX0 126 RX0 yX0_setUpPosts wsX0_setUpPosts) := goodIn_app (goodIn_of _ (by decide +kernel)) ggX0_live_X0_setUpPosts
theorem dX0_live_0 : decode cX0_live 0 = .ok (.iconst 0, 1) := by decide +kernel
theorem dX0_live_1 : decode cX0_live 1 = .ok (.istore_n 2, 1) := by decide +kernel
theorem dX0_live_2 : decode cX0_live 2 = .ok (.iconst 0, 1) := by decide +kernel
theorem dX0_live_3 : decode cX0_live 3 = .ok (.istore_n 3, 1) := by decide +kernel
theorem dX0_live_4 : decode cX0_live 4 = .ok (.iload_n 3, 1) := by decide +kernel
theorem dX0_live_5 : decode cX0_live 5 = .ok (.iload_n 1, 1) := by decide +kernel
theorem dX0_live_6 : decode cX0_live 6 = .ok (.if_icmp .ge 33, 3) := by decide +kernel
theorem dX0_live_9 : decode cX0_live 9 = .ok (.aload_n 0, 1) := by decide +kernel
theorem dX0_live_10 : decode cX0_live 10 = .ok (.invokevirtual 122, 3) := by decide +kernel
theorem dX0_live_13 : decode cX0_live 13 = .ok (.ifCond .eq 6, 3) := by decide +kernel
theorem dX0_live_16 : decode cX0_live 16 = .ok (.iinc 2 1, 3) := by decide +kernel
theorem dX0_live_19 : decode cX0_live 19 = .ok (.aload_n 0, 1) := by decide +kernel
theorem dX0_live_20 : decode cX0_live 20 = .ok (.invokevirtual 126, 3) := by decide +kernel
theorem dX0_live_23 : decode cX0_live 23 = .ok (.aload_n 0, 1) := by decide +kernel
theorem dX0_live_24 : decode cX0_live 24 = .ok (.dup, 1) := by decide +kernel
theorem dX0_live_25 : decode cX0_live 25 = .ok (.getfield 104, 3) := by decide +kernel
theorem dX0_live_28 : decode cX0_live 28 = .ok (.iconst 1, 1) := by decide +kernel
theorem dX0_live_29 : decode cX0_live 29 = .ok (.iadd, 1) := by decide +kernel
theorem dX0_live_30 : decode cX0_live 30 = .ok (.putfield 104, 3) := by decide +kernel
theorem dX0_live_33 : decode cX0_live 33 = .ok (.iinc 3 1, 3) := by decide +kernel
theorem dX0_live_36 : decode cX0_live 36 = .ok (.goto (-32), 3) := by decide +kernel
theorem dX0_live_39 : decode cX0_live 39 = .ok (.iload_n 2, 1) := by decide +kernel
theorem dX0_live_40 : decode cX0_live 40 = .ok (.ireturn, 1) := by decide +kernel
set_option maxRecDepth 20000 in
theorem ggX0_giveFromQueue_X0_waits : GoodIn wsX0_giveFromQueue wsX0_waits := goodIn_r _ [7, 8, 9, 10, 6, 11, 12, 13, 14, 15, 16, 17, 60, 61, 62, 63, 64, 65, 66, 67, 68, 69, 70, 71, 72, 73, 74, 75] (by decide +kernel) (by decide +kernel)
set_option maxRecDepth 20000 in
theorem gX0_giveFromQueue_X0_waits : GoodIn wsX0_giveFromQueue (wsV RX0 87 RX0 yX0_waits wsX0_waits) := goodIn_app (goodIn_of _ (by decide +kernel)) ggX0_giveFromQueue_X0_waits
set_option maxRecDepth 20000 in
theorem ggX0_giveFromQueue_X0_lowestFree : GoodIn wsX0_giveFromQueue wsX0_lowestFree := goodIn_r _ [21, 13, 14, 15, 6, 16, 17, 22, 23, 24, 25, 26, 27, 28, 29, 30, 31, 32, 33, 34, 1, 35, 36, 37, 38, 39, 40, 41, 42, 43, 44, 45, 46, 47, 48, 49, 50, 12, 2, 51, 52, 60, 61, 62, 63, 64, 65, 66, 67, 68, 69, 70, 71, 72, 73, 74, 75] (by decide +kernel) (by decide +kernel)
set_option maxRecDepth 20000 in
theorem gX0_giveFromQueue_X0_lowestFree : GoodIn wsX0_giveFromQueue (wsV RX0 129 RX0 yX0_lowestFree wsX0_lowestFree) := goodIn_app (goodIn_of _ (by decide +kernel)) ggX0_giveFromQueue_X0_lowestFree
set_option maxRecDepth 20000 in
theorem ggX0_giveFromQueue_X0_place : GoodIn wsX0_giveFromQueue wsX0_place := goodIn_r _ [56, 17, 52, 51, 57, 58, 59, 60, 61, 62, 63, 64, 65, 66, 67, 68, 69, 70, 71, 72, 73, 74, 75] (by decide +kernel) (by decide +kernel)
set_option maxRecDepth 20000 in
theorem gX0_giveFromQueue_X0_place : GoodIn wsX0_giveFromQueue (wsV RX0 132 RX0 yX0_place wsX0_place) := goodIn_app (goodIn_of _ (by decide +kernel)) ggX0_giveFromQueue_X0_place
theorem dX0_giveFromQueue_0 : decode cX0_giveFromQueue 0 = .ok (.bipush 9, 2) := by decide +kernel
theorem dX0_giveFromQueue_2 : decode cX0_giveFromQueue 2 = .ok (.istore_n 1, 1) := by decide +kernel
theorem dX0_giveFromQueue_3 : decode cX0_giveFromQueue 3 = .ok (.iload_n 1, 1) := by decide +kernel
theorem dX0_giveFromQueue_4 : decode cX0_giveFromQueue 4 = .ok (.ifCond .lt 63, 3) := by decide +kernel
theorem dX0_giveFromQueue_7 : decode cX0_giveFromQueue 7 = .ok (.iconst 0, 1) := by decide +kernel
theorem dX0_giveFromQueue_8 : decode cX0_giveFromQueue 8 = .ok (.istore_n 2, 1) := by decide +kernel
theorem dX0_giveFromQueue_9 : decode cX0_giveFromQueue 9 = .ok (.iload_n 2, 1) := by decide +kernel
theorem dX0_giveFromQueue_10 : decode cX0_giveFromQueue 10 = .ok (.aload_n 0, 1) := by decide +kernel
theorem dX0_giveFromQueue_11 : decode cX0_giveFromQueue 11 = .ok (.getfield 53, 3) := by decide +kernel
theorem dX0_giveFromQueue_14 : decode cX0_giveFromQueue 14 = .ok (.if_icmp .ge 47, 3) := by decide +kernel
theorem dX0_giveFromQueue_17 : decode cX0_giveFromQueue 17 = .ok (.aload_n 0, 1) := by decide +kernel
theorem dX0_giveFromQueue_18 : decode cX0_giveFromQueue 18 = .ok (.getfield 25, 3) := by decide +kernel
theorem dX0_giveFromQueue_21 : decode cX0_giveFromQueue 21 = .ok (.iload_n 2, 1) := by decide +kernel
theorem dX0_giveFromQueue_22 : decode cX0_giveFromQueue 22 = .ok (.iaload, 1) := by decide +kernel
theorem dX0_giveFromQueue_23 : decode cX0_giveFromQueue 23 = .ok (.iload_n 1, 1) := by decide +kernel
theorem dX0_giveFromQueue_24 : decode cX0_giveFromQueue 24 = .ok (.if_icmp .ne 31, 3) := by decide +kernel
theorem dX0_giveFromQueue_27 : decode cX0_giveFromQueue 27 = .ok (.aload_n 0, 1) := by decide +kernel
theorem dX0_giveFromQueue_28 : decode cX0_giveFromQueue 28 = .ok (.iload_n 2, 1) := by decide +kernel
theorem dX0_giveFromQueue_29 : decode cX0_giveFromQueue 29 = .ok (.invokevirtual 87, 3) := by decide +kernel
theorem dX0_giveFromQueue_32 : decode cX0_giveFromQueue 32 = .ok (.ifCond .eq 23, 3) := by decide +kernel
theorem dX0_giveFromQueue_35 : decode cX0_giveFromQueue 35 = .ok (.aload_n 0, 1) := by decide +kernel
theorem dX0_giveFromQueue_36 : decode cX0_giveFromQueue 36 = .ok (.iload_n 2, 1) := by decide +kernel
theorem dX0_giveFromQueue_37 : decode cX0_giveFromQueue 37 = .ok (.invokevirtual 129, 3) := by decide +kernel
theorem dX0_giveFromQueue_40 : decode cX0_giveFromQueue 40 = .ok (.istore_n 3, 1) := by decide +kernel
theorem dX0_giveFromQueue_41 : decode cX0_giveFromQueue 41 = .ok (.iload_n 3, 1) := by decide +kernel
theorem dX0_giveFromQueue_42 : decode cX0_giveFromQueue 42 = .ok (.bipush (-6), 2) := by decide +kernel
theorem dX0_giveFromQueue_44 : decode cX0_giveFromQueue 44 = .ok (.if_icmp .eq 11, 3) := by decide +kernel
theorem dX0_giveFromQueue_47 : decode cX0_giveFromQueue 47 = .ok (.aload_n 0, 1) := by decide +kernel
theorem dX0_giveFromQueue_48 : decode cX0_giveFromQueue 48 = .ok (.iload_n 2, 1) := by decide +kernel
theorem dX0_giveFromQueue_49 : decode cX0_giveFromQueue 49 = .ok (.iload_n 3, 1) := by decide +kernel
theorem dX0_giveFromQueue_50 : decode cX0_giveFromQueue 50 = .ok (.invokevirtual 132, 3) := by decide +kernel
theorem dX0_giveFromQueue_53 : decode cX0_giveFromQueue 53 = .ok (.iconst 1, 1) := by decide +kernel
theorem dX0_giveFromQueue_54 : decode cX0_giveFromQueue 54 = .ok (.ireturn, 1) := by decide +kernel
theorem dX0_giveFromQueue_55 : decode cX0_giveFromQueue 55 = .ok (.iinc 2 1, 3) := by decide +kernel
theorem dX0_giveFromQueue_58 : decode cX0_giveFromQueue 58 = .ok (.goto (-49), 3) := by decide +kernel
theorem dX0_giveFromQueue_61 : decode cX0_giveFromQueue 61 = .ok (.iinc 1 (-1), 3) := by decide +kernel
theorem dX0_giveFromQueue_64 : decode cX0_giveFromQueue 64 = .ok (.goto (-61), 3) := by decide +kernel
theorem dX0_giveFromQueue_67 : decode cX0_giveFromQueue 67 = .ok (.iconst 0, 1) := by decide +kernel
theorem dX0_giveFromQueue_68 : decode cX0_giveFromQueue 68 = .ok (.ireturn, 1) := by decide +kernel
set_option maxRecDepth 20000 in
theorem ggX0_setUpPosts_X0_mostOwing : GoodIn wsX0_setUpPosts wsX0_mostOwing := goodIn_r _ [8, 2, 9, 10, 11, 12, 13, 14, 15, 16, 17, 18, 19, 20, 21, 22, 23, 24] (by decide +kernel) (by decide +kernel)
set_option maxRecDepth 20000 in
theorem gX0_setUpPosts_X0_mostOwing : GoodIn wsX0_setUpPosts (wsV RX0 136 RX0 yX0_mostOwing wsX0_mostOwing) := goodIn_app (goodIn_of _ (by decide +kernel)) ggX0_setUpPosts_X0_mostOwing
theorem dX0_setUpPosts_0 : decode cX0_setUpPosts 0 = .ok (.iconst 0, 1) := by decide +kernel
theorem dX0_setUpPosts_1 : decode cX0_setUpPosts 1 = .ok (.istore_n 1, 1) := by decide +kernel
theorem dX0_setUpPosts_2 : decode cX0_setUpPosts 2 = .ok (.iload_n 1, 1) := by decide +kernel
theorem dX0_setUpPosts_3 : decode cX0_setUpPosts 3 = .ok (.aload_n 0, 1) := by decide +kernel
theorem dX0_setUpPosts_4 : decode cX0_setUpPosts 4 = .ok (.getfield 9, 3) := by decide +kernel
theorem dX0_setUpPosts_7 : decode cX0_setUpPosts 7 = .ok (.iconst 2, 1) := by decide +kernel
theorem dX0_setUpPosts_8 : decode cX0_setUpPosts 8 = .ok (.iaload, 1) := by decide +kernel
theorem dX0_setUpPosts_9 : decode cX0_setUpPosts 9 = .ok (.if_icmp .ge 44, 3) := by decide +kernel
theorem dX0_setUpPosts_12 : decode cX0_setUpPosts 12 = .ok (.aload_n 0, 1) := by decide +kernel
theorem dX0_setUpPosts_13 : decode cX0_setUpPosts 13 = .ok (.invokevirtual 136, 3) := by decide +kernel
theorem dX0_setUpPosts_16 : decode cX0_setUpPosts 16 = .ok (.istore_n 2, 1) := by decide +kernel
theorem dX0_setUpPosts_17 : decode cX0_setUpPosts 17 = .ok (.aload_n 0, 1) := by decide +kernel
theorem dX0_setUpPosts_18 : decode cX0_setUpPosts 18 = .ok (.getfield 38, 3) := by decide +kernel
theorem dX0_setUpPosts_21 : decode cX0_setUpPosts 21 = .ok (.iload_n 2, 1) := by decide +kernel
theorem dX0_setUpPosts_22 : decode cX0_setUpPosts 22 = .ok (.iaload, 1) := by decide +kernel
theorem dX0_setUpPosts_23 : decode cX0_setUpPosts 23 = .ok (.ifCond .gt 4, 3) := by decide +kernel
theorem dX0_setUpPosts_26 : decode cX0_setUpPosts 26 = .ok (.return_, 1) := by decide +kernel
theorem dX0_setUpPosts_27 : decode cX0_setUpPosts 27 = .ok (.aload_n 0, 1) := by decide +kernel
theorem dX0_setUpPosts_28 : decode cX0_setUpPosts 28 = .ok (.getfield 38, 3) := by decide +kernel
theorem dX0_setUpPosts_31 : decode cX0_setUpPosts 31 = .ok (.iload_n 2, 1) := by decide +kernel
theorem dX0_setUpPosts_32 : decode cX0_setUpPosts 32 = .ok (.dup2, 1) := by decide +kernel
theorem dX0_setUpPosts_33 : decode cX0_setUpPosts 33 = .ok (.iaload, 1) := by decide +kernel
theorem dX0_setUpPosts_34 : decode cX0_setUpPosts 34 = .ok (.iconst 1, 1) := by decide +kernel
theorem dX0_setUpPosts_35 : decode cX0_setUpPosts 35 = .ok (.isub, 1) := by decide +kernel
theorem dX0_setUpPosts_36 : decode cX0_setUpPosts 36 = .ok (.iastore, 1) := by decide +kernel
theorem dX0_setUpPosts_37 : decode cX0_setUpPosts 37 = .ok (.aload_n 0, 1) := by decide +kernel
theorem dX0_setUpPosts_38 : decode cX0_setUpPosts 38 = .ok (.getfield 41, 3) := by decide +kernel
theorem dX0_setUpPosts_41 : decode cX0_setUpPosts 41 = .ok (.iload_n 2, 1) := by decide +kernel
theorem dX0_setUpPosts_42 : decode cX0_setUpPosts 42 = .ok (.dup2, 1) := by decide +kernel
theorem dX0_setUpPosts_43 : decode cX0_setUpPosts 43 = .ok (.iaload, 1) := by decide +kernel
theorem dX0_setUpPosts_44 : decode cX0_setUpPosts 44 = .ok (.iconst 1, 1) := by decide +kernel
theorem dX0_setUpPosts_45 : decode cX0_setUpPosts 45 = .ok (.iadd, 1) := by decide +kernel
theorem dX0_setUpPosts_46 : decode cX0_setUpPosts 46 = .ok (.iastore, 1) := by decide +kernel
theorem dX0_setUpPosts_47 : decode cX0_setUpPosts 47 = .ok (.iinc 1 1, 3) := by decide +kernel
theorem dX0_setUpPosts_50 : decode cX0_setUpPosts 50 = .ok (.goto (-48), 3) := by decide +kernel
theorem dX0_setUpPosts_53 : decode cX0_setUpPosts 53 = .ok (.return_, 1) := by decide +kernel
theorem dX0_mostOwing_0 : decode cX0_mostOwing 0 = .ok (.iconst 0, 1) := by decide +kernel
theorem dX0_mostOwing_1 : decode cX0_mostOwing 1 = .ok (.istore_n 1, 1) := by decide +kernel
theorem dX0_mostOwing_2 : decode cX0_mostOwing 2 = .ok (.iconst 1, 1) := by decide +kernel
theorem dX0_mostOwing_3 : decode cX0_mostOwing 3 = .ok (.istore_n 2, 1) := by decide +kernel
theorem dX0_mostOwing_4 : decode cX0_mostOwing 4 = .ok (.iload_n 2, 1) := by decide +kernel
theorem dX0_mostOwing_5 : decode cX0_mostOwing 5 = .ok (.bipush 12, 2) := by decide +kernel
theorem dX0_mostOwing_7 : decode cX0_mostOwing 7 = .ok (.if_icmp .ge 26, 3) := by decide +kernel
theorem dX0_mostOwing_10 : decode cX0_mostOwing 10 = .ok (.aload_n 0, 1) := by decide +kernel
theorem dX0_mostOwing_11 : decode cX0_mostOwing 11 = .ok (.getfield 38, 3) := by decide +kernel
theorem dX0_mostOwing_14 : decode cX0_mostOwing 14 = .ok (.iload_n 2, 1) := by decide +kernel
theorem dX0_mostOwing_15 : decode cX0_mostOwing 15 = .ok (.iaload, 1) := by decide +kernel
theorem dX0_mostOwing_16 : decode cX0_mostOwing 16 = .ok (.aload_n 0, 1) := by decide +kernel
theorem dX0_mostOwing_17 : decode cX0_mostOwing 17 = .ok (.getfield 38, 3) := by decide +kernel
theorem dX0_mostOwing_20 : decode cX0_mostOwing 20 = .ok (.iload_n 1, 1) := by decide +kernel
theorem dX0_mostOwing_21 : decode cX0_mostOwing 21 = .ok (.iaload, 1) := by decide +kernel
theorem dX0_mostOwing_22 : decode cX0_mostOwing 22 = .ok (.if_icmp .le 5, 3) := by decide +kernel
theorem dX0_mostOwing_25 : decode cX0_mostOwing 25 = .ok (.iload_n 2, 1) := by decide +kernel
theorem dX0_mostOwing_26 : decode cX0_mostOwing 26 = .ok (.istore_n 1, 1) := by decide +kernel
theorem dX0_mostOwing_27 : decode cX0_mostOwing 27 = .ok (.iinc 2 1, 3) := by decide +kernel
theorem dX0_mostOwing_30 : decode cX0_mostOwing 30 = .ok (.goto (-26), 3) := by decide +kernel
theorem dX0_mostOwing_33 : decode cX0_mostOwing 33 = .ok (.iload_n 1, 1) := by decide +kernel
theorem dX0_mostOwing_34 : decode cX0_mostOwing 34 = .ok (.ireturn, 1) := by decide +kernel
theorem dX0_wrongOnMap_0 : decode cX0_wrongOnMap 0 = .ok (.aload_n 0, 1) := by decide +kernel
theorem dX0_wrongOnMap_1 : decode cX0_wrongOnMap 1 = .ok (.getfield 140, 3) := by decide +kernel
theorem dX0_wrongOnMap_4 : decode cX0_wrongOnMap 4 = .ok (.ifCond .ne 6, 3) := by decide +kernel
theorem dX0_wrongOnMap_7 : decode cX0_wrongOnMap 7 = .ok (.bipush (-6), 2) := by decide +kernel
theorem dX0_wrongOnMap_9 : decode cX0_wrongOnMap 9 = .ok (.ireturn, 1) := by decide +kernel
theorem dX0_wrongOnMap_10 : decode cX0_wrongOnMap 10 = .ok (.iconst 0, 1) := by decide +kernel
theorem dX0_wrongOnMap_11 : decode cX0_wrongOnMap 11 = .ok (.istore_n 1, 1) := by decide +kernel
theorem dX0_wrongOnMap_12 : decode cX0_wrongOnMap 12 = .ok (.iconst 0, 1) := by decide +kernel
theorem dX0_wrongOnMap_13 : decode cX0_wrongOnMap 13 = .ok (.istore_n 2, 1) := by decide +kernel
theorem dX0_wrongOnMap_14 : decode cX0_wrongOnMap 14 = .ok (.iload_n 2, 1) := by decide +kernel
theorem dX0_wrongOnMap_15 : decode cX0_wrongOnMap 15 = .ok (.bipush 12, 2) := by decide +kernel
theorem dX0_wrongOnMap_17 : decode cX0_wrongOnMap 17 = .ok (.if_icmp .ge 27, 3) := by decide +kernel
theorem dX0_wrongOnMap_20 : decode cX0_wrongOnMap 20 = .ok (.aload_n 0, 1) := by decide +kernel
theorem dX0_wrongOnMap_21 : decode cX0_wrongOnMap 21 = .ok (.getfield 50, 3) := by decide +kernel
theorem dX0_wrongOnMap_24 : decode cX0_wrongOnMap 24 = .ok (.iload_n 2, 1) := by decide +kernel
theorem dX0_wrongOnMap_25 : decode cX0_wrongOnMap 25 = .ok (.iaload, 1) := by decide +kernel
theorem dX0_wrongOnMap_26 : decode cX0_wrongOnMap 26 = .ok (.aload_n 0, 1) := by decide +kernel
theorem dX0_wrongOnMap_27 : decode cX0_wrongOnMap 27 = .ok (.getfield 35, 3) := by decide +kernel
theorem dX0_wrongOnMap_30 : decode cX0_wrongOnMap 30 = .ok (.iload_n 2, 1) := by decide +kernel
theorem dX0_wrongOnMap_31 : decode cX0_wrongOnMap 31 = .ok (.iaload, 1) := by decide +kernel
theorem dX0_wrongOnMap_32 : decode cX0_wrongOnMap 32 = .ok (.if_icmp .eq 6, 3) := by decide +kernel
theorem dX0_wrongOnMap_35 : decode cX0_wrongOnMap 35 = .ok (.iinc 1 1, 3) := by decide +kernel
theorem dX0_wrongOnMap_38 : decode cX0_wrongOnMap 38 = .ok (.iinc 2 1, 3) := by decide +kernel
theorem dX0_wrongOnMap_41 : decode cX0_wrongOnMap 41 = .ok (.goto (-27), 3) := by decide +kernel
theorem dX0_wrongOnMap_44 : decode cX0_wrongOnMap 44 = .ok (.iload_n 1, 1) := by decide +kernel
theorem dX0_wrongOnMap_45 : decode cX0_wrongOnMap 45 = .ok (.ireturn, 1) := by decide +kernel
set_option maxRecDepth 20000 in
theorem ggX0_drawMap_X1_copyRow : GoodIn wsX0_drawMap wsX1_copyRow := goodIn_r _ [6, 7, 8, 9, 10, 11, 12, 13, 14] (by decide +kernel) (by decide +kernel)
set_option maxRecDepth 20000 in
theorem gX0_drawMap_X1_copyRow_n144 : GoodIn wsX0_drawMap (wsX1_copyRow) := ggX0_drawMap_X1_copyRow
theorem dX0_drawMap_0 : decode cX0_drawMap 0 = .ok (.aload_n 0, 1) := by decide +kernel
theorem dX0_drawMap_1 : decode cX0_drawMap 1 = .ok (.iconst 1, 1) := by decide +kernel
theorem dX0_drawMap_2 : decode cX0_drawMap 2 = .ok (.putfield 140, 3) := by decide +kernel
theorem dX0_drawMap_5 : decode cX0_drawMap 5 = .ok (.aload_n 0, 1) := by decide +kernel
theorem dX0_drawMap_6 : decode cX0_drawMap 6 = .ok (.getfield 35, 3) := by decide +kernel
theorem dX0_drawMap_9 : decode cX0_drawMap 9 = .ok (.aload_n 0, 1) := by decide +kernel
theorem dX0_drawMap_10 : decode cX0_drawMap 10 = .ok (.getfield 50, 3) := by decide +kernel
theorem dX0_drawMap_13 : decode cX0_drawMap 13 = .ok (.invokestatic 144, 3) := by decide +kernel
theorem dX0_drawMap_16 : decode cX0_drawMap 16 = .ok (.return_, 1) := by decide +kernel
end
section
set_option maxRecDepth 20000 in
theorem ggX1_init_X0_init : GoodIn wsX1_init wsX0_init := goodIn_r _ [17, 18, 2, 3, 19, 20, 13, 21, 22, 23, 24, 11, 25, 26, 27, 28, 29, 30, 31, 32, 33, 34, 35, 36, 37, 38, 39, 40, 41, 42, 43, 44, 45, 46, 47, 48] (by decide +kernel) (by decide +kernel)
set_option maxRecDepth 20000 in
theorem gX1_init_X0_init : GoodIn wsX1_init (wsX0_init) := ggX1_init_X0_init
theorem dX1_init_0 : decode cX1_init 0 = .ok (.aload_n 0, 1) := by decide +kernel
theorem dX1_init_1 : decode cX1_init 1 = .ok (.invokespecial 1, 3) := by decide +kernel
theorem dX1_init_4 : decode cX1_init 4 = .ok (.aload_n 0, 1) := by decide +kernel
theorem dX1_init_5 : decode cX1_init 5 = .ok (.new 7, 3) := by decide +kernel
theorem dX1_init_8 : decode cX1_init 8 = .ok (.dup, 1) := by decide +kernel
theorem dX1_init_9 : decode cX1_init 9 = .ok (.invokespecial 9, 3) := by decide +kernel
theorem dX1_init_12 : decode cX1_init 12 = .ok (.putfield 10, 3) := by decide +kernel
theorem dX1_init_15 : decode cX1_init 15 = .ok (.aload_n 0, 1) := by decide +kernel
theorem dX1_init_16 : decode cX1_init 16 = .ok (.new 7, 3) := by decide +kernel
theorem dX1_init_19 : decode cX1_init 19 = .ok (.dup, 1) := by decide +kernel
theorem dX1_init_20 : decode cX1_init 20 = .ok (.invokespecial 9, 3) := by decide +kernel
theorem dX1_init_23 : decode cX1_init 23 = .ok (.putfield 16, 3) := by decide +kernel
theorem dX1_init_26 : decode cX1_init 26 = .ok (.aload_n 0, 1) := by decide +kernel
theorem dX1_init_27 : decode cX1_init 27 = .ok (.bipush 6, 2) := by decide +kernel
theorem dX1_init_29 : decode cX1_init 29 = .ok (.anewarray 7, 3) := by decide +kernel
theorem dX1_init_32 : decode cX1_init 32 = .ok (.putfield 19, 3) := by decide +kernel
theorem dX1_init_35 : decode cX1_init 35 = .ok (.iconst 0, 1) := by decide +kernel
theorem dX1_init_36 : decode cX1_init 36 = .ok (.istore_n 1, 1) := by decide +kernel
theorem dX1_init_37 : decode cX1_init 37 = .ok (.iload_n 1, 1) := by decide +kernel
theorem dX1_init_38 : decode cX1_init 38 = .ok (.bipush 6, 2) := by decide +kernel
theorem dX1_init_40 : decode cX1_init 40 = .ok (.if_icmp .ge 22, 3) := by decide +kernel
theorem dX1_init_43 : decode cX1_init 43 = .ok (.aload_n 0, 1) := by decide +kernel
theorem dX1_init_44 : decode cX1_init 44 = .ok (.getfield 19, 3) := by decide +kernel
theorem dX1_init_47 : decode cX1_init 47 = .ok (.iload_n 1, 1) := by decide +kernel
theorem dX1_init_48 : decode cX1_init 48 = .ok (.new 7, 3) := by decide +kernel
theorem dX1_init_51 : decode cX1_init 51 = .ok (.dup, 1) := by decide +kernel
theorem dX1_init_52 : decode cX1_init 52 = .ok (.invokespecial 9, 3) := by decide +kernel
theorem dX1_init_55 : decode cX1_init 55 = .ok (.aastore, 1) := by decide +kernel
theorem dX1_init_56 : decode cX1_init 56 = .ok (.iinc 1 1, 3) := by decide +kernel
theorem dX1_init_59 : decode cX1_init 59 = .ok (.goto (-22), 3) := by decide +kernel
theorem dX1_init_62 : decode cX1_init 62 = .ok (.aload_n 0, 1) := by decide +kernel
theorem dX1_init_63 : decode cX1_init 63 = .ok (.iconst 2, 1) := by decide +kernel
theorem dX1_init_64 : decode cX1_init 64 = .ok (.anewarray 7, 3) := by decide +kernel
theorem dX1_init_67 : decode cX1_init 67 = .ok (.putfield 23, 3) := by decide +kernel
theorem dX1_init_70 : decode cX1_init 70 = .ok (.iconst 0, 1) := by decide +kernel
theorem dX1_init_71 : decode cX1_init 71 = .ok (.istore_n 1, 1) := by decide +kernel
theorem dX1_init_72 : decode cX1_init 72 = .ok (.iload_n 1, 1) := by decide +kernel
theorem dX1_init_73 : decode cX1_init 73 = .ok (.iconst 2, 1) := by decide +kernel
theorem dX1_init_74 : decode cX1_init 74 = .ok (.if_icmp .ge 22, 3) := by decide +kernel
theorem dX1_init_77 : decode cX1_init 77 = .ok (.aload_n 0, 1) := by decide +kernel
theorem dX1_init_78 : decode cX1_init 78 = .ok (.getfield 23, 3) := by decide +kernel
theorem dX1_init_81 : decode cX1_init 81 = .ok (.iload_n 1, 1) := by decide +kernel
theorem dX1_init_82 : decode cX1_init 82 = .ok (.new 7, 3) := by decide +kernel
theorem dX1_init_85 : decode cX1_init 85 = .ok (.dup, 1) := by decide +kernel
theorem dX1_init_86 : decode cX1_init 86 = .ok (.invokespecial 9, 3) := by decide +kernel
theorem dX1_init_89 : decode cX1_init 89 = .ok (.aastore, 1) := by decide +kernel
theorem dX1_init_90 : decode cX1_init 90 = .ok (.iinc 1 1, 3) := by decide +kernel
theorem dX1_init_93 : decode cX1_init 93 = .ok (.goto (-21), 3) := by decide +kernel
theorem dX1_init_96 : decode cX1_init 96 = .ok (.aload_n 0, 1) := by decide +kernel
theorem dX1_init_97 : decode cX1_init 97 = .ok (.iconst 2, 1) := by decide +kernel
theorem dX1_init_98 : decode cX1_init 98 = .ok (.newarray .boolean, 2) := by decide +kernel
theorem dX1_init_100 : decode cX1_init 100 = .ok (.putfield 26, 3) := by decide +kernel
theorem dX1_init_103 : decode cX1_init 103 = .ok (.aload_n 0, 1) := by decide +kernel
theorem dX1_init_104 : decode cX1_init 104 = .ok (.bipush 60, 2) := by decide +kernel
theorem dX1_init_106 : decode cX1_init 106 = .ok (.newarray .char, 2) := by decide +kernel
theorem dX1_init_108 : decode cX1_init 108 = .ok (.putfield 30, 3) := by decide +kernel
theorem dX1_init_111 : decode cX1_init 111 = .ok (.return_, 1) := by decide +kernel
set_option maxRecDepth 20000 in
theorem ggX1_set_X1_record : GoodIn wsX1_set wsX1_record := goodIn_r _ [9, 10, 11, 3, 12, 13, 8, 14, 4, 15, 16, 17, 18, 19, 20, 21, 22, 23, 24, 25, 26, 27, 28, 29, 30, 31, 32, 33, 34, 35, 36, 37, 38, 39, 40, 41, 42, 43, 44, 45, 46, 47, 48, 49, 50, 51, 52, 53, 54, 55, 56, 57, 58, 59, 60, 61, 62, 63, 64] (by decide +kernel) (by decide +kernel)
set_option maxRecDepth 20000 in
theorem gX1_set_X1_record : GoodIn wsX1_set (wsV RX1 41 RX1 yX1_record wsX1_record) := goodIn_app (goodIn_of _ (by decide +kernel)) ggX1_set_X1_record
theorem dX1_set_0 : decode cX1_set 0 = .ok (.iload_n 1, 1) := by decide +kernel
theorem dX1_set_1 : decode cX1_set 1 = .ok (.ifCond .lt 8, 3) := by decide +kernel
theorem dX1_set_4 : decode cX1_set 4 = .ok (.iload_n 1, 1) := by decide +kernel
theorem dX1_set_5 : decode cX1_set 5 = .ok (.iconst 4, 1) := by decide +kernel
theorem dX1_set_6 : decode cX1_set 6 = .ok (.if_icmp .lt 6, 3) := by decide +kernel
theorem dX1_set_9 : decode cX1_set 9 = .ok (.bipush (-2), 2) := by decide +kernel
theorem dX1_set_11 : decode cX1_set 11 = .ok (.ireturn, 1) := by decide +kernel
theorem dX1_set_12 : decode cX1_set 12 = .ok (.iload_n 2, 1) := by decide +kernel
theorem dX1_set_13 : decode cX1_set 13 = .ok (.getstatic 34, 3) := by decide +kernel
theorem dX1_set_16 : decode cX1_set 16 = .ok (.iload_n 1, 1) := by decide +kernel
theorem dX1_set_17 : decode cX1_set 17 = .ok (.iaload, 1) := by decide +kernel
theorem dX1_set_18 : decode cX1_set 18 = .ok (.if_icmp .lt 12, 3) := by decide +kernel
theorem dX1_set_21 : decode cX1_set 21 = .ok (.iload_n 2, 1) := by decide +kernel
theorem dX1_set_22 : decode cX1_set 22 = .ok (.getstatic 38, 3) := by decide +kernel
theorem dX1_set_25 : decode cX1_set 25 = .ok (.iload_n 1, 1) := by decide +kernel
theorem dX1_set_26 : decode cX1_set 26 = .ok (.iaload, 1) := by decide +kernel
theorem dX1_set_27 : decode cX1_set 27 = .ok (.if_icmp .le 6, 3) := by decide +kernel
theorem dX1_set_30 : decode cX1_set 30 = .ok (.bipush (-2), 2) := by decide +kernel
theorem dX1_set_32 : decode cX1_set 32 = .ok (.ireturn, 1) := by decide +kernel
theorem dX1_set_33 : decode cX1_set 33 = .ok (.aload_n 0, 1) := by decide +kernel
theorem dX1_set_34 : decode cX1_set 34 = .ok (.invokevirtual 41, 3) := by decide +kernel
theorem dX1_set_37 : decode cX1_set 37 = .ok (.aload_n 0, 1) := by decide +kernel
theorem dX1_set_38 : decode cX1_set 38 = .ok (.getfield 10, 3) := by decide +kernel
theorem dX1_set_41 : decode cX1_set 41 = .ok (.getfield 44, 3) := by decide +kernel
theorem dX1_set_44 : decode cX1_set 44 = .ok (.iload_n 1, 1) := by decide +kernel
theorem dX1_set_45 : decode cX1_set 45 = .ok (.iaload, 1) := by decide +kernel
theorem dX1_set_46 : decode cX1_set 46 = .ok (.istore_n 3, 1) := by decide +kernel
theorem dX1_set_47 : decode cX1_set 47 = .ok (.aload_n 0, 1) := by decide +kernel
theorem dX1_set_48 : decode cX1_set 48 = .ok (.getfield 10, 3) := by decide +kernel
theorem dX1_set_51 : decode cX1_set 51 = .ok (.getfield 44, 3) := by decide +kernel
theorem dX1_set_54 : decode cX1_set 54 = .ok (.iload_n 1, 1) := by decide +kernel
theorem dX1_set_55 : decode cX1_set 55 = .ok (.iload_n 2, 1) := by decide +kernel
theorem dX1_set_56 : decode cX1_set 56 = .ok (.iastore, 1) := by decide +kernel
theorem dX1_set_57 : decode cX1_set 57 = .ok (.iload_n 3, 1) := by decide +kernel
theorem dX1_set_58 : decode cX1_set 58 = .ok (.ireturn, 1) := by decide +kernel
set_option maxRecDepth 20000 in
theorem ggX1_read_X1_padFault : GoodIn wsX1_read wsX1_padFault := goodIn_r _ [9, 3, 4, 10, 11, 8, 12, 13, 14, 15, 76, 77, 78, 79, 80, 81, 82, 83] (by decide +kernel) (by decide +kernel)
set_option maxRecDepth 20000 in
theorem gX1_read_X1_padFault : GoodIn wsX1_read (wsV RX1 47 RX1 yX1_padFault wsX1_padFault) := goodIn_app (goodIn_of _ (by decide +kernel)) ggX1_read_X1_padFault
set_option maxRecDepth 20000 in
theorem ggX1_read_X1_padNames : GoodIn wsX1_read wsX1_padNames := goodIn_r _ [19, 3, 4, 13, 14, 8, 15, 76, 77, 78, 79, 80, 81, 82, 83] (by decide +kernel) (by decide +kernel)
set_option maxRecDepth 20000 in
theorem gX1_read_X1_padNames : GoodIn wsX1_read (wsV RX1 55 RX1 yX1_padNames wsX1_padNames) := goodIn_app (goodIn_of _ (by decide +kernel)) ggX1_read_X1_padNames
set_option maxRecDepth 20000 in
theorem ggX1_read_X1_record : GoodIn wsX1_read wsX1_record := goodIn_r _ [23, 24, 25, 1, 26, 27, 8, 28, 29, 30, 2, 31, 32, 33, 34, 35, 36, 37, 38, 39, 40, 41, 42, 43, 44, 45, 46, 47, 48, 49, 50, 51, 52, 53, 54, 76, 77, 78, 79, 80, 81, 82, 83, 84, 85, 86, 87, 88, 89, 90, 91, 92, 93, 94, 95, 96, 97, 98, 99] (by decide +kernel) (by decide +kernel)
set_option maxRecDepth 20000 in
theorem gX1_read_X1_record : GoodIn wsX1_read (wsV RX1 41 RX1 yX1_record wsX1_record) := goodIn_app (goodIn_of _ (by decide +kernel)) ggX1_read_X1_record
set_option maxRecDepth 20000 in
theorem ggX1_read_X1_isDigit : GoodIn wsX1_read wsX1_isDigit := goodIn_r _ [15] (by decide +kernel) (by decide +kernel)
set_option maxRecDepth 20000 in
theorem gX1_read_X1_isDigit : GoodIn wsX1_read (va_wsS RX1 61 yX1_isDigit wsX1_isDigit) := goodIn_app (goodIn_of _ (by decide +kernel)) ggX1_read_X1_isDigit
set_option maxRecDepth 20000 in
theorem ggX1_read_X0_apply : GoodIn wsX1_read wsX0_apply := goodIn_r _ [59, 60, 61, 62, 37, 38, 39, 63, 64, 65, 66, 67, 68, 69, 70, 58, 71, 72, 73, 74, 75, 84, 85, 86, 87, 88, 89, 90, 91, 92, 93, 94, 95, 96, 97, 98, 99] (by decide +kernel) (by decide +kernel)
set_option maxRecDepth 20000 in
theorem gX1_read_X0_apply : GoodIn wsX1_read (wsV RX1 65 RX0 yX0_apply wsX0_apply) := goodIn_app (goodIn_of _ (by decide +kernel)) ggX1_read_X0_apply
theorem dX1_read_0 : decode cX1_read 0 = .ok (.aload_n 0, 1) := by decide +kernel
theorem dX1_read_1 : decode cX1_read 1 = .ok (.invokevirtual 47, 3) := by decide +kernel
theorem dX1_read_4 : decode cX1_read 4 = .ok (.bipush (-6), 2) := by decide +kernel
theorem dX1_read_6 : decode cX1_read 6 = .ok (.if_icmp .eq 6, 3) := by decide +kernel
theorem dX1_read_9 : decode cX1_read 9 = .ok (.bipush (-3), 2) := by decide +kernel
theorem dX1_read_11 : decode cX1_read 11 = .ok (.ireturn, 1) := by decide +kernel
theorem dX1_read_12 : decode cX1_read 12 = .ok (.aload_n 0, 1) := by decide +kernel
theorem dX1_read_13 : decode cX1_read 13 = .ok (.getfield 10, 3) := by decide +kernel
theorem dX1_read_16 : decode cX1_read 16 = .ok (.getfield 51, 3) := by decide +kernel
theorem dX1_read_19 : decode cX1_read 19 = .ok (.aload_n 0, 1) := by decide +kernel
theorem dX1_read_20 : decode cX1_read 20 = .ok (.invokevirtual 55, 3) := by decide +kernel
theorem dX1_read_23 : decode cX1_read 23 = .ok (.iadd, 1) := by decide +kernel
theorem dX1_read_24 : decode cX1_read 24 = .ok (.bipush 20, 2) := by decide +kernel
theorem dX1_read_26 : decode cX1_read 26 = .ok (.if_icmp .le 6, 3) := by decide +kernel
theorem dX1_read_29 : decode cX1_read 29 = .ok (.bipush (-4), 2) := by decide +kernel
theorem dX1_read_31 : decode cX1_read 31 = .ok (.ireturn, 1) := by decide +kernel
theorem dX1_read_32 : decode cX1_read 32 = .ok (.aload_n 0, 1) := by decide +kernel
theorem dX1_read_33 : decode cX1_read 33 = .ok (.invokevirtual 41, 3) := by decide +kernel
theorem dX1_read_36 : decode cX1_read 36 = .ok (.iconst 0, 1) := by decide +kernel
theorem dX1_read_37 : decode cX1_read 37 = .ok (.istore_n 1, 1) := by decide +kernel
theorem dX1_read_38 : decode cX1_read 38 = .ok (.iconst 0, 1) := by decide +kernel
theorem dX1_read_39 : decode cX1_read 39 = .ok (.istore_n 2, 1) := by decide +kernel
theorem dX1_read_40 : decode cX1_read 40 = .ok (.iload_n 2, 1) := by decide +kernel
theorem dX1_read_41 : decode cX1_read 41 = .ok (.aload_n 0, 1) := by decide +kernel
theorem dX1_read_42 : decode cX1_read 42 = .ok (.getfield 58, 3) := by decide +kernel
theorem dX1_read_45 : decode cX1_read 45 = .ok (.if_icmp .ge 49, 3) := by decide +kernel
theorem dX1_read_48 : decode cX1_read 48 = .ok (.aload_n 0, 1) := by decide +kernel
theorem dX1_read_49 : decode cX1_read 49 = .ok (.getfield 30, 3) := by decide +kernel
theorem dX1_read_52 : decode cX1_read 52 = .ok (.iload_n 2, 1) := by decide +kernel
theorem dX1_read_53 : decode cX1_read 53 = .ok (.caload, 1) := by decide +kernel
theorem dX1_read_54 : decode cX1_read 54 = .ok (.invokestatic 61, 3) := by decide +kernel
theorem dX1_read_57 : decode cX1_read 57 = .ok (.ifCond .eq 31, 3) := by decide +kernel
theorem dX1_read_60 : decode cX1_read 60 = .ok (.aload_n 0, 1) := by decide +kernel
theorem dX1_read_61 : decode cX1_read 61 = .ok (.getfield 10, 3) := by decide +kernel
theorem dX1_read_64 : decode cX1_read 64 = .ok (.aload_n 0, 1) := by decide +kernel
theorem dX1_read_65 : decode cX1_read 65 = .ok (.getfield 30, 3) := by decide +kernel
theorem dX1_read_68 : decode cX1_read 68 = .ok (.iload_n 1, 1) := by decide +kernel
theorem dX1_read_69 : decode cX1_read 69 = .ok (.iload_n 2, 1) := by decide +kernel
theorem dX1_read_70 : decode cX1_read 70 = .ok (.iload_n 1, 1) := by decide +kernel
theorem dX1_read_71 : decode cX1_read 71 = .ok (.isub, 1) := by decide +kernel
theorem dX1_read_72 : decode cX1_read 72 = .ok (.aload_n 0, 1) := by decide +kernel
theorem dX1_read_73 : decode cX1_read 73 = .ok (.getfield 30, 3) := by decide +kernel
theorem dX1_read_76 : decode cX1_read 76 = .ok (.iload_n 2, 1) := by decide +kernel
theorem dX1_read_77 : decode cX1_read 77 = .ok (.caload, 1) := by decide +kernel
theorem dX1_read_78 : decode cX1_read 78 = .ok (.bipush 48, 2) := by decide +kernel
theorem dX1_read_80 : decode cX1_read 80 = .ok (.isub, 1) := by decide +kernel
theorem dX1_read_81 : decode cX1_read 81 = .ok (.invokevirtual 65, 3) := by decide +kernel
theorem dX1_read_84 : decode cX1_read 84 = .ok (.iload_n 2, 1) := by decide +kernel
theorem dX1_read_85 : decode cX1_read 85 = .ok (.iconst 1, 1) := by decide +kernel
theorem dX1_read_86 : decode cX1_read 86 = .ok (.iadd, 1) := by decide +kernel
theorem dX1_read_87 : decode cX1_read 87 = .ok (.istore_n 1, 1) := by decide +kernel
theorem dX1_read_88 : decode cX1_read 88 = .ok (.iinc 2 1, 3) := by decide +kernel
theorem dX1_read_91 : decode cX1_read 91 = .ok (.goto (-51), 3) := by decide +kernel
theorem dX1_read_94 : decode cX1_read 94 = .ok (.aload_n 0, 1) := by decide +kernel
theorem dX1_read_95 : decode cX1_read 95 = .ok (.iconst 0, 1) := by decide +kernel
theorem dX1_read_96 : decode cX1_read 96 = .ok (.putfield 58, 3) := by decide +kernel
theorem dX1_read_99 : decode cX1_read 99 = .ok (.aload_n 0, 1) := by decide +kernel
theorem dX1_read_100 : decode cX1_read 100 = .ok (.getfield 10, 3) := by decide +kernel
theorem dX1_read_103 : decode cX1_read 103 = .ok (.getfield 51, 3) := by decide +kernel
theorem dX1_read_106 : decode cX1_read 106 = .ok (.ireturn, 1) := by decide +kernel
set_option maxRecDepth 20000 in
theorem ggX1_honour_X0_hasName : GoodIn wsX1_honour wsX0_hasName := goodIn_r _ [7, 8, 53, 54, 55, 56, 57, 58, 59, 60, 61, 62, 63, 64, 65, 66, 67, 68] (by decide +kernel) (by decide +kernel)
set_option maxRecDepth 20000 in
theorem gX1_honour_X0_hasName : GoodIn wsX1_honour (wsV RX1 69 RX0 yX0_hasName wsX0_hasName) := goodIn_app (goodIn_of _ (by decide +kernel)) ggX1_honour_X0_hasName
set_option maxRecDepth 20000 in
theorem ggX1_honour_X1_record : GoodIn wsX1_honour wsX1_record := goodIn_r _ [13, 14, 15, 1, 16, 17, 12, 18, 19, 20, 21, 22, 23, 24, 25, 26, 27, 28, 29, 30, 31, 32, 2, 33, 34, 35, 36, 37, 38, 39, 40, 41, 42, 43, 44, 45, 46, 47, 48, 49, 50, 51, 52, 53, 54, 55, 56, 57, 58, 59, 60, 61, 62, 63, 64, 65, 66, 67, 68] (by decide +kernel) (by decide +kernel)
set_option maxRecDepth 20000 in
theorem gX1_honour_X1_record : GoodIn wsX1_honour (wsV RX1 41 RX1 yX1_record wsX1_record) := goodIn_app (goodIn_of _ (by decide +kernel)) ggX1_honour_X1_record
theorem dX1_honour_0 : decode cX1_honour 0 = .ok (.aload_n 0, 1) := by decide +kernel
theorem dX1_honour_1 : decode cX1_honour 1 = .ok (.getfield 10, 3) := by decide +kernel
theorem dX1_honour_4 : decode cX1_honour 4 = .ok (.iload_n 1, 1) := by decide +kernel
theorem dX1_honour_5 : decode cX1_honour 5 = .ok (.invokevirtual 69, 3) := by decide +kernel
theorem dX1_honour_8 : decode cX1_honour 8 = .ok (.ifCond .ne 5, 3) := by decide +kernel
theorem dX1_honour_11 : decode cX1_honour 11 = .ok (.iconst (-1), 1) := by decide +kernel
theorem dX1_honour_12 : decode cX1_honour 12 = .ok (.ireturn, 1) := by decide +kernel
theorem dX1_honour_13 : decode cX1_honour 13 = .ok (.iload_n 2, 1) := by decide +kernel
theorem dX1_honour_14 : decode cX1_honour 14 = .ok (.ifCond .lt 9, 3) := by decide +kernel
theorem dX1_honour_17 : decode cX1_honour 17 = .ok (.iload_n 2, 1) := by decide +kernel
theorem dX1_honour_18 : decode cX1_honour 18 = .ok (.bipush 9, 2) := by decide +kernel
theorem dX1_honour_20 : decode cX1_honour 20 = .ok (.if_icmp .le 6, 3) := by decide +kernel
theorem dX1_honour_23 : decode cX1_honour 23 = .ok (.bipush (-2), 2) := by decide +kernel
theorem dX1_honour_25 : decode cX1_honour 25 = .ok (.ireturn, 1) := by decide +kernel
theorem dX1_honour_26 : decode cX1_honour 26 = .ok (.aload_n 0, 1) := by decide +kernel
theorem dX1_honour_27 : decode cX1_honour 27 = .ok (.invokevirtual 41, 3) := by decide +kernel
theorem dX1_honour_30 : decode cX1_honour 30 = .ok (.aload_n 0, 1) := by decide +kernel
theorem dX1_honour_31 : decode cX1_honour 31 = .ok (.getfield 10, 3) := by decide +kernel
theorem dX1_honour_34 : decode cX1_honour 34 = .ok (.getfield 73, 3) := by decide +kernel
theorem dX1_honour_37 : decode cX1_honour 37 = .ok (.iload_n 1, 1) := by decide +kernel
theorem dX1_honour_38 : decode cX1_honour 38 = .ok (.iaload, 1) := by decide +kernel
theorem dX1_honour_39 : decode cX1_honour 39 = .ok (.istore_n 3, 1) := by decide +kernel
theorem dX1_honour_40 : decode cX1_honour 40 = .ok (.aload_n 0, 1) := by decide +kernel
theorem dX1_honour_41 : decode cX1_honour 41 = .ok (.getfield 10, 3) := by decide +kernel
theorem dX1_honour_44 : decode cX1_honour 44 = .ok (.getfield 73, 3) := by decide +kernel
theorem dX1_honour_47 : decode cX1_honour 47 = .ok (.iload_n 1, 1) := by decide +kernel
theorem dX1_honour_48 : decode cX1_honour 48 = .ok (.iload_n 2, 1) := by decide +kernel
theorem dX1_honour_49 : decode cX1_honour 49 = .ok (.iastore, 1) := by decide +kernel
theorem dX1_honour_50 : decode cX1_honour 50 = .ok (.iload_n 3, 1) := by decide +kernel
theorem dX1_honour_51 : decode cX1_honour 51 = .ok (.ireturn, 1) := by decide +kernel
set_option maxRecDepth 20000 in
theorem ggX1_withdraw_X0_hasName : GoodIn wsX1_withdraw wsX0_hasName := goodIn_r _ [7, 8, 67, 68, 69, 70, 71, 72, 73, 74, 75, 76, 77, 78, 79, 80, 81, 82] (by decide +kernel) (by decide +kernel)
set_option maxRecDepth 20000 in
theorem gX1_withdraw_X0_hasName : GoodIn wsX1_withdraw (wsV RX1 69 RX0 yX0_hasName wsX0_hasName) := goodIn_app (goodIn_of _ (by decide +kernel)) ggX1_withdraw_X0_hasName
set_option maxRecDepth 20000 in
theorem ggX1_withdraw_X1_record : GoodIn wsX1_withdraw wsX1_record := goodIn_r _ [13, 14, 15, 1, 16, 17, 12, 18, 19, 20, 21, 22, 23, 24, 25, 26, 27, 28, 29, 30, 31, 32, 33, 2, 34, 35, 36, 37, 38, 39, 40, 41, 42, 43, 44, 59, 60, 61, 62, 63, 64, 65, 66, 67, 68, 69, 70, 71, 72, 73, 74, 75, 76, 77, 78, 79, 80, 81, 82] (by decide +kernel) (by decide +kernel)
set_option maxRecDepth 20000 in
theorem gX1_withdraw_X1_record : GoodIn wsX1_withdraw (wsV RX1 41 RX1 yX1_record wsX1_record) := goodIn_app (goodIn_of _ (by decide +kernel)) ggX1_withdraw_X1_record
set_option maxRecDepth 20000 in
theorem ggX1_withdraw_X0_drop : GoodIn wsX1_withdraw wsX0_drop := goodIn_r _ [48, 49, 50, 51, 52, 53, 6, 54, 55, 56, 57, 58, 67, 68, 69, 70, 71, 72, 73, 74, 75, 76, 77, 78, 79, 80, 81, 82] (by decide +kernel) (by decide +kernel)
set_option maxRecDepth 20000 in
theorem gX1_withdraw_X0_drop : GoodIn wsX1_withdraw (wsV RX1 79 RX0 yX0_drop wsX0_drop) := goodIn_app (goodIn_of _ (by decide +kernel)) ggX1_withdraw_X0_drop
theorem dX1_withdraw_0 : decode cX1_withdraw 0 = .ok (.aload_n 0, 1) := by decide +kernel
theorem dX1_withdraw_1 : decode cX1_withdraw 1 = .ok (.getfield 10, 3) := by decide +kernel
theorem dX1_withdraw_4 : decode cX1_withdraw 4 = .ok (.iload_n 1, 1) := by decide +kernel
theorem dX1_withdraw_5 : decode cX1_withdraw 5 = .ok (.invokevirtual 69, 3) := by decide +kernel
theorem dX1_withdraw_8 : decode cX1_withdraw 8 = .ok (.ifCond .ne 5, 3) := by decide +kernel
theorem dX1_withdraw_11 : decode cX1_withdraw 11 = .ok (.iconst (-1), 1) := by decide +kernel
theorem dX1_withdraw_12 : decode cX1_withdraw 12 = .ok (.ireturn, 1) := by decide +kernel
theorem dX1_withdraw_13 : decode cX1_withdraw 13 = .ok (.aload_n 0, 1) := by decide +kernel
theorem dX1_withdraw_14 : decode cX1_withdraw 14 = .ok (.getfield 10, 3) := by decide +kernel
theorem dX1_withdraw_17 : decode cX1_withdraw 17 = .ok (.getfield 76, 3) := by decide +kernel
theorem dX1_withdraw_20 : decode cX1_withdraw 20 = .ok (.iload_n 1, 1) := by decide +kernel
theorem dX1_withdraw_21 : decode cX1_withdraw 21 = .ok (.baload, 1) := by decide +kernel
theorem dX1_withdraw_22 : decode cX1_withdraw 22 = .ok (.ifCond .eq 6, 3) := by decide +kernel
theorem dX1_withdraw_25 : decode cX1_withdraw 25 = .ok (.bipush (-5), 2) := by decide +kernel
theorem dX1_withdraw_27 : decode cX1_withdraw 27 = .ok (.ireturn, 1) := by decide +kernel
theorem dX1_withdraw_28 : decode cX1_withdraw 28 = .ok (.aload_n 0, 1) := by decide +kernel
theorem dX1_withdraw_29 : decode cX1_withdraw 29 = .ok (.invokevirtual 41, 3) := by decide +kernel
theorem dX1_withdraw_32 : decode cX1_withdraw 32 = .ok (.aload_n 0, 1) := by decide +kernel
theorem dX1_withdraw_33 : decode cX1_withdraw 33 = .ok (.getfield 10, 3) := by decide +kernel
theorem dX1_withdraw_36 : decode cX1_withdraw 36 = .ok (.iload_n 1, 1) := by decide +kernel
theorem dX1_withdraw_37 : decode cX1_withdraw 37 = .ok (.invokevirtual 79, 3) := by decide +kernel
theorem dX1_withdraw_40 : decode cX1_withdraw 40 = .ok (.ireturn, 1) := by decide +kernel
set_option maxRecDepth 20000 in
theorem ggX1_give_X0_hasName : GoodIn wsX1_give wsX0_hasName := goodIn_r _ [7, 8, 99, 100, 101, 102, 103, 104, 105, 106, 107, 108, 109, 110, 111, 112, 113, 114] (by decide +kernel) (by decide +kernel)
set_option maxRecDepth 20000 in
theorem gX1_give_X0_hasName : GoodIn wsX1_give (wsV RX1 69 RX0 yX0_hasName wsX0_hasName) := goodIn_app (goodIn_of _ (by decide +kernel)) ggX1_give_X0_hasName
set_option maxRecDepth 20000 in
theorem ggX1_give_X1_isCorner : GoodIn wsX1_give wsX1_isCorner := goodIn_r _ [12] (by decide +kernel) (by decide +kernel)
set_option maxRecDepth 20000 in
theorem gX1_give_X1_isCorner : GoodIn wsX1_give (va_wsS RX1 83 yX1_isCorner wsX1_isCorner) := goodIn_app (goodIn_of _ (by decide +kernel)) ggX1_give_X1_isCorner
set_option maxRecDepth 20000 in
theorem ggX1_give_X0_refusal : GoodIn wsX1_give wsX0_refusal := goodIn_r _ [16, 17, 18, 19, 6, 20, 21, 22, 23, 24, 25, 26, 27, 28, 29, 30, 31, 4, 5, 7, 8, 32, 33, 34, 35, 36, 37, 38, 39, 40, 41, 42, 43, 44, 45, 46, 47, 48, 49, 50, 51, 99, 100, 101, 102, 103, 104, 105, 106, 107, 108, 109, 110, 111, 112, 113, 114] (by decide +kernel) (by decide +kernel)
set_option maxRecDepth 20000 in
theorem gX1_give_X0_refusal : GoodIn wsX1_give (wsV RX1 86 RX0 yX0_refusal wsX0_refusal) := goodIn_app (goodIn_of _ (by decide +kernel)) ggX1_give_X0_refusal
set_option maxRecDepth 20000 in
theorem ggX1_give_X1_record : GoodIn wsX1_give wsX1_record := goodIn_r _ [55, 56, 57, 1, 58, 59, 11, 60, 61, 62, 63, 64, 65, 42, 39, 43, 66, 67, 68, 69, 70, 71, 72, 73, 74, 75, 2, 76, 77, 78, 79, 80, 81, 82, 83, 91, 92, 93, 94, 95, 96, 97, 98, 99, 100, 101, 102, 103, 104, 105, 106, 107, 108, 109, 110, 111, 112, 113, 114] (by decide +kernel) (by decide +kernel)
set_option maxRecDepth 20000 in
theorem gX1_give_X1_record : GoodIn wsX1_give (wsV RX1 41 RX1 yX1_record wsX1_record) := goodIn_app (goodIn_of _ (by decide +kernel)) ggX1_give_X1_record
set_option maxRecDepth 20000 in
theorem ggX1_give_X0_place : GoodIn wsX1_give wsX0_place := goodIn_r _ [87, 21, 51, 50, 88, 89, 90, 99, 100, 101, 102, 103, 104, 105, 106, 107, 108, 109, 110, 111, 112, 113, 114] (by decide +kernel) (by decide +kernel)
set_option maxRecDepth 20000 in
theorem gX1_give_X0_place : GoodIn wsX1_give (wsV RX1 90 RX0 yX0_place wsX0_place) := goodIn_app (goodIn_of _ (by decide +kernel)) ggX1_give_X0_place
theorem dX1_give_0 : decode cX1_give 0 = .ok (.aload_n 0, 1) := by decide +kernel
theorem dX1_give_1 : decode cX1_give 1 = .ok (.getfield 10, 3) := by decide +kernel
theorem dX1_give_4 : decode cX1_give 4 = .ok (.iload_n 1, 1) := by decide +kernel
theorem dX1_give_5 : decode cX1_give 5 = .ok (.invokevirtual 69, 3) := by decide +kernel
theorem dX1_give_8 : decode cX1_give 8 = .ok (.ifCond .eq 10, 3) := by decide +kernel
theorem dX1_give_11 : decode cX1_give 11 = .ok (.iload_n 2, 1) := by decide +kernel
theorem dX1_give_12 : decode cX1_give 12 = .ok (.invokestatic 83, 3) := by decide +kernel
theorem dX1_give_15 : decode cX1_give 15 = .ok (.ifCond .ne 5, 3) := by decide +kernel
theorem dX1_give_18 : decode cX1_give 18 = .ok (.iconst (-1), 1) := by decide +kernel
theorem dX1_give_19 : decode cX1_give 19 = .ok (.ireturn, 1) := by decide +kernel
theorem dX1_give_20 : decode cX1_give 20 = .ok (.aload_n 0, 1) := by decide +kernel
theorem dX1_give_21 : decode cX1_give 21 = .ok (.getfield 10, 3) := by decide +kernel
theorem dX1_give_24 : decode cX1_give 24 = .ok (.iload_n 1, 1) := by decide +kernel
theorem dX1_give_25 : decode cX1_give 25 = .ok (.iload_n 2, 1) := by decide +kernel
theorem dX1_give_26 : decode cX1_give 26 = .ok (.invokevirtual 86, 3) := by decide +kernel
theorem dX1_give_29 : decode cX1_give 29 = .ok (.ifCond .eq 6, 3) := by decide +kernel
theorem dX1_give_32 : decode cX1_give 32 = .ok (.bipush (-5), 2) := by decide +kernel
theorem dX1_give_34 : decode cX1_give 34 = .ok (.ireturn, 1) := by decide +kernel
theorem dX1_give_35 : decode cX1_give 35 = .ok (.aload_n 0, 1) := by decide +kernel
theorem dX1_give_36 : decode cX1_give 36 = .ok (.invokevirtual 41, 3) := by decide +kernel
theorem dX1_give_39 : decode cX1_give 39 = .ok (.aload_n 0, 1) := by decide +kernel
theorem dX1_give_40 : decode cX1_give 40 = .ok (.getfield 10, 3) := by decide +kernel
theorem dX1_give_43 : decode cX1_give 43 = .ok (.iload_n 1, 1) := by decide +kernel
theorem dX1_give_44 : decode cX1_give 44 = .ok (.iload_n 2, 1) := by decide +kernel
theorem dX1_give_45 : decode cX1_give 45 = .ok (.invokevirtual 90, 3) := by decide +kernel
theorem dX1_give_48 : decode cX1_give 48 = .ok (.aload_n 0, 1) := by decide +kernel
theorem dX1_give_49 : decode cX1_give 49 = .ok (.getfield 10, 3) := by decide +kernel
theorem dX1_give_52 : decode cX1_give 52 = .ok (.getfield 94, 3) := by decide +kernel
theorem dX1_give_55 : decode cX1_give 55 = .ok (.iload_n 2, 1) := by decide +kernel
theorem dX1_give_56 : decode cX1_give 56 = .ok (.iaload, 1) := by decide +kernel
theorem dX1_give_57 : decode cX1_give 57 = .ok (.ireturn, 1) := by decide +kernel
set_option maxRecDepth 20000 in
theorem ggX1_strip_X1_isCorner : GoodIn wsX1_strip wsX1_isCorner := goodIn_r _ [7] (by decide +kernel) (by decide +kernel)
set_option maxRecDepth 20000 in
theorem gX1_strip_X1_isCorner : GoodIn wsX1_strip (va_wsS RX1 83 yX1_isCorner wsX1_isCorner) := goodIn_app (goodIn_of _ (by decide +kernel)) ggX1_strip_X1_isCorner
set_option maxRecDepth 20000 in
theorem ggX1_strip_X1_record : GoodIn wsX1_strip wsX1_record := goodIn_r _ [11, 12, 13, 1, 14, 15, 6, 16, 17, 18, 19, 20, 21, 22, 23, 24, 25, 26, 27, 28, 29, 30, 31, 32, 33, 2, 3, 34, 35, 36, 37, 38, 39, 40, 41, 48, 49, 50, 51, 52, 53, 54, 55, 56, 57, 58, 59, 60, 61, 62, 63, 64, 65, 66, 67, 68, 69, 70, 71] (by decide +kernel) (by decide +kernel)
set_option maxRecDepth 20000 in
theorem gX1_strip_X1_record : GoodIn wsX1_strip (wsV RX1 41 RX1 yX1_record wsX1_record) := goodIn_app (goodIn_of _ (by decide +kernel)) ggX1_strip_X1_record
set_option maxRecDepth 20000 in
theorem ggX1_strip_X0_bare : GoodIn wsX1_strip wsX0_bare := goodIn_r _ [46, 47, 56, 57, 58, 59, 60, 61, 62, 63, 64, 65, 66, 67, 68, 69, 70, 71] (by decide +kernel) (by decide +kernel)
set_option maxRecDepth 20000 in
theorem gX1_strip_X0_bare : GoodIn wsX1_strip (wsV RX1 100 RX0 yX0_bare wsX0_bare) := goodIn_app (goodIn_of _ (by decide +kernel)) ggX1_strip_X0_bare
theorem dX1_strip_0 : decode cX1_strip 0 = .ok (.iload_n 1, 1) := by decide +kernel
theorem dX1_strip_1 : decode cX1_strip 1 = .ok (.invokestatic 83, 3) := by decide +kernel
theorem dX1_strip_4 : decode cX1_strip 4 = .ok (.ifCond .ne 5, 3) := by decide +kernel
theorem dX1_strip_7 : decode cX1_strip 7 = .ok (.iconst (-1), 1) := by decide +kernel
theorem dX1_strip_8 : decode cX1_strip 8 = .ok (.ireturn, 1) := by decide +kernel
theorem dX1_strip_9 : decode cX1_strip 9 = .ok (.aload_n 0, 1) := by decide +kernel
theorem dX1_strip_10 : decode cX1_strip 10 = .ok (.getfield 10, 3) := by decide +kernel
theorem dX1_strip_13 : decode cX1_strip 13 = .ok (.getfield 97, 3) := by decide +kernel
theorem dX1_strip_16 : decode cX1_strip 16 = .ok (.iload_n 1, 1) := by decide +kernel
theorem dX1_strip_17 : decode cX1_strip 17 = .ok (.iaload, 1) := by decide +kernel
theorem dX1_strip_18 : decode cX1_strip 18 = .ok (.istore_n 2, 1) := by decide +kernel
theorem dX1_strip_19 : decode cX1_strip 19 = .ok (.iload_n 2, 1) := by decide +kernel
theorem dX1_strip_20 : decode cX1_strip 20 = .ok (.bipush (-6), 2) := by decide +kernel
theorem dX1_strip_22 : decode cX1_strip 22 = .ok (.if_icmp .ne 6, 3) := by decide +kernel
theorem dX1_strip_25 : decode cX1_strip 25 = .ok (.bipush (-5), 2) := by decide +kernel
theorem dX1_strip_27 : decode cX1_strip 27 = .ok (.ireturn, 1) := by decide +kernel
theorem dX1_strip_28 : decode cX1_strip 28 = .ok (.aload_n 0, 1) := by decide +kernel
theorem dX1_strip_29 : decode cX1_strip 29 = .ok (.invokevirtual 41, 3) := by decide +kernel
theorem dX1_strip_32 : decode cX1_strip 32 = .ok (.aload_n 0, 1) := by decide +kernel
theorem dX1_strip_33 : decode cX1_strip 33 = .ok (.getfield 10, 3) := by decide +kernel
theorem dX1_strip_36 : decode cX1_strip 36 = .ok (.iload_n 1, 1) := by decide +kernel
theorem dX1_strip_37 : decode cX1_strip 37 = .ok (.invokevirtual 100, 3) := by decide +kernel
theorem dX1_strip_40 : decode cX1_strip 40 = .ok (.aload_n 0, 1) := by decide +kernel
theorem dX1_strip_41 : decode cX1_strip 41 = .ok (.getfield 10, 3) := by decide +kernel
theorem dX1_strip_44 : decode cX1_strip 44 = .ok (.getfield 94, 3) := by decide +kernel
theorem dX1_strip_47 : decode cX1_strip 47 = .ok (.iload_n 1, 1) := by decide +kernel
theorem dX1_strip_48 : decode cX1_strip 48 = .ok (.dup2, 1) := by decide +kernel
theorem dX1_strip_49 : decode cX1_strip 49 = .ok (.iaload, 1) := by decide +kernel
theorem dX1_strip_50 : decode cX1_strip 50 = .ok (.iconst 1, 1) := by decide +kernel
theorem dX1_strip_51 : decode cX1_strip 51 = .ok (.iadd, 1) := by decide +kernel
theorem dX1_strip_52 : decode cX1_strip 52 = .ok (.iastore, 1) := by decide +kernel
theorem dX1_strip_53 : decode cX1_strip 53 = .ok (.iload_n 2, 1) := by decide +kernel
theorem dX1_strip_54 : decode cX1_strip 54 = .ok (.ireturn, 1) := by decide +kernel
set_option maxRecDepth 20000 in
theorem ggX1_issue_X1_record : GoodIn wsX1_issue wsX1_record := goodIn_r _ [6, 7, 8, 1, 9, 10, 5, 11, 12, 13, 14, 15, 16, 17, 18, 19, 20, 21, 22, 23, 24, 25, 26, 27, 28, 29, 30, 31, 32, 33, 34, 35, 36, 37, 38, 51, 52, 53, 54, 55, 56, 57, 58, 59, 60, 61, 62, 63, 64, 65, 66, 67, 68, 69, 70, 71, 72, 73, 74] (by decide +kernel) (by decide +kernel)
set_option maxRecDepth 20000 in
theorem gX1_issue_X1_record : GoodIn wsX1_issue (wsV RX1 41 RX1 yX1_record wsX1_record) := goodIn_app (goodIn_of _ (by decide +kernel)) ggX1_issue_X1_record
set_option maxRecDepth 20000 in
theorem ggX1_issue_X0_wrongOnMap : GoodIn wsX1_issue wsX0_wrongOnMap := goodIn_r _ [43, 44, 45, 46, 59, 60, 61, 62, 63, 64, 65, 66, 67, 68, 69, 70, 71, 72, 73, 74] (by decide +kernel) (by decide +kernel)
set_option maxRecDepth 20000 in
theorem gX1_issue_X0_wrongOnMap : GoodIn wsX1_issue (wsV RX1 104 RX0 yX0_wrongOnMap wsX0_wrongOnMap) := goodIn_app (goodIn_of _ (by decide +kernel)) ggX1_issue_X0_wrongOnMap
set_option maxRecDepth 20000 in
theorem ggX1_issue_X0_drawMap : GoodIn wsX1_issue wsX0_drawMap := goodIn_r _ [50, 44, 46, 45, 37, 5, 38, 16, 17, 18, 19, 20, 21, 22, 23, 59, 60, 61, 62, 63, 64, 65, 66, 67, 68, 69, 70, 71, 72, 73, 74] (by decide +kernel) (by decide +kernel)
set_option maxRecDepth 20000 in
theorem gX1_issue_X0_drawMap : GoodIn wsX1_issue (wsV RX1 107 RX0 yX0_drawMap wsX0_drawMap) := goodIn_app (goodIn_of _ (by decide +kernel)) ggX1_issue_X0_drawMap
theorem dX1_issue_0 : decode cX1_issue 0 = .ok (.aload_n 0, 1) := by decide +kernel
theorem dX1_issue_1 : decode cX1_issue 1 = .ok (.invokevirtual 41, 3) := by decide +kernel
theorem dX1_issue_4 : decode cX1_issue 4 = .ok (.aload_n 0, 1) := by decide +kernel
theorem dX1_issue_5 : decode cX1_issue 5 = .ok (.getfield 10, 3) := by decide +kernel
theorem dX1_issue_8 : decode cX1_issue 8 = .ok (.invokevirtual 104, 3) := by decide +kernel
theorem dX1_issue_11 : decode cX1_issue 11 = .ok (.istore_n 1, 1) := by decide +kernel
theorem dX1_issue_12 : decode cX1_issue 12 = .ok (.aload_n 0, 1) := by decide +kernel
theorem dX1_issue_13 : decode cX1_issue 13 = .ok (.getfield 10, 3) := by decide +kernel
theorem dX1_issue_16 : decode cX1_issue 16 = .ok (.invokevirtual 107, 3) := by decide +kernel
theorem dX1_issue_19 : decode cX1_issue 19 = .ok (.iload_n 1, 1) := by decide +kernel
theorem dX1_issue_20 : decode cX1_issue 20 = .ok (.ireturn, 1) := by decide +kernel
set_option maxRecDepth 20000 in
theorem ggX1_pass_X1_record : GoodIn wsX1_pass wsX1_record := goodIn_r _ [7, 8, 9, 1, 10, 11, 6, 12, 13, 2, 14, 15, 16, 17, 18, 19, 20, 21, 22, 23, 24, 25, 26, 27, 28, 29, 30, 31, 32, 33, 34, 35, 36, 37, 38, 112, 113, 114, 115, 116, 117, 118, 119, 120, 121, 122, 123, 124, 125, 126, 127, 128, 129, 130, 131, 132, 133, 134, 135] (by decide +kernel) (by decide +kernel)
set_option maxRecDepth 20000 in
theorem gX1_pass_X1_record : GoodIn wsX1_pass (wsV RX1 41 RX1 yX1_record wsX1_record) := goodIn_app (goodIn_of _ (by decide +kernel)) ggX1_pass_X1_record
set_option maxRecDepth 20000 in
theorem ggX1_pass_X0_live : GoodIn wsX1_pass wsX0_live := goodIn_r _ [43, 44, 45, 46, 47, 42, 48, 49, 50, 51, 52, 53, 54, 55, 56, 57, 58, 59, 60, 61, 62, 63, 64, 65, 66, 67, 68, 69, 70, 71, 72, 73, 74, 75, 76, 77, 78, 79, 80, 81, 82, 83, 84, 85, 86, 87, 88, 18, 89, 90, 17, 19, 91, 92, 93, 94, 95, 96, 97, 98, 99, 100, 101, 102, 103, 104, 105, 106, 107, 108, 109, 110, 111, 120, 121, 122, 123, 124, 125, 126, 127, 128, 129, 130, 131, 132, 133, 134, 135] (by decide +kernel) (by decide +kernel)
set_option maxRecDepth 20000 in
theorem gX1_pass_X0_live : GoodIn wsX1_pass (wsV RX1 113 RX0 yX0_live wsX0_live) := goodIn_app (goodIn_of _ (by decide +kernel)) ggX1_pass_X0_live
theorem dX1_pass_0 : decode cX1_pass 0 = .ok (.iload_n 1, 1) := by decide +kernel
theorem dX1_pass_1 : decode cX1_pass 1 = .ok (.iconst 1, 1) := by decide +kernel
theorem dX1_pass_2 : decode cX1_pass 2 = .ok (.if_icmp .lt 9, 3) := by decide +kernel
theorem dX1_pass_5 : decode cX1_pass 5 = .ok (.iload_n 1, 1) := by decide +kernel
theorem dX1_pass_6 : decode cX1_pass 6 = .ok (.bipush 99, 2) := by decide +kernel
theorem dX1_pass_8 : decode cX1_pass 8 = .ok (.if_icmp .le 6, 3) := by decide +kernel
theorem dX1_pass_11 : decode cX1_pass 11 = .ok (.bipush (-2), 2) := by decide +kernel
theorem dX1_pass_13 : decode cX1_pass 13 = .ok (.ireturn, 1) := by decide +kernel
theorem dX1_pass_14 : decode cX1_pass 14 = .ok (.aload_n 0, 1) := by decide +kernel
theorem dX1_pass_15 : decode cX1_pass 15 = .ok (.getfield 10, 3) := by decide +kernel
theorem dX1_pass_18 : decode cX1_pass 18 = .ok (.getfield 110, 3) := by decide +kernel
theorem dX1_pass_21 : decode cX1_pass 21 = .ok (.iload_n 1, 1) := by decide +kernel
theorem dX1_pass_22 : decode cX1_pass 22 = .ok (.iadd, 1) := by decide +kernel
theorem dX1_pass_23 : decode cX1_pass 23 = .ok (.sipush 9999, 3) := by decide +kernel
theorem dX1_pass_26 : decode cX1_pass 26 = .ok (.if_icmp .le 6, 3) := by decide +kernel
theorem dX1_pass_29 : decode cX1_pass 29 = .ok (.bipush (-4), 2) := by decide +kernel
theorem dX1_pass_31 : decode cX1_pass 31 = .ok (.ireturn, 1) := by decide +kernel
theorem dX1_pass_32 : decode cX1_pass 32 = .ok (.aload_n 0, 1) := by decide +kernel
theorem dX1_pass_33 : decode cX1_pass 33 = .ok (.invokevirtual 41, 3) := by decide +kernel
theorem dX1_pass_36 : decode cX1_pass 36 = .ok (.aload_n 0, 1) := by decide +kernel
theorem dX1_pass_37 : decode cX1_pass 37 = .ok (.getfield 10, 3) := by decide +kernel
theorem dX1_pass_40 : decode cX1_pass 40 = .ok (.iload_n 1, 1) := by decide +kernel
theorem dX1_pass_41 : decode cX1_pass 41 = .ok (.invokevirtual 113, 3) := by decide +kernel
theorem dX1_pass_44 : decode cX1_pass 44 = .ok (.ireturn, 1) := by decide +kernel
set_option maxRecDepth 20000 in
theorem ggX1_name_X0_hasName : GoodIn wsX1_name wsX0_hasName := goodIn_r _ [10, 11, 44, 45, 46, 47, 48, 49, 50, 51, 52, 53, 54, 55, 56, 57, 58, 59] (by decide +kernel) (by decide +kernel)
set_option maxRecDepth 20000 in
theorem gX1_name_X0_hasName : GoodIn wsX1_name (wsV RX1 69 RX0 yX0_hasName wsX0_hasName) := goodIn_app (goodIn_of _ (by decide +kernel)) ggX1_name_X0_hasName
set_option maxRecDepth 20000 in
theorem ggX1_name_X0_whereIs : GoodIn wsX1_name wsX0_whereIs := goodIn_r _ [15, 16, 17, 18, 19, 9, 20, 21, 44, 45, 46, 47, 48, 49, 50, 51, 52, 53, 54, 55, 56, 57, 58, 59] (by decide +kernel) (by decide +kernel)
set_option maxRecDepth 20000 in
theorem gX1_name_X0_whereIs : GoodIn wsX1_name (wsV RX1 116 RX0 yX0_whereIs wsX0_whereIs) := goodIn_app (goodIn_of _ (by decide +kernel)) ggX1_name_X0_whereIs
set_option maxRecDepth 20000 in
theorem ggX1_name_X0_bearerSet : GoodIn wsX1_name wsX0_bearerSet := goodIn_r _ [25, 21, 44, 45, 46, 47, 48, 49, 50, 51, 52, 53, 54, 55, 56, 57, 58, 59] (by decide +kernel) (by decide +kernel)
set_option maxRecDepth 20000 in
theorem gX1_name_X0_bearerSet : GoodIn wsX1_name (wsV RX1 119 RX0 yX0_bearerSet wsX0_bearerSet) := goodIn_app (goodIn_of _ (by decide +kernel)) ggX1_name_X0_bearerSet
set_option maxRecDepth 20000 in
theorem ggX1_name_X0_placeInQueue : GoodIn wsX1_name wsX0_placeInQueue := goodIn_r _ [29, 11, 30, 31, 32, 33, 9, 34, 35, 13, 14, 15, 16, 17, 18, 19, 20, 21, 44, 45, 46, 47, 48, 49, 50, 51, 52, 53, 54, 55, 56, 57, 58, 59] (by decide +kernel) (by decide +kernel)
set_option maxRecDepth 20000 in
theorem gX1_name_X0_placeInQueue : GoodIn wsX1_name (wsV RX1 122 RX0 yX0_placeInQueue wsX0_placeInQueue) := goodIn_app (goodIn_of _ (by decide +kernel)) ggX1_name_X0_placeInQueue
theorem dX1_name_0 : decode cX1_name 0 = .ok (.aload_n 0, 1) := by decide +kernel
theorem dX1_name_1 : decode cX1_name 1 = .ok (.getfield 10, 3) := by decide +kernel
theorem dX1_name_4 : decode cX1_name 4 = .ok (.iload_n 1, 1) := by decide +kernel
theorem dX1_name_5 : decode cX1_name 5 = .ok (.invokevirtual 69, 3) := by decide +kernel
theorem dX1_name_8 : decode cX1_name 8 = .ok (.ifCond .ne 5, 3) := by decide +kernel
theorem dX1_name_11 : decode cX1_name 11 = .ok (.iconst (-1), 1) := by decide +kernel
theorem dX1_name_12 : decode cX1_name 12 = .ok (.ireturn, 1) := by decide +kernel
theorem dX1_name_13 : decode cX1_name 13 = .ok (.iload_n 2, 1) := by decide +kernel
theorem dX1_name_14 : decode cX1_name 14 = .ok (.tableswitch 109 0 6 #[42, 52, 61, 70, 79, 89, 99], 42) := by decide +kernel
theorem dX1_name_56 : decode cX1_name 56 = .ok (.aload_n 0, 1) := by decide +kernel
theorem dX1_name_57 : decode cX1_name 57 = .ok (.getfield 10, 3) := by decide +kernel
theorem dX1_name_60 : decode cX1_name 60 = .ok (.getfield 73, 3) := by decide +kernel
theorem dX1_name_63 : decode cX1_name 63 = .ok (.iload_n 1, 1) := by decide +kernel
theorem dX1_name_64 : decode cX1_name 64 = .ok (.iaload, 1) := by decide +kernel
theorem dX1_name_65 : decode cX1_name 65 = .ok (.ireturn, 1) := by decide +kernel
theorem dX1_name_66 : decode cX1_name 66 = .ok (.aload_n 0, 1) := by decide +kernel
theorem dX1_name_67 : decode cX1_name 67 = .ok (.getfield 10, 3) := by decide +kernel
theorem dX1_name_70 : decode cX1_name 70 = .ok (.iload_n 1, 1) := by decide +kernel
theorem dX1_name_71 : decode cX1_name 71 = .ok (.invokevirtual 116, 3) := by decide +kernel
theorem dX1_name_74 : decode cX1_name 74 = .ok (.ireturn, 1) := by decide +kernel
theorem dX1_name_75 : decode cX1_name 75 = .ok (.aload_n 0, 1) := by decide +kernel
theorem dX1_name_76 : decode cX1_name 76 = .ok (.getfield 10, 3) := by decide +kernel
theorem dX1_name_79 : decode cX1_name 79 = .ok (.iload_n 1, 1) := by decide +kernel
theorem dX1_name_80 : decode cX1_name 80 = .ok (.invokevirtual 119, 3) := by decide +kernel
theorem dX1_name_83 : decode cX1_name 83 = .ok (.ireturn, 1) := by decide +kernel
theorem dX1_name_84 : decode cX1_name 84 = .ok (.aload_n 0, 1) := by decide +kernel
theorem dX1_name_85 : decode cX1_name 85 = .ok (.getfield 10, 3) := by decide +kernel
theorem dX1_name_88 : decode cX1_name 88 = .ok (.iload_n 1, 1) := by decide +kernel
theorem dX1_name_89 : decode cX1_name 89 = .ok (.invokevirtual 122, 3) := by decide +kernel
theorem dX1_name_92 : decode cX1_name 92 = .ok (.ireturn, 1) := by decide +kernel
theorem dX1_name_93 : decode cX1_name 93 = .ok (.aload_n 0, 1) := by decide +kernel
theorem dX1_name_94 : decode cX1_name 94 = .ok (.getfield 10, 3) := by decide +kernel
theorem dX1_name_97 : decode cX1_name 97 = .ok (.getfield 125, 3) := by decide +kernel
theorem dX1_name_100 : decode cX1_name 100 = .ok (.iload_n 1, 1) := by decide +kernel
theorem dX1_name_101 : decode cX1_name 101 = .ok (.iaload, 1) := by decide +kernel
theorem dX1_name_102 : decode cX1_name 102 = .ok (.ireturn, 1) := by decide +kernel
theorem dX1_name_103 : decode cX1_name 103 = .ok (.aload_n 0, 1) := by decide +kernel
theorem dX1_name_104 : decode cX1_name 104 = .ok (.getfield 10, 3) := by decide +kernel
theorem dX1_name_107 : decode cX1_name 107 = .ok (.getfield 128, 3) := by decide +kernel
theorem dX1_name_110 : decode cX1_name 110 = .ok (.iload_n 1, 1) := by decide +kernel
theorem dX1_name_111 : decode cX1_name 111 = .ok (.iaload, 1) := by decide +kernel
theorem dX1_name_112 : decode cX1_name 112 = .ok (.ireturn, 1) := by decide +kernel
theorem dX1_name_113 : decode cX1_name 113 = .ok (.aload_n 0, 1) := by decide +kernel
theorem dX1_name_114 : decode cX1_name 114 = .ok (.getfield 10, 3) := by decide +kernel
theorem dX1_name_117 : decode cX1_name 117 = .ok (.getfield 131, 3) := by decide +kernel
theorem dX1_name_120 : decode cX1_name 120 = .ok (.iload_n 1, 1) := by decide +kernel
theorem dX1_name_121 : decode cX1_name 121 = .ok (.iaload, 1) := by decide +kernel
theorem dX1_name_122 : decode cX1_name 122 = .ok (.ireturn, 1) := by decide +kernel
theorem dX1_name_123 : decode cX1_name 123 = .ok (.bipush (-2), 2) := by decide +kernel
theorem dX1_name_125 : decode cX1_name 125 = .ok (.ireturn, 1) := by decide +kernel
set_option maxRecDepth 20000 in
theorem ggX1_alike_X0_hasName : GoodIn wsX1_alike wsX0_hasName := goodIn_r _ [7, 8, 35, 36, 37, 38, 39, 40, 41, 42, 43, 44, 45, 46, 47, 48, 49, 50] (by decide +kernel) (by decide +kernel)
set_option maxRecDepth 20000 in
theorem gX1_alike_X0_hasName : GoodIn wsX1_alike (wsV RX1 69 RX0 yX0_hasName wsX0_hasName) := goodIn_app (goodIn_of _ (by decide +kernel)) ggX1_alike_X0_hasName
set_option maxRecDepth 20000 in
theorem ggX1_alike_X0_alikeByLetters : GoodIn wsX1_alike wsX0_alikeByLetters := goodIn_r _ [12, 13, 14, 15, 16, 6, 17, 18, 19, 20, 21, 22, 23, 24, 25, 26, 35, 36, 37, 38, 39, 40, 41, 42, 43, 44, 45, 46, 47, 48, 49, 50] (by decide +kernel) (by decide +kernel)
set_option maxRecDepth 20000 in
theorem gX1_alike_X0_alikeByLetters : GoodIn wsX1_alike (wsV RX1 134 RX0 yX0_alikeByLetters wsX0_alikeByLetters) := goodIn_app (goodIn_of _ (by decide +kernel)) ggX1_alike_X0_alikeByLetters
theorem dX1_alike_0 : decode cX1_alike 0 = .ok (.aload_n 0, 1) := by decide +kernel
theorem dX1_alike_1 : decode cX1_alike 1 = .ok (.getfield 10, 3) := by decide +kernel
theorem dX1_alike_4 : decode cX1_alike 4 = .ok (.iload_n 1, 1) := by decide +kernel
theorem dX1_alike_5 : decode cX1_alike 5 = .ok (.invokevirtual 69, 3) := by decide +kernel
theorem dX1_alike_8 : decode cX1_alike 8 = .ok (.ifCond .eq 14, 3) := by decide +kernel
theorem dX1_alike_11 : decode cX1_alike 11 = .ok (.aload_n 0, 1) := by decide +kernel
theorem dX1_alike_12 : decode cX1_alike 12 = .ok (.getfield 10, 3) := by decide +kernel
theorem dX1_alike_15 : decode cX1_alike 15 = .ok (.iload_n 2, 1) := by decide +kernel
theorem dX1_alike_16 : decode cX1_alike 16 = .ok (.invokevirtual 69, 3) := by decide +kernel
theorem dX1_alike_19 : decode cX1_alike 19 = .ok (.ifCond .ne 5, 3) := by decide +kernel
theorem dX1_alike_22 : decode cX1_alike 22 = .ok (.iconst (-1), 1) := by decide +kernel
theorem dX1_alike_23 : decode cX1_alike 23 = .ok (.ireturn, 1) := by decide +kernel
theorem dX1_alike_24 : decode cX1_alike 24 = .ok (.iload_n 3, 1) := by decide +kernel
theorem dX1_alike_25 : decode cX1_alike 25 = .ok (.lookupswitch 72 #[(0, 27), (1, 54)], 27) := by decide +kernel
theorem dX1_alike_52 : decode cX1_alike 52 = .ok (.aload_n 0, 1) := by decide +kernel
theorem dX1_alike_53 : decode cX1_alike 53 = .ok (.getfield 10, 3) := by decide +kernel
theorem dX1_alike_56 : decode cX1_alike 56 = .ok (.getfield 125, 3) := by decide +kernel
theorem dX1_alike_59 : decode cX1_alike 59 = .ok (.iload_n 1, 1) := by decide +kernel
theorem dX1_alike_60 : decode cX1_alike 60 = .ok (.iaload, 1) := by decide +kernel
theorem dX1_alike_61 : decode cX1_alike 61 = .ok (.aload_n 0, 1) := by decide +kernel
theorem dX1_alike_62 : decode cX1_alike 62 = .ok (.getfield 10, 3) := by decide +kernel
theorem dX1_alike_65 : decode cX1_alike 65 = .ok (.getfield 125, 3) := by decide +kernel
theorem dX1_alike_68 : decode cX1_alike 68 = .ok (.iload_n 2, 1) := by decide +kernel
theorem dX1_alike_69 : decode cX1_alike 69 = .ok (.iaload, 1) := by decide +kernel
theorem dX1_alike_70 : decode cX1_alike 70 = .ok (.if_icmp .ne 7, 3) := by decide +kernel
theorem dX1_alike_73 : decode cX1_alike 73 = .ok (.iconst 1, 1) := by decide +kernel
theorem dX1_alike_74 : decode cX1_alike 74 = .ok (.goto 4, 3) := by decide +kernel
theorem dX1_alike_77 : decode cX1_alike 77 = .ok (.iconst 0, 1) := by decide +kernel
theorem dX1_alike_78 : decode cX1_alike 78 = .ok (.ireturn, 1) := by decide +kernel
theorem dX1_alike_79 : decode cX1_alike 79 = .ok (.aload_n 0, 1) := by decide +kernel
theorem dX1_alike_80 : decode cX1_alike 80 = .ok (.getfield 10, 3) := by decide +kernel
theorem dX1_alike_83 : decode cX1_alike 83 = .ok (.iload_n 1, 1) := by decide +kernel
theorem dX1_alike_84 : decode cX1_alike 84 = .ok (.iload_n 2, 1) := by decide +kernel
theorem dX1_alike_85 : decode cX1_alike 85 = .ok (.invokevirtual 134, 3) := by decide +kernel
theorem dX1_alike_88 : decode cX1_alike 88 = .ok (.ifCond .eq 7, 3) := by decide +kernel
theorem dX1_alike_91 : decode cX1_alike 91 = .ok (.iconst 1, 1) := by decide +kernel
theorem dX1_alike_92 : decode cX1_alike 92 = .ok (.goto 4, 3) := by decide +kernel
theorem dX1_alike_95 : decode cX1_alike 95 = .ok (.iconst 0, 1) := by decide +kernel
theorem dX1_alike_96 : decode cX1_alike 96 = .ok (.ireturn, 1) := by decide +kernel
theorem dX1_alike_97 : decode cX1_alike 97 = .ok (.bipush (-2), 2) := by decide +kernel
theorem dX1_alike_99 : decode cX1_alike 99 = .ok (.ireturn, 1) := by decide +kernel
set_option maxRecDepth 20000 in
theorem ggX1_corner_X1_isCorner : GoodIn wsX1_corner wsX1_isCorner := goodIn_r _ [12] (by decide +kernel) (by decide +kernel)
set_option maxRecDepth 20000 in
theorem gX1_corner_X1_isCorner : GoodIn wsX1_corner (va_wsS RX1 83 yX1_isCorner wsX1_isCorner) := goodIn_app (goodIn_of _ (by decide +kernel)) ggX1_corner_X1_isCorner
theorem dX1_corner_0 : decode cX1_corner 0 = .ok (.iload_n 1, 1) := by decide +kernel
theorem dX1_corner_1 : decode cX1_corner 1 = .ok (.invokestatic 83, 3) := by decide +kernel
theorem dX1_corner_4 : decode cX1_corner 4 = .ok (.ifCond .ne 5, 3) := by decide +kernel
theorem dX1_corner_7 : decode cX1_corner 7 = .ok (.iconst (-1), 1) := by decide +kernel
theorem dX1_corner_8 : decode cX1_corner 8 = .ok (.ireturn, 1) := by decide +kernel
theorem dX1_corner_9 : decode cX1_corner 9 = .ok (.iload_n 2, 1) := by decide +kernel
theorem dX1_corner_10 : decode cX1_corner 10 = .ok (.tableswitch 132 0 5 #[38, 48, 58, 68, 97, 107], 38) := by decide +kernel
theorem dX1_corner_48 : decode cX1_corner 48 = .ok (.aload_n 0, 1) := by decide +kernel
theorem dX1_corner_49 : decode cX1_corner 49 = .ok (.getfield 10, 3) := by decide +kernel
theorem dX1_corner_52 : decode cX1_corner 52 = .ok (.getfield 97, 3) := by decide +kernel
theorem dX1_corner_55 : decode cX1_corner 55 = .ok (.iload_n 1, 1) := by decide +kernel
theorem dX1_corner_56 : decode cX1_corner 56 = .ok (.iaload, 1) := by decide +kernel
theorem dX1_corner_57 : decode cX1_corner 57 = .ok (.ireturn, 1) := by decide +kernel
theorem dX1_corner_58 : decode cX1_corner 58 = .ok (.aload_n 0, 1) := by decide +kernel
theorem dX1_corner_59 : decode cX1_corner 59 = .ok (.getfield 10, 3) := by decide +kernel
theorem dX1_corner_62 : decode cX1_corner 62 = .ok (.getfield 94, 3) := by decide +kernel
theorem dX1_corner_65 : decode cX1_corner 65 = .ok (.iload_n 1, 1) := by decide +kernel
theorem dX1_corner_66 : decode cX1_corner 66 = .ok (.iaload, 1) := by decide +kernel
theorem dX1_corner_67 : decode cX1_corner 67 = .ok (.ireturn, 1) := by decide +kernel
theorem dX1_corner_68 : decode cX1_corner 68 = .ok (.aload_n 0, 1) := by decide +kernel
theorem dX1_corner_69 : decode cX1_corner 69 = .ok (.getfield 10, 3) := by decide +kernel
theorem dX1_corner_72 : decode cX1_corner 72 = .ok (.getfield 138, 3) := by decide +kernel
theorem dX1_corner_75 : decode cX1_corner 75 = .ok (.iload_n 1, 1) := by decide +kernel
theorem dX1_corner_76 : decode cX1_corner 76 = .ok (.iaload, 1) := by decide +kernel
theorem dX1_corner_77 : decode cX1_corner 77 = .ok (.ireturn, 1) := by decide +kernel
theorem dX1_corner_78 : decode cX1_corner 78 = .ok (.aload_n 0, 1) := by decide +kernel
theorem dX1_corner_79 : decode cX1_corner 79 = .ok (.getfield 10, 3) := by decide +kernel
theorem dX1_corner_82 : decode cX1_corner 82 = .ok (.getfield 97, 3) := by decide +kernel
theorem dX1_corner_85 : decode cX1_corner 85 = .ok (.iload_n 1, 1) := by decide +kernel
theorem dX1_corner_86 : decode cX1_corner 86 = .ok (.iaload, 1) := by decide +kernel
theorem dX1_corner_87 : decode cX1_corner 87 = .ok (.bipush (-6), 2) := by decide +kernel
theorem dX1_corner_89 : decode cX1_corner 89 = .ok (.if_icmp .ne 8, 3) := by decide +kernel
theorem dX1_corner_92 : decode cX1_corner 92 = .ok (.bipush (-6), 2) := by decide +kernel
theorem dX1_corner_94 : decode cX1_corner 94 = .ok (.goto 12, 3) := by decide +kernel
theorem dX1_corner_97 : decode cX1_corner 97 = .ok (.aload_n 0, 1) := by decide +kernel
theorem dX1_corner_98 : decode cX1_corner 98 = .ok (.getfield 10, 3) := by decide +kernel
theorem dX1_corner_101 : decode cX1_corner 101 = .ok (.getfield 141, 3) := by decide +kernel
theorem dX1_corner_104 : decode cX1_corner 104 = .ok (.iload_n 1, 1) := by decide +kernel
theorem dX1_corner_105 : decode cX1_corner 105 = .ok (.iaload, 1) := by decide +kernel
theorem dX1_corner_106 : decode cX1_corner 106 = .ok (.ireturn, 1) := by decide +kernel
theorem dX1_corner_107 : decode cX1_corner 107 = .ok (.aload_n 0, 1) := by decide +kernel
theorem dX1_corner_108 : decode cX1_corner 108 = .ok (.getfield 10, 3) := by decide +kernel
theorem dX1_corner_111 : decode cX1_corner 111 = .ok (.getfield 144, 3) := by decide +kernel
theorem dX1_corner_114 : decode cX1_corner 114 = .ok (.iload_n 1, 1) := by decide +kernel
theorem dX1_corner_115 : decode cX1_corner 115 = .ok (.iaload, 1) := by decide +kernel
theorem dX1_corner_116 : decode cX1_corner 116 = .ok (.ireturn, 1) := by decide +kernel
theorem dX1_corner_117 : decode cX1_corner 117 = .ok (.aload_n 0, 1) := by decide +kernel
theorem dX1_corner_118 : decode cX1_corner 118 = .ok (.getfield 10, 3) := by decide +kernel
theorem dX1_corner_121 : decode cX1_corner 121 = .ok (.getfield 147, 3) := by decide +kernel
theorem dX1_corner_124 : decode cX1_corner 124 = .ok (.ifCond .eq 15, 3) := by decide +kernel
theorem dX1_corner_127 : decode cX1_corner 127 = .ok (.aload_n 0, 1) := by decide +kernel
theorem dX1_corner_128 : decode cX1_corner 128 = .ok (.getfield 10, 3) := by decide +kernel
theorem dX1_corner_131 : decode cX1_corner 131 = .ok (.getfield 151, 3) := by decide +kernel
theorem dX1_corner_134 : decode cX1_corner 134 = .ok (.iload_n 1, 1) := by decide +kernel
theorem dX1_corner_135 : decode cX1_corner 135 = .ok (.iaload, 1) := by decide +kernel
theorem dX1_corner_136 : decode cX1_corner 136 = .ok (.goto 5, 3) := by decide +kernel
theorem dX1_corner_139 : decode cX1_corner 139 = .ok (.bipush (-6), 2) := by decide +kernel
theorem dX1_corner_141 : decode cX1_corner 141 = .ok (.ireturn, 1) := by decide +kernel
theorem dX1_corner_142 : decode cX1_corner 142 = .ok (.bipush (-2), 2) := by decide +kernel
theorem dX1_corner_144 : decode cX1_corner 144 = .ok (.ireturn, 1) := by decide +kernel
set_option maxRecDepth 20000 in
theorem ggX1_why_X0_hasName : GoodIn wsX1_why wsX0_hasName := goodIn_r _ [6, 7, 59, 60, 61, 62, 63, 64, 65, 66, 67, 68, 69, 70, 71, 72, 73, 74] (by decide +kernel) (by decide +kernel)
set_option maxRecDepth 20000 in
theorem gX1_why_X0_hasName : GoodIn wsX1_why (wsV RX1 69 RX0 yX0_hasName wsX0_hasName) := goodIn_app (goodIn_of _ (by decide +kernel)) ggX1_why_X0_hasName
set_option maxRecDepth 20000 in
theorem ggX1_why_X1_isCorner : GoodIn wsX1_why wsX1_isCorner := goodIn_r _ [11] (by decide +kernel) (by decide +kernel)
set_option maxRecDepth 20000 in
theorem gX1_why_X1_isCorner : GoodIn wsX1_why (va_wsS RX1 83 yX1_isCorner wsX1_isCorner) := goodIn_app (goodIn_of _ (by decide +kernel)) ggX1_why_X1_isCorner
set_option maxRecDepth 20000 in
theorem ggX1_why_X0_refusal : GoodIn wsX1_why wsX0_refusal := goodIn_r _ [15, 16, 17, 18, 5, 19, 20, 21, 22, 23, 24, 25, 26, 27, 28, 29, 30, 3, 4, 6, 7, 31, 32, 33, 34, 35, 36, 37, 38, 39, 40, 41, 42, 43, 44, 45, 46, 47, 48, 49, 50, 59, 60, 61, 62, 63, 64, 65, 66, 67, 68, 69, 70, 71, 72, 73, 74] (by decide +kernel) (by decide +kernel)
set_option maxRecDepth 20000 in
theorem gX1_why_X0_refusal : GoodIn wsX1_why (wsV RX1 86 RX0 yX0_refusal wsX0_refusal) := goodIn_app (goodIn_of _ (by decide +kernel)) ggX1_why_X0_refusal
theorem dX1_why_0 : decode cX1_why 0 = .ok (.aload_n 0, 1) := by decide +kernel
theorem dX1_why_1 : decode cX1_why 1 = .ok (.getfield 10, 3) := by decide +kernel
theorem dX1_why_4 : decode cX1_why 4 = .ok (.iload_n 1, 1) := by decide +kernel
theorem dX1_why_5 : decode cX1_why 5 = .ok (.invokevirtual 69, 3) := by decide +kernel
theorem dX1_why_8 : decode cX1_why 8 = .ok (.ifCond .eq 10, 3) := by decide +kernel
theorem dX1_why_11 : decode cX1_why 11 = .ok (.iload_n 2, 1) := by decide +kernel
theorem dX1_why_12 : decode cX1_why 12 = .ok (.invokestatic 83, 3) := by decide +kernel
theorem dX1_why_15 : decode cX1_why 15 = .ok (.ifCond .ne 5, 3) := by decide +kernel
theorem dX1_why_18 : decode cX1_why 18 = .ok (.iconst (-1), 1) := by decide +kernel
theorem dX1_why_19 : decode cX1_why 19 = .ok (.ireturn, 1) := by decide +kernel
theorem dX1_why_20 : decode cX1_why 20 = .ok (.aload_n 0, 1) := by decide +kernel
theorem dX1_why_21 : decode cX1_why 21 = .ok (.getfield 10, 3) := by decide +kernel
theorem dX1_why_24 : decode cX1_why 24 = .ok (.iload_n 1, 1) := by decide +kernel
theorem dX1_why_25 : decode cX1_why 25 = .ok (.iload_n 2, 1) := by decide +kernel
theorem dX1_why_26 : decode cX1_why 26 = .ok (.invokevirtual 86, 3) := by decide +kernel
theorem dX1_why_29 : decode cX1_why 29 = .ok (.ireturn, 1) := by decide +kernel
set_option maxRecDepth 20000 in
theorem ggX1_count_X0_waitingNames : GoodIn wsX1_count wsX0_waitingNames := goodIn_r _ [14, 15, 16, 17, 18, 13, 19, 20, 21, 22, 23, 24, 25, 26, 27, 28, 29, 65, 66, 67, 68, 69, 70, 71, 72, 73, 74, 75, 76, 77, 78, 79, 80] (by decide +kernel) (by decide +kernel)
set_option maxRecDepth 20000 in
theorem gX1_count_X0_waitingNames : GoodIn wsX1_count (wsV RX1 154 RX0 yX0_waitingNames wsX0_waitingNames) := goodIn_app (goodIn_of _ (by decide +kernel)) ggX1_count_X0_waitingNames
set_option maxRecDepth 20000 in
theorem ggX1_count_X0_bearingCorners : GoodIn wsX1_count wsX0_bearingCorners := goodIn_r _ [33, 25, 26, 27, 13, 28, 29, 65, 66, 67, 68, 69, 70, 71, 72, 73, 74, 75, 76, 77, 78, 79, 80] (by decide +kernel) (by decide +kernel)
set_option maxRecDepth 20000 in
theorem gX1_count_X0_bearingCorners : GoodIn wsX1_count (wsV RX1 157 RX0 yX0_bearingCorners wsX0_bearingCorners) := goodIn_app (goodIn_of _ (by decide +kernel)) ggX1_count_X0_bearingCorners
set_option maxRecDepth 20000 in
theorem ggX1_count_X1_sum : GoodIn wsX1_count wsX1_sum := goodIn_r _ [37] (by decide +kernel) (by decide +kernel)
set_option maxRecDepth 20000 in
theorem gX1_count_X1_sum : GoodIn wsX1_count (va_wsS RX1 160 yX1_sum wsX1_sum) := goodIn_app (goodIn_of _ (by decide +kernel)) ggX1_count_X1_sum
set_option maxRecDepth 20000 in
theorem ggX1_count_X0_wrongOnMap : GoodIn wsX1_count wsX0_wrongOnMap := goodIn_r _ [41, 42, 43, 29, 65, 66, 67, 68, 69, 70, 71, 72, 73, 74, 75, 76, 77, 78, 79, 80] (by decide +kernel) (by decide +kernel)
set_option maxRecDepth 20000 in
theorem gX1_count_X0_wrongOnMap : GoodIn wsX1_count (wsV RX1 104 RX0 yX0_wrongOnMap wsX0_wrongOnMap) := goodIn_app (goodIn_of _ (by decide +kernel)) ggX1_count_X0_wrongOnMap
set_option maxRecDepth 20000 in
theorem ggX1_count_X0_punPairs : GoodIn wsX1_count wsX0_punPairs := goodIn_r _ [47, 29, 48, 49, 50, 13, 51, 52, 53, 54, 55, 56, 15, 65, 66, 67, 68, 69, 70, 71, 72, 73, 74, 75, 76, 77, 78, 79, 80] (by decide +kernel) (by decide +kernel)
set_option maxRecDepth 20000 in
theorem gX1_count_X0_punPairs : GoodIn wsX1_count (wsV RX1 164 RX0 yX0_punPairs wsX0_punPairs) := goodIn_app (goodIn_of _ (by decide +kernel)) ggX1_count_X0_punPairs
theorem dX1_count_0 : decode cX1_count 0 = .ok (.iload_n 1, 1) := by decide +kernel
theorem dX1_count_1 : decode cX1_count 1 = .ok (.tableswitch 176 0 14 #[75, 75, 75, 75, 85, 93, 101, 109, 117, 128, 139, 150, 158, 166, 171], 75) := by decide +kernel
theorem dX1_count_76 : decode cX1_count 76 = .ok (.aload_n 0, 1) := by decide +kernel
theorem dX1_count_77 : decode cX1_count 77 = .ok (.getfield 10, 3) := by decide +kernel
theorem dX1_count_80 : decode cX1_count 80 = .ok (.getfield 44, 3) := by decide +kernel
theorem dX1_count_83 : decode cX1_count 83 = .ok (.iload_n 1, 1) := by decide +kernel
theorem dX1_count_84 : decode cX1_count 84 = .ok (.iaload, 1) := by decide +kernel
theorem dX1_count_85 : decode cX1_count 85 = .ok (.ireturn, 1) := by decide +kernel
theorem dX1_count_86 : decode cX1_count 86 = .ok (.aload_n 0, 1) := by decide +kernel
theorem dX1_count_87 : decode cX1_count 87 = .ok (.getfield 10, 3) := by decide +kernel
theorem dX1_count_90 : decode cX1_count 90 = .ok (.getfield 110, 3) := by decide +kernel
theorem dX1_count_93 : decode cX1_count 93 = .ok (.ireturn, 1) := by decide +kernel
theorem dX1_count_94 : decode cX1_count 94 = .ok (.aload_n 0, 1) := by decide +kernel
theorem dX1_count_95 : decode cX1_count 95 = .ok (.getfield 10, 3) := by decide +kernel
theorem dX1_count_98 : decode cX1_count 98 = .ok (.getfield 51, 3) := by decide +kernel
theorem dX1_count_101 : decode cX1_count 101 = .ok (.ireturn, 1) := by decide +kernel
theorem dX1_count_102 : decode cX1_count 102 = .ok (.aload_n 0, 1) := by decide +kernel
theorem dX1_count_103 : decode cX1_count 103 = .ok (.getfield 10, 3) := by decide +kernel
theorem dX1_count_106 : decode cX1_count 106 = .ok (.invokevirtual 154, 3) := by decide +kernel
theorem dX1_count_109 : decode cX1_count 109 = .ok (.ireturn, 1) := by decide +kernel
theorem dX1_count_110 : decode cX1_count 110 = .ok (.aload_n 0, 1) := by decide +kernel
theorem dX1_count_111 : decode cX1_count 111 = .ok (.getfield 10, 3) := by decide +kernel
theorem dX1_count_114 : decode cX1_count 114 = .ok (.invokevirtual 157, 3) := by decide +kernel
theorem dX1_count_117 : decode cX1_count 117 = .ok (.ireturn, 1) := by decide +kernel
theorem dX1_count_118 : decode cX1_count 118 = .ok (.aload_n 0, 1) := by decide +kernel
theorem dX1_count_119 : decode cX1_count 119 = .ok (.getfield 10, 3) := by decide +kernel
theorem dX1_count_122 : decode cX1_count 122 = .ok (.getfield 94, 3) := by decide +kernel
theorem dX1_count_125 : decode cX1_count 125 = .ok (.invokestatic 160, 3) := by decide +kernel
theorem dX1_count_128 : decode cX1_count 128 = .ok (.ireturn, 1) := by decide +kernel
theorem dX1_count_129 : decode cX1_count 129 = .ok (.aload_n 0, 1) := by decide +kernel
theorem dX1_count_130 : decode cX1_count 130 = .ok (.getfield 10, 3) := by decide +kernel
theorem dX1_count_133 : decode cX1_count 133 = .ok (.getfield 138, 3) := by decide +kernel
theorem dX1_count_136 : decode cX1_count 136 = .ok (.invokestatic 160, 3) := by decide +kernel
theorem dX1_count_139 : decode cX1_count 139 = .ok (.ireturn, 1) := by decide +kernel
theorem dX1_count_140 : decode cX1_count 140 = .ok (.aload_n 0, 1) := by decide +kernel
theorem dX1_count_141 : decode cX1_count 141 = .ok (.getfield 10, 3) := by decide +kernel
theorem dX1_count_144 : decode cX1_count 144 = .ok (.getfield 131, 3) := by decide +kernel
theorem dX1_count_147 : decode cX1_count 147 = .ok (.invokestatic 160, 3) := by decide +kernel
theorem dX1_count_150 : decode cX1_count 150 = .ok (.ireturn, 1) := by decide +kernel
theorem dX1_count_151 : decode cX1_count 151 = .ok (.aload_n 0, 1) := by decide +kernel
theorem dX1_count_152 : decode cX1_count 152 = .ok (.getfield 10, 3) := by decide +kernel
theorem dX1_count_155 : decode cX1_count 155 = .ok (.invokevirtual 104, 3) := by decide +kernel
theorem dX1_count_158 : decode cX1_count 158 = .ok (.ireturn, 1) := by decide +kernel
theorem dX1_count_159 : decode cX1_count 159 = .ok (.aload_n 0, 1) := by decide +kernel
theorem dX1_count_160 : decode cX1_count 160 = .ok (.getfield 10, 3) := by decide +kernel
theorem dX1_count_163 : decode cX1_count 163 = .ok (.invokevirtual 164, 3) := by decide +kernel
theorem dX1_count_166 : decode cX1_count 166 = .ok (.ireturn, 1) := by decide +kernel
theorem dX1_count_167 : decode cX1_count 167 = .ok (.aload_n 0, 1) := by decide +kernel
theorem dX1_count_168 : decode cX1_count 168 = .ok (.getfield 58, 3) := by decide +kernel
theorem dX1_count_171 : decode cX1_count 171 = .ok (.ireturn, 1) := by decide +kernel
theorem dX1_count_172 : decode cX1_count 172 = .ok (.aload_n 0, 1) := by decide +kernel
theorem dX1_count_173 : decode cX1_count 173 = .ok (.getfield 167, 3) := by decide +kernel
theorem dX1_count_176 : decode cX1_count 176 = .ok (.ireturn, 1) := by decide +kernel
theorem dX1_count_177 : decode cX1_count 177 = .ok (.bipush (-2), 2) := by decide +kernel
theorem dX1_count_179 : decode cX1_count 179 = .ok (.ireturn, 1) := by decide +kernel
set_option maxRecDepth 20000 in
theorem ggX1_bestCorner_X0_hasName : GoodIn wsX1_bestCorner wsX0_hasName := goodIn_r _ [6, 7, 55, 56, 57, 58, 59, 60, 61, 62, 63, 64, 65, 66, 67, 68, 69, 70] (by decide +kernel) (by decide +kernel)
set_option maxRecDepth 20000 in
theorem gX1_bestCorner_X0_hasName : GoodIn wsX1_bestCorner (wsV RX1 69 RX0 yX0_hasName wsX0_hasName) := goodIn_app (goodIn_of _ (by decide +kernel)) ggX1_bestCorner_X0_hasName
set_option maxRecDepth 20000 in
theorem ggX1_bestCorner_X0_lowestFree : GoodIn wsX1_bestCorner wsX0_lowestFree := goodIn_r _ [11, 12, 13, 14, 5, 15, 16, 17, 18, 19, 20, 21, 22, 23, 24, 25, 26, 3, 4, 6, 7, 27, 28, 29, 30, 31, 32, 33, 34, 35, 36, 37, 38, 39, 40, 41, 42, 43, 44, 45, 46, 55, 56, 57, 58, 59, 60, 61, 62, 63, 64, 65, 66, 67, 68, 69, 70] (by decide +kernel) (by decide +kernel)
set_option maxRecDepth 20000 in
theorem gX1_bestCorner_X0_lowestFree : GoodIn wsX1_bestCorner (wsV RX1 170 RX0 yX0_lowestFree wsX0_lowestFree) := goodIn_app (goodIn_of _ (by decide +kernel)) ggX1_bestCorner_X0_lowestFree
theorem dX1_bestCorner_0 : decode cX1_bestCorner 0 = .ok (.aload_n 0, 1) := by decide +kernel
theorem dX1_bestCorner_1 : decode cX1_bestCorner 1 = .ok (.getfield 10, 3) := by decide +kernel
theorem dX1_bestCorner_4 : decode cX1_bestCorner 4 = .ok (.iload_n 1, 1) := by decide +kernel
theorem dX1_bestCorner_5 : decode cX1_bestCorner 5 = .ok (.invokevirtual 69, 3) := by decide +kernel
theorem dX1_bestCorner_8 : decode cX1_bestCorner 8 = .ok (.ifCond .ne 5, 3) := by decide +kernel
theorem dX1_bestCorner_11 : decode cX1_bestCorner 11 = .ok (.iconst (-1), 1) := by decide +kernel
theorem dX1_bestCorner_12 : decode cX1_bestCorner 12 = .ok (.ireturn, 1) := by decide +kernel
theorem dX1_bestCorner_13 : decode cX1_bestCorner 13 = .ok (.aload_n 0, 1) := by decide +kernel
theorem dX1_bestCorner_14 : decode cX1_bestCorner 14 = .ok (.getfield 10, 3) := by decide +kernel
theorem dX1_bestCorner_17 : decode cX1_bestCorner 17 = .ok (.iload_n 1, 1) := by decide +kernel
theorem dX1_bestCorner_18 : decode cX1_bestCorner 18 = .ok (.invokevirtual 170, 3) := by decide +kernel
theorem dX1_bestCorner_21 : decode cX1_bestCorner 21 = .ok (.ireturn, 1) := by decide +kernel
set_option maxRecDepth 20000 in
theorem ggX1_untilBorne_X0_hasName : GoodIn wsX1_untilBorne wsX0_hasName := goodIn_r _ [7, 8, 117, 118, 119, 120, 121, 122, 123, 124, 125, 126, 127, 128, 129, 130, 131, 132] (by decide +kernel) (by decide +kernel)
set_option maxRecDepth 20000 in
theorem gX1_untilBorne_X0_hasName : GoodIn wsX1_untilBorne (wsV RX1 69 RX0 yX0_hasName wsX0_hasName) := goodIn_app (goodIn_of _ (by decide +kernel)) ggX1_untilBorne_X0_hasName
set_option maxRecDepth 20000 in
theorem ggX1_untilBorne_X0_bearers : GoodIn wsX1_untilBorne wsX0_bearers := goodIn_r _ [12, 13, 117, 118, 119, 120, 121, 122, 123, 124, 125, 126, 127, 128, 129, 130, 131, 132] (by decide +kernel) (by decide +kernel)
set_option maxRecDepth 20000 in
theorem gX1_untilBorne_X0_bearers : GoodIn wsX1_untilBorne (wsV RX1 173 RX0 yX0_bearers wsX0_bearers) := goodIn_app (goodIn_of _ (by decide +kernel)) ggX1_untilBorne_X0_bearers
set_option maxRecDepth 20000 in
theorem ggX1_untilBorne_X1_copy : GoodIn wsX1_untilBorne wsX1_copy := goodIn_r _ [17, 18, 19, 20, 21, 22, 23, 24, 25, 26, 27, 28, 29, 30, 31, 32, 33, 34, 35, 36, 37, 38, 39, 40, 41, 42, 43, 16, 44, 117, 118, 119, 120, 121, 122, 123, 124, 125, 126, 127, 128, 129, 130, 131, 132] (by decide +kernel) (by decide +kernel)
set_option maxRecDepth 20000 in
theorem gX1_untilBorne_X1_copy : GoodIn wsX1_untilBorne (va_wsS RX1 176 yX1_copy wsX1_copy) := goodIn_app (goodIn_of _ (by decide +kernel)) ggX1_untilBorne_X1_copy
set_option maxRecDepth 20000 in
theorem ggX1_untilBorne_X0_live : GoodIn wsX1_untilBorne wsX0_live := goodIn_r _ [48, 49, 50, 51, 52, 6, 53, 8, 54, 55, 56, 57, 58, 59, 60, 61, 62, 63, 64, 10, 11, 12, 13, 65, 66, 67, 68, 69, 70, 71, 72, 73, 74, 75, 76, 77, 78, 4, 5, 7, 79, 80, 81, 82, 83, 84, 85, 24, 86, 87, 23, 25, 88, 89, 90, 91, 92, 93, 94, 95, 96, 97, 98, 99, 100, 101, 102, 103, 104, 105, 106, 107, 108, 117, 118, 119, 120, 121, 122, 123, 124, 125, 126, 127, 128, 129, 130, 131, 132] (by decide +kernel) (by decide +kernel)
set_option maxRecDepth 20000 in
theorem gX1_untilBorne_X0_live : GoodIn wsX1_untilBorne (wsV RX1 113 RX0 yX0_live wsX0_live) := goodIn_app (goodIn_of _ (by decide +kernel)) ggX1_untilBorne_X0_live
theorem dX1_untilBorne_0 : decode cX1_untilBorne 0 = .ok (.aload_n 0, 1) := by decide +kernel
theorem dX1_untilBorne_1 : decode cX1_untilBorne 1 = .ok (.getfield 10, 3) := by decide +kernel
theorem dX1_untilBorne_4 : decode cX1_untilBorne 4 = .ok (.iload_n 1, 1) := by decide +kernel
theorem dX1_untilBorne_5 : decode cX1_untilBorne 5 = .ok (.invokevirtual 69, 3) := by decide +kernel
theorem dX1_untilBorne_8 : decode cX1_untilBorne 8 = .ok (.ifCond .ne 5, 3) := by decide +kernel
theorem dX1_untilBorne_11 : decode cX1_untilBorne 11 = .ok (.iconst (-1), 1) := by decide +kernel
theorem dX1_untilBorne_12 : decode cX1_untilBorne 12 = .ok (.ireturn, 1) := by decide +kernel
theorem dX1_untilBorne_13 : decode cX1_untilBorne 13 = .ok (.aload_n 0, 1) := by decide +kernel
theorem dX1_untilBorne_14 : decode cX1_untilBorne 14 = .ok (.getfield 10, 3) := by decide +kernel
theorem dX1_untilBorne_17 : decode cX1_untilBorne 17 = .ok (.iload_n 1, 1) := by decide +kernel
theorem dX1_untilBorne_18 : decode cX1_untilBorne 18 = .ok (.invokevirtual 173, 3) := by decide +kernel
theorem dX1_untilBorne_21 : decode cX1_untilBorne 21 = .ok (.ifCond .le 5, 3) := by decide +kernel
theorem dX1_untilBorne_24 : decode cX1_untilBorne 24 = .ok (.iconst 0, 1) := by decide +kernel
theorem dX1_untilBorne_25 : decode cX1_untilBorne 25 = .ok (.ireturn, 1) := by decide +kernel
theorem dX1_untilBorne_26 : decode cX1_untilBorne 26 = .ok (.aload_n 0, 1) := by decide +kernel
theorem dX1_untilBorne_27 : decode cX1_untilBorne 27 = .ok (.getfield 10, 3) := by decide +kernel
theorem dX1_untilBorne_30 : decode cX1_untilBorne 30 = .ok (.aload_n 0, 1) := by decide +kernel
theorem dX1_untilBorne_31 : decode cX1_untilBorne 31 = .ok (.getfield 16, 3) := by decide +kernel
theorem dX1_untilBorne_34 : decode cX1_untilBorne 34 = .ok (.invokestatic 176, 3) := by decide +kernel
theorem dX1_untilBorne_37 : decode cX1_untilBorne 37 = .ok (.iconst 1, 1) := by decide +kernel
theorem dX1_untilBorne_38 : decode cX1_untilBorne 38 = .ok (.istore_n 2, 1) := by decide +kernel
theorem dX1_untilBorne_39 : decode cX1_untilBorne 39 = .ok (.iload_n 2, 1) := by decide +kernel
theorem dX1_untilBorne_40 : decode cX1_untilBorne 40 = .ok (.sipush 300, 3) := by decide +kernel
theorem dX1_untilBorne_43 : decode cX1_untilBorne 43 = .ok (.if_icmp .gt 31, 3) := by decide +kernel
theorem dX1_untilBorne_46 : decode cX1_untilBorne 46 = .ok (.aload_n 0, 1) := by decide +kernel
theorem dX1_untilBorne_47 : decode cX1_untilBorne 47 = .ok (.getfield 16, 3) := by decide +kernel
theorem dX1_untilBorne_50 : decode cX1_untilBorne 50 = .ok (.iconst 1, 1) := by decide +kernel
theorem dX1_untilBorne_51 : decode cX1_untilBorne 51 = .ok (.invokevirtual 113, 3) := by decide +kernel
theorem dX1_untilBorne_54 : decode cX1_untilBorne 54 = .ok (.pop, 1) := by decide +kernel
theorem dX1_untilBorne_55 : decode cX1_untilBorne 55 = .ok (.aload_n 0, 1) := by decide +kernel
theorem dX1_untilBorne_56 : decode cX1_untilBorne 56 = .ok (.getfield 16, 3) := by decide +kernel
theorem dX1_untilBorne_59 : decode cX1_untilBorne 59 = .ok (.iload_n 1, 1) := by decide +kernel
theorem dX1_untilBorne_60 : decode cX1_untilBorne 60 = .ok (.invokevirtual 173, 3) := by decide +kernel
theorem dX1_untilBorne_63 : decode cX1_untilBorne 63 = .ok (.ifCond .le 5, 3) := by decide +kernel
theorem dX1_untilBorne_66 : decode cX1_untilBorne 66 = .ok (.iload_n 2, 1) := by decide +kernel
theorem dX1_untilBorne_67 : decode cX1_untilBorne 67 = .ok (.ireturn, 1) := by decide +kernel
theorem dX1_untilBorne_68 : decode cX1_untilBorne 68 = .ok (.iinc 2 1, 3) := by decide +kernel
theorem dX1_untilBorne_71 : decode cX1_untilBorne 71 = .ok (.goto (-32), 3) := by decide +kernel
theorem dX1_untilBorne_74 : decode cX1_untilBorne 74 = .ok (.bipush (-6), 2) := by decide +kernel
theorem dX1_untilBorne_76 : decode cX1_untilBorne 76 = .ok (.ireturn, 1) := by decide +kernel
set_option maxRecDepth 20000 in
theorem ggX1_untilPosted_X1_sum : GoodIn wsX1_untilPosted wsX1_sum := goodIn_r _ [7] (by decide +kernel) (by decide +kernel)
set_option maxRecDepth 20000 in
theorem gX1_untilPosted_X1_sum : GoodIn wsX1_untilPosted (va_wsS RX1 160 yX1_sum wsX1_sum) := goodIn_app (goodIn_of _ (by decide +kernel)) ggX1_untilPosted_X1_sum
set_option maxRecDepth 20000 in
theorem ggX1_untilPosted_X1_copy : GoodIn wsX1_untilPosted wsX1_copy := goodIn_r _ [10, 11, 12, 13, 14, 15, 16, 17, 18, 19, 20, 21, 22, 23, 24, 25, 26, 27, 28, 2, 29, 30, 31, 32, 33, 34, 35, 6, 36, 118, 119, 120, 121, 122, 123, 124, 125, 126, 127, 128, 129, 130, 131, 132, 133] (by decide +kernel) (by decide +kernel)
set_option maxRecDepth 20000 in
theorem gX1_untilPosted_X1_copy : GoodIn wsX1_untilPosted (va_wsS RX1 176 yX1_copy wsX1_copy) := goodIn_app (goodIn_of _ (by decide +kernel)) ggX1_untilPosted_X1_copy
set_option maxRecDepth 20000 in
theorem ggX1_untilPosted_X0_live : GoodIn wsX1_untilPosted wsX0_live := goodIn_r _ [41, 42, 43, 44, 45, 40, 46, 47, 48, 49, 50, 51, 52, 53, 54, 55, 56, 57, 58, 59, 60, 61, 62, 63, 64, 65, 66, 67, 68, 69, 70, 71, 72, 73, 74, 75, 76, 77, 78, 79, 80, 81, 82, 83, 84, 85, 86, 17, 87, 88, 16, 18, 89, 90, 91, 92, 93, 94, 95, 96, 97, 98, 99, 100, 101, 102, 103, 104, 105, 106, 107, 108, 109, 118, 119, 120, 121, 122, 123, 124, 125, 126, 127, 128, 129, 130, 131, 132, 133] (by decide +kernel) (by decide +kernel)
set_option maxRecDepth 20000 in
theorem gX1_untilPosted_X0_live : GoodIn wsX1_untilPosted (wsV RX1 113 RX0 yX0_live wsX0_live) := goodIn_app (goodIn_of _ (by decide +kernel)) ggX1_untilPosted_X0_live
theorem dX1_untilPosted_0 : decode cX1_untilPosted 0 = .ok (.aload_n 0, 1) := by decide +kernel
theorem dX1_untilPosted_1 : decode cX1_untilPosted 1 = .ok (.getfield 10, 3) := by decide +kernel
theorem dX1_untilPosted_4 : decode cX1_untilPosted 4 = .ok (.getfield 94, 3) := by decide +kernel
theorem dX1_untilPosted_7 : decode cX1_untilPosted 7 = .ok (.invokestatic 160, 3) := by decide +kernel
theorem dX1_untilPosted_10 : decode cX1_untilPosted 10 = .ok (.ifCond .ne 5, 3) := by decide +kernel
theorem dX1_untilPosted_13 : decode cX1_untilPosted 13 = .ok (.iconst 0, 1) := by decide +kernel
theorem dX1_untilPosted_14 : decode cX1_untilPosted 14 = .ok (.ireturn, 1) := by decide +kernel
theorem dX1_untilPosted_15 : decode cX1_untilPosted 15 = .ok (.aload_n 0, 1) := by decide +kernel
theorem dX1_untilPosted_16 : decode cX1_untilPosted 16 = .ok (.getfield 10, 3) := by decide +kernel
theorem dX1_untilPosted_19 : decode cX1_untilPosted 19 = .ok (.aload_n 0, 1) := by decide +kernel
theorem dX1_untilPosted_20 : decode cX1_untilPosted 20 = .ok (.getfield 16, 3) := by decide +kernel
theorem dX1_untilPosted_23 : decode cX1_untilPosted 23 = .ok (.invokestatic 176, 3) := by decide +kernel
theorem dX1_untilPosted_26 : decode cX1_untilPosted 26 = .ok (.iconst 1, 1) := by decide +kernel
theorem dX1_untilPosted_27 : decode cX1_untilPosted 27 = .ok (.istore_n 1, 1) := by decide +kernel
theorem dX1_untilPosted_28 : decode cX1_untilPosted 28 = .ok (.iload_n 1, 1) := by decide +kernel
theorem dX1_untilPosted_29 : decode cX1_untilPosted 29 = .ok (.sipush 300, 3) := by decide +kernel
theorem dX1_untilPosted_32 : decode cX1_untilPosted 32 = .ok (.if_icmp .gt 33, 3) := by decide +kernel
theorem dX1_untilPosted_35 : decode cX1_untilPosted 35 = .ok (.aload_n 0, 1) := by decide +kernel
theorem dX1_untilPosted_36 : decode cX1_untilPosted 36 = .ok (.getfield 16, 3) := by decide +kernel
theorem dX1_untilPosted_39 : decode cX1_untilPosted 39 = .ok (.iconst 1, 1) := by decide +kernel
theorem dX1_untilPosted_40 : decode cX1_untilPosted 40 = .ok (.invokevirtual 113, 3) := by decide +kernel
theorem dX1_untilPosted_43 : decode cX1_untilPosted 43 = .ok (.pop, 1) := by decide +kernel
theorem dX1_untilPosted_44 : decode cX1_untilPosted 44 = .ok (.aload_n 0, 1) := by decide +kernel
theorem dX1_untilPosted_45 : decode cX1_untilPosted 45 = .ok (.getfield 16, 3) := by decide +kernel
theorem dX1_untilPosted_48 : decode cX1_untilPosted 48 = .ok (.getfield 94, 3) := by decide +kernel
theorem dX1_untilPosted_51 : decode cX1_untilPosted 51 = .ok (.invokestatic 160, 3) := by decide +kernel
theorem dX1_untilPosted_54 : decode cX1_untilPosted 54 = .ok (.ifCond .ne 5, 3) := by decide +kernel
theorem dX1_untilPosted_57 : decode cX1_untilPosted 57 = .ok (.iload_n 1, 1) := by decide +kernel
theorem dX1_untilPosted_58 : decode cX1_untilPosted 58 = .ok (.ireturn, 1) := by decide +kernel
theorem dX1_untilPosted_59 : decode cX1_untilPosted 59 = .ok (.iinc 1 1, 3) := by decide +kernel
theorem dX1_untilPosted_62 : decode cX1_untilPosted 62 = .ok (.goto (-34), 3) := by decide +kernel
theorem dX1_untilPosted_65 : decode cX1_untilPosted 65 = .ok (.bipush (-6), 2) := by decide +kernel
theorem dX1_untilPosted_67 : decode cX1_untilPosted 67 = .ok (.ireturn, 1) := by decide +kernel
set_option maxRecDepth 20000 in
theorem ggX1_ifPassed_X1_copy : GoodIn wsX1_ifPassed wsX1_copy := goodIn_r _ [8, 9, 10, 11, 12, 13, 14, 15, 16, 17, 18, 19, 20, 21, 22, 23, 24, 25, 26, 4, 3, 27, 28, 29, 30, 31, 32, 7, 33, 118, 119, 120, 121, 122, 123, 124, 125, 126, 127, 128, 129, 130, 131, 132, 133] (by decide +kernel) (by decide +kernel)
set_option maxRecDepth 20000 in
theorem gX1_ifPassed_X1_copy : GoodIn wsX1_ifPassed (va_wsS RX1 176 yX1_copy wsX1_copy) := goodIn_app (goodIn_of _ (by decide +kernel)) ggX1_ifPassed_X1_copy
set_option maxRecDepth 20000 in
theorem ggX1_ifPassed_X0_live : GoodIn wsX1_ifPassed wsX0_live := goodIn_r _ [38, 39, 40, 41, 42, 37, 43, 44, 45, 46, 47, 48, 49, 50, 51, 52, 53, 54, 55, 56, 57, 58, 59, 60, 61, 62, 63, 64, 65, 66, 67, 68, 69, 70, 71, 72, 73, 74, 75, 76, 77, 78, 79, 80, 81, 82, 83, 15, 84, 85, 14, 16, 86, 87, 88, 89, 90, 91, 92, 93, 94, 95, 96, 97, 98, 99, 100, 101, 102, 103, 104, 105, 106, 118, 119, 120, 121, 122, 123, 124, 125, 126, 127, 128, 129, 130, 131, 132, 133] (by decide +kernel) (by decide +kernel)
set_option maxRecDepth 20000 in
theorem gX1_ifPassed_X0_live : GoodIn wsX1_ifPassed (wsV RX1 113 RX0 yX0_live wsX0_live) := goodIn_app (goodIn_of _ (by decide +kernel)) ggX1_ifPassed_X0_live
set_option maxRecDepth 20000 in
theorem ggX1_ifPassed_X1_sum : GoodIn wsX1_ifPassed wsX1_sum := goodIn_r _ [109] (by decide +kernel) (by decide +kernel)
set_option maxRecDepth 20000 in
theorem gX1_ifPassed_X1_sum : GoodIn wsX1_ifPassed (va_wsS RX1 160 yX1_sum wsX1_sum) := goodIn_app (goodIn_of _ (by decide +kernel)) ggX1_ifPassed_X1_sum
theorem dX1_ifPassed_0 : decode cX1_ifPassed 0 = .ok (.iload_n 1, 1) := by decide +kernel
theorem dX1_ifPassed_1 : decode cX1_ifPassed 1 = .ok (.iconst 1, 1) := by decide +kernel
theorem dX1_ifPassed_2 : decode cX1_ifPassed 2 = .ok (.if_icmp .lt 19, 3) := by decide +kernel
theorem dX1_ifPassed_5 : decode cX1_ifPassed 5 = .ok (.iload_n 1, 1) := by decide +kernel
theorem dX1_ifPassed_6 : decode cX1_ifPassed 6 = .ok (.sipush 300, 3) := by decide +kernel
theorem dX1_ifPassed_9 : decode cX1_ifPassed 9 = .ok (.if_icmp .gt 12, 3) := by decide +kernel
theorem dX1_ifPassed_12 : decode cX1_ifPassed 12 = .ok (.iload_n 2, 1) := by decide +kernel
theorem dX1_ifPassed_13 : decode cX1_ifPassed 13 = .ok (.ifCond .lt 8, 3) := by decide +kernel
theorem dX1_ifPassed_16 : decode cX1_ifPassed 16 = .ok (.iload_n 2, 1) := by decide +kernel
theorem dX1_ifPassed_17 : decode cX1_ifPassed 17 = .ok (.iconst 2, 1) := by decide +kernel
theorem dX1_ifPassed_18 : decode cX1_ifPassed 18 = .ok (.if_icmp .le 6, 3) := by decide +kernel
theorem dX1_ifPassed_21 : decode cX1_ifPassed 21 = .ok (.bipush (-2), 2) := by decide +kernel
theorem dX1_ifPassed_23 : decode cX1_ifPassed 23 = .ok (.ireturn, 1) := by decide +kernel
theorem dX1_ifPassed_24 : decode cX1_ifPassed 24 = .ok (.aload_n 0, 1) := by decide +kernel
theorem dX1_ifPassed_25 : decode cX1_ifPassed 25 = .ok (.getfield 10, 3) := by decide +kernel
theorem dX1_ifPassed_28 : decode cX1_ifPassed 28 = .ok (.aload_n 0, 1) := by decide +kernel
theorem dX1_ifPassed_29 : decode cX1_ifPassed 29 = .ok (.getfield 16, 3) := by decide +kernel
theorem dX1_ifPassed_32 : decode cX1_ifPassed 32 = .ok (.invokestatic 176, 3) := by decide +kernel
theorem dX1_ifPassed_35 : decode cX1_ifPassed 35 = .ok (.aload_n 0, 1) := by decide +kernel
theorem dX1_ifPassed_36 : decode cX1_ifPassed 36 = .ok (.getfield 16, 3) := by decide +kernel
theorem dX1_ifPassed_39 : decode cX1_ifPassed 39 = .ok (.iload_n 1, 1) := by decide +kernel
theorem dX1_ifPassed_40 : decode cX1_ifPassed 40 = .ok (.invokevirtual 113, 3) := by decide +kernel
theorem dX1_ifPassed_43 : decode cX1_ifPassed 43 = .ok (.istore_n 3, 1) := by decide +kernel
theorem dX1_ifPassed_44 : decode cX1_ifPassed 44 = .ok (.iload_n 2, 1) := by decide +kernel
theorem dX1_ifPassed_45 : decode cX1_ifPassed 45 = .ok (.ifCond .ne 5, 3) := by decide +kernel
theorem dX1_ifPassed_48 : decode cX1_ifPassed 48 = .ok (.iload_n 3, 1) := by decide +kernel
theorem dX1_ifPassed_49 : decode cX1_ifPassed 49 = .ok (.ireturn, 1) := by decide +kernel
theorem dX1_ifPassed_50 : decode cX1_ifPassed 50 = .ok (.iload_n 2, 1) := by decide +kernel
theorem dX1_ifPassed_51 : decode cX1_ifPassed 51 = .ok (.iconst 1, 1) := by decide +kernel
theorem dX1_ifPassed_52 : decode cX1_ifPassed 52 = .ok (.if_icmp .ne 25, 3) := by decide +kernel
theorem dX1_ifPassed_55 : decode cX1_ifPassed 55 = .ok (.aload_n 0, 1) := by decide +kernel
theorem dX1_ifPassed_56 : decode cX1_ifPassed 56 = .ok (.getfield 16, 3) := by decide +kernel
theorem dX1_ifPassed_59 : decode cX1_ifPassed 59 = .ok (.getfield 138, 3) := by decide +kernel
theorem dX1_ifPassed_62 : decode cX1_ifPassed 62 = .ok (.invokestatic 160, 3) := by decide +kernel
theorem dX1_ifPassed_65 : decode cX1_ifPassed 65 = .ok (.aload_n 0, 1) := by decide +kernel
theorem dX1_ifPassed_66 : decode cX1_ifPassed 66 = .ok (.getfield 10, 3) := by decide +kernel
theorem dX1_ifPassed_69 : decode cX1_ifPassed 69 = .ok (.getfield 138, 3) := by decide +kernel
theorem dX1_ifPassed_72 : decode cX1_ifPassed 72 = .ok (.invokestatic 160, 3) := by decide +kernel
theorem dX1_ifPassed_75 : decode cX1_ifPassed 75 = .ok (.isub, 1) := by decide +kernel
theorem dX1_ifPassed_76 : decode cX1_ifPassed 76 = .ok (.ireturn, 1) := by decide +kernel
theorem dX1_ifPassed_77 : decode cX1_ifPassed 77 = .ok (.aload_n 0, 1) := by decide +kernel
theorem dX1_ifPassed_78 : decode cX1_ifPassed 78 = .ok (.getfield 16, 3) := by decide +kernel
theorem dX1_ifPassed_81 : decode cX1_ifPassed 81 = .ok (.getfield 94, 3) := by decide +kernel
theorem dX1_ifPassed_84 : decode cX1_ifPassed 84 = .ok (.invokestatic 160, 3) := by decide +kernel
theorem dX1_ifPassed_87 : decode cX1_ifPassed 87 = .ok (.ireturn, 1) := by decide +kernel
set_option maxRecDepth 20000 in
theorem ggX1_put_X1_charactersIn : GoodIn wsX1_put wsX1_charactersIn := goodIn_r _ [5, 6, 7, 4, 8, 9] (by decide +kernel) (by decide +kernel)
set_option maxRecDepth 20000 in
theorem gX1_put_X1_charactersIn : GoodIn wsX1_put (va_wsS RX1 180 yX1_charactersIn wsX1_charactersIn) := goodIn_app (goodIn_of _ (by decide +kernel)) ggX1_put_X1_charactersIn
set_option maxRecDepth 20000 in
theorem ggX1_put_X1_codeAt : GoodIn wsX1_put wsX1_codeAt := goodIn_r _ [8, 9] (by decide +kernel) (by decide +kernel)
set_option maxRecDepth 20000 in
theorem gX1_put_X1_codeAt : GoodIn wsX1_put (va_wsS RX1 184 yX1_codeAt wsX1_codeAt) := goodIn_app (goodIn_of _ (by decide +kernel)) ggX1_put_X1_codeAt
set_option maxRecDepth 20000 in
theorem ggX1_put_X1_append : GoodIn wsX1_put wsX1_append := goodIn_r _ [13, 1, 14, 15, 16, 17, 18, 19, 20, 21, 22] (by decide +kernel) (by decide +kernel)
set_option maxRecDepth 20000 in
theorem gX1_put_X1_append : GoodIn wsX1_put (wsV RX1 188 RX1 yX1_append wsX1_append) := goodIn_app (goodIn_of _ (by decide +kernel)) ggX1_put_X1_append
theorem dX1_put_0 : decode cX1_put 0 = .ok (.lload_n 1, 1) := by decide +kernel
theorem dX1_put_1 : decode cX1_put 1 = .ok (.invokestatic 180, 3) := by decide +kernel
theorem dX1_put_4 : decode cX1_put 4 = .ok (.istore_n 3, 1) := by decide +kernel
theorem dX1_put_5 : decode cX1_put 5 = .ok (.iload_n 3, 1) := by decide +kernel
theorem dX1_put_6 : decode cX1_put 6 = .ok (.ifCond .ne 6, 3) := by decide +kernel
theorem dX1_put_9 : decode cX1_put 9 = .ok (.bipush (-2), 2) := by decide +kernel
theorem dX1_put_11 : decode cX1_put 11 = .ok (.ireturn, 1) := by decide +kernel
theorem dX1_put_12 : decode cX1_put 12 = .ok (.aload_n 0, 1) := by decide +kernel
theorem dX1_put_13 : decode cX1_put 13 = .ok (.getfield 58, 3) := by decide +kernel
theorem dX1_put_16 : decode cX1_put 16 = .ok (.iload_n 3, 1) := by decide +kernel
theorem dX1_put_17 : decode cX1_put 17 = .ok (.iadd, 1) := by decide +kernel
theorem dX1_put_18 : decode cX1_put 18 = .ok (.bipush 60, 2) := by decide +kernel
theorem dX1_put_20 : decode cX1_put 20 = .ok (.if_icmp .le 6, 3) := by decide +kernel
theorem dX1_put_23 : decode cX1_put 23 = .ok (.bipush (-4), 2) := by decide +kernel
theorem dX1_put_25 : decode cX1_put 25 = .ok (.ireturn, 1) := by decide +kernel
theorem dX1_put_26 : decode cX1_put 26 = .ok (.iload_n 3, 1) := by decide +kernel
theorem dX1_put_27 : decode cX1_put 27 = .ok (.iconst 1, 1) := by decide +kernel
theorem dX1_put_28 : decode cX1_put 28 = .ok (.isub, 1) := by decide +kernel
theorem dX1_put_29 : decode cX1_put 29 = .ok (.istore 4, 2) := by decide +kernel
theorem dX1_put_31 : decode cX1_put 31 = .ok (.iload 4, 2) := by decide +kernel
theorem dX1_put_33 : decode cX1_put 33 = .ok (.ifCond .lt 20, 3) := by decide +kernel
theorem dX1_put_36 : decode cX1_put 36 = .ok (.aload_n 0, 1) := by decide +kernel
theorem dX1_put_37 : decode cX1_put 37 = .ok (.lload_n 1, 1) := by decide +kernel
theorem dX1_put_38 : decode cX1_put 38 = .ok (.iload 4, 2) := by decide +kernel
theorem dX1_put_40 : decode cX1_put 40 = .ok (.invokestatic 184, 3) := by decide +kernel
theorem dX1_put_43 : decode cX1_put 43 = .ok (.i2c, 1) := by decide +kernel
theorem dX1_put_44 : decode cX1_put 44 = .ok (.invokevirtual 188, 3) := by decide +kernel
theorem dX1_put_47 : decode cX1_put 47 = .ok (.iinc 4 (-1), 3) := by decide +kernel
theorem dX1_put_50 : decode cX1_put 50 = .ok (.goto (-19), 3) := by decide +kernel
theorem dX1_put_53 : decode cX1_put 53 = .ok (.aload_n 0, 1) := by decide +kernel
theorem dX1_put_54 : decode cX1_put 54 = .ok (.getfield 58, 3) := by decide +kernel
theorem dX1_put_57 : decode cX1_put 57 = .ok (.ireturn, 1) := by decide +kernel
theorem dX1_wipe_0 : decode cX1_wipe 0 = .ok (.aload_n 0, 1) := by decide +kernel
theorem dX1_wipe_1 : decode cX1_wipe 1 = .ok (.getfield 58, 3) := by decide +kernel
theorem dX1_wipe_4 : decode cX1_wipe 4 = .ok (.istore_n 1, 1) := by decide +kernel
theorem dX1_wipe_5 : decode cX1_wipe 5 = .ok (.aload_n 0, 1) := by decide +kernel
theorem dX1_wipe_6 : decode cX1_wipe 6 = .ok (.iconst 0, 1) := by decide +kernel
theorem dX1_wipe_7 : decode cX1_wipe 7 = .ok (.putfield 58, 3) := by decide +kernel
theorem dX1_wipe_10 : decode cX1_wipe 10 = .ok (.iload_n 1, 1) := by decide +kernel
theorem dX1_wipe_11 : decode cX1_wipe 11 = .ok (.ireturn, 1) := by decide +kernel
set_option maxRecDepth 20000 in
theorem ggX1_fault_X1_padFault : GoodIn wsX1_fault wsX1_padFault := goodIn_r _ [5, 6, 7, 8, 9, 4, 10, 11, 12, 13, 14, 15, 16, 17, 18, 19, 20, 21] (by decide +kernel) (by decide +kernel)
set_option maxRecDepth 20000 in
theorem gX1_fault_X1_padFault : GoodIn wsX1_fault (wsV RX1 47 RX1 yX1_padFault wsX1_padFault) := goodIn_app (goodIn_of _ (by decide +kernel)) ggX1_fault_X1_padFault
theorem dX1_fault_0 : decode cX1_fault 0 = .ok (.aload_n 0, 1) := by decide +kernel
theorem dX1_fault_1 : decode cX1_fault 1 = .ok (.invokevirtual 47, 3) := by decide +kernel
theorem dX1_fault_4 : decode cX1_fault 4 = .ok (.ireturn, 1) := by decide +kernel
set_option maxRecDepth 20000 in
theorem ggX1_undo_X1_copy : GoodIn wsX1_undo wsX1_copy := goodIn_r _ [7, 8, 9, 10, 11, 12, 13, 14, 15, 16, 17, 18, 19, 20, 21, 22, 23, 24, 25, 26, 27, 28, 29, 30, 31, 32, 33, 6, 34, 43, 44, 45, 46, 47, 48, 49, 50, 51, 52, 53, 54, 55, 56, 57, 58] (by decide +kernel) (by decide +kernel)
set_option maxRecDepth 20000 in
theorem gX1_undo_X1_copy : GoodIn wsX1_undo (va_wsS RX1 176 yX1_copy wsX1_copy) := goodIn_app (goodIn_of _ (by decide +kernel)) ggX1_undo_X1_copy
theorem dX1_undo_0 : decode cX1_undo 0 = .ok (.aload_n 0, 1) := by decide +kernel
theorem dX1_undo_1 : decode cX1_undo 1 = .ok (.getfield 167, 3) := by decide +kernel
theorem dX1_undo_4 : decode cX1_undo 4 = .ok (.ifCond .le 12, 3) := by decide +kernel
theorem dX1_undo_7 : decode cX1_undo 7 = .ok (.aload_n 0, 1) := by decide +kernel
theorem dX1_undo_8 : decode cX1_undo 8 = .ok (.getfield 167, 3) := by decide +kernel
theorem dX1_undo_11 : decode cX1_undo 11 = .ok (.bipush 6, 2) := by decide +kernel
theorem dX1_undo_13 : decode cX1_undo 13 = .ok (.if_icmp .le 6, 3) := by decide +kernel
theorem dX1_undo_16 : decode cX1_undo 16 = .ok (.bipush (-5), 2) := by decide +kernel
theorem dX1_undo_18 : decode cX1_undo 18 = .ok (.ireturn, 1) := by decide +kernel
theorem dX1_undo_19 : decode cX1_undo 19 = .ok (.aload_n 0, 1) := by decide +kernel
theorem dX1_undo_20 : decode cX1_undo 20 = .ok (.dup, 1) := by decide +kernel
theorem dX1_undo_21 : decode cX1_undo 21 = .ok (.getfield 167, 3) := by decide +kernel
theorem dX1_undo_24 : decode cX1_undo 24 = .ok (.iconst 1, 1) := by decide +kernel
theorem dX1_undo_25 : decode cX1_undo 25 = .ok (.isub, 1) := by decide +kernel
theorem dX1_undo_26 : decode cX1_undo 26 = .ok (.putfield 167, 3) := by decide +kernel
theorem dX1_undo_29 : decode cX1_undo 29 = .ok (.aload_n 0, 1) := by decide +kernel
theorem dX1_undo_30 : decode cX1_undo 30 = .ok (.getfield 19, 3) := by decide +kernel
theorem dX1_undo_33 : decode cX1_undo 33 = .ok (.aload_n 0, 1) := by decide +kernel
theorem dX1_undo_34 : decode cX1_undo 34 = .ok (.getfield 167, 3) := by decide +kernel
theorem dX1_undo_37 : decode cX1_undo 37 = .ok (.aaload, 1) := by decide +kernel
theorem dX1_undo_38 : decode cX1_undo 38 = .ok (.aload_n 0, 1) := by decide +kernel
theorem dX1_undo_39 : decode cX1_undo 39 = .ok (.getfield 10, 3) := by decide +kernel
theorem dX1_undo_42 : decode cX1_undo 42 = .ok (.invokestatic 176, 3) := by decide +kernel
theorem dX1_undo_45 : decode cX1_undo 45 = .ok (.aload_n 0, 1) := by decide +kernel
theorem dX1_undo_46 : decode cX1_undo 46 = .ok (.getfield 167, 3) := by decide +kernel
theorem dX1_undo_49 : decode cX1_undo 49 = .ok (.ireturn, 1) := by decide +kernel
set_option maxRecDepth 20000 in
theorem ggX1_save_X1_isSlot : GoodIn wsX1_save wsX1_isSlot := goodIn_r _ [8] (by decide +kernel) (by decide +kernel)
set_option maxRecDepth 20000 in
theorem gX1_save_X1_isSlot : GoodIn wsX1_save (va_wsS RX1 192 yX1_isSlot wsX1_isSlot) := goodIn_app (goodIn_of _ (by decide +kernel)) ggX1_save_X1_isSlot
set_option maxRecDepth 20000 in
theorem ggX1_save_X1_copy : GoodIn wsX1_save wsX1_copy := goodIn_r _ [11, 12, 4, 13, 14, 15, 16, 17, 18, 19, 20, 21, 22, 23, 24, 25, 26, 27, 28, 29, 30, 31, 32, 33, 34, 35, 36, 7, 37, 46, 47, 48, 49, 50, 51, 52, 53, 54, 55, 56, 57, 58, 59, 60, 61] (by decide +kernel) (by decide +kernel)
set_option maxRecDepth 20000 in
theorem gX1_save_X1_copy : GoodIn wsX1_save (va_wsS RX1 176 yX1_copy wsX1_copy) := goodIn_app (goodIn_of _ (by decide +kernel)) ggX1_save_X1_copy
theorem dX1_save_0 : decode cX1_save 0 = .ok (.iload_n 1, 1) := by decide +kernel
theorem dX1_save_1 : decode cX1_save 1 = .ok (.invokestatic 192, 3) := by decide +kernel
theorem dX1_save_4 : decode cX1_save 4 = .ok (.ifCond .ne 6, 3) := by decide +kernel
theorem dX1_save_7 : decode cX1_save 7 = .ok (.bipush (-2), 2) := by decide +kernel
theorem dX1_save_9 : decode cX1_save 9 = .ok (.ireturn, 1) := by decide +kernel
theorem dX1_save_10 : decode cX1_save 10 = .ok (.aload_n 0, 1) := by decide +kernel
theorem dX1_save_11 : decode cX1_save 11 = .ok (.getfield 10, 3) := by decide +kernel
theorem dX1_save_14 : decode cX1_save 14 = .ok (.aload_n 0, 1) := by decide +kernel
theorem dX1_save_15 : decode cX1_save 15 = .ok (.getfield 23, 3) := by decide +kernel
theorem dX1_save_18 : decode cX1_save 18 = .ok (.iload_n 1, 1) := by decide +kernel
theorem dX1_save_19 : decode cX1_save 19 = .ok (.aaload, 1) := by decide +kernel
theorem dX1_save_20 : decode cX1_save 20 = .ok (.invokestatic 176, 3) := by decide +kernel
theorem dX1_save_23 : decode cX1_save 23 = .ok (.aload_n 0, 1) := by decide +kernel
theorem dX1_save_24 : decode cX1_save 24 = .ok (.getfield 26, 3) := by decide +kernel
theorem dX1_save_27 : decode cX1_save 27 = .ok (.iload_n 1, 1) := by decide +kernel
theorem dX1_save_28 : decode cX1_save 28 = .ok (.iconst 1, 1) := by decide +kernel
theorem dX1_save_29 : decode cX1_save 29 = .ok (.bastore, 1) := by decide +kernel
theorem dX1_save_30 : decode cX1_save 30 = .ok (.aload_n 0, 1) := by decide +kernel
theorem dX1_save_31 : decode cX1_save 31 = .ok (.getfield 10, 3) := by decide +kernel
theorem dX1_save_34 : decode cX1_save 34 = .ok (.getfield 110, 3) := by decide +kernel
theorem dX1_save_37 : decode cX1_save 37 = .ok (.ireturn, 1) := by decide +kernel
set_option maxRecDepth 20000 in
theorem ggX1_restore_X1_isSlot : GoodIn wsX1_restore wsX1_isSlot := goodIn_r _ [8] (by decide +kernel) (by decide +kernel)
set_option maxRecDepth 20000 in
theorem gX1_restore_X1_isSlot : GoodIn wsX1_restore (va_wsS RX1 192 yX1_isSlot wsX1_isSlot) := goodIn_app (goodIn_of _ (by decide +kernel)) ggX1_restore_X1_isSlot
set_option maxRecDepth 20000 in
theorem ggX1_restore_X1_record : GoodIn wsX1_restore wsX1_record := goodIn_r _ [12, 13, 14, 3, 15, 16, 7, 17, 18, 4, 19, 20, 21, 22, 23, 24, 25, 26, 27, 28, 29, 30, 31, 32, 33, 34, 35, 36, 37, 38, 39, 40, 41, 42, 43, 44, 45, 46, 47, 48, 49, 50, 51, 52, 53, 54, 55, 56, 57, 58, 59, 60, 61, 62, 63, 64, 65, 66, 67] (by decide +kernel) (by decide +kernel)
set_option maxRecDepth 20000 in
theorem gX1_restore_X1_record : GoodIn wsX1_restore (wsV RX1 41 RX1 yX1_record wsX1_record) := goodIn_app (goodIn_of _ (by decide +kernel)) ggX1_restore_X1_record
set_option maxRecDepth 20000 in
theorem ggX1_restore_X1_copy : GoodIn wsX1_restore wsX1_copy := goodIn_r _ [17, 18, 4, 19, 20, 21, 22, 23, 24, 25, 26, 27, 28, 29, 30, 31, 32, 33, 34, 35, 36, 37, 38, 39, 40, 41, 42, 7, 43, 52, 53, 54, 55, 56, 57, 58, 59, 60, 61, 62, 63, 64, 65, 66, 67] (by decide +kernel) (by decide +kernel)
set_option maxRecDepth 20000 in
theorem gX1_restore_X1_copy : GoodIn wsX1_restore (va_wsS RX1 176 yX1_copy wsX1_copy) := goodIn_app (goodIn_of _ (by decide +kernel)) ggX1_restore_X1_copy
theorem dX1_restore_0 : decode cX1_restore 0 = .ok (.iload_n 1, 1) := by decide +kernel
theorem dX1_restore_1 : decode cX1_restore 1 = .ok (.invokestatic 192, 3) := by decide +kernel
theorem dX1_restore_4 : decode cX1_restore 4 = .ok (.ifCond .ne 6, 3) := by decide +kernel
theorem dX1_restore_7 : decode cX1_restore 7 = .ok (.bipush (-2), 2) := by decide +kernel
theorem dX1_restore_9 : decode cX1_restore 9 = .ok (.ireturn, 1) := by decide +kernel
theorem dX1_restore_10 : decode cX1_restore 10 = .ok (.aload_n 0, 1) := by decide +kernel
theorem dX1_restore_11 : decode cX1_restore 11 = .ok (.getfield 26, 3) := by decide +kernel
theorem dX1_restore_14 : decode cX1_restore 14 = .ok (.iload_n 1, 1) := by decide +kernel
theorem dX1_restore_15 : decode cX1_restore 15 = .ok (.baload, 1) := by decide +kernel
theorem dX1_restore_16 : decode cX1_restore 16 = .ok (.ifCond .ne 6, 3) := by decide +kernel
theorem dX1_restore_19 : decode cX1_restore 19 = .ok (.bipush (-5), 2) := by decide +kernel
theorem dX1_restore_21 : decode cX1_restore 21 = .ok (.ireturn, 1) := by decide +kernel
theorem dX1_restore_22 : decode cX1_restore 22 = .ok (.aload_n 0, 1) := by decide +kernel
theorem dX1_restore_23 : decode cX1_restore 23 = .ok (.invokevirtual 41, 3) := by decide +kernel
theorem dX1_restore_26 : decode cX1_restore 26 = .ok (.aload_n 0, 1) := by decide +kernel
theorem dX1_restore_27 : decode cX1_restore 27 = .ok (.getfield 23, 3) := by decide +kernel
theorem dX1_restore_30 : decode cX1_restore 30 = .ok (.iload_n 1, 1) := by decide +kernel
theorem dX1_restore_31 : decode cX1_restore 31 = .ok (.aaload, 1) := by decide +kernel
theorem dX1_restore_32 : decode cX1_restore 32 = .ok (.aload_n 0, 1) := by decide +kernel
theorem dX1_restore_33 : decode cX1_restore 33 = .ok (.getfield 10, 3) := by decide +kernel
theorem dX1_restore_36 : decode cX1_restore 36 = .ok (.invokestatic 176, 3) := by decide +kernel
theorem dX1_restore_39 : decode cX1_restore 39 = .ok (.aload_n 0, 1) := by decide +kernel
theorem dX1_restore_40 : decode cX1_restore 40 = .ok (.getfield 10, 3) := by decide +kernel
theorem dX1_restore_43 : decode cX1_restore 43 = .ok (.getfield 110, 3) := by decide +kernel
theorem dX1_restore_46 : decode cX1_restore 46 = .ok (.ireturn, 1) := by decide +kernel
set_option maxRecDepth 20000 in
theorem ggX1_record_X1_copy : GoodIn wsX1_record wsX1_copy := goodIn_r _ [7, 8, 9, 10, 11, 12, 13, 14, 15, 16, 17, 18, 19, 20, 21, 22, 23, 24, 25, 26, 27, 28, 29, 30, 31, 32, 33, 6, 34, 43, 44, 45, 46, 47, 48, 49, 50, 51, 52, 53, 54, 55, 56, 57, 58] (by decide +kernel) (by decide +kernel)
set_option maxRecDepth 20000 in
theorem gX1_record_X1_copy : GoodIn wsX1_record (va_wsS RX1 176 yX1_copy wsX1_copy) := goodIn_app (goodIn_of _ (by decide +kernel)) ggX1_record_X1_copy
theorem dX1_record_0 : decode cX1_record 0 = .ok (.aload_n 0, 1) := by decide +kernel
theorem dX1_record_1 : decode cX1_record 1 = .ok (.getfield 167, 3) := by decide +kernel
theorem dX1_record_4 : decode cX1_record 4 = .ok (.bipush 6, 2) := by decide +kernel
theorem dX1_record_6 : decode cX1_record 6 = .ok (.if_icmp .lt 50, 3) := by decide +kernel
theorem dX1_record_9 : decode cX1_record 9 = .ok (.aload_n 0, 1) := by decide +kernel
theorem dX1_record_10 : decode cX1_record 10 = .ok (.getfield 19, 3) := by decide +kernel
theorem dX1_record_13 : decode cX1_record 13 = .ok (.iconst 0, 1) := by decide +kernel
theorem dX1_record_14 : decode cX1_record 14 = .ok (.aaload, 1) := by decide +kernel
theorem dX1_record_15 : decode cX1_record 15 = .ok (.astore_n 1, 1) := by decide +kernel
theorem dX1_record_16 : decode cX1_record 16 = .ok (.iconst 1, 1) := by decide +kernel
theorem dX1_record_17 : decode cX1_record 17 = .ok (.istore_n 2, 1) := by decide +kernel
theorem dX1_record_18 : decode cX1_record 18 = .ok (.iload_n 2, 1) := by decide +kernel
theorem dX1_record_19 : decode cX1_record 19 = .ok (.bipush 6, 2) := by decide +kernel
theorem dX1_record_21 : decode cX1_record 21 = .ok (.if_icmp .ge 23, 3) := by decide +kernel
theorem dX1_record_24 : decode cX1_record 24 = .ok (.aload_n 0, 1) := by decide +kernel
theorem dX1_record_25 : decode cX1_record 25 = .ok (.getfield 19, 3) := by decide +kernel
theorem dX1_record_28 : decode cX1_record 28 = .ok (.iload_n 2, 1) := by decide +kernel
theorem dX1_record_29 : decode cX1_record 29 = .ok (.iconst 1, 1) := by decide +kernel
theorem dX1_record_30 : decode cX1_record 30 = .ok (.isub, 1) := by decide +kernel
theorem dX1_record_31 : decode cX1_record 31 = .ok (.aload_n 0, 1) := by decide +kernel
theorem dX1_record_32 : decode cX1_record 32 = .ok (.getfield 19, 3) := by decide +kernel
theorem dX1_record_35 : decode cX1_record 35 = .ok (.iload_n 2, 1) := by decide +kernel
theorem dX1_record_36 : decode cX1_record 36 = .ok (.aaload, 1) := by decide +kernel
theorem dX1_record_37 : decode cX1_record 37 = .ok (.aastore, 1) := by decide +kernel
theorem dX1_record_38 : decode cX1_record 38 = .ok (.iinc 2 1, 3) := by decide +kernel
theorem dX1_record_41 : decode cX1_record 41 = .ok (.goto (-23), 3) := by decide +kernel
theorem dX1_record_44 : decode cX1_record 44 = .ok (.aload_n 0, 1) := by decide +kernel
theorem dX1_record_45 : decode cX1_record 45 = .ok (.getfield 19, 3) := by decide +kernel
theorem dX1_record_48 : decode cX1_record 48 = .ok (.iconst 5, 1) := by decide +kernel
theorem dX1_record_49 : decode cX1_record 49 = .ok (.aload_n 1, 1) := by decide +kernel
theorem dX1_record_50 : decode cX1_record 50 = .ok (.aastore, 1) := by decide +kernel
theorem dX1_record_51 : decode cX1_record 51 = .ok (.aload_n 0, 1) := by decide +kernel
theorem dX1_record_52 : decode cX1_record 52 = .ok (.iconst 5, 1) := by decide +kernel
theorem dX1_record_53 : decode cX1_record 53 = .ok (.putfield 167, 3) := by decide +kernel
theorem dX1_record_56 : decode cX1_record 56 = .ok (.aload_n 0, 1) := by decide +kernel
theorem dX1_record_57 : decode cX1_record 57 = .ok (.getfield 167, 3) := by decide +kernel
theorem dX1_record_60 : decode cX1_record 60 = .ok (.ifCond .lt 29, 3) := by decide +kernel
theorem dX1_record_63 : decode cX1_record 63 = .ok (.aload_n 0, 1) := by decide +kernel
theorem dX1_record_64 : decode cX1_record 64 = .ok (.getfield 10, 3) := by decide +kernel
theorem dX1_record_67 : decode cX1_record 67 = .ok (.aload_n 0, 1) := by decide +kernel
theorem dX1_record_68 : decode cX1_record 68 = .ok (.getfield 19, 3) := by decide +kernel
theorem dX1_record_71 : decode cX1_record 71 = .ok (.aload_n 0, 1) := by decide +kernel
theorem dX1_record_72 : decode cX1_record 72 = .ok (.getfield 167, 3) := by decide +kernel
theorem dX1_record_75 : decode cX1_record 75 = .ok (.aaload, 1) := by decide +kernel
theorem dX1_record_76 : decode cX1_record 76 = .ok (.invokestatic 176, 3) := by decide +kernel
theorem dX1_record_79 : decode cX1_record 79 = .ok (.aload_n 0, 1) := by decide +kernel
theorem dX1_record_80 : decode cX1_record 80 = .ok (.dup, 1) := by decide +kernel
theorem dX1_record_81 : decode cX1_record 81 = .ok (.getfield 167, 3) := by decide +kernel
theorem dX1_record_84 : decode cX1_record 84 = .ok (.iconst 1, 1) := by decide +kernel
theorem dX1_record_85 : decode cX1_record 85 = .ok (.iadd, 1) := by decide +kernel
theorem dX1_record_86 : decode cX1_record 86 = .ok (.putfield 167, 3) := by decide +kernel
theorem dX1_record_89 : decode cX1_record 89 = .ok (.return_, 1) := by decide +kernel
set_option maxRecDepth 20000 in
theorem ggX1_copy_X1_copyRow : GoodIn wsX1_copy wsX1_copyRow := goodIn_r _ [28, 5, 6, 7, 8, 9, 10, 11, 12] (by decide +kernel) (by decide +kernel)
set_option maxRecDepth 20000 in
theorem gX1_copy_X1_copyRow : GoodIn wsX1_copy (va_wsS RX1 195 yX1_copyRow wsX1_copyRow) := goodIn_app (goodIn_of _ (by decide +kernel)) ggX1_copy_X1_copyRow
theorem dX1_copy_0 : decode cX1_copy 0 = .ok (.aload_n 0, 1) := by decide +kernel
theorem dX1_copy_1 : decode cX1_copy 1 = .ok (.ifnull 7, 3) := by decide +kernel
theorem dX1_copy_4 : decode cX1_copy 4 = .ok (.aload_n 1, 1) := by decide +kernel
theorem dX1_copy_5 : decode cX1_copy 5 = .ok (.ifnonnull 4, 3) := by decide +kernel
theorem dX1_copy_8 : decode cX1_copy 8 = .ok (.return_, 1) := by decide +kernel
theorem dX1_copy_9 : decode cX1_copy 9 = .ok (.aload_n 0, 1) := by decide +kernel
theorem dX1_copy_10 : decode cX1_copy 10 = .ok (.getfield 44, 3) := by decide +kernel
theorem dX1_copy_13 : decode cX1_copy 13 = .ok (.aload_n 1, 1) := by decide +kernel
theorem dX1_copy_14 : decode cX1_copy 14 = .ok (.getfield 44, 3) := by decide +kernel
theorem dX1_copy_17 : decode cX1_copy 17 = .ok (.invokestatic 195, 3) := by decide +kernel
theorem dX1_copy_20 : decode cX1_copy 20 = .ok (.aload_n 1, 1) := by decide +kernel
theorem dX1_copy_21 : decode cX1_copy 21 = .ok (.aload_n 0, 1) := by decide +kernel
theorem dX1_copy_22 : decode cX1_copy 22 = .ok (.getfield 110, 3) := by decide +kernel
theorem dX1_copy_25 : decode cX1_copy 25 = .ok (.putfield 110, 3) := by decide +kernel
theorem dX1_copy_28 : decode cX1_copy 28 = .ok (.aload_n 1, 1) := by decide +kernel
theorem dX1_copy_29 : decode cX1_copy 29 = .ok (.aload_n 0, 1) := by decide +kernel
theorem dX1_copy_30 : decode cX1_copy 30 = .ok (.getfield 51, 3) := by decide +kernel
theorem dX1_copy_33 : decode cX1_copy 33 = .ok (.putfield 51, 3) := by decide +kernel
theorem dX1_copy_36 : decode cX1_copy 36 = .ok (.aload_n 0, 1) := by decide +kernel
theorem dX1_copy_37 : decode cX1_copy 37 = .ok (.getfield 199, 3) := by decide +kernel
theorem dX1_copy_40 : decode cX1_copy 40 = .ok (.iconst 0, 1) := by decide +kernel
theorem dX1_copy_41 : decode cX1_copy 41 = .ok (.aload_n 1, 1) := by decide +kernel
theorem dX1_copy_42 : decode cX1_copy 42 = .ok (.getfield 199, 3) := by decide +kernel
theorem dX1_copy_45 : decode cX1_copy 45 = .ok (.iconst 0, 1) := by decide +kernel
theorem dX1_copy_46 : decode cX1_copy 46 = .ok (.aload_n 0, 1) := by decide +kernel
theorem dX1_copy_47 : decode cX1_copy 47 = .ok (.getfield 199, 3) := by decide +kernel
theorem dX1_copy_50 : decode cX1_copy 50 = .ok (.arraylength, 1) := by decide +kernel
theorem dX1_copy_51 : decode cX1_copy 51 = .ok (.aload_n 1, 1) := by decide +kernel
theorem dX1_copy_52 : decode cX1_copy 52 = .ok (.getfield 199, 3) := by decide +kernel
theorem dX1_copy_55 : decode cX1_copy 55 = .ok (.arraylength, 1) := by decide +kernel
theorem dX1_copy_56 : decode cX1_copy 56 = .ok (.invokestatic 202, 3) := by decide +kernel
theorem dX1_copy_59 : decode cX1_copy 59 = .ok (.invokestatic 207, 3) := by decide +kernel
theorem dX1_copy_62 : decode cX1_copy 62 = .ok (.aload_n 0, 1) := by decide +kernel
theorem dX1_copy_63 : decode cX1_copy 63 = .ok (.getfield 128, 3) := by decide +kernel
theorem dX1_copy_66 : decode cX1_copy 66 = .ok (.aload_n 1, 1) := by decide +kernel
theorem dX1_copy_67 : decode cX1_copy 67 = .ok (.getfield 128, 3) := by decide +kernel
theorem dX1_copy_70 : decode cX1_copy 70 = .ok (.invokestatic 195, 3) := by decide +kernel
theorem dX1_copy_73 : decode cX1_copy 73 = .ok (.aload_n 0, 1) := by decide +kernel
theorem dX1_copy_74 : decode cX1_copy 74 = .ok (.getfield 125, 3) := by decide +kernel
theorem dX1_copy_77 : decode cX1_copy 77 = .ok (.aload_n 1, 1) := by decide +kernel
theorem dX1_copy_78 : decode cX1_copy 78 = .ok (.getfield 125, 3) := by decide +kernel
theorem dX1_copy_81 : decode cX1_copy 81 = .ok (.invokestatic 195, 3) := by decide +kernel
theorem dX1_copy_84 : decode cX1_copy 84 = .ok (.aload_n 0, 1) := by decide +kernel
theorem dX1_copy_85 : decode cX1_copy 85 = .ok (.getfield 73, 3) := by decide +kernel
theorem dX1_copy_88 : decode cX1_copy 88 = .ok (.aload_n 1, 1) := by decide +kernel
theorem dX1_copy_89 : decode cX1_copy 89 = .ok (.getfield 73, 3) := by decide +kernel
theorem dX1_copy_92 : decode cX1_copy 92 = .ok (.invokestatic 195, 3) := by decide +kernel
theorem dX1_copy_95 : decode cX1_copy 95 = .ok (.aload_n 0, 1) := by decide +kernel
theorem dX1_copy_96 : decode cX1_copy 96 = .ok (.getfield 76, 3) := by decide +kernel
theorem dX1_copy_99 : decode cX1_copy 99 = .ok (.iconst 0, 1) := by decide +kernel
theorem dX1_copy_100 : decode cX1_copy 100 = .ok (.aload_n 1, 1) := by decide +kernel
theorem dX1_copy_101 : decode cX1_copy 101 = .ok (.getfield 76, 3) := by decide +kernel
theorem dX1_copy_104 : decode cX1_copy 104 = .ok (.iconst 0, 1) := by decide +kernel
theorem dX1_copy_105 : decode cX1_copy 105 = .ok (.aload_n 0, 1) := by decide +kernel
theorem dX1_copy_106 : decode cX1_copy 106 = .ok (.getfield 76, 3) := by decide +kernel
theorem dX1_copy_109 : decode cX1_copy 109 = .ok (.arraylength, 1) := by decide +kernel
theorem dX1_copy_110 : decode cX1_copy 110 = .ok (.aload_n 1, 1) := by decide +kernel
theorem dX1_copy_111 : decode cX1_copy 111 = .ok (.getfield 76, 3) := by decide +kernel
theorem dX1_copy_114 : decode cX1_copy 114 = .ok (.arraylength, 1) := by decide +kernel
theorem dX1_copy_115 : decode cX1_copy 115 = .ok (.invokestatic 202, 3) := by decide +kernel
theorem dX1_copy_118 : decode cX1_copy 118 = .ok (.invokestatic 207, 3) := by decide +kernel
theorem dX1_copy_121 : decode cX1_copy 121 = .ok (.aload_n 0, 1) := by decide +kernel
theorem dX1_copy_122 : decode cX1_copy 122 = .ok (.getfield 131, 3) := by decide +kernel
theorem dX1_copy_125 : decode cX1_copy 125 = .ok (.aload_n 1, 1) := by decide +kernel
theorem dX1_copy_126 : decode cX1_copy 126 = .ok (.getfield 131, 3) := by decide +kernel
theorem dX1_copy_129 : decode cX1_copy 129 = .ok (.invokestatic 195, 3) := by decide +kernel
theorem dX1_copy_132 : decode cX1_copy 132 = .ok (.aload_n 0, 1) := by decide +kernel
theorem dX1_copy_133 : decode cX1_copy 133 = .ok (.getfield 97, 3) := by decide +kernel
theorem dX1_copy_136 : decode cX1_copy 136 = .ok (.aload_n 1, 1) := by decide +kernel
theorem dX1_copy_137 : decode cX1_copy 137 = .ok (.getfield 97, 3) := by decide +kernel
theorem dX1_copy_140 : decode cX1_copy 140 = .ok (.invokestatic 195, 3) := by decide +kernel
theorem dX1_copy_143 : decode cX1_copy 143 = .ok (.aload_n 0, 1) := by decide +kernel
theorem dX1_copy_144 : decode cX1_copy 144 = .ok (.getfield 94, 3) := by decide +kernel
theorem dX1_copy_147 : decode cX1_copy 147 = .ok (.aload_n 1, 1) := by decide +kernel
theorem dX1_copy_148 : decode cX1_copy 148 = .ok (.getfield 94, 3) := by decide +kernel
theorem dX1_copy_151 : decode cX1_copy 151 = .ok (.invokestatic 195, 3) := by decide +kernel
theorem dX1_copy_154 : decode cX1_copy 154 = .ok (.aload_n 0, 1) := by decide +kernel
theorem dX1_copy_155 : decode cX1_copy 155 = .ok (.getfield 138, 3) := by decide +kernel
theorem dX1_copy_158 : decode cX1_copy 158 = .ok (.aload_n 1, 1) := by decide +kernel
theorem dX1_copy_159 : decode cX1_copy 159 = .ok (.getfield 138, 3) := by decide +kernel
theorem dX1_copy_162 : decode cX1_copy 162 = .ok (.invokestatic 195, 3) := by decide +kernel
theorem dX1_copy_165 : decode cX1_copy 165 = .ok (.aload_n 0, 1) := by decide +kernel
theorem dX1_copy_166 : decode cX1_copy 166 = .ok (.getfield 141, 3) := by decide +kernel
theorem dX1_copy_169 : decode cX1_copy 169 = .ok (.aload_n 1, 1) := by decide +kernel
theorem dX1_copy_170 : decode cX1_copy 170 = .ok (.getfield 141, 3) := by decide +kernel
theorem dX1_copy_173 : decode cX1_copy 173 = .ok (.invokestatic 195, 3) := by decide +kernel
theorem dX1_copy_176 : decode cX1_copy 176 = .ok (.aload_n 0, 1) := by decide +kernel
theorem dX1_copy_177 : decode cX1_copy 177 = .ok (.getfield 144, 3) := by decide +kernel
theorem dX1_copy_180 : decode cX1_copy 180 = .ok (.aload_n 1, 1) := by decide +kernel
theorem dX1_copy_181 : decode cX1_copy 181 = .ok (.getfield 144, 3) := by decide +kernel
theorem dX1_copy_184 : decode cX1_copy 184 = .ok (.invokestatic 195, 3) := by decide +kernel
theorem dX1_copy_187 : decode cX1_copy 187 = .ok (.aload_n 1, 1) := by decide +kernel
theorem dX1_copy_188 : decode cX1_copy 188 = .ok (.aload_n 0, 1) := by decide +kernel
theorem dX1_copy_189 : decode cX1_copy 189 = .ok (.getfield 147, 3) := by decide +kernel
theorem dX1_copy_192 : decode cX1_copy 192 = .ok (.putfield 147, 3) := by decide +kernel
theorem dX1_copy_195 : decode cX1_copy 195 = .ok (.aload_n 0, 1) := by decide +kernel
theorem dX1_copy_196 : decode cX1_copy 196 = .ok (.getfield 151, 3) := by decide +kernel
theorem dX1_copy_199 : decode cX1_copy 199 = .ok (.aload_n 1, 1) := by decide +kernel
theorem dX1_copy_200 : decode cX1_copy 200 = .ok (.getfield 151, 3) := by decide +kernel
theorem dX1_copy_203 : decode cX1_copy 203 = .ok (.invokestatic 195, 3) := by decide +kernel
theorem dX1_copy_206 : decode cX1_copy 206 = .ok (.return_, 1) := by decide +kernel
theorem dX1_copyRow_0 : decode cX1_copyRow 0 = .ok (.aload_n 0, 1) := by decide +kernel
theorem dX1_copyRow_1 : decode cX1_copyRow 1 = .ok (.iconst 0, 1) := by decide +kernel
theorem dX1_copyRow_2 : decode cX1_copyRow 2 = .ok (.aload_n 1, 1) := by decide +kernel
theorem dX1_copyRow_3 : decode cX1_copyRow 3 = .ok (.iconst 0, 1) := by decide +kernel
theorem dX1_copyRow_4 : decode cX1_copyRow 4 = .ok (.aload_n 0, 1) := by decide +kernel
theorem dX1_copyRow_5 : decode cX1_copyRow 5 = .ok (.arraylength, 1) := by decide +kernel
theorem dX1_copyRow_6 : decode cX1_copyRow 6 = .ok (.aload_n 1, 1) := by decide +kernel
theorem dX1_copyRow_7 : decode cX1_copyRow 7 = .ok (.arraylength, 1) := by decide +kernel
theorem dX1_copyRow_8 : decode cX1_copyRow 8 = .ok (.invokestatic 202, 3) := by decide +kernel
theorem dX1_copyRow_11 : decode cX1_copyRow 11 = .ok (.invokestatic 207, 3) := by decide +kernel
theorem dX1_copyRow_14 : decode cX1_copyRow 14 = .ok (.return_, 1) := by decide +kernel
set_option maxRecDepth 20000 in
theorem ggX1_padFault_X1_isLetter : GoodIn wsX1_padFault wsX1_isLetter := goodIn_r _ [6] (by decide +kernel) (by decide +kernel)
set_option maxRecDepth 20000 in
theorem gX1_padFault_X1_isLetter : GoodIn wsX1_padFault (va_wsS RX1 213 yX1_isLetter wsX1_isLetter) := goodIn_app (goodIn_of _ (by decide +kernel)) ggX1_padFault_X1_isLetter
set_option maxRecDepth 20000 in
theorem ggX1_padFault_X1_isDigit : GoodIn wsX1_padFault wsX1_isDigit := goodIn_r _ [9] (by decide +kernel) (by decide +kernel)
set_option maxRecDepth 20000 in
theorem gX1_padFault_X1_isDigit : GoodIn wsX1_padFault (va_wsS RX1 61 yX1_isDigit wsX1_isDigit) := goodIn_app (goodIn_of _ (by decide +kernel)) ggX1_padFault_X1_isDigit
theorem dX1_padFault_0 : decode cX1_padFault 0 = .ok (.iconst 0, 1) := by decide +kernel
theorem dX1_padFault_1 : decode cX1_padFault 1 = .ok (.istore_n 1, 1) := by decide +kernel
theorem dX1_padFault_2 : decode cX1_padFault 2 = .ok (.iconst 0, 1) := by decide +kernel
theorem dX1_padFault_3 : decode cX1_padFault 3 = .ok (.istore_n 2, 1) := by decide +kernel
theorem dX1_padFault_4 : decode cX1_padFault 4 = .ok (.iload_n 2, 1) := by decide +kernel
theorem dX1_padFault_5 : decode cX1_padFault 5 = .ok (.aload_n 0, 1) := by decide +kernel
theorem dX1_padFault_6 : decode cX1_padFault 6 = .ok (.getfield 58, 3) := by decide +kernel
theorem dX1_padFault_9 : decode cX1_padFault 9 = .ok (.if_icmp .ge 57, 3) := by decide +kernel
theorem dX1_padFault_12 : decode cX1_padFault 12 = .ok (.aload_n 0, 1) := by decide +kernel
theorem dX1_padFault_13 : decode cX1_padFault 13 = .ok (.getfield 30, 3) := by decide +kernel
theorem dX1_padFault_16 : decode cX1_padFault 16 = .ok (.iload_n 2, 1) := by decide +kernel
theorem dX1_padFault_17 : decode cX1_padFault 17 = .ok (.caload, 1) := by decide +kernel
theorem dX1_padFault_18 : decode cX1_padFault 18 = .ok (.invokestatic 213, 3) := by decide +kernel
theorem dX1_padFault_21 : decode cX1_padFault 21 = .ok (.ifCond .eq 15, 3) := by decide +kernel
theorem dX1_padFault_24 : decode cX1_padFault 24 = .ok (.iload_n 1, 1) := by decide +kernel
theorem dX1_padFault_25 : decode cX1_padFault 25 = .ok (.bipush 9, 2) := by decide +kernel
theorem dX1_padFault_27 : decode cX1_padFault 27 = .ok (.if_icmp .ge 9, 3) := by decide +kernel
theorem dX1_padFault_30 : decode cX1_padFault 30 = .ok (.iinc 1 1, 3) := by decide +kernel
theorem dX1_padFault_33 : decode cX1_padFault 33 = .ok (.goto 27, 3) := by decide +kernel
theorem dX1_padFault_36 : decode cX1_padFault 36 = .ok (.aload_n 0, 1) := by decide +kernel
theorem dX1_padFault_37 : decode cX1_padFault 37 = .ok (.getfield 30, 3) := by decide +kernel
theorem dX1_padFault_40 : decode cX1_padFault 40 = .ok (.iload_n 2, 1) := by decide +kernel
theorem dX1_padFault_41 : decode cX1_padFault 41 = .ok (.caload, 1) := by decide +kernel
theorem dX1_padFault_42 : decode cX1_padFault 42 = .ok (.invokestatic 61, 3) := by decide +kernel
theorem dX1_padFault_45 : decode cX1_padFault 45 = .ok (.ifCond .eq 13, 3) := by decide +kernel
theorem dX1_padFault_48 : decode cX1_padFault 48 = .ok (.iload_n 1, 1) := by decide +kernel
theorem dX1_padFault_49 : decode cX1_padFault 49 = .ok (.iconst 2, 1) := by decide +kernel
theorem dX1_padFault_50 : decode cX1_padFault 50 = .ok (.if_icmp .lt 8, 3) := by decide +kernel
theorem dX1_padFault_53 : decode cX1_padFault 53 = .ok (.iconst 0, 1) := by decide +kernel
theorem dX1_padFault_54 : decode cX1_padFault 54 = .ok (.istore_n 1, 1) := by decide +kernel
theorem dX1_padFault_55 : decode cX1_padFault 55 = .ok (.goto 5, 3) := by decide +kernel
theorem dX1_padFault_58 : decode cX1_padFault 58 = .ok (.iload_n 2, 1) := by decide +kernel
theorem dX1_padFault_59 : decode cX1_padFault 59 = .ok (.ireturn, 1) := by decide +kernel
theorem dX1_padFault_60 : decode cX1_padFault 60 = .ok (.iinc 2 1, 3) := by decide +kernel
theorem dX1_padFault_63 : decode cX1_padFault 63 = .ok (.goto (-59), 3) := by decide +kernel
theorem dX1_padFault_66 : decode cX1_padFault 66 = .ok (.aload_n 0, 1) := by decide +kernel
theorem dX1_padFault_67 : decode cX1_padFault 67 = .ok (.getfield 58, 3) := by decide +kernel
theorem dX1_padFault_70 : decode cX1_padFault 70 = .ok (.ifCond .eq 7, 3) := by decide +kernel
theorem dX1_padFault_73 : decode cX1_padFault 73 = .ok (.iload_n 1, 1) := by decide +kernel
theorem dX1_padFault_74 : decode cX1_padFault 74 = .ok (.ifCond .le 10, 3) := by decide +kernel
theorem dX1_padFault_77 : decode cX1_padFault 77 = .ok (.aload_n 0, 1) := by decide +kernel
theorem dX1_padFault_78 : decode cX1_padFault 78 = .ok (.getfield 58, 3) := by decide +kernel
theorem dX1_padFault_81 : decode cX1_padFault 81 = .ok (.goto 5, 3) := by decide +kernel
theorem dX1_padFault_84 : decode cX1_padFault 84 = .ok (.bipush (-6), 2) := by decide +kernel
theorem dX1_padFault_86 : decode cX1_padFault 86 = .ok (.ireturn, 1) := by decide +kernel
set_option maxRecDepth 20000 in
theorem ggX1_padNames_X1_isDigit : GoodIn wsX1_padNames wsX1_isDigit := goodIn_r _ [6] (by decide +kernel) (by decide +kernel)
set_option maxRecDepth 20000 in
theorem gX1_padNames_X1_isDigit : GoodIn wsX1_padNames (va_wsS RX1 61 yX1_isDigit wsX1_isDigit) := goodIn_app (goodIn_of _ (by decide +kernel)) ggX1_padNames_X1_isDigit
theorem dX1_padNames_0 : decode cX1_padNames 0 = .ok (.iconst 0, 1) := by decide +kernel
theorem dX1_padNames_1 : decode cX1_padNames 1 = .ok (.istore_n 1, 1) := by decide +kernel
theorem dX1_padNames_2 : decode cX1_padNames 2 = .ok (.iconst 0, 1) := by decide +kernel
theorem dX1_padNames_3 : decode cX1_padNames 3 = .ok (.istore_n 2, 1) := by decide +kernel
theorem dX1_padNames_4 : decode cX1_padNames 4 = .ok (.iload_n 2, 1) := by decide +kernel
theorem dX1_padNames_5 : decode cX1_padNames 5 = .ok (.aload_n 0, 1) := by decide +kernel
theorem dX1_padNames_6 : decode cX1_padNames 6 = .ok (.getfield 58, 3) := by decide +kernel
theorem dX1_padNames_9 : decode cX1_padNames 9 = .ok (.if_icmp .ge 24, 3) := by decide +kernel
theorem dX1_padNames_12 : decode cX1_padNames 12 = .ok (.aload_n 0, 1) := by decide +kernel
theorem dX1_padNames_13 : decode cX1_padNames 13 = .ok (.getfield 30, 3) := by decide +kernel
theorem dX1_padNames_16 : decode cX1_padNames 16 = .ok (.iload_n 2, 1) := by decide +kernel
theorem dX1_padNames_17 : decode cX1_padNames 17 = .ok (.caload, 1) := by decide +kernel
theorem dX1_padNames_18 : decode cX1_padNames 18 = .ok (.invokestatic 61, 3) := by decide +kernel
theorem dX1_padNames_21 : decode cX1_padNames 21 = .ok (.ifCond .eq 6, 3) := by decide +kernel
theorem dX1_padNames_24 : decode cX1_padNames 24 = .ok (.iinc 1 1, 3) := by decide +kernel
theorem dX1_padNames_27 : decode cX1_padNames 27 = .ok (.iinc 2 1, 3) := by decide +kernel
theorem dX1_padNames_30 : decode cX1_padNames 30 = .ok (.goto (-26), 3) := by decide +kernel
theorem dX1_padNames_33 : decode cX1_padNames 33 = .ok (.iload_n 1, 1) := by decide +kernel
theorem dX1_padNames_34 : decode cX1_padNames 34 = .ok (.ireturn, 1) := by decide +kernel
theorem dX1_append_0 : decode cX1_append 0 = .ok (.aload_n 0, 1) := by decide +kernel
theorem dX1_append_1 : decode cX1_append 1 = .ok (.getfield 58, 3) := by decide +kernel
theorem dX1_append_4 : decode cX1_append 4 = .ok (.ifCond .lt 32, 3) := by decide +kernel
theorem dX1_append_7 : decode cX1_append 7 = .ok (.aload_n 0, 1) := by decide +kernel
theorem dX1_append_8 : decode cX1_append 8 = .ok (.getfield 58, 3) := by decide +kernel
theorem dX1_append_11 : decode cX1_append 11 = .ok (.bipush 60, 2) := by decide +kernel
theorem dX1_append_13 : decode cX1_append 13 = .ok (.if_icmp .ge 23, 3) := by decide +kernel
theorem dX1_append_16 : decode cX1_append 16 = .ok (.aload_n 0, 1) := by decide +kernel
theorem dX1_append_17 : decode cX1_append 17 = .ok (.getfield 30, 3) := by decide +kernel
theorem dX1_append_20 : decode cX1_append 20 = .ok (.aload_n 0, 1) := by decide +kernel
theorem dX1_append_21 : decode cX1_append 21 = .ok (.getfield 58, 3) := by decide +kernel
theorem dX1_append_24 : decode cX1_append 24 = .ok (.iload_n 1, 1) := by decide +kernel
theorem dX1_append_25 : decode cX1_append 25 = .ok (.castore, 1) := by decide +kernel
theorem dX1_append_26 : decode cX1_append 26 = .ok (.aload_n 0, 1) := by decide +kernel
theorem dX1_append_27 : decode cX1_append 27 = .ok (.dup, 1) := by decide +kernel
theorem dX1_append_28 : decode cX1_append 28 = .ok (.getfield 58, 3) := by decide +kernel
theorem dX1_append_31 : decode cX1_append 31 = .ok (.iconst 1, 1) := by decide +kernel
theorem dX1_append_32 : decode cX1_append 32 = .ok (.iadd, 1) := by decide +kernel
theorem dX1_append_33 : decode cX1_append 33 = .ok (.putfield 58, 3) := by decide +kernel
theorem dX1_append_36 : decode cX1_append 36 = .ok (.return_, 1) := by decide +kernel
set_option maxRecDepth 20000 in
theorem ggX1_charactersIn_X1_codeAt : GoodIn wsX1_charactersIn wsX1_codeAt := goodIn_r _ [4, 5] (by decide +kernel) (by decide +kernel)
set_option maxRecDepth 20000 in
theorem gX1_charactersIn_X1_codeAt : GoodIn wsX1_charactersIn (va_wsS RX1 184 yX1_codeAt wsX1_codeAt) := goodIn_app (goodIn_of _ (by decide +kernel)) ggX1_charactersIn_X1_codeAt
theorem dX1_charactersIn_0 : decode cX1_charactersIn 0 = .ok (.iconst 0, 1) := by decide +kernel
theorem dX1_charactersIn_1 : decode cX1_charactersIn 1 = .ok (.istore_n 2, 1) := by decide +kernel
theorem dX1_charactersIn_2 : decode cX1_charactersIn 2 = .ok (.iload_n 2, 1) := by decide +kernel
theorem dX1_charactersIn_3 : decode cX1_charactersIn 3 = .ok (.bipush 8, 2) := by decide +kernel
theorem dX1_charactersIn_5 : decode cX1_charactersIn 5 = .ok (.if_icmp .ge 37, 3) := by decide +kernel
theorem dX1_charactersIn_8 : decode cX1_charactersIn 8 = .ok (.lload_n 0, 1) := by decide +kernel
theorem dX1_charactersIn_9 : decode cX1_charactersIn 9 = .ok (.iload_n 2, 1) := by decide +kernel
theorem dX1_charactersIn_10 : decode cX1_charactersIn 10 = .ok (.invokestatic 184, 3) := by decide +kernel
theorem dX1_charactersIn_13 : decode cX1_charactersIn 13 = .ok (.ifCond .eq 29, 3) := by decide +kernel
theorem dX1_charactersIn_16 : decode cX1_charactersIn 16 = .ok (.lload_n 0, 1) := by decide +kernel
theorem dX1_charactersIn_17 : decode cX1_charactersIn 17 = .ok (.iload_n 2, 1) := by decide +kernel
theorem dX1_charactersIn_18 : decode cX1_charactersIn 18 = .ok (.invokestatic 184, 3) := by decide +kernel
theorem dX1_charactersIn_21 : decode cX1_charactersIn 21 = .ok (.istore_n 3, 1) := by decide +kernel
theorem dX1_charactersIn_22 : decode cX1_charactersIn 22 = .ok (.iload_n 3, 1) := by decide +kernel
theorem dX1_charactersIn_23 : decode cX1_charactersIn 23 = .ok (.bipush 33, 2) := by decide +kernel
theorem dX1_charactersIn_25 : decode cX1_charactersIn 25 = .ok (.if_icmp .lt 9, 3) := by decide +kernel
theorem dX1_charactersIn_28 : decode cX1_charactersIn 28 = .ok (.iload_n 3, 1) := by decide +kernel
theorem dX1_charactersIn_29 : decode cX1_charactersIn 29 = .ok (.bipush 126, 2) := by decide +kernel
theorem dX1_charactersIn_31 : decode cX1_charactersIn 31 = .ok (.if_icmp .le 5, 3) := by decide +kernel
theorem dX1_charactersIn_34 : decode cX1_charactersIn 34 = .ok (.iconst 0, 1) := by decide +kernel
theorem dX1_charactersIn_35 : decode cX1_charactersIn 35 = .ok (.ireturn, 1) := by decide +kernel
theorem dX1_charactersIn_36 : decode cX1_charactersIn 36 = .ok (.iinc 2 1, 3) := by decide +kernel
theorem dX1_charactersIn_39 : decode cX1_charactersIn 39 = .ok (.goto (-37), 3) := by decide +kernel
theorem dX1_charactersIn_42 : decode cX1_charactersIn 42 = .ok (.iload_n 2, 1) := by decide +kernel
theorem dX1_charactersIn_43 : decode cX1_charactersIn 43 = .ok (.istore_n 3, 1) := by decide +kernel
theorem dX1_charactersIn_44 : decode cX1_charactersIn 44 = .ok (.iload_n 3, 1) := by decide +kernel
theorem dX1_charactersIn_45 : decode cX1_charactersIn 45 = .ok (.bipush 8, 2) := by decide +kernel
theorem dX1_charactersIn_47 : decode cX1_charactersIn 47 = .ok (.if_icmp .ge 19, 3) := by decide +kernel
theorem dX1_charactersIn_50 : decode cX1_charactersIn 50 = .ok (.lload_n 0, 1) := by decide +kernel
theorem dX1_charactersIn_51 : decode cX1_charactersIn 51 = .ok (.iload_n 3, 1) := by decide +kernel
theorem dX1_charactersIn_52 : decode cX1_charactersIn 52 = .ok (.invokestatic 184, 3) := by decide +kernel
theorem dX1_charactersIn_55 : decode cX1_charactersIn 55 = .ok (.ifCond .eq 5, 3) := by decide +kernel
theorem dX1_charactersIn_58 : decode cX1_charactersIn 58 = .ok (.iconst 0, 1) := by decide +kernel
theorem dX1_charactersIn_59 : decode cX1_charactersIn 59 = .ok (.ireturn, 1) := by decide +kernel
theorem dX1_charactersIn_60 : decode cX1_charactersIn 60 = .ok (.iinc 3 1, 3) := by decide +kernel
theorem dX1_charactersIn_63 : decode cX1_charactersIn 63 = .ok (.goto (-19), 3) := by decide +kernel
theorem dX1_charactersIn_66 : decode cX1_charactersIn 66 = .ok (.iload_n 2, 1) := by decide +kernel
theorem dX1_charactersIn_67 : decode cX1_charactersIn 67 = .ok (.ireturn, 1) := by decide +kernel
theorem dX1_codeAt_0 : decode cX1_codeAt 0 = .ok (.lload_n 0, 1) := by decide +kernel
theorem dX1_codeAt_1 : decode cX1_codeAt 1 = .ok (.bipush 8, 2) := by decide +kernel
theorem dX1_codeAt_3 : decode cX1_codeAt 3 = .ok (.iload_n 2, 1) := by decide +kernel
theorem dX1_codeAt_4 : decode cX1_codeAt 4 = .ok (.imul, 1) := by decide +kernel
theorem dX1_codeAt_5 : decode cX1_codeAt 5 = .ok (.lushr, 1) := by decide +kernel
theorem dX1_codeAt_6 : decode cX1_codeAt 6 = .ok (.ldc2_w 216, 3) := by decide +kernel
theorem dX1_codeAt_9 : decode cX1_codeAt 9 = .ok (.land, 1) := by decide +kernel
theorem dX1_codeAt_10 : decode cX1_codeAt 10 = .ok (.l2i, 1) := by decide +kernel
theorem dX1_codeAt_11 : decode cX1_codeAt 11 = .ok (.ireturn, 1) := by decide +kernel
theorem dX1_isLetter_0 : decode cX1_isLetter 0 = .ok (.iload_n 0, 1) := by decide +kernel
theorem dX1_isLetter_1 : decode cX1_isLetter 1 = .ok (.bipush 97, 2) := by decide +kernel
theorem dX1_isLetter_3 : decode cX1_isLetter 3 = .ok (.if_icmp .lt 13, 3) := by decide +kernel
theorem dX1_isLetter_6 : decode cX1_isLetter 6 = .ok (.iload_n 0, 1) := by decide +kernel
theorem dX1_isLetter_7 : decode cX1_isLetter 7 = .ok (.bipush 122, 2) := by decide +kernel
theorem dX1_isLetter_9 : decode cX1_isLetter 9 = .ok (.if_icmp .gt 7, 3) := by decide +kernel
theorem dX1_isLetter_12 : decode cX1_isLetter 12 = .ok (.iconst 1, 1) := by decide +kernel
theorem dX1_isLetter_13 : decode cX1_isLetter 13 = .ok (.goto 4, 3) := by decide +kernel
theorem dX1_isLetter_16 : decode cX1_isLetter 16 = .ok (.iconst 0, 1) := by decide +kernel
theorem dX1_isLetter_17 : decode cX1_isLetter 17 = .ok (.ireturn, 1) := by decide +kernel
theorem dX1_isDigit_0 : decode cX1_isDigit 0 = .ok (.iload_n 0, 1) := by decide +kernel
theorem dX1_isDigit_1 : decode cX1_isDigit 1 = .ok (.bipush 48, 2) := by decide +kernel
theorem dX1_isDigit_3 : decode cX1_isDigit 3 = .ok (.if_icmp .lt 13, 3) := by decide +kernel
theorem dX1_isDigit_6 : decode cX1_isDigit 6 = .ok (.iload_n 0, 1) := by decide +kernel
theorem dX1_isDigit_7 : decode cX1_isDigit 7 = .ok (.bipush 57, 2) := by decide +kernel
theorem dX1_isDigit_9 : decode cX1_isDigit 9 = .ok (.if_icmp .gt 7, 3) := by decide +kernel
theorem dX1_isDigit_12 : decode cX1_isDigit 12 = .ok (.iconst 1, 1) := by decide +kernel
theorem dX1_isDigit_13 : decode cX1_isDigit 13 = .ok (.goto 4, 3) := by decide +kernel
theorem dX1_isDigit_16 : decode cX1_isDigit 16 = .ok (.iconst 0, 1) := by decide +kernel
theorem dX1_isDigit_17 : decode cX1_isDigit 17 = .ok (.ireturn, 1) := by decide +kernel
theorem dX1_isCorner_0 : decode cX1_isCorner 0 = .ok (.iload_n 0, 1) := by decide +kernel
theorem dX1_isCorner_1 : decode cX1_isCorner 1 = .ok (.ifCond .lt 13, 3) := by decide +kernel
theorem dX1_isCorner_4 : decode cX1_isCorner 4 = .ok (.iload_n 0, 1) := by decide +kernel
theorem dX1_isCorner_5 : decode cX1_isCorner 5 = .ok (.bipush 12, 2) := by decide +kernel
theorem dX1_isCorner_7 : decode cX1_isCorner 7 = .ok (.if_icmp .ge 7, 3) := by decide +kernel
theorem dX1_isCorner_10 : decode cX1_isCorner 10 = .ok (.iconst 1, 1) := by decide +kernel
theorem dX1_isCorner_11 : decode cX1_isCorner 11 = .ok (.goto 4, 3) := by decide +kernel
theorem dX1_isCorner_14 : decode cX1_isCorner 14 = .ok (.iconst 0, 1) := by decide +kernel
theorem dX1_isCorner_15 : decode cX1_isCorner 15 = .ok (.ireturn, 1) := by decide +kernel
theorem dX1_isSlot_0 : decode cX1_isSlot 0 = .ok (.iload_n 0, 1) := by decide +kernel
theorem dX1_isSlot_1 : decode cX1_isSlot 1 = .ok (.ifCond .lt 12, 3) := by decide +kernel
theorem dX1_isSlot_4 : decode cX1_isSlot 4 = .ok (.iload_n 0, 1) := by decide +kernel
theorem dX1_isSlot_5 : decode cX1_isSlot 5 = .ok (.iconst 2, 1) := by decide +kernel
theorem dX1_isSlot_6 : decode cX1_isSlot 6 = .ok (.if_icmp .ge 7, 3) := by decide +kernel
theorem dX1_isSlot_9 : decode cX1_isSlot 9 = .ok (.iconst 1, 1) := by decide +kernel
theorem dX1_isSlot_10 : decode cX1_isSlot 10 = .ok (.goto 4, 3) := by decide +kernel
theorem dX1_isSlot_13 : decode cX1_isSlot 13 = .ok (.iconst 0, 1) := by decide +kernel
theorem dX1_isSlot_14 : decode cX1_isSlot 14 = .ok (.ireturn, 1) := by decide +kernel
theorem dX1_sum_0 : decode cX1_sum 0 = .ok (.iconst 0, 1) := by decide +kernel
theorem dX1_sum_1 : decode cX1_sum 1 = .ok (.istore_n 1, 1) := by decide +kernel
theorem dX1_sum_2 : decode cX1_sum 2 = .ok (.iconst 0, 1) := by decide +kernel
theorem dX1_sum_3 : decode cX1_sum 3 = .ok (.istore_n 2, 1) := by decide +kernel
theorem dX1_sum_4 : decode cX1_sum 4 = .ok (.iload_n 2, 1) := by decide +kernel
theorem dX1_sum_5 : decode cX1_sum 5 = .ok (.aload_n 0, 1) := by decide +kernel
theorem dX1_sum_6 : decode cX1_sum 6 = .ok (.arraylength, 1) := by decide +kernel
theorem dX1_sum_7 : decode cX1_sum 7 = .ok (.if_icmp .ge 15, 3) := by decide +kernel
theorem dX1_sum_10 : decode cX1_sum 10 = .ok (.iload_n 1, 1) := by decide +kernel
theorem dX1_sum_11 : decode cX1_sum 11 = .ok (.aload_n 0, 1) := by decide +kernel
theorem dX1_sum_12 : decode cX1_sum 12 = .ok (.iload_n 2, 1) := by decide +kernel
theorem dX1_sum_13 : decode cX1_sum 13 = .ok (.iaload, 1) := by decide +kernel
theorem dX1_sum_14 : decode cX1_sum 14 = .ok (.iadd, 1) := by decide +kernel
theorem dX1_sum_15 : decode cX1_sum 15 = .ok (.istore_n 1, 1) := by decide +kernel
theorem dX1_sum_16 : decode cX1_sum 16 = .ok (.iinc 2 1, 3) := by decide +kernel
theorem dX1_sum_19 : decode cX1_sum 19 = .ok (.goto (-15), 3) := by decide +kernel
theorem dX1_sum_22 : decode cX1_sum 22 = .ok (.iload_n 1, 1) := by decide +kernel
theorem dX1_sum_23 : decode cX1_sum 23 = .ok (.ireturn, 1) := by decide +kernel
end
section
theorem dX2_init_0 : decode cX2_init 0 = .ok (.aload_n 0, 1) := by decide +kernel
theorem dX2_init_1 : decode cX2_init 1 = .ok (.invokespecial 1, 3) := by decide +kernel
theorem dX2_init_4 : decode cX2_init 4 = .ok (.aload_n 0, 1) := by decide +kernel
theorem dX2_init_5 : decode cX2_init 5 = .ok (.sipush 322, 3) := by decide +kernel
theorem dX2_init_8 : decode cX2_init 8 = .ok (.newarray .int, 2) := by decide +kernel
theorem dX2_init_10 : decode cX2_init 10 = .ok (.putfield 7, 3) := by decide +kernel
theorem dX2_init_13 : decode cX2_init 13 = .ok (.aload_n 0, 1) := by decide +kernel
theorem dX2_init_14 : decode cX2_init 14 = .ok (.sipush 322, 3) := by decide +kernel
theorem dX2_init_17 : decode cX2_init 17 = .ok (.newarray .int, 2) := by decide +kernel
theorem dX2_init_19 : decode cX2_init 19 = .ok (.putfield 13, 3) := by decide +kernel
theorem dX2_init_22 : decode cX2_init 22 = .ok (.aload_n 0, 1) := by decide +kernel
theorem dX2_init_23 : decode cX2_init 23 = .ok (.sipush 1932, 3) := by decide +kernel
theorem dX2_init_26 : decode cX2_init 26 = .ok (.newarray .int, 2) := by decide +kernel
theorem dX2_init_28 : decode cX2_init 28 = .ok (.putfield 16, 3) := by decide +kernel
theorem dX2_init_31 : decode cX2_init 31 = .ok (.aload_n 0, 1) := by decide +kernel
theorem dX2_init_32 : decode cX2_init 32 = .ok (.sipush 644, 3) := by decide +kernel
theorem dX2_init_35 : decode cX2_init 35 = .ok (.newarray .int, 2) := by decide +kernel
theorem dX2_init_37 : decode cX2_init 37 = .ok (.putfield 19, 3) := by decide +kernel
theorem dX2_init_40 : decode cX2_init 40 = .ok (.aload_n 0, 1) := by decide +kernel
theorem dX2_init_41 : decode cX2_init 41 = .ok (.iconst 2, 1) := by decide +kernel
theorem dX2_init_42 : decode cX2_init 42 = .ok (.newarray .int, 2) := by decide +kernel
theorem dX2_init_44 : decode cX2_init 44 = .ok (.putfield 22, 3) := by decide +kernel
theorem dX2_init_47 : decode cX2_init 47 = .ok (.aload_n 0, 1) := by decide +kernel
theorem dX2_init_48 : decode cX2_init 48 = .ok (.bipush 60, 2) := by decide +kernel
theorem dX2_init_50 : decode cX2_init 50 = .ok (.newarray .int, 2) := by decide +kernel
theorem dX2_init_52 : decode cX2_init 52 = .ok (.putfield 25, 3) := by decide +kernel
theorem dX2_init_55 : decode cX2_init 55 = .ok (.aload_n 0, 1) := by decide +kernel
theorem dX2_init_56 : decode cX2_init 56 = .ok (.bipush 30, 2) := by decide +kernel
theorem dX2_init_58 : decode cX2_init 58 = .ok (.newarray .int, 2) := by decide +kernel
theorem dX2_init_60 : decode cX2_init 60 = .ok (.putfield 28, 3) := by decide +kernel
theorem dX2_init_63 : decode cX2_init 63 = .ok (.aload_n 0, 1) := by decide +kernel
theorem dX2_init_64 : decode cX2_init 64 = .ok (.bipush 30, 2) := by decide +kernel
theorem dX2_init_66 : decode cX2_init 66 = .ok (.newarray .int, 2) := by decide +kernel
theorem dX2_init_68 : decode cX2_init 68 = .ok (.putfield 31, 3) := by decide +kernel
theorem dX2_init_71 : decode cX2_init 71 = .ok (.aload_n 0, 1) := by decide +kernel
theorem dX2_init_72 : decode cX2_init 72 = .ok (.bipush 30, 2) := by decide +kernel
theorem dX2_init_74 : decode cX2_init 74 = .ok (.newarray .int, 2) := by decide +kernel
theorem dX2_init_76 : decode cX2_init 76 = .ok (.putfield 34, 3) := by decide +kernel
theorem dX2_init_79 : decode cX2_init 79 = .ok (.aload_n 0, 1) := by decide +kernel
theorem dX2_init_80 : decode cX2_init 80 = .ok (.getfield 7, 3) := by decide +kernel
theorem dX2_init_83 : decode cX2_init 83 = .ok (.iconst 0, 1) := by decide +kernel
theorem dX2_init_84 : decode cX2_init 84 = .ok (.iconst 3, 1) := by decide +kernel
theorem dX2_init_85 : decode cX2_init 85 = .ok (.iastore, 1) := by decide +kernel
theorem dX2_init_86 : decode cX2_init 86 = .ok (.aload_n 0, 1) := by decide +kernel
theorem dX2_init_87 : decode cX2_init 87 = .ok (.getfield 7, 3) := by decide +kernel
theorem dX2_init_90 : decode cX2_init 90 = .ok (.iconst 1, 1) := by decide +kernel
theorem dX2_init_91 : decode cX2_init 91 = .ok (.iconst 2, 1) := by decide +kernel
theorem dX2_init_92 : decode cX2_init 92 = .ok (.iastore, 1) := by decide +kernel
theorem dX2_init_93 : decode cX2_init 93 = .ok (.aload_n 0, 1) := by decide +kernel
theorem dX2_init_94 : decode cX2_init 94 = .ok (.getfield 7, 3) := by decide +kernel
theorem dX2_init_97 : decode cX2_init 97 = .ok (.iconst 2, 1) := by decide +kernel
theorem dX2_init_98 : decode cX2_init 98 = .ok (.iconst 2, 1) := by decide +kernel
theorem dX2_init_99 : decode cX2_init 99 = .ok (.iastore, 1) := by decide +kernel
theorem dX2_init_100 : decode cX2_init 100 = .ok (.aload_n 0, 1) := by decide +kernel
theorem dX2_init_101 : decode cX2_init 101 = .ok (.getfield 7, 3) := by decide +kernel
theorem dX2_init_104 : decode cX2_init 104 = .ok (.iconst 3, 1) := by decide +kernel
theorem dX2_init_105 : decode cX2_init 105 = .ok (.bipush 10, 2) := by decide +kernel
theorem dX2_init_107 : decode cX2_init 107 = .ok (.iastore, 1) := by decide +kernel
theorem dX2_init_108 : decode cX2_init 108 = .ok (.iconst 0, 1) := by decide +kernel
theorem dX2_init_109 : decode cX2_init 109 = .ok (.istore_n 1, 1) := by decide +kernel
theorem dX2_init_110 : decode cX2_init 110 = .ok (.iload_n 1, 1) := by decide +kernel
theorem dX2_init_111 : decode cX2_init 111 = .ok (.bipush 12, 2) := by decide +kernel
theorem dX2_init_113 : decode cX2_init 113 = .ok (.if_icmp .ge 45, 3) := by decide +kernel
theorem dX2_init_116 : decode cX2_init 116 = .ok (.aload_n 0, 1) := by decide +kernel
theorem dX2_init_117 : decode cX2_init 117 = .ok (.getfield 7, 3) := by decide +kernel
theorem dX2_init_120 : decode cX2_init 120 = .ok (.sipush 249, 3) := by decide +kernel
theorem dX2_init_123 : decode cX2_init 123 = .ok (.iload_n 1, 1) := by decide +kernel
theorem dX2_init_124 : decode cX2_init 124 = .ok (.iadd, 1) := by decide +kernel
theorem dX2_init_125 : decode cX2_init 125 = .ok (.bipush (-6), 2) := by decide +kernel
theorem dX2_init_127 : decode cX2_init 127 = .ok (.iastore, 1) := by decide +kernel
theorem dX2_init_128 : decode cX2_init 128 = .ok (.aload_n 0, 1) := by decide +kernel
theorem dX2_init_129 : decode cX2_init 129 = .ok (.getfield 7, 3) := by decide +kernel
theorem dX2_init_132 : decode cX2_init 132 = .ok (.sipush 285, 3) := by decide +kernel
theorem dX2_init_135 : decode cX2_init 135 = .ok (.iload_n 1, 1) := by decide +kernel
theorem dX2_init_136 : decode cX2_init 136 = .ok (.iadd, 1) := by decide +kernel
theorem dX2_init_137 : decode cX2_init 137 = .ok (.bipush (-6), 2) := by decide +kernel
theorem dX2_init_139 : decode cX2_init 139 = .ok (.iastore, 1) := by decide +kernel
theorem dX2_init_140 : decode cX2_init 140 = .ok (.aload_n 0, 1) := by decide +kernel
theorem dX2_init_141 : decode cX2_init 141 = .ok (.getfield 7, 3) := by decide +kernel
theorem dX2_init_144 : decode cX2_init 144 = .ok (.sipush 309, 3) := by decide +kernel
theorem dX2_init_147 : decode cX2_init 147 = .ok (.iload_n 1, 1) := by decide +kernel
theorem dX2_init_148 : decode cX2_init 148 = .ok (.iadd, 1) := by decide +kernel
theorem dX2_init_149 : decode cX2_init 149 = .ok (.bipush (-6), 2) := by decide +kernel
theorem dX2_init_151 : decode cX2_init 151 = .ok (.iastore, 1) := by decide +kernel
theorem dX2_init_152 : decode cX2_init 152 = .ok (.iinc 1 1, 3) := by decide +kernel
theorem dX2_init_155 : decode cX2_init 155 = .ok (.goto (-45), 3) := by decide +kernel
theorem dX2_init_158 : decode cX2_init 158 = .ok (.return_, 1) := by decide +kernel
theorem dX2_in_0 : decode cX2_in 0 = .ok (.lload_n 0, 1) := by decide +kernel
theorem dX2_in_1 : decode cX2_in 1 = .ok (.lload_n 2, 1) := by decide +kernel
theorem dX2_in_2 : decode cX2_in 2 = .ok (.lcmp, 1) := by decide +kernel
theorem dX2_in_3 : decode cX2_in 3 = .ok (.ifCond .lt 14, 3) := by decide +kernel
theorem dX2_in_6 : decode cX2_in 6 = .ok (.lload_n 0, 1) := by decide +kernel
theorem dX2_in_7 : decode cX2_in 7 = .ok (.lload 4, 2) := by decide +kernel
theorem dX2_in_9 : decode cX2_in 9 = .ok (.lcmp, 1) := by decide +kernel
theorem dX2_in_10 : decode cX2_in 10 = .ok (.ifCond .gt 7, 3) := by decide +kernel
theorem dX2_in_13 : decode cX2_in 13 = .ok (.iconst 1, 1) := by decide +kernel
theorem dX2_in_14 : decode cX2_in 14 = .ok (.goto 4, 3) := by decide +kernel
theorem dX2_in_17 : decode cX2_in 17 = .ok (.iconst 0, 1) := by decide +kernel
theorem dX2_in_18 : decode cX2_in 18 = .ok (.ireturn, 1) := by decide +kernel
theorem dX2_changes_0 : decode cX2_changes 0 = .ok (.aload_n 0, 1) := by decide +kernel
theorem dX2_changes_1 : decode cX2_changes 1 = .ok (.getfield 37, 3) := by decide +kernel
theorem dX2_changes_4 : decode cX2_changes 4 = .ok (.bipush 6, 2) := by decide +kernel
theorem dX2_changes_6 : decode cX2_changes 6 = .ok (.if_icmp .ne 44, 3) := by decide +kernel
theorem dX2_changes_9 : decode cX2_changes 9 = .ok (.iconst 0, 1) := by decide +kernel
theorem dX2_changes_10 : decode cX2_changes 10 = .ok (.istore_n 1, 1) := by decide +kernel
theorem dX2_changes_11 : decode cX2_changes 11 = .ok (.iload_n 1, 1) := by decide +kernel
theorem dX2_changes_12 : decode cX2_changes 12 = .ok (.sipush 1610, 3) := by decide +kernel
theorem dX2_changes_15 : decode cX2_changes 15 = .ok (.if_icmp .ge 25, 3) := by decide +kernel
theorem dX2_changes_18 : decode cX2_changes 18 = .ok (.aload_n 0, 1) := by decide +kernel
theorem dX2_changes_19 : decode cX2_changes 19 = .ok (.getfield 16, 3) := by decide +kernel
theorem dX2_changes_22 : decode cX2_changes 22 = .ok (.iload_n 1, 1) := by decide +kernel
theorem dX2_changes_23 : decode cX2_changes 23 = .ok (.aload_n 0, 1) := by decide +kernel
theorem dX2_changes_24 : decode cX2_changes 24 = .ok (.getfield 16, 3) := by decide +kernel
theorem dX2_changes_27 : decode cX2_changes 27 = .ok (.iload_n 1, 1) := by decide +kernel
theorem dX2_changes_28 : decode cX2_changes 28 = .ok (.sipush 322, 3) := by decide +kernel
theorem dX2_changes_31 : decode cX2_changes 31 = .ok (.iadd, 1) := by decide +kernel
theorem dX2_changes_32 : decode cX2_changes 32 = .ok (.iaload, 1) := by decide +kernel
theorem dX2_changes_33 : decode cX2_changes 33 = .ok (.iastore, 1) := by decide +kernel
theorem dX2_changes_34 : decode cX2_changes 34 = .ok (.iinc 1 1, 3) := by decide +kernel
theorem dX2_changes_37 : decode cX2_changes 37 = .ok (.goto (-26), 3) := by decide +kernel
theorem dX2_changes_40 : decode cX2_changes 40 = .ok (.aload_n 0, 1) := by decide +kernel
theorem dX2_changes_41 : decode cX2_changes 41 = .ok (.dup, 1) := by decide +kernel
theorem dX2_changes_42 : decode cX2_changes 42 = .ok (.getfield 37, 3) := by decide +kernel
theorem dX2_changes_45 : decode cX2_changes 45 = .ok (.iconst 1, 1) := by decide +kernel
theorem dX2_changes_46 : decode cX2_changes 46 = .ok (.isub, 1) := by decide +kernel
theorem dX2_changes_47 : decode cX2_changes 47 = .ok (.putfield 37, 3) := by decide +kernel
theorem dX2_changes_50 : decode cX2_changes 50 = .ok (.iconst 0, 1) := by decide +kernel
theorem dX2_changes_51 : decode cX2_changes 51 = .ok (.istore_n 1, 1) := by decide +kernel
theorem dX2_changes_52 : decode cX2_changes 52 = .ok (.iload_n 1, 1) := by decide +kernel
theorem dX2_changes_53 : decode cX2_changes 53 = .ok (.sipush 322, 3) := by decide +kernel
theorem dX2_changes_56 : decode cX2_changes 56 = .ok (.if_icmp .ge 30, 3) := by decide +kernel
theorem dX2_changes_59 : decode cX2_changes 59 = .ok (.aload_n 0, 1) := by decide +kernel
theorem dX2_changes_60 : decode cX2_changes 60 = .ok (.getfield 16, 3) := by decide +kernel
theorem dX2_changes_63 : decode cX2_changes 63 = .ok (.sipush 322, 3) := by decide +kernel
theorem dX2_changes_66 : decode cX2_changes 66 = .ok (.aload_n 0, 1) := by decide +kernel
theorem dX2_changes_67 : decode cX2_changes 67 = .ok (.getfield 37, 3) := by decide +kernel
theorem dX2_changes_70 : decode cX2_changes 70 = .ok (.imul, 1) := by decide +kernel
theorem dX2_changes_71 : decode cX2_changes 71 = .ok (.iload_n 1, 1) := by decide +kernel
theorem dX2_changes_72 : decode cX2_changes 72 = .ok (.iadd, 1) := by decide +kernel
theorem dX2_changes_73 : decode cX2_changes 73 = .ok (.aload_n 0, 1) := by decide +kernel
theorem dX2_changes_74 : decode cX2_changes 74 = .ok (.getfield 7, 3) := by decide +kernel
theorem dX2_changes_77 : decode cX2_changes 77 = .ok (.iload_n 1, 1) := by decide +kernel
theorem dX2_changes_78 : decode cX2_changes 78 = .ok (.iaload, 1) := by decide +kernel
theorem dX2_changes_79 : decode cX2_changes 79 = .ok (.iastore, 1) := by decide +kernel
theorem dX2_changes_80 : decode cX2_changes 80 = .ok (.iinc 1 1, 3) := by decide +kernel
theorem dX2_changes_83 : decode cX2_changes 83 = .ok (.goto (-31), 3) := by decide +kernel
theorem dX2_changes_86 : decode cX2_changes 86 = .ok (.aload_n 0, 1) := by decide +kernel
theorem dX2_changes_87 : decode cX2_changes 87 = .ok (.dup, 1) := by decide +kernel
theorem dX2_changes_88 : decode cX2_changes 88 = .ok (.getfield 37, 3) := by decide +kernel
theorem dX2_changes_91 : decode cX2_changes 91 = .ok (.iconst 1, 1) := by decide +kernel
theorem dX2_changes_92 : decode cX2_changes 92 = .ok (.iadd, 1) := by decide +kernel
theorem dX2_changes_93 : decode cX2_changes 93 = .ok (.putfield 37, 3) := by decide +kernel
theorem dX2_changes_96 : decode cX2_changes 96 = .ok (.return_, 1) := by decide +kernel
theorem dX2_keeps_0 : decode cX2_keeps 0 = .ok (.iconst 0, 1) := by decide +kernel
theorem dX2_keeps_1 : decode cX2_keeps 1 = .ok (.istore_n 1, 1) := by decide +kernel
theorem dX2_keeps_2 : decode cX2_keeps 2 = .ok (.iload_n 1, 1) := by decide +kernel
theorem dX2_keeps_3 : decode cX2_keeps 3 = .ok (.sipush 322, 3) := by decide +kernel
theorem dX2_keeps_6 : decode cX2_keeps 6 = .ok (.if_icmp .ge 21, 3) := by decide +kernel
theorem dX2_keeps_9 : decode cX2_keeps 9 = .ok (.aload_n 0, 1) := by decide +kernel
theorem dX2_keeps_10 : decode cX2_keeps 10 = .ok (.getfield 13, 3) := by decide +kernel
theorem dX2_keeps_13 : decode cX2_keeps 13 = .ok (.iload_n 1, 1) := by decide +kernel
theorem dX2_keeps_14 : decode cX2_keeps 14 = .ok (.aload_n 0, 1) := by decide +kernel
theorem dX2_keeps_15 : decode cX2_keeps 15 = .ok (.getfield 7, 3) := by decide +kernel
theorem dX2_keeps_18 : decode cX2_keeps 18 = .ok (.iload_n 1, 1) := by decide +kernel
theorem dX2_keeps_19 : decode cX2_keeps 19 = .ok (.iaload, 1) := by decide +kernel
theorem dX2_keeps_20 : decode cX2_keeps 20 = .ok (.iastore, 1) := by decide +kernel
theorem dX2_keeps_21 : decode cX2_keeps 21 = .ok (.iinc 1 1, 3) := by decide +kernel
theorem dX2_keeps_24 : decode cX2_keeps 24 = .ok (.goto (-22), 3) := by decide +kernel
theorem dX2_keeps_27 : decode cX2_keeps 27 = .ok (.return_, 1) := by decide +kernel
theorem dX2_comesBack_0 : decode cX2_comesBack 0 = .ok (.iconst 0, 1) := by decide +kernel
theorem dX2_comesBack_1 : decode cX2_comesBack 1 = .ok (.istore_n 1, 1) := by decide +kernel
theorem dX2_comesBack_2 : decode cX2_comesBack 2 = .ok (.iload_n 1, 1) := by decide +kernel
theorem dX2_comesBack_3 : decode cX2_comesBack 3 = .ok (.sipush 322, 3) := by decide +kernel
theorem dX2_comesBack_6 : decode cX2_comesBack 6 = .ok (.if_icmp .ge 21, 3) := by decide +kernel
theorem dX2_comesBack_9 : decode cX2_comesBack 9 = .ok (.aload_n 0, 1) := by decide +kernel
theorem dX2_comesBack_10 : decode cX2_comesBack 10 = .ok (.getfield 7, 3) := by decide +kernel
theorem dX2_comesBack_13 : decode cX2_comesBack 13 = .ok (.iload_n 1, 1) := by decide +kernel
theorem dX2_comesBack_14 : decode cX2_comesBack 14 = .ok (.aload_n 0, 1) := by decide +kernel
theorem dX2_comesBack_15 : decode cX2_comesBack 15 = .ok (.getfield 13, 3) := by decide +kernel
theorem dX2_comesBack_18 : decode cX2_comesBack 18 = .ok (.iload_n 1, 1) := by decide +kernel
theorem dX2_comesBack_19 : decode cX2_comesBack 19 = .ok (.iaload, 1) := by decide +kernel
theorem dX2_comesBack_20 : decode cX2_comesBack 20 = .ok (.iastore, 1) := by decide +kernel
theorem dX2_comesBack_21 : decode cX2_comesBack 21 = .ok (.iinc 1 1, 3) := by decide +kernel
theorem dX2_comesBack_24 : decode cX2_comesBack 24 = .ok (.goto (-22), 3) := by decide +kernel
theorem dX2_comesBack_27 : decode cX2_comesBack 27 = .ok (.return_, 1) := by decide +kernel
set_option maxRecDepth 20000 in
theorem ggX2_isName_X2_in : GoodIn wsX2_isName wsX2_in := goodIn_r _ [5] (by decide +kernel) (by decide +kernel)
set_option maxRecDepth 20000 in
theorem gX2_isName_X2_in : GoodIn wsX2_isName (va_wsS RX2 41 yX2_in wsX2_in) := goodIn_app (goodIn_of _ (by decide +kernel)) ggX2_isName_X2_in
theorem dX2_isName_0 : decode cX2_isName 0 = .ok (.iload_n 1, 1) := by decide +kernel
theorem dX2_isName_1 : decode cX2_isName 1 = .ok (.i2l, 1) := by decide +kernel
theorem dX2_isName_2 : decode cX2_isName 2 = .ok (.lconst 0, 1) := by decide +kernel
theorem dX2_isName_3 : decode cX2_isName 3 = .ok (.aload_n 0, 1) := by decide +kernel
theorem dX2_isName_4 : decode cX2_isName 4 = .ok (.getfield 7, 3) := by decide +kernel
theorem dX2_isName_7 : decode cX2_isName 7 = .ok (.iconst 5, 1) := by decide +kernel
theorem dX2_isName_8 : decode cX2_isName 8 = .ok (.iaload, 1) := by decide +kernel
theorem dX2_isName_9 : decode cX2_isName 9 = .ok (.i2l, 1) := by decide +kernel
theorem dX2_isName_10 : decode cX2_isName 10 = .ok (.lconst 1, 1) := by decide +kernel
theorem dX2_isName_11 : decode cX2_isName 11 = .ok (.lsub, 1) := by decide +kernel
theorem dX2_isName_12 : decode cX2_isName 12 = .ok (.invokestatic 41, 3) := by decide +kernel
theorem dX2_isName_15 : decode cX2_isName 15 = .ok (.ireturn, 1) := by decide +kernel
set_option maxRecDepth 20000 in
theorem ggX2_isCorner_X2_in : GoodIn wsX2_isCorner wsX2_in := goodIn_r _ [5] (by decide +kernel) (by decide +kernel)
set_option maxRecDepth 20000 in
theorem gX2_isCorner_X2_in : GoodIn wsX2_isCorner (va_wsS RX2 41 yX2_in wsX2_in) := goodIn_app (goodIn_of _ (by decide +kernel)) ggX2_isCorner_X2_in
theorem dX2_isCorner_0 : decode cX2_isCorner 0 = .ok (.iload_n 0, 1) := by decide +kernel
theorem dX2_isCorner_1 : decode cX2_isCorner 1 = .ok (.i2l, 1) := by decide +kernel
theorem dX2_isCorner_2 : decode cX2_isCorner 2 = .ok (.lconst 0, 1) := by decide +kernel
theorem dX2_isCorner_3 : decode cX2_isCorner 3 = .ok (.ldc2_w 45, 3) := by decide +kernel
theorem dX2_isCorner_6 : decode cX2_isCorner 6 = .ok (.invokestatic 41, 3) := by decide +kernel
theorem dX2_isCorner_9 : decode cX2_isCorner 9 = .ok (.ireturn, 1) := by decide +kernel
theorem dX2_get_0 : decode cX2_get 0 = .ok (.aload_n 0, 1) := by decide +kernel
theorem dX2_get_1 : decode cX2_get 1 = .ok (.getfield 7, 3) := by decide +kernel
theorem dX2_get_4 : decode cX2_get 4 = .ok (.bipush 9, 2) := by decide +kernel
theorem dX2_get_6 : decode cX2_get 6 = .ok (.bipush 12, 2) := by decide +kernel
theorem dX2_get_8 : decode cX2_get 8 = .ok (.iload_n 1, 1) := by decide +kernel
theorem dX2_get_9 : decode cX2_get 9 = .ok (.imul, 1) := by decide +kernel
theorem dX2_get_10 : decode cX2_get 10 = .ok (.iadd, 1) := by decide +kernel
theorem dX2_get_11 : decode cX2_get 11 = .ok (.iload_n 2, 1) := by decide +kernel
theorem dX2_get_12 : decode cX2_get 12 = .ok (.iadd, 1) := by decide +kernel
theorem dX2_get_13 : decode cX2_get 13 = .ok (.iaload, 1) := by decide +kernel
theorem dX2_get_14 : decode cX2_get 14 = .ok (.ireturn, 1) := by decide +kernel
theorem dX2_lays_0 : decode cX2_lays 0 = .ok (.aload_n 0, 1) := by decide +kernel
theorem dX2_lays_1 : decode cX2_lays 1 = .ok (.getfield 7, 3) := by decide +kernel
theorem dX2_lays_4 : decode cX2_lays 4 = .ok (.bipush 9, 2) := by decide +kernel
theorem dX2_lays_6 : decode cX2_lays 6 = .ok (.bipush 12, 2) := by decide +kernel
theorem dX2_lays_8 : decode cX2_lays 8 = .ok (.iload_n 1, 1) := by decide +kernel
theorem dX2_lays_9 : decode cX2_lays 9 = .ok (.imul, 1) := by decide +kernel
theorem dX2_lays_10 : decode cX2_lays 10 = .ok (.iadd, 1) := by decide +kernel
theorem dX2_lays_11 : decode cX2_lays 11 = .ok (.iload_n 2, 1) := by decide +kernel
theorem dX2_lays_12 : decode cX2_lays 12 = .ok (.iadd, 1) := by decide +kernel
theorem dX2_lays_13 : decode cX2_lays 13 = .ok (.iload_n 3, 1) := by decide +kernel
theorem dX2_lays_14 : decode cX2_lays 14 = .ok (.iastore, 1) := by decide +kernel
theorem dX2_lays_15 : decode cX2_lays 15 = .ok (.return_, 1) := by decide +kernel
theorem dX2_sign_0 : decode cX2_sign 0 = .ok (.iload_n 0, 1) := by decide +kernel
theorem dX2_sign_1 : decode cX2_sign 1 = .ok (.tableswitch 131 97 121 #[126, 115, 131, 117, 126, 119, 131, 129, 126, 131, 131, 121, 123, 123, 126, 115, 131, 121, 131, 117, 126, 119, 119, 131, 129], 115) := by decide +kernel
theorem dX2_sign_116 : decode cX2_sign 116 = .ok (.iconst 1, 1) := by decide +kernel
theorem dX2_sign_117 : decode cX2_sign 117 = .ok (.ireturn, 1) := by decide +kernel
theorem dX2_sign_118 : decode cX2_sign 118 = .ok (.iconst 3, 1) := by decide +kernel
theorem dX2_sign_119 : decode cX2_sign 119 = .ok (.ireturn, 1) := by decide +kernel
theorem dX2_sign_120 : decode cX2_sign 120 = .ok (.iconst 4, 1) := by decide +kernel
theorem dX2_sign_121 : decode cX2_sign 121 = .ok (.ireturn, 1) := by decide +kernel
theorem dX2_sign_122 : decode cX2_sign 122 = .ok (.iconst 5, 1) := by decide +kernel
theorem dX2_sign_123 : decode cX2_sign 123 = .ok (.ireturn, 1) := by decide +kernel
theorem dX2_sign_124 : decode cX2_sign 124 = .ok (.bipush 6, 2) := by decide +kernel
theorem dX2_sign_126 : decode cX2_sign 126 = .ok (.ireturn, 1) := by decide +kernel
theorem dX2_sign_127 : decode cX2_sign 127 = .ok (.bipush 7, 2) := by decide +kernel
theorem dX2_sign_129 : decode cX2_sign 129 = .ok (.ireturn, 1) := by decide +kernel
theorem dX2_sign_130 : decode cX2_sign 130 = .ok (.iconst 0, 1) := by decide +kernel
theorem dX2_sign_131 : decode cX2_sign 131 = .ok (.ireturn, 1) := by decide +kernel
theorem dX2_sign_132 : decode cX2_sign 132 = .ok (.iconst 2, 1) := by decide +kernel
theorem dX2_sign_133 : decode cX2_sign 133 = .ok (.ireturn, 1) := by decide +kernel
theorem dX2_bearers_0 : decode cX2_bearers 0 = .ok (.iconst 0, 1) := by decide +kernel
theorem dX2_bearers_1 : decode cX2_bearers 1 = .ok (.istore_n 2, 1) := by decide +kernel
theorem dX2_bearers_2 : decode cX2_bearers 2 = .ok (.iconst 0, 1) := by decide +kernel
theorem dX2_bearers_3 : decode cX2_bearers 3 = .ok (.istore_n 3, 1) := by decide +kernel
theorem dX2_bearers_4 : decode cX2_bearers 4 = .ok (.iload_n 3, 1) := by decide +kernel
theorem dX2_bearers_5 : decode cX2_bearers 5 = .ok (.bipush 12, 2) := by decide +kernel
theorem dX2_bearers_7 : decode cX2_bearers 7 = .ok (.if_icmp .ge 33, 3) := by decide +kernel
theorem dX2_bearers_10 : decode cX2_bearers 10 = .ok (.iload_n 2, 1) := by decide +kernel
theorem dX2_bearers_11 : decode cX2_bearers 11 = .ok (.aload_n 0, 1) := by decide +kernel
theorem dX2_bearers_12 : decode cX2_bearers 12 = .ok (.getfield 7, 3) := by decide +kernel
theorem dX2_bearers_15 : decode cX2_bearers 15 = .ok (.sipush 249, 3) := by decide +kernel
theorem dX2_bearers_18 : decode cX2_bearers 18 = .ok (.iload_n 3, 1) := by decide +kernel
theorem dX2_bearers_19 : decode cX2_bearers 19 = .ok (.iadd, 1) := by decide +kernel
theorem dX2_bearers_20 : decode cX2_bearers 20 = .ok (.iaload, 1) := by decide +kernel
theorem dX2_bearers_21 : decode cX2_bearers 21 = .ok (.iload_n 1, 1) := by decide +kernel
theorem dX2_bearers_22 : decode cX2_bearers 22 = .ok (.if_icmp .ne 9, 3) := by decide +kernel
theorem dX2_bearers_25 : decode cX2_bearers 25 = .ok (.iconst 1, 1) := by decide +kernel
theorem dX2_bearers_26 : decode cX2_bearers 26 = .ok (.iload_n 3, 1) := by decide +kernel
theorem dX2_bearers_27 : decode cX2_bearers 27 = .ok (.ishl, 1) := by decide +kernel
theorem dX2_bearers_28 : decode cX2_bearers 28 = .ok (.goto 4, 3) := by decide +kernel
theorem dX2_bearers_31 : decode cX2_bearers 31 = .ok (.iconst 0, 1) := by decide +kernel
theorem dX2_bearers_32 : decode cX2_bearers 32 = .ok (.ior, 1) := by decide +kernel
theorem dX2_bearers_33 : decode cX2_bearers 33 = .ok (.istore_n 2, 1) := by decide +kernel
theorem dX2_bearers_34 : decode cX2_bearers 34 = .ok (.iinc 3 1, 3) := by decide +kernel
theorem dX2_bearers_37 : decode cX2_bearers 37 = .ok (.goto (-33), 3) := by decide +kernel
theorem dX2_bearers_40 : decode cX2_bearers 40 = .ok (.iload_n 2, 1) := by decide +kernel
theorem dX2_bearers_41 : decode cX2_bearers 41 = .ok (.ireturn, 1) := by decide +kernel
theorem dX2_bits_0 : decode cX2_bits 0 = .ok (.iconst 0, 1) := by decide +kernel
theorem dX2_bits_1 : decode cX2_bits 1 = .ok (.istore_n 1, 1) := by decide +kernel
theorem dX2_bits_2 : decode cX2_bits 2 = .ok (.iconst 0, 1) := by decide +kernel
theorem dX2_bits_3 : decode cX2_bits 3 = .ok (.istore_n 2, 1) := by decide +kernel
theorem dX2_bits_4 : decode cX2_bits 4 = .ok (.iload_n 2, 1) := by decide +kernel
theorem dX2_bits_5 : decode cX2_bits 5 = .ok (.bipush 12, 2) := by decide +kernel
theorem dX2_bits_7 : decode cX2_bits 7 = .ok (.if_icmp .ge 17, 3) := by decide +kernel
theorem dX2_bits_10 : decode cX2_bits 10 = .ok (.iload_n 1, 1) := by decide +kernel
theorem dX2_bits_11 : decode cX2_bits 11 = .ok (.iload_n 0, 1) := by decide +kernel
theorem dX2_bits_12 : decode cX2_bits 12 = .ok (.iload_n 2, 1) := by decide +kernel
theorem dX2_bits_13 : decode cX2_bits 13 = .ok (.ishr, 1) := by decide +kernel
theorem dX2_bits_14 : decode cX2_bits 14 = .ok (.iconst 1, 1) := by decide +kernel
theorem dX2_bits_15 : decode cX2_bits 15 = .ok (.iand, 1) := by decide +kernel
theorem dX2_bits_16 : decode cX2_bits 16 = .ok (.iadd, 1) := by decide +kernel
theorem dX2_bits_17 : decode cX2_bits 17 = .ok (.istore_n 1, 1) := by decide +kernel
theorem dX2_bits_18 : decode cX2_bits 18 = .ok (.iinc 2 1, 3) := by decide +kernel
theorem dX2_bits_21 : decode cX2_bits 21 = .ok (.goto (-17), 3) := by decide +kernel
theorem dX2_bits_24 : decode cX2_bits 24 = .ok (.iload_n 1, 1) := by decide +kernel
theorem dX2_bits_25 : decode cX2_bits 25 = .ok (.ireturn, 1) := by decide +kernel
set_option maxRecDepth 20000 in
theorem ggX2_whereIs_X2_get : GoodIn wsX2_whereIs wsX2_get := goodIn_r _ [5, 6, 11, 12, 13, 14, 15, 16, 17, 18, 19, 20, 21, 22, 23] (by decide +kernel) (by decide +kernel)
set_option maxRecDepth 20000 in
theorem gX2_whereIs_X2_get : GoodIn wsX2_whereIs (wsV RX2 47 RX2 yX2_get wsX2_get) := goodIn_app (goodIn_of _ (by decide +kernel)) ggX2_whereIs_X2_get
set_option maxRecDepth 20000 in
theorem ggX2_whereIs_X2_bearers : GoodIn wsX2_whereIs wsX2_bearers := goodIn_r _ [10, 6, 11, 12, 13, 14, 15, 16, 17, 18, 19, 20, 21, 22, 23] (by decide +kernel) (by decide +kernel)
set_option maxRecDepth 20000 in
theorem gX2_whereIs_X2_bearers : GoodIn wsX2_whereIs (wsV RX2 51 RX2 yX2_bearers wsX2_bearers) := goodIn_app (goodIn_of _ (by decide +kernel)) ggX2_whereIs_X2_bearers
theorem dX2_whereIs_0 : decode cX2_whereIs 0 = .ok (.aload_n 0, 1) := by decide +kernel
theorem dX2_whereIs_1 : decode cX2_whereIs 1 = .ok (.iload_n 1, 1) := by decide +kernel
theorem dX2_whereIs_2 : decode cX2_whereIs 2 = .ok (.iconst 1, 1) := by decide +kernel
theorem dX2_whereIs_3 : decode cX2_whereIs 3 = .ok (.invokevirtual 47, 3) := by decide +kernel
theorem dX2_whereIs_6 : decode cX2_whereIs 6 = .ok (.iconst 1, 1) := by decide +kernel
theorem dX2_whereIs_7 : decode cX2_whereIs 7 = .ok (.if_icmp .ne 7, 3) := by decide +kernel
theorem dX2_whereIs_10 : decode cX2_whereIs 10 = .ok (.iconst 2, 1) := by decide +kernel
theorem dX2_whereIs_11 : decode cX2_whereIs 11 = .ok (.goto 16, 3) := by decide +kernel
theorem dX2_whereIs_14 : decode cX2_whereIs 14 = .ok (.aload_n 0, 1) := by decide +kernel
theorem dX2_whereIs_15 : decode cX2_whereIs 15 = .ok (.iload_n 1, 1) := by decide +kernel
theorem dX2_whereIs_16 : decode cX2_whereIs 16 = .ok (.invokevirtual 51, 3) := by decide +kernel
theorem dX2_whereIs_19 : decode cX2_whereIs 19 = .ok (.ifCond .eq 7, 3) := by decide +kernel
theorem dX2_whereIs_22 : decode cX2_whereIs 22 = .ok (.iconst 1, 1) := by decide +kernel
theorem dX2_whereIs_23 : decode cX2_whereIs 23 = .ok (.goto 4, 3) := by decide +kernel
theorem dX2_whereIs_26 : decode cX2_whereIs 26 = .ok (.iconst 0, 1) := by decide +kernel
theorem dX2_whereIs_27 : decode cX2_whereIs 27 = .ok (.ireturn, 1) := by decide +kernel
set_option maxRecDepth 20000 in
theorem ggX2_soundAlike_X2_get : GoodIn wsX2_soundAlike wsX2_get := goodIn_r _ [5, 6, 7, 8, 9, 10, 11, 12, 13, 14, 15, 16, 17, 18, 19] (by decide +kernel) (by decide +kernel)
set_option maxRecDepth 20000 in
theorem gX2_soundAlike_X2_get : GoodIn wsX2_soundAlike (wsV RX2 47 RX2 yX2_get wsX2_get) := goodIn_app (goodIn_of _ (by decide +kernel)) ggX2_soundAlike_X2_get
theorem dX2_soundAlike_0 : decode cX2_soundAlike 0 = .ok (.aload_n 0, 1) := by decide +kernel
theorem dX2_soundAlike_1 : decode cX2_soundAlike 1 = .ok (.iload_n 1, 1) := by decide +kernel
theorem dX2_soundAlike_2 : decode cX2_soundAlike 2 = .ok (.iconst 4, 1) := by decide +kernel
theorem dX2_soundAlike_3 : decode cX2_soundAlike 3 = .ok (.invokevirtual 47, 3) := by decide +kernel
theorem dX2_soundAlike_6 : decode cX2_soundAlike 6 = .ok (.aload_n 0, 1) := by decide +kernel
theorem dX2_soundAlike_7 : decode cX2_soundAlike 7 = .ok (.iload_n 2, 1) := by decide +kernel
theorem dX2_soundAlike_8 : decode cX2_soundAlike 8 = .ok (.iconst 4, 1) := by decide +kernel
theorem dX2_soundAlike_9 : decode cX2_soundAlike 9 = .ok (.invokevirtual 47, 3) := by decide +kernel
theorem dX2_soundAlike_12 : decode cX2_soundAlike 12 = .ok (.if_icmp .ne 7, 3) := by decide +kernel
theorem dX2_soundAlike_15 : decode cX2_soundAlike 15 = .ok (.iconst 1, 1) := by decide +kernel
theorem dX2_soundAlike_16 : decode cX2_soundAlike 16 = .ok (.goto 4, 3) := by decide +kernel
theorem dX2_soundAlike_19 : decode cX2_soundAlike 19 = .ok (.iconst 0, 1) := by decide +kernel
theorem dX2_soundAlike_20 : decode cX2_soundAlike 20 = .ok (.ireturn, 1) := by decide +kernel
set_option maxRecDepth 20000 in
theorem ggX2_comesFirst_X2_get : GoodIn wsX2_comesFirst wsX2_get := goodIn_r _ [5, 6, 7, 8, 9, 10, 11, 12, 13, 14, 15, 16, 17, 18, 19] (by decide +kernel) (by decide +kernel)
set_option maxRecDepth 20000 in
theorem gX2_comesFirst_X2_get : GoodIn wsX2_comesFirst (wsV RX2 47 RX2 yX2_get wsX2_get) := goodIn_app (goodIn_of _ (by decide +kernel)) ggX2_comesFirst_X2_get
theorem dX2_comesFirst_0 : decode cX2_comesFirst 0 = .ok (.aload_n 0, 1) := by decide +kernel
theorem dX2_comesFirst_1 : decode cX2_comesFirst 1 = .ok (.iload_n 1, 1) := by decide +kernel
theorem dX2_comesFirst_2 : decode cX2_comesFirst 2 = .ok (.iconst 0, 1) := by decide +kernel
theorem dX2_comesFirst_3 : decode cX2_comesFirst 3 = .ok (.invokevirtual 47, 3) := by decide +kernel
theorem dX2_comesFirst_6 : decode cX2_comesFirst 6 = .ok (.aload_n 0, 1) := by decide +kernel
theorem dX2_comesFirst_7 : decode cX2_comesFirst 7 = .ok (.iload_n 2, 1) := by decide +kernel
theorem dX2_comesFirst_8 : decode cX2_comesFirst 8 = .ok (.iconst 0, 1) := by decide +kernel
theorem dX2_comesFirst_9 : decode cX2_comesFirst 9 = .ok (.invokevirtual 47, 3) := by decide +kernel
theorem dX2_comesFirst_12 : decode cX2_comesFirst 12 = .ok (.if_icmp .gt 23, 3) := by decide +kernel
theorem dX2_comesFirst_15 : decode cX2_comesFirst 15 = .ok (.aload_n 0, 1) := by decide +kernel
theorem dX2_comesFirst_16 : decode cX2_comesFirst 16 = .ok (.iload_n 1, 1) := by decide +kernel
theorem dX2_comesFirst_17 : decode cX2_comesFirst 17 = .ok (.iconst 0, 1) := by decide +kernel
theorem dX2_comesFirst_18 : decode cX2_comesFirst 18 = .ok (.invokevirtual 47, 3) := by decide +kernel
theorem dX2_comesFirst_21 : decode cX2_comesFirst 21 = .ok (.aload_n 0, 1) := by decide +kernel
theorem dX2_comesFirst_22 : decode cX2_comesFirst 22 = .ok (.iload_n 2, 1) := by decide +kernel
theorem dX2_comesFirst_23 : decode cX2_comesFirst 23 = .ok (.iconst 0, 1) := by decide +kernel
theorem dX2_comesFirst_24 : decode cX2_comesFirst 24 = .ok (.invokevirtual 47, 3) := by decide +kernel
theorem dX2_comesFirst_27 : decode cX2_comesFirst 27 = .ok (.if_icmp .ne 12, 3) := by decide +kernel
theorem dX2_comesFirst_30 : decode cX2_comesFirst 30 = .ok (.iload_n 1, 1) := by decide +kernel
theorem dX2_comesFirst_31 : decode cX2_comesFirst 31 = .ok (.iload_n 2, 1) := by decide +kernel
theorem dX2_comesFirst_32 : decode cX2_comesFirst 32 = .ok (.if_icmp .ge 7, 3) := by decide +kernel
theorem dX2_comesFirst_35 : decode cX2_comesFirst 35 = .ok (.iconst 1, 1) := by decide +kernel
theorem dX2_comesFirst_36 : decode cX2_comesFirst 36 = .ok (.goto 4, 3) := by decide +kernel
theorem dX2_comesFirst_39 : decode cX2_comesFirst 39 = .ok (.iconst 0, 1) := by decide +kernel
theorem dX2_comesFirst_40 : decode cX2_comesFirst 40 = .ok (.ireturn, 1) := by decide +kernel
set_option maxRecDepth 20000 in
theorem ggX2_isPun_X2_soundAlike : GoodIn wsX2_isPun wsX2_soundAlike := goodIn_r _ [6, 7, 8, 9, 5, 10, 1, 11, 12, 13, 14, 15, 16, 17, 18, 19, 20, 21, 22, 23] (by decide +kernel) (by decide +kernel)
set_option maxRecDepth 20000 in
theorem gX2_isPun_X2_soundAlike : GoodIn wsX2_isPun (wsV RX2 55 RX2 yX2_soundAlike wsX2_soundAlike) := goodIn_app (goodIn_of _ (by decide +kernel)) ggX2_isPun_X2_soundAlike
theorem dX2_isPun_0 : decode cX2_isPun 0 = .ok (.iconst 0, 1) := by decide +kernel
theorem dX2_isPun_1 : decode cX2_isPun 1 = .ok (.istore_n 3, 1) := by decide +kernel
theorem dX2_isPun_2 : decode cX2_isPun 2 = .ok (.iconst 0, 1) := by decide +kernel
theorem dX2_isPun_3 : decode cX2_isPun 3 = .ok (.istore 4, 2) := by decide +kernel
theorem dX2_isPun_5 : decode cX2_isPun 5 = .ok (.iload 4, 2) := by decide +kernel
theorem dX2_isPun_7 : decode cX2_isPun 7 = .ok (.bipush 12, 2) := by decide +kernel
theorem dX2_isPun_9 : decode cX2_isPun 9 = .ok (.if_icmp .ge 87, 3) := by decide +kernel
theorem dX2_isPun_12 : decode cX2_isPun 12 = .ok (.aload_n 0, 1) := by decide +kernel
theorem dX2_isPun_13 : decode cX2_isPun 13 = .ok (.getfield 7, 3) := by decide +kernel
theorem dX2_isPun_16 : decode cX2_isPun 16 = .ok (.sipush 249, 3) := by decide +kernel
theorem dX2_isPun_19 : decode cX2_isPun 19 = .ok (.iload 4, 2) := by decide +kernel
theorem dX2_isPun_21 : decode cX2_isPun 21 = .ok (.iadd, 1) := by decide +kernel
theorem dX2_isPun_22 : decode cX2_isPun 22 = .ok (.iaload, 1) := by decide +kernel
theorem dX2_isPun_23 : decode cX2_isPun 23 = .ok (.istore 5, 2) := by decide +kernel
theorem dX2_isPun_25 : decode cX2_isPun 25 = .ok (.iload_n 3, 1) := by decide +kernel
theorem dX2_isPun_26 : decode cX2_isPun 26 = .ok (.ifCond .ne 58, 3) := by decide +kernel
theorem dX2_isPun_29 : decode cX2_isPun 29 = .ok (.iload 4, 2) := by decide +kernel
theorem dX2_isPun_31 : decode cX2_isPun 31 = .ok (.iload_n 2, 1) := by decide +kernel
theorem dX2_isPun_32 : decode cX2_isPun 32 = .ok (.if_icmp .eq 56, 3) := by decide +kernel
theorem dX2_isPun_35 : decode cX2_isPun 35 = .ok (.iload 4, 2) := by decide +kernel
theorem dX2_isPun_37 : decode cX2_isPun 37 = .ok (.iload_n 2, 1) := by decide +kernel
theorem dX2_isPun_38 : decode cX2_isPun 38 = .ok (.isub, 1) := by decide +kernel
theorem dX2_isPun_39 : decode cX2_isPun 39 = .ok (.aload_n 0, 1) := by decide +kernel
theorem dX2_isPun_40 : decode cX2_isPun 40 = .ok (.getfield 7, 3) := by decide +kernel
theorem dX2_isPun_43 : decode cX2_isPun 43 = .ok (.iconst 0, 1) := by decide +kernel
theorem dX2_isPun_44 : decode cX2_isPun 44 = .ok (.iaload, 1) := by decide +kernel
theorem dX2_isPun_45 : decode cX2_isPun 45 = .ok (.if_icmp .gt 43, 3) := by decide +kernel
theorem dX2_isPun_48 : decode cX2_isPun 48 = .ok (.iload_n 2, 1) := by decide +kernel
theorem dX2_isPun_49 : decode cX2_isPun 49 = .ok (.iload 4, 2) := by decide +kernel
theorem dX2_isPun_51 : decode cX2_isPun 51 = .ok (.isub, 1) := by decide +kernel
theorem dX2_isPun_52 : decode cX2_isPun 52 = .ok (.aload_n 0, 1) := by decide +kernel
theorem dX2_isPun_53 : decode cX2_isPun 53 = .ok (.getfield 7, 3) := by decide +kernel
theorem dX2_isPun_56 : decode cX2_isPun 56 = .ok (.iconst 0, 1) := by decide +kernel
theorem dX2_isPun_57 : decode cX2_isPun 57 = .ok (.iaload, 1) := by decide +kernel
theorem dX2_isPun_58 : decode cX2_isPun 58 = .ok (.if_icmp .gt 30, 3) := by decide +kernel
theorem dX2_isPun_61 : decode cX2_isPun 61 = .ok (.iload 5, 2) := by decide +kernel
theorem dX2_isPun_63 : decode cX2_isPun 63 = .ok (.bipush (-6), 2) := by decide +kernel
theorem dX2_isPun_65 : decode cX2_isPun 65 = .ok (.if_icmp .eq 23, 3) := by decide +kernel
theorem dX2_isPun_68 : decode cX2_isPun 68 = .ok (.iload 5, 2) := by decide +kernel
theorem dX2_isPun_70 : decode cX2_isPun 70 = .ok (.iload_n 1, 1) := by decide +kernel
theorem dX2_isPun_71 : decode cX2_isPun 71 = .ok (.if_icmp .eq 17, 3) := by decide +kernel
theorem dX2_isPun_74 : decode cX2_isPun 74 = .ok (.aload_n 0, 1) := by decide +kernel
theorem dX2_isPun_75 : decode cX2_isPun 75 = .ok (.iload 5, 2) := by decide +kernel
theorem dX2_isPun_77 : decode cX2_isPun 77 = .ok (.iload_n 1, 1) := by decide +kernel
theorem dX2_isPun_78 : decode cX2_isPun 78 = .ok (.invokevirtual 55, 3) := by decide +kernel
theorem dX2_isPun_81 : decode cX2_isPun 81 = .ok (.ifCond .eq 7, 3) := by decide +kernel
theorem dX2_isPun_84 : decode cX2_isPun 84 = .ok (.iconst 1, 1) := by decide +kernel
theorem dX2_isPun_85 : decode cX2_isPun 85 = .ok (.goto 4, 3) := by decide +kernel
theorem dX2_isPun_88 : decode cX2_isPun 88 = .ok (.iconst 0, 1) := by decide +kernel
theorem dX2_isPun_89 : decode cX2_isPun 89 = .ok (.istore_n 3, 1) := by decide +kernel
theorem dX2_isPun_90 : decode cX2_isPun 90 = .ok (.iinc 4 1, 3) := by decide +kernel
theorem dX2_isPun_93 : decode cX2_isPun 93 = .ok (.goto (-88), 3) := by decide +kernel
theorem dX2_isPun_96 : decode cX2_isPun 96 = .ok (.iload_n 3, 1) := by decide +kernel
theorem dX2_isPun_97 : decode cX2_isPun 97 = .ok (.ireturn, 1) := by decide +kernel
set_option maxRecDepth 20000 in
theorem ggX2_reason_X2_get : GoodIn wsX2_reason wsX2_get := goodIn_r _ [6, 1, 22, 23, 24, 25, 26, 27, 28, 29, 30, 31, 32, 33, 34] (by decide +kernel) (by decide +kernel)
set_option maxRecDepth 20000 in
theorem gX2_reason_X2_get : GoodIn wsX2_reason (wsV RX2 47 RX2 yX2_get wsX2_get) := goodIn_app (goodIn_of _ (by decide +kernel)) ggX2_reason_X2_get
set_option maxRecDepth 20000 in
theorem ggX2_reason_X2_bearers : GoodIn wsX2_reason wsX2_bearers := goodIn_r _ [10, 1, 22, 23, 24, 25, 26, 27, 28, 29, 30, 31, 32, 33, 34] (by decide +kernel) (by decide +kernel)
set_option maxRecDepth 20000 in
theorem gX2_reason_X2_bearers : GoodIn wsX2_reason (wsV RX2 51 RX2 yX2_bearers wsX2_bearers) := goodIn_app (goodIn_of _ (by decide +kernel)) ggX2_reason_X2_bearers
set_option maxRecDepth 20000 in
theorem ggX2_reason_X2_bits : GoodIn wsX2_reason wsX2_bits := goodIn_r _ [13] (by decide +kernel) (by decide +kernel)
set_option maxRecDepth 20000 in
theorem gX2_reason_X2_bits : GoodIn wsX2_reason (va_wsS RX2 59 yX2_bits wsX2_bits) := goodIn_app (goodIn_of _ (by decide +kernel)) ggX2_reason_X2_bits
set_option maxRecDepth 20000 in
theorem ggX2_reason_X2_isPun : GoodIn wsX2_reason wsX2_isPun := goodIn_r _ [17, 1, 18, 19, 20, 5, 21, 2, 3, 4, 6, 22, 23, 24, 25, 26, 27, 28, 29, 30, 31, 32, 33, 34] (by decide +kernel) (by decide +kernel)
set_option maxRecDepth 20000 in
theorem gX2_reason_X2_isPun : GoodIn wsX2_reason (wsV RX2 62 RX2 yX2_isPun wsX2_isPun) := goodIn_app (goodIn_of _ (by decide +kernel)) ggX2_reason_X2_isPun
theorem dX2_reason_0 : decode cX2_reason 0 = .ok (.aload_n 0, 1) := by decide +kernel
theorem dX2_reason_1 : decode cX2_reason 1 = .ok (.getfield 7, 3) := by decide +kernel
theorem dX2_reason_4 : decode cX2_reason 4 = .ok (.sipush 249, 3) := by decide +kernel
theorem dX2_reason_7 : decode cX2_reason 7 = .ok (.iload_n 2, 1) := by decide +kernel
theorem dX2_reason_8 : decode cX2_reason 8 = .ok (.iadd, 1) := by decide +kernel
theorem dX2_reason_9 : decode cX2_reason 9 = .ok (.iaload, 1) := by decide +kernel
theorem dX2_reason_10 : decode cX2_reason 10 = .ok (.istore_n 3, 1) := by decide +kernel
theorem dX2_reason_11 : decode cX2_reason 11 = .ok (.aload_n 0, 1) := by decide +kernel
theorem dX2_reason_12 : decode cX2_reason 12 = .ok (.iload_n 1, 1) := by decide +kernel
theorem dX2_reason_13 : decode cX2_reason 13 = .ok (.iconst 1, 1) := by decide +kernel
theorem dX2_reason_14 : decode cX2_reason 14 = .ok (.invokevirtual 47, 3) := by decide +kernel
theorem dX2_reason_17 : decode cX2_reason 17 = .ok (.iconst 1, 1) := by decide +kernel
theorem dX2_reason_18 : decode cX2_reason 18 = .ok (.if_icmp .ne 5, 3) := by decide +kernel
theorem dX2_reason_21 : decode cX2_reason 21 = .ok (.iconst 1, 1) := by decide +kernel
theorem dX2_reason_22 : decode cX2_reason 22 = .ok (.ireturn, 1) := by decide +kernel
theorem dX2_reason_23 : decode cX2_reason 23 = .ok (.iload_n 3, 1) := by decide +kernel
theorem dX2_reason_24 : decode cX2_reason 24 = .ok (.iload_n 1, 1) := by decide +kernel
theorem dX2_reason_25 : decode cX2_reason 25 = .ok (.if_icmp .ne 5, 3) := by decide +kernel
theorem dX2_reason_28 : decode cX2_reason 28 = .ok (.iconst 2, 1) := by decide +kernel
theorem dX2_reason_29 : decode cX2_reason 29 = .ok (.ireturn, 1) := by decide +kernel
theorem dX2_reason_30 : decode cX2_reason 30 = .ok (.aload_n 0, 1) := by decide +kernel
theorem dX2_reason_31 : decode cX2_reason 31 = .ok (.iload_n 1, 1) := by decide +kernel
theorem dX2_reason_32 : decode cX2_reason 32 = .ok (.invokevirtual 51, 3) := by decide +kernel
theorem dX2_reason_35 : decode cX2_reason 35 = .ok (.invokestatic 59, 3) := by decide +kernel
theorem dX2_reason_38 : decode cX2_reason 38 = .ok (.aload_n 0, 1) := by decide +kernel
theorem dX2_reason_39 : decode cX2_reason 39 = .ok (.getfield 7, 3) := by decide +kernel
theorem dX2_reason_42 : decode cX2_reason 42 = .ok (.iconst 1, 1) := by decide +kernel
theorem dX2_reason_43 : decode cX2_reason 43 = .ok (.iaload, 1) := by decide +kernel
theorem dX2_reason_44 : decode cX2_reason 44 = .ok (.if_icmp .lt 5, 3) := by decide +kernel
theorem dX2_reason_47 : decode cX2_reason 47 = .ok (.iconst 3, 1) := by decide +kernel
theorem dX2_reason_48 : decode cX2_reason 48 = .ok (.ireturn, 1) := by decide +kernel
theorem dX2_reason_49 : decode cX2_reason 49 = .ok (.aload_n 0, 1) := by decide +kernel
theorem dX2_reason_50 : decode cX2_reason 50 = .ok (.iload_n 1, 1) := by decide +kernel
theorem dX2_reason_51 : decode cX2_reason 51 = .ok (.iload_n 2, 1) := by decide +kernel
theorem dX2_reason_52 : decode cX2_reason 52 = .ok (.invokevirtual 62, 3) := by decide +kernel
theorem dX2_reason_55 : decode cX2_reason 55 = .ok (.ifCond .eq 5, 3) := by decide +kernel
theorem dX2_reason_58 : decode cX2_reason 58 = .ok (.iconst 4, 1) := by decide +kernel
theorem dX2_reason_59 : decode cX2_reason 59 = .ok (.ireturn, 1) := by decide +kernel
theorem dX2_reason_60 : decode cX2_reason 60 = .ok (.iload_n 3, 1) := by decide +kernel
theorem dX2_reason_61 : decode cX2_reason 61 = .ok (.bipush (-6), 2) := by decide +kernel
theorem dX2_reason_63 : decode cX2_reason 63 = .ok (.if_icmp .ne 5, 3) := by decide +kernel
theorem dX2_reason_66 : decode cX2_reason 66 = .ok (.iconst 0, 1) := by decide +kernel
theorem dX2_reason_67 : decode cX2_reason 67 = .ok (.ireturn, 1) := by decide +kernel
theorem dX2_reason_68 : decode cX2_reason 68 = .ok (.aload_n 0, 1) := by decide +kernel
theorem dX2_reason_69 : decode cX2_reason 69 = .ok (.iload_n 3, 1) := by decide +kernel
theorem dX2_reason_70 : decode cX2_reason 70 = .ok (.iconst 0, 1) := by decide +kernel
theorem dX2_reason_71 : decode cX2_reason 71 = .ok (.invokevirtual 47, 3) := by decide +kernel
theorem dX2_reason_74 : decode cX2_reason 74 = .ok (.aload_n 0, 1) := by decide +kernel
theorem dX2_reason_75 : decode cX2_reason 75 = .ok (.iload_n 1, 1) := by decide +kernel
theorem dX2_reason_76 : decode cX2_reason 76 = .ok (.iconst 0, 1) := by decide +kernel
theorem dX2_reason_77 : decode cX2_reason 77 = .ok (.invokevirtual 47, 3) := by decide +kernel
theorem dX2_reason_80 : decode cX2_reason 80 = .ok (.if_icmp .le 7, 3) := by decide +kernel
theorem dX2_reason_83 : decode cX2_reason 83 = .ok (.iconst 5, 1) := by decide +kernel
theorem dX2_reason_84 : decode cX2_reason 84 = .ok (.goto 35, 3) := by decide +kernel
theorem dX2_reason_87 : decode cX2_reason 87 = .ok (.aload_n 0, 1) := by decide +kernel
theorem dX2_reason_88 : decode cX2_reason 88 = .ok (.getfield 7, 3) := by decide +kernel
theorem dX2_reason_91 : decode cX2_reason 91 = .ok (.iconst 4, 1) := by decide +kernel
theorem dX2_reason_92 : decode cX2_reason 92 = .ok (.iaload, 1) := by decide +kernel
theorem dX2_reason_93 : decode cX2_reason 93 = .ok (.aload_n 0, 1) := by decide +kernel
theorem dX2_reason_94 : decode cX2_reason 94 = .ok (.getfield 7, 3) := by decide +kernel
theorem dX2_reason_97 : decode cX2_reason 97 = .ok (.sipush 285, 3) := by decide +kernel
theorem dX2_reason_100 : decode cX2_reason 100 = .ok (.iload_n 2, 1) := by decide +kernel
theorem dX2_reason_101 : decode cX2_reason 101 = .ok (.iadd, 1) := by decide +kernel
theorem dX2_reason_102 : decode cX2_reason 102 = .ok (.iaload, 1) := by decide +kernel
theorem dX2_reason_103 : decode cX2_reason 103 = .ok (.isub, 1) := by decide +kernel
theorem dX2_reason_104 : decode cX2_reason 104 = .ok (.aload_n 0, 1) := by decide +kernel
theorem dX2_reason_105 : decode cX2_reason 105 = .ok (.getfield 7, 3) := by decide +kernel
theorem dX2_reason_108 : decode cX2_reason 108 = .ok (.iconst 3, 1) := by decide +kernel
theorem dX2_reason_109 : decode cX2_reason 109 = .ok (.iaload, 1) := by decide +kernel
theorem dX2_reason_110 : decode cX2_reason 110 = .ok (.if_icmp .ge 8, 3) := by decide +kernel
theorem dX2_reason_113 : decode cX2_reason 113 = .ok (.bipush 6, 2) := by decide +kernel
theorem dX2_reason_115 : decode cX2_reason 115 = .ok (.goto 4, 3) := by decide +kernel
theorem dX2_reason_118 : decode cX2_reason 118 = .ok (.iconst 0, 1) := by decide +kernel
theorem dX2_reason_119 : decode cX2_reason 119 = .ok (.ireturn, 1) := by decide +kernel
set_option maxRecDepth 20000 in
theorem ggX2_gives_X2_get : GoodIn wsX2_gives wsX2_get := goodIn_r _ [6, 1, 11, 12, 13, 14, 15, 16, 17, 18, 19, 20, 21, 22, 23] (by decide +kernel) (by decide +kernel)
set_option maxRecDepth 20000 in
theorem gX2_gives_X2_get : GoodIn wsX2_gives (wsV RX2 47 RX2 yX2_get wsX2_get) := goodIn_app (goodIn_of _ (by decide +kernel)) ggX2_gives_X2_get
set_option maxRecDepth 20000 in
theorem ggX2_gives_X2_lays : GoodIn wsX2_gives wsX2_lays := goodIn_r _ [10, 1, 11, 12, 13, 14, 15, 16, 17, 18, 19, 20, 21, 22, 23] (by decide +kernel) (by decide +kernel)
set_option maxRecDepth 20000 in
theorem gX2_gives_X2_lays : GoodIn wsX2_gives (wsV RX2 65 RX2 yX2_lays wsX2_lays) := goodIn_app (goodIn_of _ (by decide +kernel)) ggX2_gives_X2_lays
theorem dX2_gives_0 : decode cX2_gives 0 = .ok (.aload_n 0, 1) := by decide +kernel
theorem dX2_gives_1 : decode cX2_gives 1 = .ok (.getfield 7, 3) := by decide +kernel
theorem dX2_gives_4 : decode cX2_gives 4 = .ok (.sipush 249, 3) := by decide +kernel
theorem dX2_gives_7 : decode cX2_gives 7 = .ok (.iload_n 2, 1) := by decide +kernel
theorem dX2_gives_8 : decode cX2_gives 8 = .ok (.iadd, 1) := by decide +kernel
theorem dX2_gives_9 : decode cX2_gives 9 = .ok (.iload_n 1, 1) := by decide +kernel
theorem dX2_gives_10 : decode cX2_gives 10 = .ok (.iastore, 1) := by decide +kernel
theorem dX2_gives_11 : decode cX2_gives 11 = .ok (.aload_n 0, 1) := by decide +kernel
theorem dX2_gives_12 : decode cX2_gives 12 = .ok (.getfield 7, 3) := by decide +kernel
theorem dX2_gives_15 : decode cX2_gives 15 = .ok (.sipush 285, 3) := by decide +kernel
theorem dX2_gives_18 : decode cX2_gives 18 = .ok (.iload_n 2, 1) := by decide +kernel
theorem dX2_gives_19 : decode cX2_gives 19 = .ok (.iadd, 1) := by decide +kernel
theorem dX2_gives_20 : decode cX2_gives 20 = .ok (.aload_n 0, 1) := by decide +kernel
theorem dX2_gives_21 : decode cX2_gives 21 = .ok (.getfield 7, 3) := by decide +kernel
theorem dX2_gives_24 : decode cX2_gives 24 = .ok (.iconst 4, 1) := by decide +kernel
theorem dX2_gives_25 : decode cX2_gives 25 = .ok (.iaload, 1) := by decide +kernel
theorem dX2_gives_26 : decode cX2_gives 26 = .ok (.iastore, 1) := by decide +kernel
theorem dX2_gives_27 : decode cX2_gives 27 = .ok (.aload_n 0, 1) := by decide +kernel
theorem dX2_gives_28 : decode cX2_gives 28 = .ok (.getfield 7, 3) := by decide +kernel
theorem dX2_gives_31 : decode cX2_gives 31 = .ok (.sipush 297, 3) := by decide +kernel
theorem dX2_gives_34 : decode cX2_gives 34 = .ok (.iload_n 2, 1) := by decide +kernel
theorem dX2_gives_35 : decode cX2_gives 35 = .ok (.iadd, 1) := by decide +kernel
theorem dX2_gives_36 : decode cX2_gives 36 = .ok (.dup2, 1) := by decide +kernel
theorem dX2_gives_37 : decode cX2_gives 37 = .ok (.iaload, 1) := by decide +kernel
theorem dX2_gives_38 : decode cX2_gives 38 = .ok (.iconst 1, 1) := by decide +kernel
theorem dX2_gives_39 : decode cX2_gives 39 = .ok (.iadd, 1) := by decide +kernel
theorem dX2_gives_40 : decode cX2_gives 40 = .ok (.iastore, 1) := by decide +kernel
theorem dX2_gives_41 : decode cX2_gives 41 = .ok (.aload_n 0, 1) := by decide +kernel
theorem dX2_gives_42 : decode cX2_gives 42 = .ok (.getfield 7, 3) := by decide +kernel
theorem dX2_gives_45 : decode cX2_gives 45 = .ok (.sipush 261, 3) := by decide +kernel
theorem dX2_gives_48 : decode cX2_gives 48 = .ok (.iload_n 2, 1) := by decide +kernel
theorem dX2_gives_49 : decode cX2_gives 49 = .ok (.iadd, 1) := by decide +kernel
theorem dX2_gives_50 : decode cX2_gives 50 = .ok (.dup2, 1) := by decide +kernel
theorem dX2_gives_51 : decode cX2_gives 51 = .ok (.iaload, 1) := by decide +kernel
theorem dX2_gives_52 : decode cX2_gives 52 = .ok (.iconst 2, 1) := by decide +kernel
theorem dX2_gives_53 : decode cX2_gives 53 = .ok (.iadd, 1) := by decide +kernel
theorem dX2_gives_54 : decode cX2_gives 54 = .ok (.iastore, 1) := by decide +kernel
theorem dX2_gives_55 : decode cX2_gives 55 = .ok (.iload_n 2, 1) := by decide +kernel
theorem dX2_gives_56 : decode cX2_gives 56 = .ok (.ifCond .le 19, 3) := by decide +kernel
theorem dX2_gives_59 : decode cX2_gives 59 = .ok (.aload_n 0, 1) := by decide +kernel
theorem dX2_gives_60 : decode cX2_gives 60 = .ok (.getfield 7, 3) := by decide +kernel
theorem dX2_gives_63 : decode cX2_gives 63 = .ok (.sipush 261, 3) := by decide +kernel
theorem dX2_gives_66 : decode cX2_gives 66 = .ok (.iload_n 2, 1) := by decide +kernel
theorem dX2_gives_67 : decode cX2_gives 67 = .ok (.iadd, 1) := by decide +kernel
theorem dX2_gives_68 : decode cX2_gives 68 = .ok (.iconst 1, 1) := by decide +kernel
theorem dX2_gives_69 : decode cX2_gives 69 = .ok (.isub, 1) := by decide +kernel
theorem dX2_gives_70 : decode cX2_gives 70 = .ok (.dup2, 1) := by decide +kernel
theorem dX2_gives_71 : decode cX2_gives 71 = .ok (.iaload, 1) := by decide +kernel
theorem dX2_gives_72 : decode cX2_gives 72 = .ok (.iconst 1, 1) := by decide +kernel
theorem dX2_gives_73 : decode cX2_gives 73 = .ok (.iadd, 1) := by decide +kernel
theorem dX2_gives_74 : decode cX2_gives 74 = .ok (.iastore, 1) := by decide +kernel
theorem dX2_gives_75 : decode cX2_gives 75 = .ok (.iload_n 2, 1) := by decide +kernel
theorem dX2_gives_76 : decode cX2_gives 76 = .ok (.bipush 11, 2) := by decide +kernel
theorem dX2_gives_78 : decode cX2_gives 78 = .ok (.if_icmp .ge 19, 3) := by decide +kernel
theorem dX2_gives_81 : decode cX2_gives 81 = .ok (.aload_n 0, 1) := by decide +kernel
theorem dX2_gives_82 : decode cX2_gives 82 = .ok (.getfield 7, 3) := by decide +kernel
theorem dX2_gives_85 : decode cX2_gives 85 = .ok (.sipush 261, 3) := by decide +kernel
theorem dX2_gives_88 : decode cX2_gives 88 = .ok (.iload_n 2, 1) := by decide +kernel
theorem dX2_gives_89 : decode cX2_gives 89 = .ok (.iadd, 1) := by decide +kernel
theorem dX2_gives_90 : decode cX2_gives 90 = .ok (.iconst 1, 1) := by decide +kernel
theorem dX2_gives_91 : decode cX2_gives 91 = .ok (.iadd, 1) := by decide +kernel
theorem dX2_gives_92 : decode cX2_gives 92 = .ok (.dup2, 1) := by decide +kernel
theorem dX2_gives_93 : decode cX2_gives 93 = .ok (.iaload, 1) := by decide +kernel
theorem dX2_gives_94 : decode cX2_gives 94 = .ok (.iconst 1, 1) := by decide +kernel
theorem dX2_gives_95 : decode cX2_gives 95 = .ok (.iadd, 1) := by decide +kernel
theorem dX2_gives_96 : decode cX2_gives 96 = .ok (.iastore, 1) := by decide +kernel
theorem dX2_gives_97 : decode cX2_gives 97 = .ok (.aload_n 0, 1) := by decide +kernel
theorem dX2_gives_98 : decode cX2_gives 98 = .ok (.iload_n 1, 1) := by decide +kernel
theorem dX2_gives_99 : decode cX2_gives 99 = .ok (.iconst 2, 1) := by decide +kernel
theorem dX2_gives_100 : decode cX2_gives 100 = .ok (.aload_n 0, 1) := by decide +kernel
theorem dX2_gives_101 : decode cX2_gives 101 = .ok (.iload_n 1, 1) := by decide +kernel
theorem dX2_gives_102 : decode cX2_gives 102 = .ok (.iconst 2, 1) := by decide +kernel
theorem dX2_gives_103 : decode cX2_gives 103 = .ok (.invokevirtual 47, 3) := by decide +kernel
theorem dX2_gives_106 : decode cX2_gives 106 = .ok (.iconst 1, 1) := by decide +kernel
theorem dX2_gives_107 : decode cX2_gives 107 = .ok (.iadd, 1) := by decide +kernel
theorem dX2_gives_108 : decode cX2_gives 108 = .ok (.invokevirtual 65, 3) := by decide +kernel
theorem dX2_gives_111 : decode cX2_gives 111 = .ok (.aload_n 0, 1) := by decide +kernel
theorem dX2_gives_112 : decode cX2_gives 112 = .ok (.getfield 7, 3) := by decide +kernel
theorem dX2_gives_115 : decode cX2_gives 115 = .ok (.bipush 8, 2) := by decide +kernel
theorem dX2_gives_117 : decode cX2_gives 117 = .ok (.dup2, 1) := by decide +kernel
theorem dX2_gives_118 : decode cX2_gives 118 = .ok (.iaload, 1) := by decide +kernel
theorem dX2_gives_119 : decode cX2_gives 119 = .ok (.iconst 1, 1) := by decide +kernel
theorem dX2_gives_120 : decode cX2_gives 120 = .ok (.iadd, 1) := by decide +kernel
theorem dX2_gives_121 : decode cX2_gives 121 = .ok (.iastore, 1) := by decide +kernel
theorem dX2_gives_122 : decode cX2_gives 122 = .ok (.return_, 1) := by decide +kernel
theorem dX2_takesAway_0 : decode cX2_takesAway 0 = .ok (.aload_n 0, 1) := by decide +kernel
theorem dX2_takesAway_1 : decode cX2_takesAway 1 = .ok (.getfield 7, 3) := by decide +kernel
theorem dX2_takesAway_4 : decode cX2_takesAway 4 = .ok (.sipush 249, 3) := by decide +kernel
theorem dX2_takesAway_7 : decode cX2_takesAway 7 = .ok (.iload_n 1, 1) := by decide +kernel
theorem dX2_takesAway_8 : decode cX2_takesAway 8 = .ok (.iadd, 1) := by decide +kernel
theorem dX2_takesAway_9 : decode cX2_takesAway 9 = .ok (.bipush (-6), 2) := by decide +kernel
theorem dX2_takesAway_11 : decode cX2_takesAway 11 = .ok (.iastore, 1) := by decide +kernel
theorem dX2_takesAway_12 : decode cX2_takesAway 12 = .ok (.aload_n 0, 1) := by decide +kernel
theorem dX2_takesAway_13 : decode cX2_takesAway 13 = .ok (.getfield 7, 3) := by decide +kernel
theorem dX2_takesAway_16 : decode cX2_takesAway 16 = .ok (.sipush 285, 3) := by decide +kernel
theorem dX2_takesAway_19 : decode cX2_takesAway 19 = .ok (.iload_n 1, 1) := by decide +kernel
theorem dX2_takesAway_20 : decode cX2_takesAway 20 = .ok (.iadd, 1) := by decide +kernel
theorem dX2_takesAway_21 : decode cX2_takesAway 21 = .ok (.bipush (-6), 2) := by decide +kernel
theorem dX2_takesAway_23 : decode cX2_takesAway 23 = .ok (.iastore, 1) := by decide +kernel
theorem dX2_takesAway_24 : decode cX2_takesAway 24 = .ok (.return_, 1) := by decide +kernel
set_option maxRecDepth 20000 in
theorem ggX2_lowest_X2_reason : GoodIn wsX2_lowest wsX2_reason := goodIn_r _ [5, 6, 7, 8, 9, 4, 10, 11, 12, 13, 14, 15, 16, 17, 18, 19, 20, 21, 22, 23, 24, 25, 26, 27, 28, 29, 30, 31, 32, 33, 34, 35, 36, 37, 38] (by decide +kernel) (by decide +kernel)
set_option maxRecDepth 20000 in
theorem gX2_lowest_X2_reason : GoodIn wsX2_lowest (wsV RX2 69 RX2 yX2_reason wsX2_reason) := goodIn_app (goodIn_of _ (by decide +kernel)) ggX2_lowest_X2_reason
theorem dX2_lowest_0 : decode cX2_lowest 0 = .ok (.iconst 0, 1) := by decide +kernel
theorem dX2_lowest_1 : decode cX2_lowest 1 = .ok (.istore_n 2, 1) := by decide +kernel
theorem dX2_lowest_2 : decode cX2_lowest 2 = .ok (.iload_n 2, 1) := by decide +kernel
theorem dX2_lowest_3 : decode cX2_lowest 3 = .ok (.bipush 12, 2) := by decide +kernel
theorem dX2_lowest_5 : decode cX2_lowest 5 = .ok (.if_icmp .ge 20, 3) := by decide +kernel
theorem dX2_lowest_8 : decode cX2_lowest 8 = .ok (.aload_n 0, 1) := by decide +kernel
theorem dX2_lowest_9 : decode cX2_lowest 9 = .ok (.iload_n 1, 1) := by decide +kernel
theorem dX2_lowest_10 : decode cX2_lowest 10 = .ok (.iload_n 2, 1) := by decide +kernel
theorem dX2_lowest_11 : decode cX2_lowest 11 = .ok (.invokevirtual 69, 3) := by decide +kernel
theorem dX2_lowest_14 : decode cX2_lowest 14 = .ok (.ifCond .ne 5, 3) := by decide +kernel
theorem dX2_lowest_17 : decode cX2_lowest 17 = .ok (.iload_n 2, 1) := by decide +kernel
theorem dX2_lowest_18 : decode cX2_lowest 18 = .ok (.ireturn, 1) := by decide +kernel
theorem dX2_lowest_19 : decode cX2_lowest 19 = .ok (.iinc 2 1, 3) := by decide +kernel
theorem dX2_lowest_22 : decode cX2_lowest 22 = .ok (.goto (-20), 3) := by decide +kernel
theorem dX2_lowest_25 : decode cX2_lowest 25 = .ok (.bipush (-6), 2) := by decide +kernel
theorem dX2_lowest_27 : decode cX2_lowest 27 = .ok (.ireturn, 1) := by decide +kernel
theorem dX2_sum_0 : decode cX2_sum 0 = .ok (.iconst 0, 1) := by decide +kernel
theorem dX2_sum_1 : decode cX2_sum 1 = .ok (.istore_n 2, 1) := by decide +kernel
theorem dX2_sum_2 : decode cX2_sum 2 = .ok (.iconst 0, 1) := by decide +kernel
theorem dX2_sum_3 : decode cX2_sum 3 = .ok (.istore_n 3, 1) := by decide +kernel
theorem dX2_sum_4 : decode cX2_sum 4 = .ok (.iload_n 3, 1) := by decide +kernel
theorem dX2_sum_5 : decode cX2_sum 5 = .ok (.bipush 12, 2) := by decide +kernel
theorem dX2_sum_7 : decode cX2_sum 7 = .ok (.if_icmp .ge 20, 3) := by decide +kernel
theorem dX2_sum_10 : decode cX2_sum 10 = .ok (.iload_n 2, 1) := by decide +kernel
theorem dX2_sum_11 : decode cX2_sum 11 = .ok (.aload_n 0, 1) := by decide +kernel
theorem dX2_sum_12 : decode cX2_sum 12 = .ok (.getfield 7, 3) := by decide +kernel
theorem dX2_sum_15 : decode cX2_sum 15 = .ok (.iload_n 1, 1) := by decide +kernel
theorem dX2_sum_16 : decode cX2_sum 16 = .ok (.iload_n 3, 1) := by decide +kernel
theorem dX2_sum_17 : decode cX2_sum 17 = .ok (.iadd, 1) := by decide +kernel
theorem dX2_sum_18 : decode cX2_sum 18 = .ok (.iaload, 1) := by decide +kernel
theorem dX2_sum_19 : decode cX2_sum 19 = .ok (.iadd, 1) := by decide +kernel
theorem dX2_sum_20 : decode cX2_sum 20 = .ok (.istore_n 2, 1) := by decide +kernel
theorem dX2_sum_21 : decode cX2_sum 21 = .ok (.iinc 3 1, 3) := by decide +kernel
theorem dX2_sum_24 : decode cX2_sum 24 = .ok (.goto (-20), 3) := by decide +kernel
theorem dX2_sum_27 : decode cX2_sum 27 = .ok (.iload_n 2, 1) := by decide +kernel
theorem dX2_sum_28 : decode cX2_sum 28 = .ok (.ireturn, 1) := by decide +kernel
set_option maxRecDepth 20000 in
theorem ggX2_nextGiven_X2_whereIs : GoodIn wsX2_nextGiven wsX2_whereIs := goodIn_r _ [6, 7, 8, 9, 5, 10, 1, 11, 12, 13, 14, 38, 39, 40, 41, 42, 43, 44, 45, 46, 47, 48, 49, 50] (by decide +kernel) (by decide +kernel)
set_option maxRecDepth 20000 in
theorem gX2_nextGiven_X2_whereIs : GoodIn wsX2_nextGiven (wsV RX2 72 RX2 yX2_whereIs wsX2_whereIs) := goodIn_app (goodIn_of _ (by decide +kernel)) ggX2_nextGiven_X2_whereIs
set_option maxRecDepth 20000 in
theorem ggX2_nextGiven_X2_comesFirst : GoodIn wsX2_nextGiven wsX2_comesFirst := goodIn_r _ [18, 7, 8, 9, 5, 10, 1, 38, 39, 40, 41, 42, 43, 44, 45, 46, 47, 48, 49, 50] (by decide +kernel) (by decide +kernel)
set_option maxRecDepth 20000 in
theorem gX2_nextGiven_X2_comesFirst : GoodIn wsX2_nextGiven (wsV RX2 75 RX2 yX2_comesFirst wsX2_comesFirst) := goodIn_app (goodIn_of _ (by decide +kernel)) ggX2_nextGiven_X2_comesFirst
set_option maxRecDepth 20000 in
theorem ggX2_nextGiven_X2_lowest : GoodIn wsX2_nextGiven wsX2_lowest := goodIn_r _ [22, 23, 24, 25, 5, 26, 1, 7, 8, 9, 10, 11, 12, 13, 14, 27, 28, 29, 30, 31, 32, 33, 34, 35, 36, 37, 38, 39, 40, 41, 42, 43, 44, 45, 46, 47, 48, 49, 50] (by decide +kernel) (by decide +kernel)
set_option maxRecDepth 20000 in
theorem gX2_nextGiven_X2_lowest : GoodIn wsX2_nextGiven (wsV RX2 78 RX2 yX2_lowest wsX2_lowest) := goodIn_app (goodIn_of _ (by decide +kernel)) ggX2_nextGiven_X2_lowest
theorem dX2_nextGiven_0 : decode cX2_nextGiven 0 = .ok (.bipush (-6), 2) := by decide +kernel
theorem dX2_nextGiven_2 : decode cX2_nextGiven 2 = .ok (.istore_n 1, 1) := by decide +kernel
theorem dX2_nextGiven_3 : decode cX2_nextGiven 3 = .ok (.iconst 0, 1) := by decide +kernel
theorem dX2_nextGiven_4 : decode cX2_nextGiven 4 = .ok (.istore_n 2, 1) := by decide +kernel
theorem dX2_nextGiven_5 : decode cX2_nextGiven 5 = .ok (.iload_n 2, 1) := by decide +kernel
theorem dX2_nextGiven_6 : decode cX2_nextGiven 6 = .ok (.aload_n 0, 1) := by decide +kernel
theorem dX2_nextGiven_7 : decode cX2_nextGiven 7 = .ok (.getfield 7, 3) := by decide +kernel
theorem dX2_nextGiven_10 : decode cX2_nextGiven 10 = .ok (.iconst 5, 1) := by decide +kernel
theorem dX2_nextGiven_11 : decode cX2_nextGiven 11 = .ok (.iaload, 1) := by decide +kernel
theorem dX2_nextGiven_12 : decode cX2_nextGiven 12 = .ok (.if_icmp .ge 58, 3) := by decide +kernel
theorem dX2_nextGiven_15 : decode cX2_nextGiven 15 = .ok (.aload_n 0, 1) := by decide +kernel
theorem dX2_nextGiven_16 : decode cX2_nextGiven 16 = .ok (.iload_n 2, 1) := by decide +kernel
theorem dX2_nextGiven_17 : decode cX2_nextGiven 17 = .ok (.invokevirtual 72, 3) := by decide +kernel
theorem dX2_nextGiven_20 : decode cX2_nextGiven 20 = .ok (.ifCond .ne 32, 3) := by decide +kernel
theorem dX2_nextGiven_23 : decode cX2_nextGiven 23 = .ok (.iload_n 1, 1) := by decide +kernel
theorem dX2_nextGiven_24 : decode cX2_nextGiven 24 = .ok (.bipush (-6), 2) := by decide +kernel
theorem dX2_nextGiven_26 : decode cX2_nextGiven 26 = .ok (.if_icmp .eq 12, 3) := by decide +kernel
theorem dX2_nextGiven_29 : decode cX2_nextGiven 29 = .ok (.aload_n 0, 1) := by decide +kernel
theorem dX2_nextGiven_30 : decode cX2_nextGiven 30 = .ok (.iload_n 2, 1) := by decide +kernel
theorem dX2_nextGiven_31 : decode cX2_nextGiven 31 = .ok (.iload_n 1, 1) := by decide +kernel
theorem dX2_nextGiven_32 : decode cX2_nextGiven 32 = .ok (.invokevirtual 75, 3) := by decide +kernel
theorem dX2_nextGiven_35 : decode cX2_nextGiven 35 = .ok (.ifCond .eq 17, 3) := by decide +kernel
theorem dX2_nextGiven_38 : decode cX2_nextGiven 38 = .ok (.aload_n 0, 1) := by decide +kernel
theorem dX2_nextGiven_39 : decode cX2_nextGiven 39 = .ok (.iload_n 2, 1) := by decide +kernel
theorem dX2_nextGiven_40 : decode cX2_nextGiven 40 = .ok (.invokevirtual 78, 3) := by decide +kernel
theorem dX2_nextGiven_43 : decode cX2_nextGiven 43 = .ok (.bipush (-6), 2) := by decide +kernel
theorem dX2_nextGiven_45 : decode cX2_nextGiven 45 = .ok (.if_icmp .eq 7, 3) := by decide +kernel
theorem dX2_nextGiven_48 : decode cX2_nextGiven 48 = .ok (.iconst 1, 1) := by decide +kernel
theorem dX2_nextGiven_49 : decode cX2_nextGiven 49 = .ok (.goto 4, 3) := by decide +kernel
theorem dX2_nextGiven_52 : decode cX2_nextGiven 52 = .ok (.iconst 0, 1) := by decide +kernel
theorem dX2_nextGiven_53 : decode cX2_nextGiven 53 = .ok (.istore_n 3, 1) := by decide +kernel
theorem dX2_nextGiven_54 : decode cX2_nextGiven 54 = .ok (.iload_n 3, 1) := by decide +kernel
theorem dX2_nextGiven_55 : decode cX2_nextGiven 55 = .ok (.ifCond .eq 7, 3) := by decide +kernel
theorem dX2_nextGiven_58 : decode cX2_nextGiven 58 = .ok (.iload_n 2, 1) := by decide +kernel
theorem dX2_nextGiven_59 : decode cX2_nextGiven 59 = .ok (.goto 4, 3) := by decide +kernel
theorem dX2_nextGiven_62 : decode cX2_nextGiven 62 = .ok (.iload_n 1, 1) := by decide +kernel
theorem dX2_nextGiven_63 : decode cX2_nextGiven 63 = .ok (.istore_n 1, 1) := by decide +kernel
theorem dX2_nextGiven_64 : decode cX2_nextGiven 64 = .ok (.iinc 2 1, 3) := by decide +kernel
theorem dX2_nextGiven_67 : decode cX2_nextGiven 67 = .ok (.goto (-62), 3) := by decide +kernel
theorem dX2_nextGiven_70 : decode cX2_nextGiven 70 = .ok (.iload_n 1, 1) := by decide +kernel
theorem dX2_nextGiven_71 : decode cX2_nextGiven 71 = .ok (.ireturn, 1) := by decide +kernel
theorem dX2_setsUp_0 : decode cX2_setsUp 0 = .ok (.iconst 0, 1) := by decide +kernel
theorem dX2_setsUp_1 : decode cX2_setsUp 1 = .ok (.istore_n 1, 1) := by decide +kernel
theorem dX2_setsUp_2 : decode cX2_setsUp 2 = .ok (.iconst 1, 1) := by decide +kernel
theorem dX2_setsUp_3 : decode cX2_setsUp 3 = .ok (.istore_n 2, 1) := by decide +kernel
theorem dX2_setsUp_4 : decode cX2_setsUp 4 = .ok (.iload_n 2, 1) := by decide +kernel
theorem dX2_setsUp_5 : decode cX2_setsUp 5 = .ok (.bipush 12, 2) := by decide +kernel
theorem dX2_setsUp_7 : decode cX2_setsUp 7 = .ok (.if_icmp .ge 38, 3) := by decide +kernel
theorem dX2_setsUp_10 : decode cX2_setsUp 10 = .ok (.aload_n 0, 1) := by decide +kernel
theorem dX2_setsUp_11 : decode cX2_setsUp 11 = .ok (.getfield 7, 3) := by decide +kernel
theorem dX2_setsUp_14 : decode cX2_setsUp 14 = .ok (.sipush 261, 3) := by decide +kernel
theorem dX2_setsUp_17 : decode cX2_setsUp 17 = .ok (.iload_n 2, 1) := by decide +kernel
theorem dX2_setsUp_18 : decode cX2_setsUp 18 = .ok (.iadd, 1) := by decide +kernel
theorem dX2_setsUp_19 : decode cX2_setsUp 19 = .ok (.iaload, 1) := by decide +kernel
theorem dX2_setsUp_20 : decode cX2_setsUp 20 = .ok (.aload_n 0, 1) := by decide +kernel
theorem dX2_setsUp_21 : decode cX2_setsUp 21 = .ok (.getfield 7, 3) := by decide +kernel
theorem dX2_setsUp_24 : decode cX2_setsUp 24 = .ok (.sipush 261, 3) := by decide +kernel
theorem dX2_setsUp_27 : decode cX2_setsUp 27 = .ok (.iload_n 1, 1) := by decide +kernel
theorem dX2_setsUp_28 : decode cX2_setsUp 28 = .ok (.iadd, 1) := by decide +kernel
theorem dX2_setsUp_29 : decode cX2_setsUp 29 = .ok (.iaload, 1) := by decide +kernel
theorem dX2_setsUp_30 : decode cX2_setsUp 30 = .ok (.if_icmp .le 7, 3) := by decide +kernel
theorem dX2_setsUp_33 : decode cX2_setsUp 33 = .ok (.iload_n 2, 1) := by decide +kernel
theorem dX2_setsUp_34 : decode cX2_setsUp 34 = .ok (.goto 4, 3) := by decide +kernel
theorem dX2_setsUp_37 : decode cX2_setsUp 37 = .ok (.iload_n 1, 1) := by decide +kernel
theorem dX2_setsUp_38 : decode cX2_setsUp 38 = .ok (.istore_n 1, 1) := by decide +kernel
theorem dX2_setsUp_39 : decode cX2_setsUp 39 = .ok (.iinc 2 1, 3) := by decide +kernel
theorem dX2_setsUp_42 : decode cX2_setsUp 42 = .ok (.goto (-38), 3) := by decide +kernel
theorem dX2_setsUp_45 : decode cX2_setsUp 45 = .ok (.aload_n 0, 1) := by decide +kernel
theorem dX2_setsUp_46 : decode cX2_setsUp 46 = .ok (.getfield 7, 3) := by decide +kernel
theorem dX2_setsUp_49 : decode cX2_setsUp 49 = .ok (.sipush 261, 3) := by decide +kernel
theorem dX2_setsUp_52 : decode cX2_setsUp 52 = .ok (.iload_n 1, 1) := by decide +kernel
theorem dX2_setsUp_53 : decode cX2_setsUp 53 = .ok (.iadd, 1) := by decide +kernel
theorem dX2_setsUp_54 : decode cX2_setsUp 54 = .ok (.iaload, 1) := by decide +kernel
theorem dX2_setsUp_55 : decode cX2_setsUp 55 = .ok (.ifCond .le 42, 3) := by decide +kernel
theorem dX2_setsUp_58 : decode cX2_setsUp 58 = .ok (.aload_n 0, 1) := by decide +kernel
theorem dX2_setsUp_59 : decode cX2_setsUp 59 = .ok (.getfield 7, 3) := by decide +kernel
theorem dX2_setsUp_62 : decode cX2_setsUp 62 = .ok (.sipush 261, 3) := by decide +kernel
theorem dX2_setsUp_65 : decode cX2_setsUp 65 = .ok (.iload_n 1, 1) := by decide +kernel
theorem dX2_setsUp_66 : decode cX2_setsUp 66 = .ok (.iadd, 1) := by decide +kernel
theorem dX2_setsUp_67 : decode cX2_setsUp 67 = .ok (.dup2, 1) := by decide +kernel
theorem dX2_setsUp_68 : decode cX2_setsUp 68 = .ok (.iaload, 1) := by decide +kernel
theorem dX2_setsUp_69 : decode cX2_setsUp 69 = .ok (.iconst 1, 1) := by decide +kernel
theorem dX2_setsUp_70 : decode cX2_setsUp 70 = .ok (.isub, 1) := by decide +kernel
theorem dX2_setsUp_71 : decode cX2_setsUp 71 = .ok (.iastore, 1) := by decide +kernel
theorem dX2_setsUp_72 : decode cX2_setsUp 72 = .ok (.aload_n 0, 1) := by decide +kernel
theorem dX2_setsUp_73 : decode cX2_setsUp 73 = .ok (.getfield 7, 3) := by decide +kernel
theorem dX2_setsUp_76 : decode cX2_setsUp 76 = .ok (.sipush 273, 3) := by decide +kernel
theorem dX2_setsUp_79 : decode cX2_setsUp 79 = .ok (.iload_n 1, 1) := by decide +kernel
theorem dX2_setsUp_80 : decode cX2_setsUp 80 = .ok (.iadd, 1) := by decide +kernel
theorem dX2_setsUp_81 : decode cX2_setsUp 81 = .ok (.dup2, 1) := by decide +kernel
theorem dX2_setsUp_82 : decode cX2_setsUp 82 = .ok (.iaload, 1) := by decide +kernel
theorem dX2_setsUp_83 : decode cX2_setsUp 83 = .ok (.iconst 1, 1) := by decide +kernel
theorem dX2_setsUp_84 : decode cX2_setsUp 84 = .ok (.iadd, 1) := by decide +kernel
theorem dX2_setsUp_85 : decode cX2_setsUp 85 = .ok (.iastore, 1) := by decide +kernel
theorem dX2_setsUp_86 : decode cX2_setsUp 86 = .ok (.aload_n 0, 1) := by decide +kernel
theorem dX2_setsUp_87 : decode cX2_setsUp 87 = .ok (.getfield 7, 3) := by decide +kernel
theorem dX2_setsUp_90 : decode cX2_setsUp 90 = .ok (.bipush 7, 2) := by decide +kernel
theorem dX2_setsUp_92 : decode cX2_setsUp 92 = .ok (.dup2, 1) := by decide +kernel
theorem dX2_setsUp_93 : decode cX2_setsUp 93 = .ok (.iaload, 1) := by decide +kernel
theorem dX2_setsUp_94 : decode cX2_setsUp 94 = .ok (.iconst 1, 1) := by decide +kernel
theorem dX2_setsUp_95 : decode cX2_setsUp 95 = .ok (.iadd, 1) := by decide +kernel
theorem dX2_setsUp_96 : decode cX2_setsUp 96 = .ok (.iastore, 1) := by decide +kernel
theorem dX2_setsUp_97 : decode cX2_setsUp 97 = .ok (.return_, 1) := by decide +kernel
set_option maxRecDepth 20000 in
theorem ggX2_day_X2_nextGiven : GoodIn wsX2_day wsX2_nextGiven := goodIn_r _ [6, 1, 7, 8, 9, 5, 10, 11, 12, 13, 14, 15, 16, 17, 18, 19, 20, 21, 22, 23, 24, 25, 26, 27, 28, 29, 30, 31, 32, 33, 34, 35, 36, 37, 38, 39, 40, 41, 54, 55, 56, 57, 58, 59, 60, 61, 62, 63, 64, 65, 66] (by decide +kernel) (by decide +kernel)
set_option maxRecDepth 20000 in
theorem gX2_day_X2_nextGiven : GoodIn wsX2_day (wsV RX2 81 RX2 yX2_nextGiven wsX2_nextGiven) := goodIn_app (goodIn_of _ (by decide +kernel)) ggX2_day_X2_nextGiven
set_option maxRecDepth 20000 in
theorem ggX2_day_X2_lowest : GoodIn wsX2_day wsX2_lowest := goodIn_r _ [26, 27, 28, 29, 5, 30, 1, 11, 12, 13, 14, 15, 16, 17, 18, 31, 32, 33, 34, 35, 36, 37, 38, 39, 40, 41, 54, 55, 56, 57, 58, 59, 60, 61, 62, 63, 64, 65, 66] (by decide +kernel) (by decide +kernel)
set_option maxRecDepth 20000 in
theorem gX2_day_X2_lowest : GoodIn wsX2_day (wsV RX2 78 RX2 yX2_lowest wsX2_lowest) := goodIn_app (goodIn_of _ (by decide +kernel)) ggX2_day_X2_lowest
set_option maxRecDepth 20000 in
theorem ggX2_day_X2_gives : GoodIn wsX2_day wsX2_gives := goodIn_r _ [45, 1, 11, 12, 13, 5, 14, 46, 47, 48, 49, 54, 55, 56, 57, 58, 59, 60, 61, 62, 63, 64, 65, 66] (by decide +kernel) (by decide +kernel)
set_option maxRecDepth 20000 in
theorem gX2_day_X2_gives : GoodIn wsX2_day (wsV RX2 85 RX2 yX2_gives wsX2_gives) := goodIn_app (goodIn_of _ (by decide +kernel)) ggX2_day_X2_gives
set_option maxRecDepth 20000 in
theorem ggX2_day_X2_setsUp : GoodIn wsX2_day wsX2_setsUp := goodIn_r _ [53, 1, 54, 55, 56, 57, 58, 59, 60, 61, 62, 63, 64, 65, 66] (by decide +kernel) (by decide +kernel)
set_option maxRecDepth 20000 in
theorem gX2_day_X2_setsUp : GoodIn wsX2_day (wsV RX2 89 RX2 yX2_setsUp wsX2_setsUp) := goodIn_app (goodIn_of _ (by decide +kernel)) ggX2_day_X2_setsUp
theorem dX2_day_0 : decode cX2_day 0 = .ok (.aload_n 0, 1) := by decide +kernel
theorem dX2_day_1 : decode cX2_day 1 = .ok (.invokevirtual 81, 3) := by decide +kernel
theorem dX2_day_4 : decode cX2_day 4 = .ok (.istore_n 1, 1) := by decide +kernel
theorem dX2_day_5 : decode cX2_day 5 = .ok (.iload_n 1, 1) := by decide +kernel
theorem dX2_day_6 : decode cX2_day 6 = .ok (.bipush (-6), 2) := by decide +kernel
theorem dX2_day_8 : decode cX2_day 8 = .ok (.if_icmp .eq 13, 3) := by decide +kernel
theorem dX2_day_11 : decode cX2_day 11 = .ok (.aload_n 0, 1) := by decide +kernel
theorem dX2_day_12 : decode cX2_day 12 = .ok (.iload_n 1, 1) := by decide +kernel
theorem dX2_day_13 : decode cX2_day 13 = .ok (.aload_n 0, 1) := by decide +kernel
theorem dX2_day_14 : decode cX2_day 14 = .ok (.iload_n 1, 1) := by decide +kernel
theorem dX2_day_15 : decode cX2_day 15 = .ok (.invokevirtual 78, 3) := by decide +kernel
theorem dX2_day_18 : decode cX2_day 18 = .ok (.invokevirtual 85, 3) := by decide +kernel
theorem dX2_day_21 : decode cX2_day 21 = .ok (.iconst 0, 1) := by decide +kernel
theorem dX2_day_22 : decode cX2_day 22 = .ok (.istore_n 2, 1) := by decide +kernel
theorem dX2_day_23 : decode cX2_day 23 = .ok (.iload_n 2, 1) := by decide +kernel
theorem dX2_day_24 : decode cX2_day 24 = .ok (.aload_n 0, 1) := by decide +kernel
theorem dX2_day_25 : decode cX2_day 25 = .ok (.getfield 7, 3) := by decide +kernel
theorem dX2_day_28 : decode cX2_day 28 = .ok (.iconst 2, 1) := by decide +kernel
theorem dX2_day_29 : decode cX2_day 29 = .ok (.iaload, 1) := by decide +kernel
theorem dX2_day_30 : decode cX2_day 30 = .ok (.if_icmp .ge 13, 3) := by decide +kernel
theorem dX2_day_33 : decode cX2_day 33 = .ok (.aload_n 0, 1) := by decide +kernel
theorem dX2_day_34 : decode cX2_day 34 = .ok (.invokevirtual 89, 3) := by decide +kernel
theorem dX2_day_37 : decode cX2_day 37 = .ok (.iinc 2 1, 3) := by decide +kernel
theorem dX2_day_40 : decode cX2_day 40 = .ok (.goto (-17), 3) := by decide +kernel
theorem dX2_day_43 : decode cX2_day 43 = .ok (.aload_n 0, 1) := by decide +kernel
theorem dX2_day_44 : decode cX2_day 44 = .ok (.getfield 7, 3) := by decide +kernel
theorem dX2_day_47 : decode cX2_day 47 = .ok (.iconst 4, 1) := by decide +kernel
theorem dX2_day_48 : decode cX2_day 48 = .ok (.dup2, 1) := by decide +kernel
theorem dX2_day_49 : decode cX2_day 49 = .ok (.iaload, 1) := by decide +kernel
theorem dX2_day_50 : decode cX2_day 50 = .ok (.iconst 1, 1) := by decide +kernel
theorem dX2_day_51 : decode cX2_day 51 = .ok (.iadd, 1) := by decide +kernel
theorem dX2_day_52 : decode cX2_day 52 = .ok (.iastore, 1) := by decide +kernel
theorem dX2_day_53 : decode cX2_day 53 = .ok (.return_, 1) := by decide +kernel
set_option maxRecDepth 20000 in
theorem ggX2_isSetting_X2_in : GoodIn wsX2_isSetting wsX2_in := goodIn_r _ [8] (by decide +kernel) (by decide +kernel)
set_option maxRecDepth 20000 in
theorem gX2_isSetting_X2_in : GoodIn wsX2_isSetting (va_wsS RX2 41 yX2_in wsX2_in) := goodIn_app (goodIn_of _ (by decide +kernel)) ggX2_isSetting_X2_in
theorem dX2_isSetting_0 : decode cX2_isSetting 0 = .ok (.iload_n 0, 1) := by decide +kernel
theorem dX2_isSetting_1 : decode cX2_isSetting 1 = .ok (.tableswitch 71 0 3 #[31, 41, 51, 61], 31) := by decide +kernel
theorem dX2_isSetting_32 : decode cX2_isSetting 32 = .ok (.iload_n 1, 1) := by decide +kernel
theorem dX2_isSetting_33 : decode cX2_isSetting 33 = .ok (.i2l, 1) := by decide +kernel
theorem dX2_isSetting_34 : decode cX2_isSetting 34 = .ok (.lconst 0, 1) := by decide +kernel
theorem dX2_isSetting_35 : decode cX2_isSetting 35 = .ok (.ldc2_w 45, 3) := by decide +kernel
theorem dX2_isSetting_38 : decode cX2_isSetting 38 = .ok (.invokestatic 41, 3) := by decide +kernel
theorem dX2_isSetting_41 : decode cX2_isSetting 41 = .ok (.ireturn, 1) := by decide +kernel
theorem dX2_isSetting_42 : decode cX2_isSetting 42 = .ok (.iload_n 1, 1) := by decide +kernel
theorem dX2_isSetting_43 : decode cX2_isSetting 43 = .ok (.i2l, 1) := by decide +kernel
theorem dX2_isSetting_44 : decode cX2_isSetting 44 = .ok (.lconst 1, 1) := by decide +kernel
theorem dX2_isSetting_45 : decode cX2_isSetting 45 = .ok (.ldc2_w 92, 3) := by decide +kernel
theorem dX2_isSetting_48 : decode cX2_isSetting 48 = .ok (.invokestatic 41, 3) := by decide +kernel
theorem dX2_isSetting_51 : decode cX2_isSetting 51 = .ok (.ireturn, 1) := by decide +kernel
theorem dX2_isSetting_52 : decode cX2_isSetting 52 = .ok (.iload_n 1, 1) := by decide +kernel
theorem dX2_isSetting_53 : decode cX2_isSetting 53 = .ok (.i2l, 1) := by decide +kernel
theorem dX2_isSetting_54 : decode cX2_isSetting 54 = .ok (.lconst 0, 1) := by decide +kernel
theorem dX2_isSetting_55 : decode cX2_isSetting 55 = .ok (.ldc2_w 94, 3) := by decide +kernel
theorem dX2_isSetting_58 : decode cX2_isSetting 58 = .ok (.invokestatic 41, 3) := by decide +kernel
theorem dX2_isSetting_61 : decode cX2_isSetting 61 = .ok (.ireturn, 1) := by decide +kernel
theorem dX2_isSetting_62 : decode cX2_isSetting 62 = .ok (.iload_n 1, 1) := by decide +kernel
theorem dX2_isSetting_63 : decode cX2_isSetting 63 = .ok (.i2l, 1) := by decide +kernel
theorem dX2_isSetting_64 : decode cX2_isSetting 64 = .ok (.lconst 0, 1) := by decide +kernel
theorem dX2_isSetting_65 : decode cX2_isSetting 65 = .ok (.ldc2_w 96, 3) := by decide +kernel
theorem dX2_isSetting_68 : decode cX2_isSetting 68 = .ok (.invokestatic 41, 3) := by decide +kernel
theorem dX2_isSetting_71 : decode cX2_isSetting 71 = .ok (.ireturn, 1) := by decide +kernel
theorem dX2_isSetting_72 : decode cX2_isSetting 72 = .ok (.iconst 0, 1) := by decide +kernel
theorem dX2_isSetting_73 : decode cX2_isSetting 73 = .ok (.ireturn, 1) := by decide +kernel
set_option maxRecDepth 20000 in
theorem ggX2_set_X2_isSetting : GoodIn wsX2_set wsX2_isSetting := goodIn_r _ [5, 6, 7, 8, 9, 10, 11, 4, 12] (by decide +kernel) (by decide +kernel)
set_option maxRecDepth 20000 in
theorem gX2_set_X2_isSetting : GoodIn wsX2_set (va_wsS RX2 98 yX2_isSetting wsX2_isSetting) := goodIn_app (goodIn_of _ (by decide +kernel)) ggX2_set_X2_isSetting
set_option maxRecDepth 20000 in
theorem ggX2_set_X2_changes : GoodIn wsX2_set wsX2_changes := goodIn_r _ [16, 17, 18, 1, 19, 20, 21, 22, 23, 24, 25, 26, 27, 28, 29, 30, 31] (by decide +kernel) (by decide +kernel)
set_option maxRecDepth 20000 in
theorem gX2_set_X2_changes : GoodIn wsX2_set (wsV RX2 101 RX2 yX2_changes wsX2_changes) := goodIn_app (goodIn_of _ (by decide +kernel)) ggX2_set_X2_changes
theorem dX2_set_0 : decode cX2_set 0 = .ok (.iload_n 1, 1) := by decide +kernel
theorem dX2_set_1 : decode cX2_set 1 = .ok (.iload_n 2, 1) := by decide +kernel
theorem dX2_set_2 : decode cX2_set 2 = .ok (.invokestatic 98, 3) := by decide +kernel
theorem dX2_set_5 : decode cX2_set 5 = .ok (.ifCond .ne 6, 3) := by decide +kernel
theorem dX2_set_8 : decode cX2_set 8 = .ok (.bipush (-2), 2) := by decide +kernel
theorem dX2_set_10 : decode cX2_set 10 = .ok (.ireturn, 1) := by decide +kernel
theorem dX2_set_11 : decode cX2_set 11 = .ok (.aload_n 0, 1) := by decide +kernel
theorem dX2_set_12 : decode cX2_set 12 = .ok (.invokevirtual 101, 3) := by decide +kernel
theorem dX2_set_15 : decode cX2_set 15 = .ok (.aload_n 0, 1) := by decide +kernel
theorem dX2_set_16 : decode cX2_set 16 = .ok (.getfield 7, 3) := by decide +kernel
theorem dX2_set_19 : decode cX2_set 19 = .ok (.iload_n 1, 1) := by decide +kernel
theorem dX2_set_20 : decode cX2_set 20 = .ok (.iaload, 1) := by decide +kernel
theorem dX2_set_21 : decode cX2_set 21 = .ok (.istore_n 3, 1) := by decide +kernel
theorem dX2_set_22 : decode cX2_set 22 = .ok (.aload_n 0, 1) := by decide +kernel
theorem dX2_set_23 : decode cX2_set 23 = .ok (.getfield 7, 3) := by decide +kernel
theorem dX2_set_26 : decode cX2_set 26 = .ok (.iload_n 1, 1) := by decide +kernel
theorem dX2_set_27 : decode cX2_set 27 = .ok (.iload_n 2, 1) := by decide +kernel
theorem dX2_set_28 : decode cX2_set 28 = .ok (.iastore, 1) := by decide +kernel
theorem dX2_set_29 : decode cX2_set 29 = .ok (.iload_n 3, 1) := by decide +kernel
theorem dX2_set_30 : decode cX2_set 30 = .ok (.ireturn, 1) := by decide +kernel
set_option maxRecDepth 20000 in
theorem ggX2_honour_X2_isName : GoodIn wsX2_honour wsX2_isName := goodIn_r _ [6, 7, 8, 9, 5, 10, 25, 26, 27, 28, 29, 30, 31, 32, 33, 34, 35, 36, 37] (by decide +kernel) (by decide +kernel)
set_option maxRecDepth 20000 in
theorem gX2_honour_X2_isName : GoodIn wsX2_honour (wsV RX2 104 RX2 yX2_isName wsX2_isName) := goodIn_app (goodIn_of _ (by decide +kernel)) ggX2_honour_X2_isName
set_option maxRecDepth 20000 in
theorem ggX2_honour_X2_in : GoodIn wsX2_honour wsX2_in := goodIn_r _ [10] (by decide +kernel) (by decide +kernel)
set_option maxRecDepth 20000 in
theorem gX2_honour_X2_in : GoodIn wsX2_honour (va_wsS RX2 41 yX2_in wsX2_in) := goodIn_app (goodIn_of _ (by decide +kernel)) ggX2_honour_X2_in
set_option maxRecDepth 20000 in
theorem ggX2_honour_X2_changes : GoodIn wsX2_honour wsX2_changes := goodIn_r _ [14, 15, 16, 7, 25, 26, 27, 28, 29, 30, 31, 32, 33, 34, 35, 36, 37] (by decide +kernel) (by decide +kernel)
set_option maxRecDepth 20000 in
theorem gX2_honour_X2_changes : GoodIn wsX2_honour (wsV RX2 101 RX2 yX2_changes wsX2_changes) := goodIn_app (goodIn_of _ (by decide +kernel)) ggX2_honour_X2_changes
set_option maxRecDepth 20000 in
theorem ggX2_honour_X2_get : GoodIn wsX2_honour wsX2_get := goodIn_r _ [20, 7, 25, 26, 27, 28, 29, 30, 31, 32, 33, 34, 35, 36, 37] (by decide +kernel) (by decide +kernel)
set_option maxRecDepth 20000 in
theorem gX2_honour_X2_get : GoodIn wsX2_honour (wsV RX2 47 RX2 yX2_get wsX2_get) := goodIn_app (goodIn_of _ (by decide +kernel)) ggX2_honour_X2_get
set_option maxRecDepth 20000 in
theorem ggX2_honour_X2_lays : GoodIn wsX2_honour wsX2_lays := goodIn_r _ [24, 7, 25, 26, 27, 28, 29, 30, 31, 32, 33, 34, 35, 36, 37] (by decide +kernel) (by decide +kernel)
set_option maxRecDepth 20000 in
theorem gX2_honour_X2_lays : GoodIn wsX2_honour (wsV RX2 65 RX2 yX2_lays wsX2_lays) := goodIn_app (goodIn_of _ (by decide +kernel)) ggX2_honour_X2_lays
theorem dX2_honour_0 : decode cX2_honour 0 = .ok (.aload_n 0, 1) := by decide +kernel
theorem dX2_honour_1 : decode cX2_honour 1 = .ok (.iload_n 1, 1) := by decide +kernel
theorem dX2_honour_2 : decode cX2_honour 2 = .ok (.invokevirtual 104, 3) := by decide +kernel
theorem dX2_honour_5 : decode cX2_honour 5 = .ok (.ifCond .ne 5, 3) := by decide +kernel
theorem dX2_honour_8 : decode cX2_honour 8 = .ok (.iconst (-1), 1) := by decide +kernel
theorem dX2_honour_9 : decode cX2_honour 9 = .ok (.ireturn, 1) := by decide +kernel
theorem dX2_honour_10 : decode cX2_honour 10 = .ok (.iload_n 2, 1) := by decide +kernel
theorem dX2_honour_11 : decode cX2_honour 11 = .ok (.i2l, 1) := by decide +kernel
theorem dX2_honour_12 : decode cX2_honour 12 = .ok (.lconst 0, 1) := by decide +kernel
theorem dX2_honour_13 : decode cX2_honour 13 = .ok (.ldc2_w 94, 3) := by decide +kernel
theorem dX2_honour_16 : decode cX2_honour 16 = .ok (.invokestatic 41, 3) := by decide +kernel
theorem dX2_honour_19 : decode cX2_honour 19 = .ok (.ifCond .ne 6, 3) := by decide +kernel
theorem dX2_honour_22 : decode cX2_honour 22 = .ok (.bipush (-2), 2) := by decide +kernel
theorem dX2_honour_24 : decode cX2_honour 24 = .ok (.ireturn, 1) := by decide +kernel
theorem dX2_honour_25 : decode cX2_honour 25 = .ok (.aload_n 0, 1) := by decide +kernel
theorem dX2_honour_26 : decode cX2_honour 26 = .ok (.invokevirtual 101, 3) := by decide +kernel
theorem dX2_honour_29 : decode cX2_honour 29 = .ok (.aload_n 0, 1) := by decide +kernel
theorem dX2_honour_30 : decode cX2_honour 30 = .ok (.iload_n 1, 1) := by decide +kernel
theorem dX2_honour_31 : decode cX2_honour 31 = .ok (.iconst 0, 1) := by decide +kernel
theorem dX2_honour_32 : decode cX2_honour 32 = .ok (.invokevirtual 47, 3) := by decide +kernel
theorem dX2_honour_35 : decode cX2_honour 35 = .ok (.istore_n 3, 1) := by decide +kernel
theorem dX2_honour_36 : decode cX2_honour 36 = .ok (.aload_n 0, 1) := by decide +kernel
theorem dX2_honour_37 : decode cX2_honour 37 = .ok (.iload_n 1, 1) := by decide +kernel
theorem dX2_honour_38 : decode cX2_honour 38 = .ok (.iconst 0, 1) := by decide +kernel
theorem dX2_honour_39 : decode cX2_honour 39 = .ok (.iload_n 2, 1) := by decide +kernel
theorem dX2_honour_40 : decode cX2_honour 40 = .ok (.invokevirtual 65, 3) := by decide +kernel
theorem dX2_honour_43 : decode cX2_honour 43 = .ok (.iload_n 3, 1) := by decide +kernel
theorem dX2_honour_44 : decode cX2_honour 44 = .ok (.ireturn, 1) := by decide +kernel
set_option maxRecDepth 20000 in
theorem ggX2_withdraw_X2_isName : GoodIn wsX2_withdraw wsX2_isName := goodIn_r _ [5, 6, 7, 8, 4, 9, 35, 36, 37, 38, 39, 40, 41, 42, 43, 44, 45, 46, 47] (by decide +kernel) (by decide +kernel)
set_option maxRecDepth 20000 in
theorem gX2_withdraw_X2_isName : GoodIn wsX2_withdraw (wsV RX2 104 RX2 yX2_isName wsX2_isName) := goodIn_app (goodIn_of _ (by decide +kernel)) ggX2_withdraw_X2_isName
set_option maxRecDepth 20000 in
theorem ggX2_withdraw_X2_get : GoodIn wsX2_withdraw wsX2_get := goodIn_r _ [13, 6, 35, 36, 37, 38, 39, 40, 41, 42, 43, 44, 45, 46, 47] (by decide +kernel) (by decide +kernel)
set_option maxRecDepth 20000 in
theorem gX2_withdraw_X2_get : GoodIn wsX2_withdraw (wsV RX2 47 RX2 yX2_get wsX2_get) := goodIn_app (goodIn_of _ (by decide +kernel)) ggX2_withdraw_X2_get
set_option maxRecDepth 20000 in
theorem ggX2_withdraw_X2_changes : GoodIn wsX2_withdraw wsX2_changes := goodIn_r _ [17, 18, 19, 6, 35, 36, 37, 38, 39, 40, 41, 42, 43, 44, 45, 46, 47] (by decide +kernel) (by decide +kernel)
set_option maxRecDepth 20000 in
theorem gX2_withdraw_X2_changes : GoodIn wsX2_withdraw (wsV RX2 101 RX2 yX2_changes wsX2_changes) := goodIn_app (goodIn_of _ (by decide +kernel)) ggX2_withdraw_X2_changes
set_option maxRecDepth 20000 in
theorem ggX2_withdraw_X2_bearers : GoodIn wsX2_withdraw wsX2_bearers := goodIn_r _ [23, 6, 35, 36, 37, 38, 39, 40, 41, 42, 43, 44, 45, 46, 47] (by decide +kernel) (by decide +kernel)
set_option maxRecDepth 20000 in
theorem gX2_withdraw_X2_bearers : GoodIn wsX2_withdraw (wsV RX2 51 RX2 yX2_bearers wsX2_bearers) := goodIn_app (goodIn_of _ (by decide +kernel)) ggX2_withdraw_X2_bearers
set_option maxRecDepth 20000 in
theorem ggX2_withdraw_X2_takesAway : GoodIn wsX2_withdraw wsX2_takesAway := goodIn_r _ [27, 6, 35, 36, 37, 38, 39, 40, 41, 42, 43, 44, 45, 46, 47] (by decide +kernel) (by decide +kernel)
set_option maxRecDepth 20000 in
theorem gX2_withdraw_X2_takesAway : GoodIn wsX2_withdraw (wsV RX2 108 RX2 yX2_takesAway wsX2_takesAway) := goodIn_app (goodIn_of _ (by decide +kernel)) ggX2_withdraw_X2_takesAway
set_option maxRecDepth 20000 in
theorem ggX2_withdraw_X2_lays : GoodIn wsX2_withdraw wsX2_lays := goodIn_r _ [31, 6, 35, 36, 37, 38, 39, 40, 41, 42, 43, 44, 45, 46, 47] (by decide +kernel) (by decide +kernel)
set_option maxRecDepth 20000 in
theorem gX2_withdraw_X2_lays : GoodIn wsX2_withdraw (wsV RX2 65 RX2 yX2_lays wsX2_lays) := goodIn_app (goodIn_of _ (by decide +kernel)) ggX2_withdraw_X2_lays
set_option maxRecDepth 20000 in
theorem ggX2_withdraw_X2_bits : GoodIn wsX2_withdraw wsX2_bits := goodIn_r _ [34] (by decide +kernel) (by decide +kernel)
set_option maxRecDepth 20000 in
theorem gX2_withdraw_X2_bits : GoodIn wsX2_withdraw (va_wsS RX2 59 yX2_bits wsX2_bits) := goodIn_app (goodIn_of _ (by decide +kernel)) ggX2_withdraw_X2_bits
theorem dX2_withdraw_0 : decode cX2_withdraw 0 = .ok (.aload_n 0, 1) := by decide +kernel
theorem dX2_withdraw_1 : decode cX2_withdraw 1 = .ok (.iload_n 1, 1) := by decide +kernel
theorem dX2_withdraw_2 : decode cX2_withdraw 2 = .ok (.invokevirtual 104, 3) := by decide +kernel
theorem dX2_withdraw_5 : decode cX2_withdraw 5 = .ok (.ifCond .ne 5, 3) := by decide +kernel
theorem dX2_withdraw_8 : decode cX2_withdraw 8 = .ok (.iconst (-1), 1) := by decide +kernel
theorem dX2_withdraw_9 : decode cX2_withdraw 9 = .ok (.ireturn, 1) := by decide +kernel
theorem dX2_withdraw_10 : decode cX2_withdraw 10 = .ok (.aload_n 0, 1) := by decide +kernel
theorem dX2_withdraw_11 : decode cX2_withdraw 11 = .ok (.iload_n 1, 1) := by decide +kernel
theorem dX2_withdraw_12 : decode cX2_withdraw 12 = .ok (.iconst 1, 1) := by decide +kernel
theorem dX2_withdraw_13 : decode cX2_withdraw 13 = .ok (.invokevirtual 47, 3) := by decide +kernel
theorem dX2_withdraw_16 : decode cX2_withdraw 16 = .ok (.iconst 1, 1) := by decide +kernel
theorem dX2_withdraw_17 : decode cX2_withdraw 17 = .ok (.if_icmp .ne 6, 3) := by decide +kernel
theorem dX2_withdraw_20 : decode cX2_withdraw 20 = .ok (.bipush (-5), 2) := by decide +kernel
theorem dX2_withdraw_22 : decode cX2_withdraw 22 = .ok (.ireturn, 1) := by decide +kernel
theorem dX2_withdraw_23 : decode cX2_withdraw 23 = .ok (.aload_n 0, 1) := by decide +kernel
theorem dX2_withdraw_24 : decode cX2_withdraw 24 = .ok (.invokevirtual 101, 3) := by decide +kernel
theorem dX2_withdraw_27 : decode cX2_withdraw 27 = .ok (.aload_n 0, 1) := by decide +kernel
theorem dX2_withdraw_28 : decode cX2_withdraw 28 = .ok (.iload_n 1, 1) := by decide +kernel
theorem dX2_withdraw_29 : decode cX2_withdraw 29 = .ok (.invokevirtual 51, 3) := by decide +kernel
theorem dX2_withdraw_32 : decode cX2_withdraw 32 = .ok (.istore_n 2, 1) := by decide +kernel
theorem dX2_withdraw_33 : decode cX2_withdraw 33 = .ok (.iconst 0, 1) := by decide +kernel
theorem dX2_withdraw_34 : decode cX2_withdraw 34 = .ok (.istore_n 3, 1) := by decide +kernel
theorem dX2_withdraw_35 : decode cX2_withdraw 35 = .ok (.iload_n 3, 1) := by decide +kernel
theorem dX2_withdraw_36 : decode cX2_withdraw 36 = .ok (.bipush 12, 2) := by decide +kernel
theorem dX2_withdraw_38 : decode cX2_withdraw 38 = .ok (.if_icmp .ge 23, 3) := by decide +kernel
theorem dX2_withdraw_41 : decode cX2_withdraw 41 = .ok (.iload_n 2, 1) := by decide +kernel
theorem dX2_withdraw_42 : decode cX2_withdraw 42 = .ok (.iload_n 3, 1) := by decide +kernel
theorem dX2_withdraw_43 : decode cX2_withdraw 43 = .ok (.ishr, 1) := by decide +kernel
theorem dX2_withdraw_44 : decode cX2_withdraw 44 = .ok (.iconst 1, 1) := by decide +kernel
theorem dX2_withdraw_45 : decode cX2_withdraw 45 = .ok (.iand, 1) := by decide +kernel
theorem dX2_withdraw_46 : decode cX2_withdraw 46 = .ok (.iconst 1, 1) := by decide +kernel
theorem dX2_withdraw_47 : decode cX2_withdraw 47 = .ok (.if_icmp .ne 8, 3) := by decide +kernel
theorem dX2_withdraw_50 : decode cX2_withdraw 50 = .ok (.aload_n 0, 1) := by decide +kernel
theorem dX2_withdraw_51 : decode cX2_withdraw 51 = .ok (.iload_n 3, 1) := by decide +kernel
theorem dX2_withdraw_52 : decode cX2_withdraw 52 = .ok (.invokevirtual 108, 3) := by decide +kernel
theorem dX2_withdraw_55 : decode cX2_withdraw 55 = .ok (.iinc 3 1, 3) := by decide +kernel
theorem dX2_withdraw_58 : decode cX2_withdraw 58 = .ok (.goto (-23), 3) := by decide +kernel
theorem dX2_withdraw_61 : decode cX2_withdraw 61 = .ok (.aload_n 0, 1) := by decide +kernel
theorem dX2_withdraw_62 : decode cX2_withdraw 62 = .ok (.iload_n 1, 1) := by decide +kernel
theorem dX2_withdraw_63 : decode cX2_withdraw 63 = .ok (.iconst 1, 1) := by decide +kernel
theorem dX2_withdraw_64 : decode cX2_withdraw 64 = .ok (.iconst 1, 1) := by decide +kernel
theorem dX2_withdraw_65 : decode cX2_withdraw 65 = .ok (.invokevirtual 65, 3) := by decide +kernel
theorem dX2_withdraw_68 : decode cX2_withdraw 68 = .ok (.iload_n 2, 1) := by decide +kernel
theorem dX2_withdraw_69 : decode cX2_withdraw 69 = .ok (.invokestatic 59, 3) := by decide +kernel
theorem dX2_withdraw_72 : decode cX2_withdraw 72 = .ok (.ireturn, 1) := by decide +kernel
set_option maxRecDepth 20000 in
theorem ggX2_give_X2_isName : GoodIn wsX2_give wsX2_isName := goodIn_r _ [6, 1, 7, 8, 5, 9, 51, 52, 53, 54, 55, 56, 57, 58, 59, 60, 61, 62, 63] (by decide +kernel) (by decide +kernel)
set_option maxRecDepth 20000 in
theorem gX2_give_X2_isName : GoodIn wsX2_give (wsV RX2 104 RX2 yX2_isName wsX2_isName) := goodIn_app (goodIn_of _ (by decide +kernel)) ggX2_give_X2_isName
set_option maxRecDepth 20000 in
theorem ggX2_give_X2_isCorner : GoodIn wsX2_give wsX2_isCorner := goodIn_r _ [12, 13, 7, 8, 5, 9] (by decide +kernel) (by decide +kernel)
set_option maxRecDepth 20000 in
theorem gX2_give_X2_isCorner : GoodIn wsX2_give (va_wsS RX2 112 yX2_isCorner wsX2_isCorner) := goodIn_app (goodIn_of _ (by decide +kernel)) ggX2_give_X2_isCorner
set_option maxRecDepth 20000 in
theorem ggX2_give_X2_reason : GoodIn wsX2_give wsX2_reason := goodIn_r _ [17, 1, 18, 19, 20, 5, 21, 22, 23, 24, 25, 26, 27, 28, 29, 30, 31, 32, 33, 34, 35, 36, 51, 52, 53, 54, 55, 56, 57, 58, 59, 60, 61, 62, 63] (by decide +kernel) (by decide +kernel)
set_option maxRecDepth 20000 in
theorem gX2_give_X2_reason : GoodIn wsX2_give (wsV RX2 69 RX2 yX2_reason wsX2_reason) := goodIn_app (goodIn_of _ (by decide +kernel)) ggX2_give_X2_reason
set_option maxRecDepth 20000 in
theorem ggX2_give_X2_changes : GoodIn wsX2_give wsX2_changes := goodIn_r _ [40, 41, 42, 1, 51, 52, 53, 54, 55, 56, 57, 58, 59, 60, 61, 62, 63] (by decide +kernel) (by decide +kernel)
set_option maxRecDepth 20000 in
theorem gX2_give_X2_changes : GoodIn wsX2_give (wsV RX2 101 RX2 yX2_changes wsX2_changes) := goodIn_app (goodIn_of _ (by decide +kernel)) ggX2_give_X2_changes
set_option maxRecDepth 20000 in
theorem ggX2_give_X2_gives : GoodIn wsX2_give wsX2_gives := goodIn_r _ [46, 1, 18, 19, 20, 5, 21, 47, 48, 49, 50, 51, 52, 53, 54, 55, 56, 57, 58, 59, 60, 61, 62, 63] (by decide +kernel) (by decide +kernel)
set_option maxRecDepth 20000 in
theorem gX2_give_X2_gives : GoodIn wsX2_give (wsV RX2 85 RX2 yX2_gives wsX2_gives) := goodIn_app (goodIn_of _ (by decide +kernel)) ggX2_give_X2_gives
theorem dX2_give_0 : decode cX2_give 0 = .ok (.aload_n 0, 1) := by decide +kernel
theorem dX2_give_1 : decode cX2_give 1 = .ok (.iload_n 1, 1) := by decide +kernel
theorem dX2_give_2 : decode cX2_give 2 = .ok (.invokevirtual 104, 3) := by decide +kernel
theorem dX2_give_5 : decode cX2_give 5 = .ok (.ifCond .eq 10, 3) := by decide +kernel
theorem dX2_give_8 : decode cX2_give 8 = .ok (.iload_n 2, 1) := by decide +kernel
theorem dX2_give_9 : decode cX2_give 9 = .ok (.invokestatic 112, 3) := by decide +kernel
theorem dX2_give_12 : decode cX2_give 12 = .ok (.ifCond .ne 5, 3) := by decide +kernel
theorem dX2_give_15 : decode cX2_give 15 = .ok (.iconst (-1), 1) := by decide +kernel
theorem dX2_give_16 : decode cX2_give 16 = .ok (.ireturn, 1) := by decide +kernel
theorem dX2_give_17 : decode cX2_give 17 = .ok (.aload_n 0, 1) := by decide +kernel
theorem dX2_give_18 : decode cX2_give 18 = .ok (.iload_n 1, 1) := by decide +kernel
theorem dX2_give_19 : decode cX2_give 19 = .ok (.iload_n 2, 1) := by decide +kernel
theorem dX2_give_20 : decode cX2_give 20 = .ok (.invokevirtual 69, 3) := by decide +kernel
theorem dX2_give_23 : decode cX2_give 23 = .ok (.ifCond .eq 6, 3) := by decide +kernel
theorem dX2_give_26 : decode cX2_give 26 = .ok (.bipush (-5), 2) := by decide +kernel
theorem dX2_give_28 : decode cX2_give 28 = .ok (.ireturn, 1) := by decide +kernel
theorem dX2_give_29 : decode cX2_give 29 = .ok (.aload_n 0, 1) := by decide +kernel
theorem dX2_give_30 : decode cX2_give 30 = .ok (.invokevirtual 101, 3) := by decide +kernel
theorem dX2_give_33 : decode cX2_give 33 = .ok (.aload_n 0, 1) := by decide +kernel
theorem dX2_give_34 : decode cX2_give 34 = .ok (.iload_n 1, 1) := by decide +kernel
theorem dX2_give_35 : decode cX2_give 35 = .ok (.iload_n 2, 1) := by decide +kernel
theorem dX2_give_36 : decode cX2_give 36 = .ok (.invokevirtual 85, 3) := by decide +kernel
theorem dX2_give_39 : decode cX2_give 39 = .ok (.aload_n 0, 1) := by decide +kernel
theorem dX2_give_40 : decode cX2_give 40 = .ok (.getfield 7, 3) := by decide +kernel
theorem dX2_give_43 : decode cX2_give 43 = .ok (.sipush 261, 3) := by decide +kernel
theorem dX2_give_46 : decode cX2_give 46 = .ok (.iload_n 2, 1) := by decide +kernel
theorem dX2_give_47 : decode cX2_give 47 = .ok (.iadd, 1) := by decide +kernel
theorem dX2_give_48 : decode cX2_give 48 = .ok (.iaload, 1) := by decide +kernel
theorem dX2_give_49 : decode cX2_give 49 = .ok (.ireturn, 1) := by decide +kernel
set_option maxRecDepth 20000 in
theorem ggX2_strip_X2_isCorner : GoodIn wsX2_strip wsX2_isCorner := goodIn_r _ [5, 6, 7, 8, 4, 9] (by decide +kernel) (by decide +kernel)
set_option maxRecDepth 20000 in
theorem gX2_strip_X2_isCorner : GoodIn wsX2_strip (va_wsS RX2 112 yX2_isCorner wsX2_isCorner) := goodIn_app (goodIn_of _ (by decide +kernel)) ggX2_strip_X2_isCorner
set_option maxRecDepth 20000 in
theorem ggX2_strip_X2_changes : GoodIn wsX2_strip wsX2_changes := goodIn_r _ [13, 14, 15, 1, 20, 21, 22, 23, 24, 25, 26, 27, 28, 29, 30, 31, 32] (by decide +kernel) (by decide +kernel)
set_option maxRecDepth 20000 in
theorem gX2_strip_X2_changes : GoodIn wsX2_strip (wsV RX2 101 RX2 yX2_changes wsX2_changes) := goodIn_app (goodIn_of _ (by decide +kernel)) ggX2_strip_X2_changes
set_option maxRecDepth 20000 in
theorem ggX2_strip_X2_takesAway : GoodIn wsX2_strip wsX2_takesAway := goodIn_r _ [19, 1, 20, 21, 22, 23, 24, 25, 26, 27, 28, 29, 30, 31, 32] (by decide +kernel) (by decide +kernel)
set_option maxRecDepth 20000 in
theorem gX2_strip_X2_takesAway : GoodIn wsX2_strip (wsV RX2 108 RX2 yX2_takesAway wsX2_takesAway) := goodIn_app (goodIn_of _ (by decide +kernel)) ggX2_strip_X2_takesAway
theorem dX2_strip_0 : decode cX2_strip 0 = .ok (.iload_n 1, 1) := by decide +kernel
theorem dX2_strip_1 : decode cX2_strip 1 = .ok (.invokestatic 112, 3) := by decide +kernel
theorem dX2_strip_4 : decode cX2_strip 4 = .ok (.ifCond .ne 5, 3) := by decide +kernel
theorem dX2_strip_7 : decode cX2_strip 7 = .ok (.iconst (-1), 1) := by decide +kernel
theorem dX2_strip_8 : decode cX2_strip 8 = .ok (.ireturn, 1) := by decide +kernel
theorem dX2_strip_9 : decode cX2_strip 9 = .ok (.aload_n 0, 1) := by decide +kernel
theorem dX2_strip_10 : decode cX2_strip 10 = .ok (.getfield 7, 3) := by decide +kernel
theorem dX2_strip_13 : decode cX2_strip 13 = .ok (.sipush 249, 3) := by decide +kernel
theorem dX2_strip_16 : decode cX2_strip 16 = .ok (.iload_n 1, 1) := by decide +kernel
theorem dX2_strip_17 : decode cX2_strip 17 = .ok (.iadd, 1) := by decide +kernel
theorem dX2_strip_18 : decode cX2_strip 18 = .ok (.iaload, 1) := by decide +kernel
theorem dX2_strip_19 : decode cX2_strip 19 = .ok (.istore_n 2, 1) := by decide +kernel
theorem dX2_strip_20 : decode cX2_strip 20 = .ok (.iload_n 2, 1) := by decide +kernel
theorem dX2_strip_21 : decode cX2_strip 21 = .ok (.bipush (-6), 2) := by decide +kernel
theorem dX2_strip_23 : decode cX2_strip 23 = .ok (.if_icmp .ne 6, 3) := by decide +kernel
theorem dX2_strip_26 : decode cX2_strip 26 = .ok (.bipush (-5), 2) := by decide +kernel
theorem dX2_strip_28 : decode cX2_strip 28 = .ok (.ireturn, 1) := by decide +kernel
theorem dX2_strip_29 : decode cX2_strip 29 = .ok (.aload_n 0, 1) := by decide +kernel
theorem dX2_strip_30 : decode cX2_strip 30 = .ok (.invokevirtual 101, 3) := by decide +kernel
theorem dX2_strip_33 : decode cX2_strip 33 = .ok (.aload_n 0, 1) := by decide +kernel
theorem dX2_strip_34 : decode cX2_strip 34 = .ok (.iload_n 1, 1) := by decide +kernel
theorem dX2_strip_35 : decode cX2_strip 35 = .ok (.invokevirtual 108, 3) := by decide +kernel
theorem dX2_strip_38 : decode cX2_strip 38 = .ok (.aload_n 0, 1) := by decide +kernel
theorem dX2_strip_39 : decode cX2_strip 39 = .ok (.getfield 7, 3) := by decide +kernel
theorem dX2_strip_42 : decode cX2_strip 42 = .ok (.sipush 261, 3) := by decide +kernel
theorem dX2_strip_45 : decode cX2_strip 45 = .ok (.iload_n 1, 1) := by decide +kernel
theorem dX2_strip_46 : decode cX2_strip 46 = .ok (.iadd, 1) := by decide +kernel
theorem dX2_strip_47 : decode cX2_strip 47 = .ok (.dup2, 1) := by decide +kernel
theorem dX2_strip_48 : decode cX2_strip 48 = .ok (.iaload, 1) := by decide +kernel
theorem dX2_strip_49 : decode cX2_strip 49 = .ok (.iconst 1, 1) := by decide +kernel
theorem dX2_strip_50 : decode cX2_strip 50 = .ok (.iadd, 1) := by decide +kernel
theorem dX2_strip_51 : decode cX2_strip 51 = .ok (.iastore, 1) := by decide +kernel
theorem dX2_strip_52 : decode cX2_strip 52 = .ok (.iload_n 2, 1) := by decide +kernel
theorem dX2_strip_53 : decode cX2_strip 53 = .ok (.ireturn, 1) := by decide +kernel
theorem dX2_wrongCorners_0 : decode cX2_wrongCorners 0 = .ok (.iconst 0, 1) := by decide +kernel
theorem dX2_wrongCorners_1 : decode cX2_wrongCorners 1 = .ok (.istore_n 1, 1) := by decide +kernel
theorem dX2_wrongCorners_2 : decode cX2_wrongCorners 2 = .ok (.iconst 0, 1) := by decide +kernel
theorem dX2_wrongCorners_3 : decode cX2_wrongCorners 3 = .ok (.istore_n 2, 1) := by decide +kernel
theorem dX2_wrongCorners_4 : decode cX2_wrongCorners 4 = .ok (.iload_n 2, 1) := by decide +kernel
theorem dX2_wrongCorners_5 : decode cX2_wrongCorners 5 = .ok (.bipush 12, 2) := by decide +kernel
theorem dX2_wrongCorners_7 : decode cX2_wrongCorners 7 = .ok (.if_icmp .ge 40, 3) := by decide +kernel
theorem dX2_wrongCorners_10 : decode cX2_wrongCorners 10 = .ok (.iload_n 1, 1) := by decide +kernel
theorem dX2_wrongCorners_11 : decode cX2_wrongCorners 11 = .ok (.aload_n 0, 1) := by decide +kernel
theorem dX2_wrongCorners_12 : decode cX2_wrongCorners 12 = .ok (.getfield 7, 3) := by decide +kernel
theorem dX2_wrongCorners_15 : decode cX2_wrongCorners 15 = .ok (.sipush 249, 3) := by decide +kernel
theorem dX2_wrongCorners_18 : decode cX2_wrongCorners 18 = .ok (.iload_n 2, 1) := by decide +kernel
theorem dX2_wrongCorners_19 : decode cX2_wrongCorners 19 = .ok (.iadd, 1) := by decide +kernel
theorem dX2_wrongCorners_20 : decode cX2_wrongCorners 20 = .ok (.iaload, 1) := by decide +kernel
theorem dX2_wrongCorners_21 : decode cX2_wrongCorners 21 = .ok (.aload_n 0, 1) := by decide +kernel
theorem dX2_wrongCorners_22 : decode cX2_wrongCorners 22 = .ok (.getfield 7, 3) := by decide +kernel
theorem dX2_wrongCorners_25 : decode cX2_wrongCorners 25 = .ok (.sipush 309, 3) := by decide +kernel
theorem dX2_wrongCorners_28 : decode cX2_wrongCorners 28 = .ok (.iload_n 2, 1) := by decide +kernel
theorem dX2_wrongCorners_29 : decode cX2_wrongCorners 29 = .ok (.iadd, 1) := by decide +kernel
theorem dX2_wrongCorners_30 : decode cX2_wrongCorners 30 = .ok (.iaload, 1) := by decide +kernel
theorem dX2_wrongCorners_31 : decode cX2_wrongCorners 31 = .ok (.if_icmp .ne 7, 3) := by decide +kernel
theorem dX2_wrongCorners_34 : decode cX2_wrongCorners 34 = .ok (.iconst 0, 1) := by decide +kernel
theorem dX2_wrongCorners_35 : decode cX2_wrongCorners 35 = .ok (.goto 4, 3) := by decide +kernel
theorem dX2_wrongCorners_38 : decode cX2_wrongCorners 38 = .ok (.iconst 1, 1) := by decide +kernel
theorem dX2_wrongCorners_39 : decode cX2_wrongCorners 39 = .ok (.iadd, 1) := by decide +kernel
theorem dX2_wrongCorners_40 : decode cX2_wrongCorners 40 = .ok (.istore_n 1, 1) := by decide +kernel
theorem dX2_wrongCorners_41 : decode cX2_wrongCorners 41 = .ok (.iinc 2 1, 3) := by decide +kernel
theorem dX2_wrongCorners_44 : decode cX2_wrongCorners 44 = .ok (.goto (-40), 3) := by decide +kernel
theorem dX2_wrongCorners_47 : decode cX2_wrongCorners 47 = .ok (.aload_n 0, 1) := by decide +kernel
theorem dX2_wrongCorners_48 : decode cX2_wrongCorners 48 = .ok (.getfield 7, 3) := by decide +kernel
theorem dX2_wrongCorners_51 : decode cX2_wrongCorners 51 = .ok (.bipush 6, 2) := by decide +kernel
theorem dX2_wrongCorners_53 : decode cX2_wrongCorners 53 = .ok (.iaload, 1) := by decide +kernel
theorem dX2_wrongCorners_54 : decode cX2_wrongCorners 54 = .ok (.iconst 1, 1) := by decide +kernel
theorem dX2_wrongCorners_55 : decode cX2_wrongCorners 55 = .ok (.if_icmp .ne 7, 3) := by decide +kernel
theorem dX2_wrongCorners_58 : decode cX2_wrongCorners 58 = .ok (.iload_n 1, 1) := by decide +kernel
theorem dX2_wrongCorners_59 : decode cX2_wrongCorners 59 = .ok (.goto 5, 3) := by decide +kernel
theorem dX2_wrongCorners_62 : decode cX2_wrongCorners 62 = .ok (.bipush (-6), 2) := by decide +kernel
theorem dX2_wrongCorners_64 : decode cX2_wrongCorners 64 = .ok (.ireturn, 1) := by decide +kernel
set_option maxRecDepth 20000 in
theorem ggX2_issue_X2_changes : GoodIn wsX2_issue wsX2_changes := goodIn_r _ [6, 7, 8, 1, 13, 14, 15, 16, 17, 18, 19, 20, 21, 22, 23, 24, 25] (by decide +kernel) (by decide +kernel)
set_option maxRecDepth 20000 in
theorem gX2_issue_X2_changes : GoodIn wsX2_issue (wsV RX2 101 RX2 yX2_changes wsX2_changes) := goodIn_app (goodIn_of _ (by decide +kernel)) ggX2_issue_X2_changes
set_option maxRecDepth 20000 in
theorem ggX2_issue_X2_wrongCorners : GoodIn wsX2_issue wsX2_wrongCorners := goodIn_r _ [12, 1, 13, 14, 15, 16, 17, 18, 19, 20, 21, 22, 23, 24, 25] (by decide +kernel) (by decide +kernel)
set_option maxRecDepth 20000 in
theorem gX2_issue_X2_wrongCorners : GoodIn wsX2_issue (wsV RX2 115 RX2 yX2_wrongCorners wsX2_wrongCorners) := goodIn_app (goodIn_of _ (by decide +kernel)) ggX2_issue_X2_wrongCorners
theorem dX2_issue_0 : decode cX2_issue 0 = .ok (.aload_n 0, 1) := by decide +kernel
theorem dX2_issue_1 : decode cX2_issue 1 = .ok (.invokevirtual 101, 3) := by decide +kernel
theorem dX2_issue_4 : decode cX2_issue 4 = .ok (.aload_n 0, 1) := by decide +kernel
theorem dX2_issue_5 : decode cX2_issue 5 = .ok (.invokevirtual 115, 3) := by decide +kernel
theorem dX2_issue_8 : decode cX2_issue 8 = .ok (.istore_n 1, 1) := by decide +kernel
theorem dX2_issue_9 : decode cX2_issue 9 = .ok (.aload_n 0, 1) := by decide +kernel
theorem dX2_issue_10 : decode cX2_issue 10 = .ok (.getfield 7, 3) := by decide +kernel
theorem dX2_issue_13 : decode cX2_issue 13 = .ok (.bipush 6, 2) := by decide +kernel
theorem dX2_issue_15 : decode cX2_issue 15 = .ok (.iconst 1, 1) := by decide +kernel
theorem dX2_issue_16 : decode cX2_issue 16 = .ok (.iastore, 1) := by decide +kernel
theorem dX2_issue_17 : decode cX2_issue 17 = .ok (.iconst 0, 1) := by decide +kernel
theorem dX2_issue_18 : decode cX2_issue 18 = .ok (.istore_n 2, 1) := by decide +kernel
theorem dX2_issue_19 : decode cX2_issue 19 = .ok (.iload_n 2, 1) := by decide +kernel
theorem dX2_issue_20 : decode cX2_issue 20 = .ok (.bipush 12, 2) := by decide +kernel
theorem dX2_issue_22 : decode cX2_issue 22 = .ok (.if_icmp .ge 29, 3) := by decide +kernel
theorem dX2_issue_25 : decode cX2_issue 25 = .ok (.aload_n 0, 1) := by decide +kernel
theorem dX2_issue_26 : decode cX2_issue 26 = .ok (.getfield 7, 3) := by decide +kernel
theorem dX2_issue_29 : decode cX2_issue 29 = .ok (.sipush 309, 3) := by decide +kernel
theorem dX2_issue_32 : decode cX2_issue 32 = .ok (.iload_n 2, 1) := by decide +kernel
theorem dX2_issue_33 : decode cX2_issue 33 = .ok (.iadd, 1) := by decide +kernel
theorem dX2_issue_34 : decode cX2_issue 34 = .ok (.aload_n 0, 1) := by decide +kernel
theorem dX2_issue_35 : decode cX2_issue 35 = .ok (.getfield 7, 3) := by decide +kernel
theorem dX2_issue_38 : decode cX2_issue 38 = .ok (.sipush 249, 3) := by decide +kernel
theorem dX2_issue_41 : decode cX2_issue 41 = .ok (.iload_n 2, 1) := by decide +kernel
theorem dX2_issue_42 : decode cX2_issue 42 = .ok (.iadd, 1) := by decide +kernel
theorem dX2_issue_43 : decode cX2_issue 43 = .ok (.iaload, 1) := by decide +kernel
theorem dX2_issue_44 : decode cX2_issue 44 = .ok (.iastore, 1) := by decide +kernel
theorem dX2_issue_45 : decode cX2_issue 45 = .ok (.iinc 2 1, 3) := by decide +kernel
theorem dX2_issue_48 : decode cX2_issue 48 = .ok (.goto (-29), 3) := by decide +kernel
theorem dX2_issue_51 : decode cX2_issue 51 = .ok (.iload_n 1, 1) := by decide +kernel
theorem dX2_issue_52 : decode cX2_issue 52 = .ok (.ireturn, 1) := by decide +kernel
set_option maxRecDepth 20000 in
theorem ggX2_pass_X2_in : GoodIn wsX2_pass wsX2_in := goodIn_r _ [6] (by decide +kernel) (by decide +kernel)
set_option maxRecDepth 20000 in
theorem gX2_pass_X2_in : GoodIn wsX2_pass (va_wsS RX2 41 yX2_in wsX2_in) := goodIn_app (goodIn_of _ (by decide +kernel)) ggX2_pass_X2_in
set_option maxRecDepth 20000 in
theorem ggX2_pass_X2_changes : GoodIn wsX2_pass wsX2_changes := goodIn_r _ [10, 11, 12, 2, 68, 69, 70, 71, 72, 73, 74, 75, 76, 77, 78, 79, 80] (by decide +kernel) (by decide +kernel)
set_option maxRecDepth 20000 in
theorem gX2_pass_X2_changes : GoodIn wsX2_pass (wsV RX2 101 RX2 yX2_changes wsX2_changes) := goodIn_app (goodIn_of _ (by decide +kernel)) ggX2_pass_X2_changes
set_option maxRecDepth 20000 in
theorem ggX2_pass_X2_day : GoodIn wsX2_pass wsX2_day := goodIn_r _ [16, 2, 17, 18, 19, 5, 20, 21, 22, 23, 24, 25, 26, 27, 28, 29, 30, 31, 32, 33, 34, 35, 36, 37, 38, 39, 40, 41, 42, 43, 44, 45, 46, 47, 48, 49, 50, 51, 52, 53, 54, 55, 56, 57, 58, 59, 60, 61, 62, 63, 64, 65, 66, 67, 68, 69, 70, 71, 72, 73, 74, 75, 76, 77, 78, 79, 80] (by decide +kernel) (by decide +kernel)
set_option maxRecDepth 20000 in
theorem gX2_pass_X2_day : GoodIn wsX2_pass (wsV RX2 120 RX2 yX2_day wsX2_day) := goodIn_app (goodIn_of _ (by decide +kernel)) ggX2_pass_X2_day
theorem dX2_pass_0 : decode cX2_pass 0 = .ok (.iload_n 1, 1) := by decide +kernel
theorem dX2_pass_1 : decode cX2_pass 1 = .ok (.i2l, 1) := by decide +kernel
theorem dX2_pass_2 : decode cX2_pass 2 = .ok (.lconst 1, 1) := by decide +kernel
theorem dX2_pass_3 : decode cX2_pass 3 = .ok (.ldc2_w 118, 3) := by decide +kernel
theorem dX2_pass_6 : decode cX2_pass 6 = .ok (.invokestatic 41, 3) := by decide +kernel
theorem dX2_pass_9 : decode cX2_pass 9 = .ok (.ifCond .ne 6, 3) := by decide +kernel
theorem dX2_pass_12 : decode cX2_pass 12 = .ok (.bipush (-2), 2) := by decide +kernel
theorem dX2_pass_14 : decode cX2_pass 14 = .ok (.ireturn, 1) := by decide +kernel
theorem dX2_pass_15 : decode cX2_pass 15 = .ok (.aload_n 0, 1) := by decide +kernel
theorem dX2_pass_16 : decode cX2_pass 16 = .ok (.getfield 7, 3) := by decide +kernel
theorem dX2_pass_19 : decode cX2_pass 19 = .ok (.iconst 4, 1) := by decide +kernel
theorem dX2_pass_20 : decode cX2_pass 20 = .ok (.iaload, 1) := by decide +kernel
theorem dX2_pass_21 : decode cX2_pass 21 = .ok (.iload_n 1, 1) := by decide +kernel
theorem dX2_pass_22 : decode cX2_pass 22 = .ok (.iadd, 1) := by decide +kernel
theorem dX2_pass_23 : decode cX2_pass 23 = .ok (.sipush 9999, 3) := by decide +kernel
theorem dX2_pass_26 : decode cX2_pass 26 = .ok (.if_icmp .le 6, 3) := by decide +kernel
theorem dX2_pass_29 : decode cX2_pass 29 = .ok (.bipush (-4), 2) := by decide +kernel
theorem dX2_pass_31 : decode cX2_pass 31 = .ok (.ireturn, 1) := by decide +kernel
theorem dX2_pass_32 : decode cX2_pass 32 = .ok (.aload_n 0, 1) := by decide +kernel
theorem dX2_pass_33 : decode cX2_pass 33 = .ok (.invokevirtual 101, 3) := by decide +kernel
theorem dX2_pass_36 : decode cX2_pass 36 = .ok (.aload_n 0, 1) := by decide +kernel
theorem dX2_pass_37 : decode cX2_pass 37 = .ok (.getfield 7, 3) := by decide +kernel
theorem dX2_pass_40 : decode cX2_pass 40 = .ok (.bipush 8, 2) := by decide +kernel
theorem dX2_pass_42 : decode cX2_pass 42 = .ok (.iaload, 1) := by decide +kernel
theorem dX2_pass_43 : decode cX2_pass 43 = .ok (.istore_n 2, 1) := by decide +kernel
theorem dX2_pass_44 : decode cX2_pass 44 = .ok (.iconst 0, 1) := by decide +kernel
theorem dX2_pass_45 : decode cX2_pass 45 = .ok (.istore_n 3, 1) := by decide +kernel
theorem dX2_pass_46 : decode cX2_pass 46 = .ok (.iload_n 3, 1) := by decide +kernel
theorem dX2_pass_47 : decode cX2_pass 47 = .ok (.iload_n 1, 1) := by decide +kernel
theorem dX2_pass_48 : decode cX2_pass 48 = .ok (.if_icmp .ge 13, 3) := by decide +kernel
theorem dX2_pass_51 : decode cX2_pass 51 = .ok (.aload_n 0, 1) := by decide +kernel
theorem dX2_pass_52 : decode cX2_pass 52 = .ok (.invokevirtual 120, 3) := by decide +kernel
theorem dX2_pass_55 : decode cX2_pass 55 = .ok (.iinc 3 1, 3) := by decide +kernel
theorem dX2_pass_58 : decode cX2_pass 58 = .ok (.goto (-12), 3) := by decide +kernel
theorem dX2_pass_61 : decode cX2_pass 61 = .ok (.aload_n 0, 1) := by decide +kernel
theorem dX2_pass_62 : decode cX2_pass 62 = .ok (.getfield 7, 3) := by decide +kernel
theorem dX2_pass_65 : decode cX2_pass 65 = .ok (.bipush 8, 2) := by decide +kernel
theorem dX2_pass_67 : decode cX2_pass 67 = .ok (.iaload, 1) := by decide +kernel
theorem dX2_pass_68 : decode cX2_pass 68 = .ok (.iload_n 2, 1) := by decide +kernel
theorem dX2_pass_69 : decode cX2_pass 69 = .ok (.isub, 1) := by decide +kernel
theorem dX2_pass_70 : decode cX2_pass 70 = .ok (.ireturn, 1) := by decide +kernel
set_option maxRecDepth 20000 in
theorem ggX2_placeOf_X2_whereIs : GoodIn wsX2_placeOf wsX2_whereIs := goodIn_r _ [6, 7, 8, 9, 5, 10, 1, 11, 12, 13, 14, 19, 20, 21, 22, 23, 24, 25, 26, 27, 28, 29, 30, 31] (by decide +kernel) (by decide +kernel)
set_option maxRecDepth 20000 in
theorem gX2_placeOf_X2_whereIs : GoodIn wsX2_placeOf (wsV RX2 72 RX2 yX2_whereIs wsX2_whereIs) := goodIn_app (goodIn_of _ (by decide +kernel)) ggX2_placeOf_X2_whereIs
set_option maxRecDepth 20000 in
theorem ggX2_placeOf_X2_comesFirst : GoodIn wsX2_placeOf wsX2_comesFirst := goodIn_r _ [18, 7, 8, 9, 5, 10, 1, 19, 20, 21, 22, 23, 24, 25, 26, 27, 28, 29, 30, 31] (by decide +kernel) (by decide +kernel)
set_option maxRecDepth 20000 in
theorem gX2_placeOf_X2_comesFirst : GoodIn wsX2_placeOf (wsV RX2 75 RX2 yX2_comesFirst wsX2_comesFirst) := goodIn_app (goodIn_of _ (by decide +kernel)) ggX2_placeOf_X2_comesFirst
theorem dX2_placeOf_0 : decode cX2_placeOf 0 = .ok (.aload_n 0, 1) := by decide +kernel
theorem dX2_placeOf_1 : decode cX2_placeOf 1 = .ok (.iload_n 1, 1) := by decide +kernel
theorem dX2_placeOf_2 : decode cX2_placeOf 2 = .ok (.invokevirtual 72, 3) := by decide +kernel
theorem dX2_placeOf_5 : decode cX2_placeOf 5 = .ok (.ifCond .eq 6, 3) := by decide +kernel
theorem dX2_placeOf_8 : decode cX2_placeOf 8 = .ok (.bipush (-6), 2) := by decide +kernel
theorem dX2_placeOf_10 : decode cX2_placeOf 10 = .ok (.ireturn, 1) := by decide +kernel
theorem dX2_placeOf_11 : decode cX2_placeOf 11 = .ok (.iconst 0, 1) := by decide +kernel
theorem dX2_placeOf_12 : decode cX2_placeOf 12 = .ok (.istore_n 2, 1) := by decide +kernel
theorem dX2_placeOf_13 : decode cX2_placeOf 13 = .ok (.iconst 0, 1) := by decide +kernel
theorem dX2_placeOf_14 : decode cX2_placeOf 14 = .ok (.istore_n 3, 1) := by decide +kernel
theorem dX2_placeOf_15 : decode cX2_placeOf 15 = .ok (.iload_n 3, 1) := by decide +kernel
theorem dX2_placeOf_16 : decode cX2_placeOf 16 = .ok (.aload_n 0, 1) := by decide +kernel
theorem dX2_placeOf_17 : decode cX2_placeOf 17 = .ok (.getfield 7, 3) := by decide +kernel
theorem dX2_placeOf_20 : decode cX2_placeOf 20 = .ok (.iconst 5, 1) := by decide +kernel
theorem dX2_placeOf_21 : decode cX2_placeOf 21 = .ok (.iaload, 1) := by decide +kernel
theorem dX2_placeOf_22 : decode cX2_placeOf 22 = .ok (.if_icmp .ge 34, 3) := by decide +kernel
theorem dX2_placeOf_25 : decode cX2_placeOf 25 = .ok (.iload_n 2, 1) := by decide +kernel
theorem dX2_placeOf_26 : decode cX2_placeOf 26 = .ok (.aload_n 0, 1) := by decide +kernel
theorem dX2_placeOf_27 : decode cX2_placeOf 27 = .ok (.iload_n 3, 1) := by decide +kernel
theorem dX2_placeOf_28 : decode cX2_placeOf 28 = .ok (.invokevirtual 72, 3) := by decide +kernel
theorem dX2_placeOf_31 : decode cX2_placeOf 31 = .ok (.ifCond .ne 16, 3) := by decide +kernel
theorem dX2_placeOf_34 : decode cX2_placeOf 34 = .ok (.aload_n 0, 1) := by decide +kernel
theorem dX2_placeOf_35 : decode cX2_placeOf 35 = .ok (.iload_n 3, 1) := by decide +kernel
theorem dX2_placeOf_36 : decode cX2_placeOf 36 = .ok (.iload_n 1, 1) := by decide +kernel
theorem dX2_placeOf_37 : decode cX2_placeOf 37 = .ok (.invokevirtual 75, 3) := by decide +kernel
theorem dX2_placeOf_40 : decode cX2_placeOf 40 = .ok (.ifCond .eq 7, 3) := by decide +kernel
theorem dX2_placeOf_43 : decode cX2_placeOf 43 = .ok (.iconst 1, 1) := by decide +kernel
theorem dX2_placeOf_44 : decode cX2_placeOf 44 = .ok (.goto 4, 3) := by decide +kernel
theorem dX2_placeOf_47 : decode cX2_placeOf 47 = .ok (.iconst 0, 1) := by decide +kernel
theorem dX2_placeOf_48 : decode cX2_placeOf 48 = .ok (.iadd, 1) := by decide +kernel
theorem dX2_placeOf_49 : decode cX2_placeOf 49 = .ok (.istore_n 2, 1) := by decide +kernel
theorem dX2_placeOf_50 : decode cX2_placeOf 50 = .ok (.iinc 3 1, 3) := by decide +kernel
theorem dX2_placeOf_53 : decode cX2_placeOf 53 = .ok (.goto (-38), 3) := by decide +kernel
theorem dX2_placeOf_56 : decode cX2_placeOf 56 = .ok (.iload_n 2, 1) := by decide +kernel
theorem dX2_placeOf_57 : decode cX2_placeOf 57 = .ok (.ireturn, 1) := by decide +kernel
set_option maxRecDepth 20000 in
theorem ggX2_name_X2_isName : GoodIn wsX2_name wsX2_isName := goodIn_r _ [5, 6, 7, 8, 4, 9, 30, 31, 32, 33, 34, 35, 36, 37, 38, 39, 40, 41, 42] (by decide +kernel) (by decide +kernel)
set_option maxRecDepth 20000 in
theorem gX2_name_X2_isName : GoodIn wsX2_name (wsV RX2 104 RX2 yX2_isName wsX2_isName) := goodIn_app (goodIn_of _ (by decide +kernel)) ggX2_name_X2_isName
set_option maxRecDepth 20000 in
theorem ggX2_name_X2_get : GoodIn wsX2_name wsX2_get := goodIn_r _ [13, 6, 30, 31, 32, 33, 34, 35, 36, 37, 38, 39, 40, 41, 42] (by decide +kernel) (by decide +kernel)
set_option maxRecDepth 20000 in
theorem gX2_name_X2_get : GoodIn wsX2_name (wsV RX2 47 RX2 yX2_get wsX2_get) := goodIn_app (goodIn_of _ (by decide +kernel)) ggX2_name_X2_get
set_option maxRecDepth 20000 in
theorem ggX2_name_X2_whereIs : GoodIn wsX2_name wsX2_whereIs := goodIn_r _ [17, 10, 11, 12, 4, 13, 6, 18, 19, 20, 21, 30, 31, 32, 33, 34, 35, 36, 37, 38, 39, 40, 41, 42] (by decide +kernel) (by decide +kernel)
set_option maxRecDepth 20000 in
theorem gX2_name_X2_whereIs : GoodIn wsX2_name (wsV RX2 72 RX2 yX2_whereIs wsX2_whereIs) := goodIn_app (goodIn_of _ (by decide +kernel)) ggX2_name_X2_whereIs
set_option maxRecDepth 20000 in
theorem ggX2_name_X2_bearers : GoodIn wsX2_name wsX2_bearers := goodIn_r _ [21, 6, 30, 31, 32, 33, 34, 35, 36, 37, 38, 39, 40, 41, 42] (by decide +kernel) (by decide +kernel)
set_option maxRecDepth 20000 in
theorem gX2_name_X2_bearers : GoodIn wsX2_name (wsV RX2 51 RX2 yX2_bearers wsX2_bearers) := goodIn_app (goodIn_of _ (by decide +kernel)) ggX2_name_X2_bearers
set_option maxRecDepth 20000 in
theorem ggX2_name_X2_placeOf : GoodIn wsX2_name wsX2_placeOf := goodIn_r _ [25, 6, 14, 15, 16, 4, 17, 10, 11, 12, 13, 18, 19, 20, 21, 26, 27, 28, 29, 30, 31, 32, 33, 34, 35, 36, 37, 38, 39, 40, 41, 42] (by decide +kernel) (by decide +kernel)
set_option maxRecDepth 20000 in
theorem gX2_name_X2_placeOf : GoodIn wsX2_name (wsV RX2 123 RX2 yX2_placeOf wsX2_placeOf) := goodIn_app (goodIn_of _ (by decide +kernel)) ggX2_name_X2_placeOf
theorem dX2_name_0 : decode cX2_name 0 = .ok (.aload_n 0, 1) := by decide +kernel
theorem dX2_name_1 : decode cX2_name 1 = .ok (.iload_n 1, 1) := by decide +kernel
theorem dX2_name_2 : decode cX2_name 2 = .ok (.invokevirtual 104, 3) := by decide +kernel
theorem dX2_name_5 : decode cX2_name 5 = .ok (.ifCond .ne 5, 3) := by decide +kernel
theorem dX2_name_8 : decode cX2_name 8 = .ok (.iconst (-1), 1) := by decide +kernel
theorem dX2_name_9 : decode cX2_name 9 = .ok (.ireturn, 1) := by decide +kernel
theorem dX2_name_10 : decode cX2_name 10 = .ok (.iload_n 2, 1) := by decide +kernel
theorem dX2_name_11 : decode cX2_name 11 = .ok (.tableswitch 87 0 6 #[41, 48, 54, 60, 66, 73, 80], 41) := by decide +kernel
theorem dX2_name_52 : decode cX2_name 52 = .ok (.aload_n 0, 1) := by decide +kernel
theorem dX2_name_53 : decode cX2_name 53 = .ok (.iload_n 1, 1) := by decide +kernel
theorem dX2_name_54 : decode cX2_name 54 = .ok (.iconst 0, 1) := by decide +kernel
theorem dX2_name_55 : decode cX2_name 55 = .ok (.invokevirtual 47, 3) := by decide +kernel
theorem dX2_name_58 : decode cX2_name 58 = .ok (.ireturn, 1) := by decide +kernel
theorem dX2_name_59 : decode cX2_name 59 = .ok (.aload_n 0, 1) := by decide +kernel
theorem dX2_name_60 : decode cX2_name 60 = .ok (.iload_n 1, 1) := by decide +kernel
theorem dX2_name_61 : decode cX2_name 61 = .ok (.invokevirtual 72, 3) := by decide +kernel
theorem dX2_name_64 : decode cX2_name 64 = .ok (.ireturn, 1) := by decide +kernel
theorem dX2_name_65 : decode cX2_name 65 = .ok (.aload_n 0, 1) := by decide +kernel
theorem dX2_name_66 : decode cX2_name 66 = .ok (.iload_n 1, 1) := by decide +kernel
theorem dX2_name_67 : decode cX2_name 67 = .ok (.invokevirtual 51, 3) := by decide +kernel
theorem dX2_name_70 : decode cX2_name 70 = .ok (.ireturn, 1) := by decide +kernel
theorem dX2_name_71 : decode cX2_name 71 = .ok (.aload_n 0, 1) := by decide +kernel
theorem dX2_name_72 : decode cX2_name 72 = .ok (.iload_n 1, 1) := by decide +kernel
theorem dX2_name_73 : decode cX2_name 73 = .ok (.invokevirtual 123, 3) := by decide +kernel
theorem dX2_name_76 : decode cX2_name 76 = .ok (.ireturn, 1) := by decide +kernel
theorem dX2_name_77 : decode cX2_name 77 = .ok (.aload_n 0, 1) := by decide +kernel
theorem dX2_name_78 : decode cX2_name 78 = .ok (.iload_n 1, 1) := by decide +kernel
theorem dX2_name_79 : decode cX2_name 79 = .ok (.iconst 4, 1) := by decide +kernel
theorem dX2_name_80 : decode cX2_name 80 = .ok (.invokevirtual 47, 3) := by decide +kernel
theorem dX2_name_83 : decode cX2_name 83 = .ok (.ireturn, 1) := by decide +kernel
theorem dX2_name_84 : decode cX2_name 84 = .ok (.aload_n 0, 1) := by decide +kernel
theorem dX2_name_85 : decode cX2_name 85 = .ok (.iload_n 1, 1) := by decide +kernel
theorem dX2_name_86 : decode cX2_name 86 = .ok (.iconst 3, 1) := by decide +kernel
theorem dX2_name_87 : decode cX2_name 87 = .ok (.invokevirtual 47, 3) := by decide +kernel
theorem dX2_name_90 : decode cX2_name 90 = .ok (.ireturn, 1) := by decide +kernel
theorem dX2_name_91 : decode cX2_name 91 = .ok (.aload_n 0, 1) := by decide +kernel
theorem dX2_name_92 : decode cX2_name 92 = .ok (.iload_n 1, 1) := by decide +kernel
theorem dX2_name_93 : decode cX2_name 93 = .ok (.iconst 2, 1) := by decide +kernel
theorem dX2_name_94 : decode cX2_name 94 = .ok (.invokevirtual 47, 3) := by decide +kernel
theorem dX2_name_97 : decode cX2_name 97 = .ok (.ireturn, 1) := by decide +kernel
theorem dX2_name_98 : decode cX2_name 98 = .ok (.bipush (-2), 2) := by decide +kernel
theorem dX2_name_100 : decode cX2_name 100 = .ok (.ireturn, 1) := by decide +kernel
set_option maxRecDepth 20000 in
theorem ggX2_alike_X2_isName : GoodIn wsX2_alike wsX2_isName := goodIn_r _ [5, 6, 7, 8, 4, 9, 18, 19, 20, 21, 22, 23, 24, 25, 26, 27, 28, 29, 30] (by decide +kernel) (by decide +kernel)
set_option maxRecDepth 20000 in
theorem gX2_alike_X2_isName : GoodIn wsX2_alike (wsV RX2 104 RX2 yX2_isName wsX2_isName) := goodIn_app (goodIn_of _ (by decide +kernel)) ggX2_alike_X2_isName
set_option maxRecDepth 20000 in
theorem ggX2_alike_X2_in : GoodIn wsX2_alike wsX2_in := goodIn_r _ [9] (by decide +kernel) (by decide +kernel)
set_option maxRecDepth 20000 in
theorem gX2_alike_X2_in : GoodIn wsX2_alike (va_wsS RX2 41 yX2_in wsX2_in) := goodIn_app (goodIn_of _ (by decide +kernel)) ggX2_alike_X2_in
set_option maxRecDepth 20000 in
theorem ggX2_alike_X2_soundAlike : GoodIn wsX2_alike wsX2_soundAlike := goodIn_r _ [13, 14, 15, 16, 4, 17, 6, 18, 19, 20, 21, 22, 23, 24, 25, 26, 27, 28, 29, 30] (by decide +kernel) (by decide +kernel)
set_option maxRecDepth 20000 in
theorem gX2_alike_X2_soundAlike : GoodIn wsX2_alike (wsV RX2 55 RX2 yX2_soundAlike wsX2_soundAlike) := goodIn_app (goodIn_of _ (by decide +kernel)) ggX2_alike_X2_soundAlike
theorem dX2_alike_0 : decode cX2_alike 0 = .ok (.aload_n 0, 1) := by decide +kernel
theorem dX2_alike_1 : decode cX2_alike 1 = .ok (.iload_n 1, 1) := by decide +kernel
theorem dX2_alike_2 : decode cX2_alike 2 = .ok (.invokevirtual 104, 3) := by decide +kernel
theorem dX2_alike_5 : decode cX2_alike 5 = .ok (.ifCond .eq 11, 3) := by decide +kernel
theorem dX2_alike_8 : decode cX2_alike 8 = .ok (.aload_n 0, 1) := by decide +kernel
theorem dX2_alike_9 : decode cX2_alike 9 = .ok (.iload_n 2, 1) := by decide +kernel
theorem dX2_alike_10 : decode cX2_alike 10 = .ok (.invokevirtual 104, 3) := by decide +kernel
theorem dX2_alike_13 : decode cX2_alike 13 = .ok (.ifCond .ne 5, 3) := by decide +kernel
theorem dX2_alike_16 : decode cX2_alike 16 = .ok (.iconst (-1), 1) := by decide +kernel
theorem dX2_alike_17 : decode cX2_alike 17 = .ok (.ireturn, 1) := by decide +kernel
theorem dX2_alike_18 : decode cX2_alike 18 = .ok (.iload_n 3, 1) := by decide +kernel
theorem dX2_alike_19 : decode cX2_alike 19 = .ok (.i2l, 1) := by decide +kernel
theorem dX2_alike_20 : decode cX2_alike 20 = .ok (.lconst 0, 1) := by decide +kernel
theorem dX2_alike_21 : decode cX2_alike 21 = .ok (.lconst 1, 1) := by decide +kernel
theorem dX2_alike_22 : decode cX2_alike 22 = .ok (.invokestatic 41, 3) := by decide +kernel
theorem dX2_alike_25 : decode cX2_alike 25 = .ok (.ifCond .ne 8, 3) := by decide +kernel
theorem dX2_alike_28 : decode cX2_alike 28 = .ok (.bipush (-2), 2) := by decide +kernel
theorem dX2_alike_30 : decode cX2_alike 30 = .ok (.goto 17, 3) := by decide +kernel
theorem dX2_alike_33 : decode cX2_alike 33 = .ok (.aload_n 0, 1) := by decide +kernel
theorem dX2_alike_34 : decode cX2_alike 34 = .ok (.iload_n 1, 1) := by decide +kernel
theorem dX2_alike_35 : decode cX2_alike 35 = .ok (.iload_n 2, 1) := by decide +kernel
theorem dX2_alike_36 : decode cX2_alike 36 = .ok (.invokevirtual 55, 3) := by decide +kernel
theorem dX2_alike_39 : decode cX2_alike 39 = .ok (.ifCond .eq 7, 3) := by decide +kernel
theorem dX2_alike_42 : decode cX2_alike 42 = .ok (.iconst 1, 1) := by decide +kernel
theorem dX2_alike_43 : decode cX2_alike 43 = .ok (.goto 4, 3) := by decide +kernel
theorem dX2_alike_46 : decode cX2_alike 46 = .ok (.iconst 0, 1) := by decide +kernel
theorem dX2_alike_47 : decode cX2_alike 47 = .ok (.ireturn, 1) := by decide +kernel
set_option maxRecDepth 20000 in
theorem ggX2_corner_X2_isCorner : GoodIn wsX2_corner wsX2_isCorner := goodIn_r _ [6, 7, 8, 9, 5, 10] (by decide +kernel) (by decide +kernel)
set_option maxRecDepth 20000 in
theorem gX2_corner_X2_isCorner : GoodIn wsX2_corner (va_wsS RX2 112 yX2_isCorner wsX2_isCorner) := goodIn_app (goodIn_of _ (by decide +kernel)) ggX2_corner_X2_isCorner
set_option maxRecDepth 20000 in
theorem ggX2_corner_X2_in : GoodIn wsX2_corner wsX2_in := goodIn_r _ [10] (by decide +kernel) (by decide +kernel)
set_option maxRecDepth 20000 in
theorem gX2_corner_X2_in : GoodIn wsX2_corner (va_wsS RX2 41 yX2_in wsX2_in) := goodIn_app (goodIn_of _ (by decide +kernel)) ggX2_corner_X2_in
theorem dX2_corner_0 : decode cX2_corner 0 = .ok (.iload_n 1, 1) := by decide +kernel
theorem dX2_corner_1 : decode cX2_corner 1 = .ok (.invokestatic 112, 3) := by decide +kernel
theorem dX2_corner_4 : decode cX2_corner 4 = .ok (.ifCond .ne 5, 3) := by decide +kernel
theorem dX2_corner_7 : decode cX2_corner 7 = .ok (.iconst (-1), 1) := by decide +kernel
theorem dX2_corner_8 : decode cX2_corner 8 = .ok (.ireturn, 1) := by decide +kernel
theorem dX2_corner_9 : decode cX2_corner 9 = .ok (.iload_n 2, 1) := by decide +kernel
theorem dX2_corner_10 : decode cX2_corner 10 = .ok (.i2l, 1) := by decide +kernel
theorem dX2_corner_11 : decode cX2_corner 11 = .ok (.lconst 0, 1) := by decide +kernel
theorem dX2_corner_12 : decode cX2_corner 12 = .ok (.ldc2_w 126, 3) := by decide +kernel
theorem dX2_corner_15 : decode cX2_corner 15 = .ok (.invokestatic 41, 3) := by decide +kernel
theorem dX2_corner_18 : decode cX2_corner 18 = .ok (.ifCond .eq 21, 3) := by decide +kernel
theorem dX2_corner_21 : decode cX2_corner 21 = .ok (.aload_n 0, 1) := by decide +kernel
theorem dX2_corner_22 : decode cX2_corner 22 = .ok (.getfield 7, 3) := by decide +kernel
theorem dX2_corner_25 : decode cX2_corner 25 = .ok (.sipush 249, 3) := by decide +kernel
theorem dX2_corner_28 : decode cX2_corner 28 = .ok (.bipush 12, 2) := by decide +kernel
theorem dX2_corner_30 : decode cX2_corner 30 = .ok (.iload_n 2, 1) := by decide +kernel
theorem dX2_corner_31 : decode cX2_corner 31 = .ok (.imul, 1) := by decide +kernel
theorem dX2_corner_32 : decode cX2_corner 32 = .ok (.iadd, 1) := by decide +kernel
theorem dX2_corner_33 : decode cX2_corner 33 = .ok (.iload_n 1, 1) := by decide +kernel
theorem dX2_corner_34 : decode cX2_corner 34 = .ok (.iadd, 1) := by decide +kernel
theorem dX2_corner_35 : decode cX2_corner 35 = .ok (.iaload, 1) := by decide +kernel
theorem dX2_corner_36 : decode cX2_corner 36 = .ok (.goto 5, 3) := by decide +kernel
theorem dX2_corner_39 : decode cX2_corner 39 = .ok (.bipush (-2), 2) := by decide +kernel
theorem dX2_corner_41 : decode cX2_corner 41 = .ok (.ireturn, 1) := by decide +kernel
set_option maxRecDepth 20000 in
theorem ggX2_why_X2_isName : GoodIn wsX2_why wsX2_isName := goodIn_r _ [5, 6, 7, 8, 4, 9, 37, 38, 39, 40, 41, 42, 43, 44, 45, 46, 47, 48, 49] (by decide +kernel) (by decide +kernel)
set_option maxRecDepth 20000 in
theorem gX2_why_X2_isName : GoodIn wsX2_why (wsV RX2 104 RX2 yX2_isName wsX2_isName) := goodIn_app (goodIn_of _ (by decide +kernel)) ggX2_why_X2_isName
set_option maxRecDepth 20000 in
theorem ggX2_why_X2_isCorner : GoodIn wsX2_why wsX2_isCorner := goodIn_r _ [12, 13, 7, 8, 4, 9] (by decide +kernel) (by decide +kernel)
set_option maxRecDepth 20000 in
theorem gX2_why_X2_isCorner : GoodIn wsX2_why (va_wsS RX2 112 yX2_isCorner wsX2_isCorner) := goodIn_app (goodIn_of _ (by decide +kernel)) ggX2_why_X2_isCorner
set_option maxRecDepth 20000 in
theorem ggX2_why_X2_reason : GoodIn wsX2_why wsX2_reason := goodIn_r _ [17, 6, 18, 19, 20, 4, 21, 22, 23, 24, 25, 26, 27, 28, 29, 30, 31, 32, 33, 34, 35, 36, 37, 38, 39, 40, 41, 42, 43, 44, 45, 46, 47, 48, 49] (by decide +kernel) (by decide +kernel)
set_option maxRecDepth 20000 in
theorem gX2_why_X2_reason : GoodIn wsX2_why (wsV RX2 69 RX2 yX2_reason wsX2_reason) := goodIn_app (goodIn_of _ (by decide +kernel)) ggX2_why_X2_reason
theorem dX2_why_0 : decode cX2_why 0 = .ok (.aload_n 0, 1) := by decide +kernel
theorem dX2_why_1 : decode cX2_why 1 = .ok (.iload_n 1, 1) := by decide +kernel
theorem dX2_why_2 : decode cX2_why 2 = .ok (.invokevirtual 104, 3) := by decide +kernel
theorem dX2_why_5 : decode cX2_why 5 = .ok (.ifCond .eq 19, 3) := by decide +kernel
theorem dX2_why_8 : decode cX2_why 8 = .ok (.iload_n 2, 1) := by decide +kernel
theorem dX2_why_9 : decode cX2_why 9 = .ok (.invokestatic 112, 3) := by decide +kernel
theorem dX2_why_12 : decode cX2_why 12 = .ok (.ifCond .eq 12, 3) := by decide +kernel
theorem dX2_why_15 : decode cX2_why 15 = .ok (.aload_n 0, 1) := by decide +kernel
theorem dX2_why_16 : decode cX2_why 16 = .ok (.iload_n 1, 1) := by decide +kernel
theorem dX2_why_17 : decode cX2_why 17 = .ok (.iload_n 2, 1) := by decide +kernel
theorem dX2_why_18 : decode cX2_why 18 = .ok (.invokevirtual 69, 3) := by decide +kernel
theorem dX2_why_21 : decode cX2_why 21 = .ok (.goto 4, 3) := by decide +kernel
theorem dX2_why_24 : decode cX2_why 24 = .ok (.iconst (-1), 1) := by decide +kernel
theorem dX2_why_25 : decode cX2_why 25 = .ok (.ireturn, 1) := by decide +kernel
set_option maxRecDepth 20000 in
theorem ggX2_waiting_X2_whereIs : GoodIn wsX2_waiting wsX2_whereIs := goodIn_r _ [6, 7, 8, 9, 5, 10, 1, 11, 12, 13, 14, 15, 16, 17, 18, 19, 20, 21, 22, 23, 24, 25, 26, 27] (by decide +kernel) (by decide +kernel)
set_option maxRecDepth 20000 in
theorem gX2_waiting_X2_whereIs : GoodIn wsX2_waiting (wsV RX2 72 RX2 yX2_whereIs wsX2_whereIs) := goodIn_app (goodIn_of _ (by decide +kernel)) ggX2_waiting_X2_whereIs
theorem dX2_waiting_0 : decode cX2_waiting 0 = .ok (.iconst 0, 1) := by decide +kernel
theorem dX2_waiting_1 : decode cX2_waiting 1 = .ok (.istore_n 1, 1) := by decide +kernel
theorem dX2_waiting_2 : decode cX2_waiting 2 = .ok (.iconst 0, 1) := by decide +kernel
theorem dX2_waiting_3 : decode cX2_waiting 3 = .ok (.istore_n 2, 1) := by decide +kernel
theorem dX2_waiting_4 : decode cX2_waiting 4 = .ok (.iload_n 2, 1) := by decide +kernel
theorem dX2_waiting_5 : decode cX2_waiting 5 = .ok (.aload_n 0, 1) := by decide +kernel
theorem dX2_waiting_6 : decode cX2_waiting 6 = .ok (.getfield 7, 3) := by decide +kernel
theorem dX2_waiting_9 : decode cX2_waiting 9 = .ok (.iconst 5, 1) := by decide +kernel
theorem dX2_waiting_10 : decode cX2_waiting 10 = .ok (.iaload, 1) := by decide +kernel
theorem dX2_waiting_11 : decode cX2_waiting 11 = .ok (.if_icmp .ge 25, 3) := by decide +kernel
theorem dX2_waiting_14 : decode cX2_waiting 14 = .ok (.iload_n 1, 1) := by decide +kernel
theorem dX2_waiting_15 : decode cX2_waiting 15 = .ok (.aload_n 0, 1) := by decide +kernel
theorem dX2_waiting_16 : decode cX2_waiting 16 = .ok (.iload_n 2, 1) := by decide +kernel
theorem dX2_waiting_17 : decode cX2_waiting 17 = .ok (.invokevirtual 72, 3) := by decide +kernel
theorem dX2_waiting_20 : decode cX2_waiting 20 = .ok (.ifCond .ne 7, 3) := by decide +kernel
theorem dX2_waiting_23 : decode cX2_waiting 23 = .ok (.iconst 1, 1) := by decide +kernel
theorem dX2_waiting_24 : decode cX2_waiting 24 = .ok (.goto 4, 3) := by decide +kernel
theorem dX2_waiting_27 : decode cX2_waiting 27 = .ok (.iconst 0, 1) := by decide +kernel
theorem dX2_waiting_28 : decode cX2_waiting 28 = .ok (.iadd, 1) := by decide +kernel
theorem dX2_waiting_29 : decode cX2_waiting 29 = .ok (.istore_n 1, 1) := by decide +kernel
theorem dX2_waiting_30 : decode cX2_waiting 30 = .ok (.iinc 2 1, 3) := by decide +kernel
theorem dX2_waiting_33 : decode cX2_waiting 33 = .ok (.goto (-29), 3) := by decide +kernel
theorem dX2_waiting_36 : decode cX2_waiting 36 = .ok (.iload_n 1, 1) := by decide +kernel
theorem dX2_waiting_37 : decode cX2_waiting 37 = .ok (.ireturn, 1) := by decide +kernel
theorem dX2_named_0 : decode cX2_named 0 = .ok (.iconst 0, 1) := by decide +kernel
theorem dX2_named_1 : decode cX2_named 1 = .ok (.istore_n 1, 1) := by decide +kernel
theorem dX2_named_2 : decode cX2_named 2 = .ok (.iconst 0, 1) := by decide +kernel
theorem dX2_named_3 : decode cX2_named 3 = .ok (.istore_n 2, 1) := by decide +kernel
theorem dX2_named_4 : decode cX2_named 4 = .ok (.iload_n 2, 1) := by decide +kernel
theorem dX2_named_5 : decode cX2_named 5 = .ok (.bipush 12, 2) := by decide +kernel
theorem dX2_named_7 : decode cX2_named 7 = .ok (.if_icmp .ge 32, 3) := by decide +kernel
theorem dX2_named_10 : decode cX2_named 10 = .ok (.iload_n 1, 1) := by decide +kernel
theorem dX2_named_11 : decode cX2_named 11 = .ok (.aload_n 0, 1) := by decide +kernel
theorem dX2_named_12 : decode cX2_named 12 = .ok (.getfield 7, 3) := by decide +kernel
theorem dX2_named_15 : decode cX2_named 15 = .ok (.sipush 249, 3) := by decide +kernel
theorem dX2_named_18 : decode cX2_named 18 = .ok (.iload_n 2, 1) := by decide +kernel
theorem dX2_named_19 : decode cX2_named 19 = .ok (.iadd, 1) := by decide +kernel
theorem dX2_named_20 : decode cX2_named 20 = .ok (.iaload, 1) := by decide +kernel
theorem dX2_named_21 : decode cX2_named 21 = .ok (.bipush (-6), 2) := by decide +kernel
theorem dX2_named_23 : decode cX2_named 23 = .ok (.if_icmp .ne 7, 3) := by decide +kernel
theorem dX2_named_26 : decode cX2_named 26 = .ok (.iconst 0, 1) := by decide +kernel
theorem dX2_named_27 : decode cX2_named 27 = .ok (.goto 4, 3) := by decide +kernel
theorem dX2_named_30 : decode cX2_named 30 = .ok (.iconst 1, 1) := by decide +kernel
theorem dX2_named_31 : decode cX2_named 31 = .ok (.iadd, 1) := by decide +kernel
theorem dX2_named_32 : decode cX2_named 32 = .ok (.istore_n 1, 1) := by decide +kernel
theorem dX2_named_33 : decode cX2_named 33 = .ok (.iinc 2 1, 3) := by decide +kernel
theorem dX2_named_36 : decode cX2_named 36 = .ok (.goto (-32), 3) := by decide +kernel
theorem dX2_named_39 : decode cX2_named 39 = .ok (.iload_n 1, 1) := by decide +kernel
theorem dX2_named_40 : decode cX2_named 40 = .ok (.ireturn, 1) := by decide +kernel
set_option maxRecDepth 20000 in
theorem ggX2_punPairs_X2_soundAlike : GoodIn wsX2_punPairs wsX2_soundAlike := goodIn_r _ [6, 7, 8, 9, 5, 10, 1, 11, 12, 13, 14, 15, 16, 17, 18, 19, 20, 21, 22, 23] (by decide +kernel) (by decide +kernel)
set_option maxRecDepth 20000 in
theorem gX2_punPairs_X2_soundAlike : GoodIn wsX2_punPairs (wsV RX2 55 RX2 yX2_soundAlike wsX2_soundAlike) := goodIn_app (goodIn_of _ (by decide +kernel)) ggX2_punPairs_X2_soundAlike
theorem dX2_punPairs_0 : decode cX2_punPairs 0 = .ok (.iconst 0, 1) := by decide +kernel
theorem dX2_punPairs_1 : decode cX2_punPairs 1 = .ok (.istore_n 1, 1) := by decide +kernel
theorem dX2_punPairs_2 : decode cX2_punPairs 2 = .ok (.iconst 0, 1) := by decide +kernel
theorem dX2_punPairs_3 : decode cX2_punPairs 3 = .ok (.istore_n 2, 1) := by decide +kernel
theorem dX2_punPairs_4 : decode cX2_punPairs 4 = .ok (.iload_n 2, 1) := by decide +kernel
theorem dX2_punPairs_5 : decode cX2_punPairs 5 = .ok (.bipush 12, 2) := by decide +kernel
theorem dX2_punPairs_7 : decode cX2_punPairs 7 = .ok (.if_icmp .ge 89, 3) := by decide +kernel
theorem dX2_punPairs_10 : decode cX2_punPairs 10 = .ok (.iload_n 2, 1) := by decide +kernel
theorem dX2_punPairs_11 : decode cX2_punPairs 11 = .ok (.iconst 1, 1) := by decide +kernel
theorem dX2_punPairs_12 : decode cX2_punPairs 12 = .ok (.iadd, 1) := by decide +kernel
theorem dX2_punPairs_13 : decode cX2_punPairs 13 = .ok (.istore_n 3, 1) := by decide +kernel
theorem dX2_punPairs_14 : decode cX2_punPairs 14 = .ok (.iload_n 3, 1) := by decide +kernel
theorem dX2_punPairs_15 : decode cX2_punPairs 15 = .ok (.bipush 12, 2) := by decide +kernel
theorem dX2_punPairs_17 : decode cX2_punPairs 17 = .ok (.if_icmp .ge 73, 3) := by decide +kernel
theorem dX2_punPairs_20 : decode cX2_punPairs 20 = .ok (.aload_n 0, 1) := by decide +kernel
theorem dX2_punPairs_21 : decode cX2_punPairs 21 = .ok (.getfield 7, 3) := by decide +kernel
theorem dX2_punPairs_24 : decode cX2_punPairs 24 = .ok (.sipush 249, 3) := by decide +kernel
theorem dX2_punPairs_27 : decode cX2_punPairs 27 = .ok (.iload_n 2, 1) := by decide +kernel
theorem dX2_punPairs_28 : decode cX2_punPairs 28 = .ok (.iadd, 1) := by decide +kernel
theorem dX2_punPairs_29 : decode cX2_punPairs 29 = .ok (.iaload, 1) := by decide +kernel
theorem dX2_punPairs_30 : decode cX2_punPairs 30 = .ok (.istore 4, 2) := by decide +kernel
theorem dX2_punPairs_32 : decode cX2_punPairs 32 = .ok (.aload_n 0, 1) := by decide +kernel
theorem dX2_punPairs_33 : decode cX2_punPairs 33 = .ok (.getfield 7, 3) := by decide +kernel
theorem dX2_punPairs_36 : decode cX2_punPairs 36 = .ok (.sipush 249, 3) := by decide +kernel
theorem dX2_punPairs_39 : decode cX2_punPairs 39 = .ok (.iload_n 3, 1) := by decide +kernel
theorem dX2_punPairs_40 : decode cX2_punPairs 40 = .ok (.iadd, 1) := by decide +kernel
theorem dX2_punPairs_41 : decode cX2_punPairs 41 = .ok (.iaload, 1) := by decide +kernel
theorem dX2_punPairs_42 : decode cX2_punPairs 42 = .ok (.istore 5, 2) := by decide +kernel
theorem dX2_punPairs_44 : decode cX2_punPairs 44 = .ok (.iload_n 1, 1) := by decide +kernel
theorem dX2_punPairs_45 : decode cX2_punPairs 45 = .ok (.iload 4, 2) := by decide +kernel
theorem dX2_punPairs_47 : decode cX2_punPairs 47 = .ok (.bipush (-6), 2) := by decide +kernel
theorem dX2_punPairs_49 : decode cX2_punPairs 49 = .ok (.if_icmp .eq 32, 3) := by decide +kernel
theorem dX2_punPairs_52 : decode cX2_punPairs 52 = .ok (.iload 5, 2) := by decide +kernel
theorem dX2_punPairs_54 : decode cX2_punPairs 54 = .ok (.bipush (-6), 2) := by decide +kernel
theorem dX2_punPairs_56 : decode cX2_punPairs 56 = .ok (.if_icmp .eq 25, 3) := by decide +kernel
theorem dX2_punPairs_59 : decode cX2_punPairs 59 = .ok (.iload 4, 2) := by decide +kernel
theorem dX2_punPairs_61 : decode cX2_punPairs 61 = .ok (.iload 5, 2) := by decide +kernel
theorem dX2_punPairs_63 : decode cX2_punPairs 63 = .ok (.if_icmp .eq 18, 3) := by decide +kernel
theorem dX2_punPairs_66 : decode cX2_punPairs 66 = .ok (.aload_n 0, 1) := by decide +kernel
theorem dX2_punPairs_67 : decode cX2_punPairs 67 = .ok (.iload 4, 2) := by decide +kernel
theorem dX2_punPairs_69 : decode cX2_punPairs 69 = .ok (.iload 5, 2) := by decide +kernel
theorem dX2_punPairs_71 : decode cX2_punPairs 71 = .ok (.invokevirtual 55, 3) := by decide +kernel
theorem dX2_punPairs_74 : decode cX2_punPairs 74 = .ok (.ifCond .eq 7, 3) := by decide +kernel
theorem dX2_punPairs_77 : decode cX2_punPairs 77 = .ok (.iconst 1, 1) := by decide +kernel
theorem dX2_punPairs_78 : decode cX2_punPairs 78 = .ok (.goto 4, 3) := by decide +kernel
theorem dX2_punPairs_81 : decode cX2_punPairs 81 = .ok (.iconst 0, 1) := by decide +kernel
theorem dX2_punPairs_82 : decode cX2_punPairs 82 = .ok (.iadd, 1) := by decide +kernel
theorem dX2_punPairs_83 : decode cX2_punPairs 83 = .ok (.istore_n 1, 1) := by decide +kernel
theorem dX2_punPairs_84 : decode cX2_punPairs 84 = .ok (.iinc 3 1, 3) := by decide +kernel
theorem dX2_punPairs_87 : decode cX2_punPairs 87 = .ok (.goto (-73), 3) := by decide +kernel
theorem dX2_punPairs_90 : decode cX2_punPairs 90 = .ok (.iinc 2 1, 3) := by decide +kernel
theorem dX2_punPairs_93 : decode cX2_punPairs 93 = .ok (.goto (-89), 3) := by decide +kernel
theorem dX2_punPairs_96 : decode cX2_punPairs 96 = .ok (.iload_n 1, 1) := by decide +kernel
theorem dX2_punPairs_97 : decode cX2_punPairs 97 = .ok (.ireturn, 1) := by decide +kernel
set_option maxRecDepth 20000 in
theorem ggX2_count_X2_waiting : GoodIn wsX2_count wsX2_waiting := goodIn_r _ [9, 1, 10, 11, 12, 8, 13, 14, 15, 16, 17, 18, 19, 20, 21, 45, 46, 47, 48, 49, 50, 51, 52, 53, 54, 55, 56, 57] (by decide +kernel) (by decide +kernel)
set_option maxRecDepth 20000 in
theorem gX2_count_X2_waiting : GoodIn wsX2_count (wsV RX2 128 RX2 yX2_waiting wsX2_waiting) := goodIn_app (goodIn_of _ (by decide +kernel)) ggX2_count_X2_waiting
set_option maxRecDepth 20000 in
theorem ggX2_count_X2_named : GoodIn wsX2_count wsX2_named := goodIn_r _ [25, 1, 45, 46, 47, 48, 49, 50, 51, 52, 53, 54, 55, 56, 57] (by decide +kernel) (by decide +kernel)
set_option maxRecDepth 20000 in
theorem gX2_count_X2_named : GoodIn wsX2_count (wsV RX2 131 RX2 yX2_named wsX2_named) := goodIn_app (goodIn_of _ (by decide +kernel)) ggX2_count_X2_named
set_option maxRecDepth 20000 in
theorem ggX2_count_X2_sum : GoodIn wsX2_count wsX2_sum := goodIn_r _ [29, 1, 45, 46, 47, 48, 49, 50, 51, 52, 53, 54, 55, 56, 57] (by decide +kernel) (by decide +kernel)
set_option maxRecDepth 20000 in
theorem gX2_count_X2_sum : GoodIn wsX2_count (wsV RX2 134 RX2 yX2_sum wsX2_sum) := goodIn_app (goodIn_of _ (by decide +kernel)) ggX2_count_X2_sum
set_option maxRecDepth 20000 in
theorem ggX2_count_X2_wrongCorners : GoodIn wsX2_count wsX2_wrongCorners := goodIn_r _ [33, 1, 45, 46, 47, 48, 49, 50, 51, 52, 53, 54, 55, 56, 57] (by decide +kernel) (by decide +kernel)
set_option maxRecDepth 20000 in
theorem gX2_count_X2_wrongCorners : GoodIn wsX2_count (wsV RX2 115 RX2 yX2_wrongCorners wsX2_wrongCorners) := goodIn_app (goodIn_of _ (by decide +kernel)) ggX2_count_X2_wrongCorners
set_option maxRecDepth 20000 in
theorem ggX2_count_X2_punPairs : GoodIn wsX2_count wsX2_punPairs := goodIn_r _ [37, 1, 38, 39, 40, 8, 41, 14, 15, 16, 17, 45, 46, 47, 48, 49, 50, 51, 52, 53, 54, 55, 56, 57] (by decide +kernel) (by decide +kernel)
set_option maxRecDepth 20000 in
theorem gX2_count_X2_punPairs : GoodIn wsX2_count (wsV RX2 137 RX2 yX2_punPairs wsX2_punPairs) := goodIn_app (goodIn_of _ (by decide +kernel)) ggX2_count_X2_punPairs
set_option maxRecDepth 20000 in
theorem ggX2_count_X2_in : GoodIn wsX2_count wsX2_in := goodIn_r _ [44] (by decide +kernel) (by decide +kernel)
set_option maxRecDepth 20000 in
theorem gX2_count_X2_in : GoodIn wsX2_count (va_wsS RX2 41 yX2_in wsX2_in) := goodIn_app (goodIn_of _ (by decide +kernel)) ggX2_count_X2_in
theorem dX2_count_0 : decode cX2_count 0 = .ok (.iload_n 1, 1) := by decide +kernel
theorem dX2_count_1 : decode cX2_count 1 = .ok (.tableswitch 105 6 14 #[51, 56, 61, 69, 77, 85, 90, 95, 100], 51) := by decide +kernel
theorem dX2_count_52 : decode cX2_count 52 = .ok (.aload_n 0, 1) := by decide +kernel
theorem dX2_count_53 : decode cX2_count 53 = .ok (.invokevirtual 128, 3) := by decide +kernel
theorem dX2_count_56 : decode cX2_count 56 = .ok (.ireturn, 1) := by decide +kernel
theorem dX2_count_57 : decode cX2_count 57 = .ok (.aload_n 0, 1) := by decide +kernel
theorem dX2_count_58 : decode cX2_count 58 = .ok (.invokevirtual 131, 3) := by decide +kernel
theorem dX2_count_61 : decode cX2_count 61 = .ok (.ireturn, 1) := by decide +kernel
theorem dX2_count_62 : decode cX2_count 62 = .ok (.aload_n 0, 1) := by decide +kernel
theorem dX2_count_63 : decode cX2_count 63 = .ok (.sipush 261, 3) := by decide +kernel
theorem dX2_count_66 : decode cX2_count 66 = .ok (.invokevirtual 134, 3) := by decide +kernel
theorem dX2_count_69 : decode cX2_count 69 = .ok (.ireturn, 1) := by decide +kernel
theorem dX2_count_70 : decode cX2_count 70 = .ok (.aload_n 0, 1) := by decide +kernel
theorem dX2_count_71 : decode cX2_count 71 = .ok (.getfield 7, 3) := by decide +kernel
theorem dX2_count_74 : decode cX2_count 74 = .ok (.bipush 7, 2) := by decide +kernel
theorem dX2_count_76 : decode cX2_count 76 = .ok (.iaload, 1) := by decide +kernel
theorem dX2_count_77 : decode cX2_count 77 = .ok (.ireturn, 1) := by decide +kernel
theorem dX2_count_78 : decode cX2_count 78 = .ok (.aload_n 0, 1) := by decide +kernel
theorem dX2_count_79 : decode cX2_count 79 = .ok (.getfield 7, 3) := by decide +kernel
theorem dX2_count_82 : decode cX2_count 82 = .ok (.bipush 8, 2) := by decide +kernel
theorem dX2_count_84 : decode cX2_count 84 = .ok (.iaload, 1) := by decide +kernel
theorem dX2_count_85 : decode cX2_count 85 = .ok (.ireturn, 1) := by decide +kernel
theorem dX2_count_86 : decode cX2_count 86 = .ok (.aload_n 0, 1) := by decide +kernel
theorem dX2_count_87 : decode cX2_count 87 = .ok (.invokevirtual 115, 3) := by decide +kernel
theorem dX2_count_90 : decode cX2_count 90 = .ok (.ireturn, 1) := by decide +kernel
theorem dX2_count_91 : decode cX2_count 91 = .ok (.aload_n 0, 1) := by decide +kernel
theorem dX2_count_92 : decode cX2_count 92 = .ok (.invokevirtual 137, 3) := by decide +kernel
theorem dX2_count_95 : decode cX2_count 95 = .ok (.ireturn, 1) := by decide +kernel
theorem dX2_count_96 : decode cX2_count 96 = .ok (.aload_n 0, 1) := by decide +kernel
theorem dX2_count_97 : decode cX2_count 97 = .ok (.getfield 140, 3) := by decide +kernel
theorem dX2_count_100 : decode cX2_count 100 = .ok (.ireturn, 1) := by decide +kernel
theorem dX2_count_101 : decode cX2_count 101 = .ok (.aload_n 0, 1) := by decide +kernel
theorem dX2_count_102 : decode cX2_count 102 = .ok (.getfield 37, 3) := by decide +kernel
theorem dX2_count_105 : decode cX2_count 105 = .ok (.ireturn, 1) := by decide +kernel
theorem dX2_count_106 : decode cX2_count 106 = .ok (.iload_n 1, 1) := by decide +kernel
theorem dX2_count_107 : decode cX2_count 107 = .ok (.i2l, 1) := by decide +kernel
theorem dX2_count_108 : decode cX2_count 108 = .ok (.lconst 0, 1) := by decide +kernel
theorem dX2_count_109 : decode cX2_count 109 = .ok (.ldc2_w 126, 3) := by decide +kernel
theorem dX2_count_112 : decode cX2_count 112 = .ok (.invokestatic 41, 3) := by decide +kernel
theorem dX2_count_115 : decode cX2_count 115 = .ok (.ifCond .eq 12, 3) := by decide +kernel
theorem dX2_count_118 : decode cX2_count 118 = .ok (.aload_n 0, 1) := by decide +kernel
theorem dX2_count_119 : decode cX2_count 119 = .ok (.getfield 7, 3) := by decide +kernel
theorem dX2_count_122 : decode cX2_count 122 = .ok (.iload_n 1, 1) := by decide +kernel
theorem dX2_count_123 : decode cX2_count 123 = .ok (.iaload, 1) := by decide +kernel
theorem dX2_count_124 : decode cX2_count 124 = .ok (.goto 5, 3) := by decide +kernel
theorem dX2_count_127 : decode cX2_count 127 = .ok (.bipush (-2), 2) := by decide +kernel
theorem dX2_count_129 : decode cX2_count 129 = .ok (.ireturn, 1) := by decide +kernel
set_option maxRecDepth 20000 in
theorem ggX2_bestCorner_X2_isName : GoodIn wsX2_bestCorner wsX2_isName := goodIn_r _ [5, 6, 7, 8, 4, 9, 37, 38, 39, 40, 41, 42, 43, 44, 45, 46, 47, 48, 49] (by decide +kernel) (by decide +kernel)
set_option maxRecDepth 20000 in
theorem gX2_bestCorner_X2_isName : GoodIn wsX2_bestCorner (wsV RX2 104 RX2 yX2_isName wsX2_isName) := goodIn_app (goodIn_of _ (by decide +kernel)) ggX2_bestCorner_X2_isName
set_option maxRecDepth 20000 in
theorem ggX2_bestCorner_X2_lowest : GoodIn wsX2_bestCorner wsX2_lowest := goodIn_r _ [13, 14, 15, 16, 4, 17, 6, 18, 19, 20, 21, 22, 23, 24, 25, 26, 27, 28, 29, 30, 31, 32, 33, 34, 35, 36, 37, 38, 39, 40, 41, 42, 43, 44, 45, 46, 47, 48, 49] (by decide +kernel) (by decide +kernel)
set_option maxRecDepth 20000 in
theorem gX2_bestCorner_X2_lowest : GoodIn wsX2_bestCorner (wsV RX2 78 RX2 yX2_lowest wsX2_lowest) := goodIn_app (goodIn_of _ (by decide +kernel)) ggX2_bestCorner_X2_lowest
theorem dX2_bestCorner_0 : decode cX2_bestCorner 0 = .ok (.aload_n 0, 1) := by decide +kernel
theorem dX2_bestCorner_1 : decode cX2_bestCorner 1 = .ok (.iload_n 1, 1) := by decide +kernel
theorem dX2_bestCorner_2 : decode cX2_bestCorner 2 = .ok (.invokevirtual 104, 3) := by decide +kernel
theorem dX2_bestCorner_5 : decode cX2_bestCorner 5 = .ok (.ifCond .eq 11, 3) := by decide +kernel
theorem dX2_bestCorner_8 : decode cX2_bestCorner 8 = .ok (.aload_n 0, 1) := by decide +kernel
theorem dX2_bestCorner_9 : decode cX2_bestCorner 9 = .ok (.iload_n 1, 1) := by decide +kernel
theorem dX2_bestCorner_10 : decode cX2_bestCorner 10 = .ok (.invokevirtual 78, 3) := by decide +kernel
theorem dX2_bestCorner_13 : decode cX2_bestCorner 13 = .ok (.goto 4, 3) := by decide +kernel
theorem dX2_bestCorner_16 : decode cX2_bestCorner 16 = .ok (.iconst (-1), 1) := by decide +kernel
theorem dX2_bestCorner_17 : decode cX2_bestCorner 17 = .ok (.ireturn, 1) := by decide +kernel
set_option maxRecDepth 20000 in
theorem ggX2_until_X2_keeps : GoodIn wsX2_until wsX2_keeps := goodIn_r _ [5, 6, 7, 71, 72, 73, 74, 75, 76, 77, 78, 79, 80, 81, 82, 83] (by decide +kernel) (by decide +kernel)
set_option maxRecDepth 20000 in
theorem gX2_until_X2_keeps : GoodIn wsX2_until (wsV RX2 143 RX2 yX2_keeps wsX2_keeps) := goodIn_app (goodIn_of _ (by decide +kernel)) ggX2_until_X2_keeps
set_option maxRecDepth 20000 in
theorem ggX2_until_X2_sum : GoodIn wsX2_until wsX2_sum := goodIn_r _ [11, 7, 71, 72, 73, 74, 75, 76, 77, 78, 79, 80, 81, 82, 83] (by decide +kernel) (by decide +kernel)
set_option maxRecDepth 20000 in
theorem gX2_until_X2_sum : GoodIn wsX2_until (wsV RX2 134 RX2 yX2_sum wsX2_sum) := goodIn_app (goodIn_of _ (by decide +kernel)) ggX2_until_X2_sum
set_option maxRecDepth 20000 in
theorem ggX2_until_X2_whereIs : GoodIn wsX2_until wsX2_whereIs := goodIn_r _ [15, 16, 17, 18, 4, 19, 7, 20, 21, 22, 23, 71, 72, 73, 74, 75, 76, 77, 78, 79, 80, 81, 82, 83] (by decide +kernel) (by decide +kernel)
set_option maxRecDepth 20000 in
theorem gX2_until_X2_whereIs : GoodIn wsX2_until (wsV RX2 72 RX2 yX2_whereIs wsX2_whereIs) := goodIn_app (goodIn_of _ (by decide +kernel)) ggX2_until_X2_whereIs
set_option maxRecDepth 20000 in
theorem ggX2_until_X2_day : GoodIn wsX2_until wsX2_day := goodIn_r _ [27, 7, 28, 29, 30, 4, 31, 12, 13, 14, 15, 16, 17, 18, 19, 20, 21, 22, 23, 32, 33, 34, 35, 36, 37, 38, 39, 40, 41, 42, 43, 44, 45, 46, 47, 48, 49, 50, 51, 52, 53, 54, 55, 56, 57, 58, 59, 60, 61, 62, 63, 64, 65, 66, 71, 72, 73, 74, 75, 76, 77, 78, 79, 80, 81, 82, 83] (by decide +kernel) (by decide +kernel)
set_option maxRecDepth 20000 in
theorem gX2_until_X2_day : GoodIn wsX2_until (wsV RX2 120 RX2 yX2_day wsX2_day) := goodIn_app (goodIn_of _ (by decide +kernel)) ggX2_until_X2_day
set_option maxRecDepth 20000 in
theorem ggX2_until_X2_comesBack : GoodIn wsX2_until wsX2_comesBack := goodIn_r _ [70, 7, 6, 71, 72, 73, 74, 75, 76, 77, 78, 79, 80, 81, 82, 83] (by decide +kernel) (by decide +kernel)
set_option maxRecDepth 20000 in
theorem gX2_until_X2_comesBack : GoodIn wsX2_until (wsV RX2 146 RX2 yX2_comesBack wsX2_comesBack) := goodIn_app (goodIn_of _ (by decide +kernel)) ggX2_until_X2_comesBack
theorem dX2_until_0 : decode cX2_until 0 = .ok (.aload_n 0, 1) := by decide +kernel
theorem dX2_until_1 : decode cX2_until 1 = .ok (.invokevirtual 143, 3) := by decide +kernel
theorem dX2_until_4 : decode cX2_until 4 = .ok (.iconst 0, 1) := by decide +kernel
theorem dX2_until_5 : decode cX2_until 5 = .ok (.istore_n 2, 1) := by decide +kernel
theorem dX2_until_6 : decode cX2_until 6 = .ok (.iload_n 2, 1) := by decide +kernel
theorem dX2_until_7 : decode cX2_until 7 = .ok (.sipush 300, 3) := by decide +kernel
theorem dX2_until_10 : decode cX2_until 10 = .ok (.if_icmp .gt 41, 3) := by decide +kernel
theorem dX2_until_13 : decode cX2_until 13 = .ok (.iload_n 1, 1) := by decide +kernel
theorem dX2_until_14 : decode cX2_until 14 = .ok (.bipush (-6), 2) := by decide +kernel
theorem dX2_until_16 : decode cX2_until 16 = .ok (.if_icmp .ne 16, 3) := by decide +kernel
theorem dX2_until_19 : decode cX2_until 19 = .ok (.aload_n 0, 1) := by decide +kernel
theorem dX2_until_20 : decode cX2_until 20 = .ok (.sipush 261, 3) := by decide +kernel
theorem dX2_until_23 : decode cX2_until 23 = .ok (.invokevirtual 134, 3) := by decide +kernel
theorem dX2_until_26 : decode cX2_until 26 = .ok (.ifCond .ne 15, 3) := by decide +kernel
theorem dX2_until_29 : decode cX2_until 29 = .ok (.goto 22, 3) := by decide +kernel
theorem dX2_until_32 : decode cX2_until 32 = .ok (.aload_n 0, 1) := by decide +kernel
theorem dX2_until_33 : decode cX2_until 33 = .ok (.iload_n 1, 1) := by decide +kernel
theorem dX2_until_34 : decode cX2_until 34 = .ok (.invokevirtual 72, 3) := by decide +kernel
theorem dX2_until_37 : decode cX2_until 37 = .ok (.iconst 1, 1) := by decide +kernel
theorem dX2_until_38 : decode cX2_until 38 = .ok (.if_icmp .eq 13, 3) := by decide +kernel
theorem dX2_until_41 : decode cX2_until 41 = .ok (.aload_n 0, 1) := by decide +kernel
theorem dX2_until_42 : decode cX2_until 42 = .ok (.invokevirtual 120, 3) := by decide +kernel
theorem dX2_until_45 : decode cX2_until 45 = .ok (.iinc 2 1, 3) := by decide +kernel
theorem dX2_until_48 : decode cX2_until 48 = .ok (.goto (-42), 3) := by decide +kernel
theorem dX2_until_51 : decode cX2_until 51 = .ok (.aload_n 0, 1) := by decide +kernel
theorem dX2_until_52 : decode cX2_until 52 = .ok (.invokevirtual 146, 3) := by decide +kernel
theorem dX2_until_55 : decode cX2_until 55 = .ok (.iload_n 2, 1) := by decide +kernel
theorem dX2_until_56 : decode cX2_until 56 = .ok (.sipush 300, 3) := by decide +kernel
theorem dX2_until_59 : decode cX2_until 59 = .ok (.if_icmp .le 8, 3) := by decide +kernel
theorem dX2_until_62 : decode cX2_until 62 = .ok (.bipush (-6), 2) := by decide +kernel
theorem dX2_until_64 : decode cX2_until 64 = .ok (.goto 4, 3) := by decide +kernel
theorem dX2_until_67 : decode cX2_until 67 = .ok (.iload_n 2, 1) := by decide +kernel
theorem dX2_until_68 : decode cX2_until 68 = .ok (.ireturn, 1) := by decide +kernel
set_option maxRecDepth 20000 in
theorem ggX2_untilBorne_X2_isName : GoodIn wsX2_untilBorne wsX2_isName := goodIn_r _ [5, 6, 7, 8, 4, 9, 82, 83, 84, 85, 86, 87, 88, 89, 90, 91, 92, 93, 94] (by decide +kernel) (by decide +kernel)
set_option maxRecDepth 20000 in
theorem gX2_untilBorne_X2_isName : GoodIn wsX2_untilBorne (wsV RX2 104 RX2 yX2_isName wsX2_isName) := goodIn_app (goodIn_of _ (by decide +kernel)) ggX2_untilBorne_X2_isName
set_option maxRecDepth 20000 in
theorem ggX2_untilBorne_X2_until : GoodIn wsX2_untilBorne wsX2_until := goodIn_r _ [13, 14, 15, 16, 4, 17, 18, 6, 19, 20, 21, 22, 23, 24, 25, 26, 27, 28, 29, 30, 31, 32, 33, 34, 35, 36, 37, 38, 39, 40, 41, 42, 43, 44, 45, 46, 47, 48, 49, 50, 51, 52, 53, 54, 55, 56, 57, 58, 59, 60, 61, 62, 63, 64, 65, 66, 67, 68, 69, 70, 71, 72, 73, 74, 75, 76, 77, 78, 79, 80, 81, 82, 83, 84, 85, 86, 87, 88, 89, 90, 91, 92, 93, 94] (by decide +kernel) (by decide +kernel)
set_option maxRecDepth 20000 in
theorem gX2_untilBorne_X2_until : GoodIn wsX2_untilBorne (wsV RX2 149 RX2 yX2_until wsX2_until) := goodIn_app (goodIn_of _ (by decide +kernel)) ggX2_untilBorne_X2_until
theorem dX2_untilBorne_0 : decode cX2_untilBorne 0 = .ok (.aload_n 0, 1) := by decide +kernel
theorem dX2_untilBorne_1 : decode cX2_untilBorne 1 = .ok (.iload_n 1, 1) := by decide +kernel
theorem dX2_untilBorne_2 : decode cX2_untilBorne 2 = .ok (.invokevirtual 104, 3) := by decide +kernel
theorem dX2_untilBorne_5 : decode cX2_untilBorne 5 = .ok (.ifCond .eq 11, 3) := by decide +kernel
theorem dX2_untilBorne_8 : decode cX2_untilBorne 8 = .ok (.aload_n 0, 1) := by decide +kernel
theorem dX2_untilBorne_9 : decode cX2_untilBorne 9 = .ok (.iload_n 1, 1) := by decide +kernel
theorem dX2_untilBorne_10 : decode cX2_untilBorne 10 = .ok (.invokevirtual 149, 3) := by decide +kernel
theorem dX2_untilBorne_13 : decode cX2_untilBorne 13 = .ok (.goto 4, 3) := by decide +kernel
theorem dX2_untilBorne_16 : decode cX2_untilBorne 16 = .ok (.iconst (-1), 1) := by decide +kernel
theorem dX2_untilBorne_17 : decode cX2_untilBorne 17 = .ok (.ireturn, 1) := by decide +kernel
set_option maxRecDepth 20000 in
theorem ggX2_untilPosted_X2_until : GoodIn wsX2_untilPosted wsX2_until := goodIn_r _ [5, 6, 7, 8, 4, 9, 10, 11, 12, 13, 14, 15, 16, 17, 18, 19, 20, 21, 22, 23, 24, 25, 26, 27, 28, 29, 30, 31, 32, 33, 34, 35, 36, 37, 38, 39, 40, 41, 42, 43, 44, 45, 46, 47, 48, 49, 50, 51, 52, 53, 54, 55, 56, 57, 58, 59, 60, 61, 62, 63, 64, 65, 66, 67, 68, 69, 70, 71, 72, 73, 74, 75, 76, 77, 78, 79, 80, 81, 82, 83, 84, 85, 86, 87] (by decide +kernel) (by decide +kernel)
set_option maxRecDepth 20000 in
theorem gX2_untilPosted_X2_until : GoodIn wsX2_untilPosted (wsV RX2 149 RX2 yX2_until wsX2_until) := goodIn_app (goodIn_of _ (by decide +kernel)) ggX2_untilPosted_X2_until
theorem dX2_untilPosted_0 : decode cX2_untilPosted 0 = .ok (.aload_n 0, 1) := by decide +kernel
theorem dX2_untilPosted_1 : decode cX2_untilPosted 1 = .ok (.bipush (-6), 2) := by decide +kernel
theorem dX2_untilPosted_3 : decode cX2_untilPosted 3 = .ok (.invokevirtual 149, 3) := by decide +kernel
theorem dX2_untilPosted_6 : decode cX2_untilPosted 6 = .ok (.ireturn, 1) := by decide +kernel
set_option maxRecDepth 20000 in
theorem ggX2_ifPassed_X2_in : GoodIn wsX2_ifPassed wsX2_in := goodIn_r _ [8] (by decide +kernel) (by decide +kernel)
set_option maxRecDepth 20000 in
theorem gX2_ifPassed_X2_in : GoodIn wsX2_ifPassed (va_wsS RX2 41 yX2_in wsX2_in) := goodIn_app (goodIn_of _ (by decide +kernel)) ggX2_ifPassed_X2_in
set_option maxRecDepth 20000 in
theorem ggX2_ifPassed_X2_keeps : GoodIn wsX2_ifPassed wsX2_keeps := goodIn_r _ [12, 4, 3, 76, 77, 78, 79, 80, 81, 82, 83, 84, 85, 86, 87, 88] (by decide +kernel) (by decide +kernel)
set_option maxRecDepth 20000 in
theorem gX2_ifPassed_X2_keeps : GoodIn wsX2_ifPassed (wsV RX2 143 RX2 yX2_keeps wsX2_keeps) := goodIn_app (goodIn_of _ (by decide +kernel)) ggX2_ifPassed_X2_keeps
set_option maxRecDepth 20000 in
theorem ggX2_ifPassed_X2_day : GoodIn wsX2_ifPassed wsX2_day := goodIn_r _ [16, 3, 17, 18, 19, 7, 20, 21, 22, 23, 24, 25, 26, 27, 28, 29, 30, 31, 32, 33, 34, 35, 36, 37, 38, 39, 40, 41, 42, 43, 44, 45, 46, 47, 48, 49, 50, 51, 52, 53, 54, 55, 56, 57, 58, 59, 60, 61, 62, 63, 64, 65, 66, 67, 76, 77, 78, 79, 80, 81, 82, 83, 84, 85, 86, 87, 88] (by decide +kernel) (by decide +kernel)
set_option maxRecDepth 20000 in
theorem gX2_ifPassed_X2_day : GoodIn wsX2_ifPassed (wsV RX2 120 RX2 yX2_day wsX2_day) := goodIn_app (goodIn_of _ (by decide +kernel)) ggX2_ifPassed_X2_day
set_option maxRecDepth 20000 in
theorem ggX2_ifPassed_X2_sum : GoodIn wsX2_ifPassed wsX2_sum := goodIn_r _ [71, 3, 76, 77, 78, 79, 80, 81, 82, 83, 84, 85, 86, 87, 88] (by decide +kernel) (by decide +kernel)
set_option maxRecDepth 20000 in
theorem gX2_ifPassed_X2_sum : GoodIn wsX2_ifPassed (wsV RX2 134 RX2 yX2_sum wsX2_sum) := goodIn_app (goodIn_of _ (by decide +kernel)) ggX2_ifPassed_X2_sum
set_option maxRecDepth 20000 in
theorem ggX2_ifPassed_X2_comesBack : GoodIn wsX2_ifPassed wsX2_comesBack := goodIn_r _ [75, 3, 4, 76, 77, 78, 79, 80, 81, 82, 83, 84, 85, 86, 87, 88] (by decide +kernel) (by decide +kernel)
set_option maxRecDepth 20000 in
theorem gX2_ifPassed_X2_comesBack : GoodIn wsX2_ifPassed (wsV RX2 146 RX2 yX2_comesBack wsX2_comesBack) := goodIn_app (goodIn_of _ (by decide +kernel)) ggX2_ifPassed_X2_comesBack
theorem dX2_ifPassed_0 : decode cX2_ifPassed 0 = .ok (.iload_n 1, 1) := by decide +kernel
theorem dX2_ifPassed_1 : decode cX2_ifPassed 1 = .ok (.i2l, 1) := by decide +kernel
theorem dX2_ifPassed_2 : decode cX2_ifPassed 2 = .ok (.lconst 1, 1) := by decide +kernel
theorem dX2_ifPassed_3 : decode cX2_ifPassed 3 = .ok (.ldc2_w 152, 3) := by decide +kernel
theorem dX2_ifPassed_6 : decode cX2_ifPassed 6 = .ok (.invokestatic 41, 3) := by decide +kernel
theorem dX2_ifPassed_9 : decode cX2_ifPassed 9 = .ok (.ifCond .eq 15, 3) := by decide +kernel
theorem dX2_ifPassed_12 : decode cX2_ifPassed 12 = .ok (.iload_n 2, 1) := by decide +kernel
theorem dX2_ifPassed_13 : decode cX2_ifPassed 13 = .ok (.i2l, 1) := by decide +kernel
theorem dX2_ifPassed_14 : decode cX2_ifPassed 14 = .ok (.lconst 0, 1) := by decide +kernel
theorem dX2_ifPassed_15 : decode cX2_ifPassed 15 = .ok (.ldc2_w 154, 3) := by decide +kernel
theorem dX2_ifPassed_18 : decode cX2_ifPassed 18 = .ok (.invokestatic 41, 3) := by decide +kernel
theorem dX2_ifPassed_21 : decode cX2_ifPassed 21 = .ok (.ifCond .ne 6, 3) := by decide +kernel
theorem dX2_ifPassed_24 : decode cX2_ifPassed 24 = .ok (.bipush (-2), 2) := by decide +kernel
theorem dX2_ifPassed_26 : decode cX2_ifPassed 26 = .ok (.ireturn, 1) := by decide +kernel
theorem dX2_ifPassed_27 : decode cX2_ifPassed 27 = .ok (.aload_n 0, 1) := by decide +kernel
theorem dX2_ifPassed_28 : decode cX2_ifPassed 28 = .ok (.invokevirtual 143, 3) := by decide +kernel
theorem dX2_ifPassed_31 : decode cX2_ifPassed 31 = .ok (.iconst 0, 1) := by decide +kernel
theorem dX2_ifPassed_32 : decode cX2_ifPassed 32 = .ok (.istore_n 3, 1) := by decide +kernel
theorem dX2_ifPassed_33 : decode cX2_ifPassed 33 = .ok (.iload_n 3, 1) := by decide +kernel
theorem dX2_ifPassed_34 : decode cX2_ifPassed 34 = .ok (.iload_n 1, 1) := by decide +kernel
theorem dX2_ifPassed_35 : decode cX2_ifPassed 35 = .ok (.if_icmp .ge 13, 3) := by decide +kernel
theorem dX2_ifPassed_38 : decode cX2_ifPassed 38 = .ok (.aload_n 0, 1) := by decide +kernel
theorem dX2_ifPassed_39 : decode cX2_ifPassed 39 = .ok (.invokevirtual 120, 3) := by decide +kernel
theorem dX2_ifPassed_42 : decode cX2_ifPassed 42 = .ok (.iinc 3 1, 3) := by decide +kernel
theorem dX2_ifPassed_45 : decode cX2_ifPassed 45 = .ok (.goto (-12), 3) := by decide +kernel
theorem dX2_ifPassed_48 : decode cX2_ifPassed 48 = .ok (.iload_n 2, 1) := by decide +kernel
theorem dX2_ifPassed_49 : decode cX2_ifPassed 49 = .ok (.ifCond .ne 21, 3) := by decide +kernel
theorem dX2_ifPassed_52 : decode cX2_ifPassed 52 = .ok (.aload_n 0, 1) := by decide +kernel
theorem dX2_ifPassed_53 : decode cX2_ifPassed 53 = .ok (.getfield 7, 3) := by decide +kernel
theorem dX2_ifPassed_56 : decode cX2_ifPassed 56 = .ok (.bipush 8, 2) := by decide +kernel
theorem dX2_ifPassed_58 : decode cX2_ifPassed 58 = .ok (.iaload, 1) := by decide +kernel
theorem dX2_ifPassed_59 : decode cX2_ifPassed 59 = .ok (.aload_n 0, 1) := by decide +kernel
theorem dX2_ifPassed_60 : decode cX2_ifPassed 60 = .ok (.getfield 13, 3) := by decide +kernel
theorem dX2_ifPassed_63 : decode cX2_ifPassed 63 = .ok (.bipush 8, 2) := by decide +kernel
theorem dX2_ifPassed_65 : decode cX2_ifPassed 65 = .ok (.iaload, 1) := by decide +kernel
theorem dX2_ifPassed_66 : decode cX2_ifPassed 66 = .ok (.isub, 1) := by decide +kernel
theorem dX2_ifPassed_67 : decode cX2_ifPassed 67 = .ok (.goto 33, 3) := by decide +kernel
theorem dX2_ifPassed_70 : decode cX2_ifPassed 70 = .ok (.iload_n 2, 1) := by decide +kernel
theorem dX2_ifPassed_71 : decode cX2_ifPassed 71 = .ok (.iconst 1, 1) := by decide +kernel
theorem dX2_ifPassed_72 : decode cX2_ifPassed 72 = .ok (.if_icmp .ne 21, 3) := by decide +kernel
theorem dX2_ifPassed_75 : decode cX2_ifPassed 75 = .ok (.aload_n 0, 1) := by decide +kernel
theorem dX2_ifPassed_76 : decode cX2_ifPassed 76 = .ok (.getfield 7, 3) := by decide +kernel
theorem dX2_ifPassed_79 : decode cX2_ifPassed 79 = .ok (.bipush 7, 2) := by decide +kernel
theorem dX2_ifPassed_81 : decode cX2_ifPassed 81 = .ok (.iaload, 1) := by decide +kernel
theorem dX2_ifPassed_82 : decode cX2_ifPassed 82 = .ok (.aload_n 0, 1) := by decide +kernel
theorem dX2_ifPassed_83 : decode cX2_ifPassed 83 = .ok (.getfield 13, 3) := by decide +kernel
theorem dX2_ifPassed_86 : decode cX2_ifPassed 86 = .ok (.bipush 7, 2) := by decide +kernel
theorem dX2_ifPassed_88 : decode cX2_ifPassed 88 = .ok (.iaload, 1) := by decide +kernel
theorem dX2_ifPassed_89 : decode cX2_ifPassed 89 = .ok (.isub, 1) := by decide +kernel
theorem dX2_ifPassed_90 : decode cX2_ifPassed 90 = .ok (.goto 10, 3) := by decide +kernel
theorem dX2_ifPassed_93 : decode cX2_ifPassed 93 = .ok (.aload_n 0, 1) := by decide +kernel
theorem dX2_ifPassed_94 : decode cX2_ifPassed 94 = .ok (.sipush 261, 3) := by decide +kernel
theorem dX2_ifPassed_97 : decode cX2_ifPassed 97 = .ok (.invokevirtual 134, 3) := by decide +kernel
theorem dX2_ifPassed_100 : decode cX2_ifPassed 100 = .ok (.istore_n 3, 1) := by decide +kernel
theorem dX2_ifPassed_101 : decode cX2_ifPassed 101 = .ok (.aload_n 0, 1) := by decide +kernel
theorem dX2_ifPassed_102 : decode cX2_ifPassed 102 = .ok (.invokevirtual 146, 3) := by decide +kernel
theorem dX2_ifPassed_105 : decode cX2_ifPassed 105 = .ok (.iload_n 3, 1) := by decide +kernel
theorem dX2_ifPassed_106 : decode cX2_ifPassed 106 = .ok (.ireturn, 1) := by decide +kernel
set_option maxRecDepth 20000 in
theorem ggX2_charactersOf_X2_in : GoodIn wsX2_charactersOf wsX2_in := goodIn_r _ [7] (by decide +kernel) (by decide +kernel)
set_option maxRecDepth 20000 in
theorem gX2_charactersOf_X2_in : GoodIn wsX2_charactersOf (va_wsS RX2 41 yX2_in wsX2_in) := goodIn_app (goodIn_of _ (by decide +kernel)) ggX2_charactersOf_X2_in
theorem dX2_charactersOf_0 : decode cX2_charactersOf 0 = .ok (.lload_n 0, 1) := by decide +kernel
theorem dX2_charactersOf_1 : decode cX2_charactersOf 1 = .ok (.lstore_n 2, 1) := by decide +kernel
theorem dX2_charactersOf_2 : decode cX2_charactersOf 2 = .ok (.iconst 0, 1) := by decide +kernel
theorem dX2_charactersOf_3 : decode cX2_charactersOf 3 = .ok (.istore 4, 2) := by decide +kernel
theorem dX2_charactersOf_5 : decode cX2_charactersOf 5 = .ok (.iload 4, 2) := by decide +kernel
theorem dX2_charactersOf_7 : decode cX2_charactersOf 7 = .ok (.bipush 8, 2) := by decide +kernel
theorem dX2_charactersOf_9 : decode cX2_charactersOf 9 = .ok (.if_icmp .ge 31, 3) := by decide +kernel
theorem dX2_charactersOf_12 : decode cX2_charactersOf 12 = .ok (.lload_n 2, 1) := by decide +kernel
theorem dX2_charactersOf_13 : decode cX2_charactersOf 13 = .ok (.ldc2_w 156, 3) := by decide +kernel
theorem dX2_charactersOf_16 : decode cX2_charactersOf 16 = .ok (.land, 1) := by decide +kernel
theorem dX2_charactersOf_17 : decode cX2_charactersOf 17 = .ok (.ldc2_w 158, 3) := by decide +kernel
theorem dX2_charactersOf_20 : decode cX2_charactersOf 20 = .ok (.ldc2_w 160, 3) := by decide +kernel
theorem dX2_charactersOf_23 : decode cX2_charactersOf 23 = .ok (.invokestatic 41, 3) := by decide +kernel
theorem dX2_charactersOf_26 : decode cX2_charactersOf 26 = .ok (.ifCond .eq 14, 3) := by decide +kernel
theorem dX2_charactersOf_29 : decode cX2_charactersOf 29 = .ok (.lload_n 2, 1) := by decide +kernel
theorem dX2_charactersOf_30 : decode cX2_charactersOf 30 = .ok (.bipush 8, 2) := by decide +kernel
theorem dX2_charactersOf_32 : decode cX2_charactersOf 32 = .ok (.lushr, 1) := by decide +kernel
theorem dX2_charactersOf_33 : decode cX2_charactersOf 33 = .ok (.lstore_n 2, 1) := by decide +kernel
theorem dX2_charactersOf_34 : decode cX2_charactersOf 34 = .ok (.iinc 4 1, 3) := by decide +kernel
theorem dX2_charactersOf_37 : decode cX2_charactersOf 37 = .ok (.goto (-32), 3) := by decide +kernel
theorem dX2_charactersOf_40 : decode cX2_charactersOf 40 = .ok (.lload_n 2, 1) := by decide +kernel
theorem dX2_charactersOf_41 : decode cX2_charactersOf 41 = .ok (.lconst 0, 1) := by decide +kernel
theorem dX2_charactersOf_42 : decode cX2_charactersOf 42 = .ok (.lcmp, 1) := by decide +kernel
theorem dX2_charactersOf_43 : decode cX2_charactersOf 43 = .ok (.ifCond .ne 8, 3) := by decide +kernel
theorem dX2_charactersOf_46 : decode cX2_charactersOf 46 = .ok (.iload 4, 2) := by decide +kernel
theorem dX2_charactersOf_48 : decode cX2_charactersOf 48 = .ok (.goto 4, 3) := by decide +kernel
theorem dX2_charactersOf_51 : decode cX2_charactersOf 51 = .ok (.iconst 0, 1) := by decide +kernel
theorem dX2_charactersOf_52 : decode cX2_charactersOf 52 = .ok (.ireturn, 1) := by decide +kernel
set_option maxRecDepth 20000 in
theorem ggX2_put_X2_charactersOf : GoodIn wsX2_put wsX2_charactersOf := goodIn_r _ [7, 3, 8, 9, 10, 11, 6, 12] (by decide +kernel) (by decide +kernel)
set_option maxRecDepth 20000 in
theorem gX2_put_X2_charactersOf : GoodIn wsX2_put (va_wsS RX2 162 yX2_charactersOf wsX2_charactersOf) := goodIn_app (goodIn_of _ (by decide +kernel)) ggX2_put_X2_charactersOf
theorem dX2_put_0 : decode cX2_put 0 = .ok (.lload_n 1, 1) := by decide +kernel
theorem dX2_put_1 : decode cX2_put 1 = .ok (.invokestatic 162, 3) := by decide +kernel
theorem dX2_put_4 : decode cX2_put 4 = .ok (.istore_n 3, 1) := by decide +kernel
theorem dX2_put_5 : decode cX2_put 5 = .ok (.iload_n 3, 1) := by decide +kernel
theorem dX2_put_6 : decode cX2_put 6 = .ok (.ifCond .ne 6, 3) := by decide +kernel
theorem dX2_put_9 : decode cX2_put 9 = .ok (.bipush (-2), 2) := by decide +kernel
theorem dX2_put_11 : decode cX2_put 11 = .ok (.ireturn, 1) := by decide +kernel
theorem dX2_put_12 : decode cX2_put 12 = .ok (.aload_n 0, 1) := by decide +kernel
theorem dX2_put_13 : decode cX2_put 13 = .ok (.getfield 140, 3) := by decide +kernel
theorem dX2_put_16 : decode cX2_put 16 = .ok (.iload_n 3, 1) := by decide +kernel
theorem dX2_put_17 : decode cX2_put 17 = .ok (.iadd, 1) := by decide +kernel
theorem dX2_put_18 : decode cX2_put 18 = .ok (.bipush 60, 2) := by decide +kernel
theorem dX2_put_20 : decode cX2_put 20 = .ok (.if_icmp .le 6, 3) := by decide +kernel
theorem dX2_put_23 : decode cX2_put 23 = .ok (.bipush (-4), 2) := by decide +kernel
theorem dX2_put_25 : decode cX2_put 25 = .ok (.ireturn, 1) := by decide +kernel
theorem dX2_put_26 : decode cX2_put 26 = .ok (.iconst 0, 1) := by decide +kernel
theorem dX2_put_27 : decode cX2_put 27 = .ok (.istore 4, 2) := by decide +kernel
theorem dX2_put_29 : decode cX2_put 29 = .ok (.iload 4, 2) := by decide +kernel
theorem dX2_put_31 : decode cX2_put 31 = .ok (.iload_n 3, 1) := by decide +kernel
theorem dX2_put_32 : decode cX2_put 32 = .ok (.if_icmp .ge 37, 3) := by decide +kernel
theorem dX2_put_35 : decode cX2_put 35 = .ok (.aload_n 0, 1) := by decide +kernel
theorem dX2_put_36 : decode cX2_put 36 = .ok (.getfield 25, 3) := by decide +kernel
theorem dX2_put_39 : decode cX2_put 39 = .ok (.aload_n 0, 1) := by decide +kernel
theorem dX2_put_40 : decode cX2_put 40 = .ok (.getfield 140, 3) := by decide +kernel
theorem dX2_put_43 : decode cX2_put 43 = .ok (.iload 4, 2) := by decide +kernel
theorem dX2_put_45 : decode cX2_put 45 = .ok (.iadd, 1) := by decide +kernel
theorem dX2_put_46 : decode cX2_put 46 = .ok (.lload_n 1, 1) := by decide +kernel
theorem dX2_put_47 : decode cX2_put 47 = .ok (.bipush 8, 2) := by decide +kernel
theorem dX2_put_49 : decode cX2_put 49 = .ok (.iload_n 3, 1) := by decide +kernel
theorem dX2_put_50 : decode cX2_put 50 = .ok (.iconst 1, 1) := by decide +kernel
theorem dX2_put_51 : decode cX2_put 51 = .ok (.isub, 1) := by decide +kernel
theorem dX2_put_52 : decode cX2_put 52 = .ok (.iload 4, 2) := by decide +kernel
theorem dX2_put_54 : decode cX2_put 54 = .ok (.isub, 1) := by decide +kernel
theorem dX2_put_55 : decode cX2_put 55 = .ok (.imul, 1) := by decide +kernel
theorem dX2_put_56 : decode cX2_put 56 = .ok (.lushr, 1) := by decide +kernel
theorem dX2_put_57 : decode cX2_put 57 = .ok (.ldc2_w 156, 3) := by decide +kernel
theorem dX2_put_60 : decode cX2_put 60 = .ok (.land, 1) := by decide +kernel
theorem dX2_put_61 : decode cX2_put 61 = .ok (.l2i, 1) := by decide +kernel
theorem dX2_put_62 : decode cX2_put 62 = .ok (.iastore, 1) := by decide +kernel
theorem dX2_put_63 : decode cX2_put 63 = .ok (.iinc 4 1, 3) := by decide +kernel
theorem dX2_put_66 : decode cX2_put 66 = .ok (.goto (-37), 3) := by decide +kernel
theorem dX2_put_69 : decode cX2_put 69 = .ok (.aload_n 0, 1) := by decide +kernel
theorem dX2_put_70 : decode cX2_put 70 = .ok (.dup, 1) := by decide +kernel
theorem dX2_put_71 : decode cX2_put 71 = .ok (.getfield 140, 3) := by decide +kernel
theorem dX2_put_74 : decode cX2_put 74 = .ok (.iload_n 3, 1) := by decide +kernel
theorem dX2_put_75 : decode cX2_put 75 = .ok (.iadd, 1) := by decide +kernel
theorem dX2_put_76 : decode cX2_put 76 = .ok (.putfield 140, 3) := by decide +kernel
theorem dX2_put_79 : decode cX2_put 79 = .ok (.aload_n 0, 1) := by decide +kernel
theorem dX2_put_80 : decode cX2_put 80 = .ok (.getfield 140, 3) := by decide +kernel
theorem dX2_put_83 : decode cX2_put 83 = .ok (.ireturn, 1) := by decide +kernel
theorem dX2_wipe_0 : decode cX2_wipe 0 = .ok (.aload_n 0, 1) := by decide +kernel
theorem dX2_wipe_1 : decode cX2_wipe 1 = .ok (.getfield 140, 3) := by decide +kernel
theorem dX2_wipe_4 : decode cX2_wipe 4 = .ok (.istore_n 1, 1) := by decide +kernel
theorem dX2_wipe_5 : decode cX2_wipe 5 = .ok (.aload_n 0, 1) := by decide +kernel
theorem dX2_wipe_6 : decode cX2_wipe 6 = .ok (.iconst 0, 1) := by decide +kernel
theorem dX2_wipe_7 : decode cX2_wipe 7 = .ok (.putfield 140, 3) := by decide +kernel
theorem dX2_wipe_10 : decode cX2_wipe 10 = .ok (.iload_n 1, 1) := by decide +kernel
theorem dX2_wipe_11 : decode cX2_wipe 11 = .ok (.ireturn, 1) := by decide +kernel
set_option maxRecDepth 20000 in
theorem ggX2_isHere_X2_in : GoodIn wsX2_isHere wsX2_in := goodIn_r _ [7] (by decide +kernel) (by decide +kernel)
set_option maxRecDepth 20000 in
theorem gX2_isHere_X2_in : GoodIn wsX2_isHere (va_wsS RX2 41 yX2_in wsX2_in) := goodIn_app (goodIn_of _ (by decide +kernel)) ggX2_isHere_X2_in
theorem dX2_isHere_0 : decode cX2_isHere 0 = .ok (.aload_n 0, 1) := by decide +kernel
theorem dX2_isHere_1 : decode cX2_isHere 1 = .ok (.getfield 166, 3) := by decide +kernel
theorem dX2_isHere_4 : decode cX2_isHere 4 = .ok (.aload_n 0, 1) := by decide +kernel
theorem dX2_isHere_5 : decode cX2_isHere 5 = .ok (.getfield 140, 3) := by decide +kernel
theorem dX2_isHere_8 : decode cX2_isHere 8 = .ok (.if_icmp .ge 27, 3) := by decide +kernel
theorem dX2_isHere_11 : decode cX2_isHere 11 = .ok (.aload_n 0, 1) := by decide +kernel
theorem dX2_isHere_12 : decode cX2_isHere 12 = .ok (.getfield 25, 3) := by decide +kernel
theorem dX2_isHere_15 : decode cX2_isHere 15 = .ok (.aload_n 0, 1) := by decide +kernel
theorem dX2_isHere_16 : decode cX2_isHere 16 = .ok (.getfield 166, 3) := by decide +kernel
theorem dX2_isHere_19 : decode cX2_isHere 19 = .ok (.iaload, 1) := by decide +kernel
theorem dX2_isHere_20 : decode cX2_isHere 20 = .ok (.i2l, 1) := by decide +kernel
theorem dX2_isHere_21 : decode cX2_isHere 21 = .ok (.iload_n 1, 1) := by decide +kernel
theorem dX2_isHere_22 : decode cX2_isHere 22 = .ok (.i2l, 1) := by decide +kernel
theorem dX2_isHere_23 : decode cX2_isHere 23 = .ok (.iload_n 2, 1) := by decide +kernel
theorem dX2_isHere_24 : decode cX2_isHere 24 = .ok (.i2l, 1) := by decide +kernel
theorem dX2_isHere_25 : decode cX2_isHere 25 = .ok (.invokestatic 41, 3) := by decide +kernel
theorem dX2_isHere_28 : decode cX2_isHere 28 = .ok (.ifCond .eq 7, 3) := by decide +kernel
theorem dX2_isHere_31 : decode cX2_isHere 31 = .ok (.iconst 1, 1) := by decide +kernel
theorem dX2_isHere_32 : decode cX2_isHere 32 = .ok (.goto 4, 3) := by decide +kernel
theorem dX2_isHere_35 : decode cX2_isHere 35 = .ok (.iconst 0, 1) := by decide +kernel
theorem dX2_isHere_36 : decode cX2_isHere 36 = .ok (.ireturn, 1) := by decide +kernel
set_option maxRecDepth 20000 in
theorem ggX2_soundOf_X2_sign : GoodIn wsX2_soundOf wsX2_sign := goodIn_r _ [5] (by decide +kernel) (by decide +kernel)
set_option maxRecDepth 20000 in
theorem gX2_soundOf_X2_sign : GoodIn wsX2_soundOf (va_wsS RX2 169 yX2_sign wsX2_sign) := goodIn_app (goodIn_of _ (by decide +kernel)) ggX2_soundOf_X2_sign
theorem dX2_soundOf_0 : decode cX2_soundOf 0 = .ok (.iconst 0, 1) := by decide +kernel
theorem dX2_soundOf_1 : decode cX2_soundOf 1 = .ok (.istore_n 3, 1) := by decide +kernel
theorem dX2_soundOf_2 : decode cX2_soundOf 2 = .ok (.iconst 0, 1) := by decide +kernel
theorem dX2_soundOf_3 : decode cX2_soundOf 3 = .ok (.istore 4, 2) := by decide +kernel
theorem dX2_soundOf_5 : decode cX2_soundOf 5 = .ok (.iload_n 1, 1) := by decide +kernel
theorem dX2_soundOf_6 : decode cX2_soundOf 6 = .ok (.istore 5, 2) := by decide +kernel
theorem dX2_soundOf_8 : decode cX2_soundOf 8 = .ok (.iload 5, 2) := by decide +kernel
theorem dX2_soundOf_10 : decode cX2_soundOf 10 = .ok (.iload_n 2, 1) := by decide +kernel
theorem dX2_soundOf_11 : decode cX2_soundOf 11 = .ok (.if_icmp .ge 61, 3) := by decide +kernel
theorem dX2_soundOf_14 : decode cX2_soundOf 14 = .ok (.aload_n 0, 1) := by decide +kernel
theorem dX2_soundOf_15 : decode cX2_soundOf 15 = .ok (.getfield 25, 3) := by decide +kernel
theorem dX2_soundOf_18 : decode cX2_soundOf 18 = .ok (.iload 5, 2) := by decide +kernel
theorem dX2_soundOf_20 : decode cX2_soundOf 20 = .ok (.iaload, 1) := by decide +kernel
theorem dX2_soundOf_21 : decode cX2_soundOf 21 = .ok (.invokestatic 169, 3) := by decide +kernel
theorem dX2_soundOf_24 : decode cX2_soundOf 24 = .ok (.istore 6, 2) := by decide +kernel
theorem dX2_soundOf_26 : decode cX2_soundOf 26 = .ok (.iload 6, 2) := by decide +kernel
theorem dX2_soundOf_28 : decode cX2_soundOf 28 = .ok (.ifCond .eq 38, 3) := by decide +kernel
theorem dX2_soundOf_31 : decode cX2_soundOf 31 = .ok (.iload 6, 2) := by decide +kernel
theorem dX2_soundOf_33 : decode cX2_soundOf 33 = .ok (.iload 4, 2) := by decide +kernel
theorem dX2_soundOf_35 : decode cX2_soundOf 35 = .ok (.if_icmp .eq 31, 3) := by decide +kernel
theorem dX2_soundOf_38 : decode cX2_soundOf 38 = .ok (.iload 6, 2) := by decide +kernel
theorem dX2_soundOf_40 : decode cX2_soundOf 40 = .ok (.bipush 7, 2) := by decide +kernel
theorem dX2_soundOf_42 : decode cX2_soundOf 42 = .ok (.if_icmp .ne 12, 3) := by decide +kernel
theorem dX2_soundOf_45 : decode cX2_soundOf 45 = .ok (.iload 4, 2) := by decide +kernel
theorem dX2_soundOf_47 : decode cX2_soundOf 47 = .ok (.ifCond .eq 7, 3) := by decide +kernel
theorem dX2_soundOf_50 : decode cX2_soundOf 50 = .ok (.iload_n 3, 1) := by decide +kernel
theorem dX2_soundOf_51 : decode cX2_soundOf 51 = .ok (.goto 10, 3) := by decide +kernel
theorem dX2_soundOf_54 : decode cX2_soundOf 54 = .ok (.bipush 10, 2) := by decide +kernel
theorem dX2_soundOf_56 : decode cX2_soundOf 56 = .ok (.iload_n 3, 1) := by decide +kernel
theorem dX2_soundOf_57 : decode cX2_soundOf 57 = .ok (.imul, 1) := by decide +kernel
theorem dX2_soundOf_58 : decode cX2_soundOf 58 = .ok (.iload 6, 2) := by decide +kernel
theorem dX2_soundOf_60 : decode cX2_soundOf 60 = .ok (.iadd, 1) := by decide +kernel
theorem dX2_soundOf_61 : decode cX2_soundOf 61 = .ok (.istore_n 3, 1) := by decide +kernel
theorem dX2_soundOf_62 : decode cX2_soundOf 62 = .ok (.iload 6, 2) := by decide +kernel
theorem dX2_soundOf_64 : decode cX2_soundOf 64 = .ok (.istore 4, 2) := by decide +kernel
theorem dX2_soundOf_66 : decode cX2_soundOf 66 = .ok (.iinc 5 1, 3) := by decide +kernel
theorem dX2_soundOf_69 : decode cX2_soundOf 69 = .ok (.goto (-61), 3) := by decide +kernel
theorem dX2_soundOf_72 : decode cX2_soundOf 72 = .ok (.iload_n 3, 1) := by decide +kernel
theorem dX2_soundOf_73 : decode cX2_soundOf 73 = .ok (.ireturn, 1) := by decide +kernel
set_option maxRecDepth 20000 in
theorem ggX2_readsName_X2_isHere : GoodIn wsX2_readsName wsX2_isHere := goodIn_r _ [11, 1, 12, 6, 13, 14, 10, 15, 23, 24, 25, 26, 27, 28, 29, 30, 31, 32, 33, 34, 35] (by decide +kernel) (by decide +kernel)
set_option maxRecDepth 20000 in
theorem gX2_readsName_X2_isHere : GoodIn wsX2_readsName (wsV RX2 172 RX2 yX2_isHere wsX2_isHere) := goodIn_app (goodIn_of _ (by decide +kernel)) ggX2_readsName_X2_isHere
set_option maxRecDepth 20000 in
theorem ggX2_readsName_X2_soundOf : GoodIn wsX2_readsName wsX2_soundOf := goodIn_r _ [19, 6, 20, 21, 10, 22, 23, 24, 25, 26, 27, 28, 29, 30, 31, 32, 33, 34, 35] (by decide +kernel) (by decide +kernel)
set_option maxRecDepth 20000 in
theorem gX2_readsName_X2_soundOf : GoodIn wsX2_readsName (wsV RX2 178 RX2 yX2_soundOf wsX2_soundOf) := goodIn_app (goodIn_of _ (by decide +kernel)) ggX2_readsName_X2_soundOf
theorem dX2_readsName_0 : decode cX2_readsName 0 = .ok (.aload_n 0, 1) := by decide +kernel
theorem dX2_readsName_1 : decode cX2_readsName 1 = .ok (.getfield 166, 3) := by decide +kernel
theorem dX2_readsName_4 : decode cX2_readsName 4 = .ok (.istore_n 1, 1) := by decide +kernel
theorem dX2_readsName_5 : decode cX2_readsName 5 = .ok (.aload_n 0, 1) := by decide +kernel
theorem dX2_readsName_6 : decode cX2_readsName 6 = .ok (.getfield 166, 3) := by decide +kernel
theorem dX2_readsName_9 : decode cX2_readsName 9 = .ok (.iload_n 1, 1) := by decide +kernel
theorem dX2_readsName_10 : decode cX2_readsName 10 = .ok (.isub, 1) := by decide +kernel
theorem dX2_readsName_11 : decode cX2_readsName 11 = .ok (.bipush 9, 2) := by decide +kernel
theorem dX2_readsName_13 : decode cX2_readsName 13 = .ok (.if_icmp .ge 27, 3) := by decide +kernel
theorem dX2_readsName_16 : decode cX2_readsName 16 = .ok (.aload_n 0, 1) := by decide +kernel
theorem dX2_readsName_17 : decode cX2_readsName 17 = .ok (.bipush 97, 2) := by decide +kernel
theorem dX2_readsName_19 : decode cX2_readsName 19 = .ok (.bipush 122, 2) := by decide +kernel
theorem dX2_readsName_21 : decode cX2_readsName 21 = .ok (.invokevirtual 172, 3) := by decide +kernel
theorem dX2_readsName_24 : decode cX2_readsName 24 = .ok (.ifCond .eq 16, 3) := by decide +kernel
theorem dX2_readsName_27 : decode cX2_readsName 27 = .ok (.aload_n 0, 1) := by decide +kernel
theorem dX2_readsName_28 : decode cX2_readsName 28 = .ok (.dup, 1) := by decide +kernel
theorem dX2_readsName_29 : decode cX2_readsName 29 = .ok (.getfield 166, 3) := by decide +kernel
theorem dX2_readsName_32 : decode cX2_readsName 32 = .ok (.iconst 1, 1) := by decide +kernel
theorem dX2_readsName_33 : decode cX2_readsName 33 = .ok (.iadd, 1) := by decide +kernel
theorem dX2_readsName_34 : decode cX2_readsName 34 = .ok (.putfield 166, 3) := by decide +kernel
theorem dX2_readsName_37 : decode cX2_readsName 37 = .ok (.goto (-32), 3) := by decide +kernel
theorem dX2_readsName_40 : decode cX2_readsName 40 = .ok (.aload_n 0, 1) := by decide +kernel
theorem dX2_readsName_41 : decode cX2_readsName 41 = .ok (.getfield 166, 3) := by decide +kernel
theorem dX2_readsName_44 : decode cX2_readsName 44 = .ok (.iload_n 1, 1) := by decide +kernel
theorem dX2_readsName_45 : decode cX2_readsName 45 = .ok (.isub, 1) := by decide +kernel
theorem dX2_readsName_46 : decode cX2_readsName 46 = .ok (.iconst 2, 1) := by decide +kernel
theorem dX2_readsName_47 : decode cX2_readsName 47 = .ok (.if_icmp .lt 14, 3) := by decide +kernel
theorem dX2_readsName_50 : decode cX2_readsName 50 = .ok (.aload_n 0, 1) := by decide +kernel
theorem dX2_readsName_51 : decode cX2_readsName 51 = .ok (.bipush 48, 2) := by decide +kernel
theorem dX2_readsName_53 : decode cX2_readsName 53 = .ok (.bipush 57, 2) := by decide +kernel
theorem dX2_readsName_55 : decode cX2_readsName 55 = .ok (.invokevirtual 172, 3) := by decide +kernel
theorem dX2_readsName_58 : decode cX2_readsName 58 = .ok (.ifCond .ne 5, 3) := by decide +kernel
theorem dX2_readsName_61 : decode cX2_readsName 61 = .ok (.iconst 0, 1) := by decide +kernel
theorem dX2_readsName_62 : decode cX2_readsName 62 = .ok (.ireturn, 1) := by decide +kernel
theorem dX2_readsName_63 : decode cX2_readsName 63 = .ok (.aload_n 0, 1) := by decide +kernel
theorem dX2_readsName_64 : decode cX2_readsName 64 = .ok (.getfield 28, 3) := by decide +kernel
theorem dX2_readsName_67 : decode cX2_readsName 67 = .ok (.aload_n 0, 1) := by decide +kernel
theorem dX2_readsName_68 : decode cX2_readsName 68 = .ok (.getfield 175, 3) := by decide +kernel
theorem dX2_readsName_71 : decode cX2_readsName 71 = .ok (.aload_n 0, 1) := by decide +kernel
theorem dX2_readsName_72 : decode cX2_readsName 72 = .ok (.iload_n 1, 1) := by decide +kernel
theorem dX2_readsName_73 : decode cX2_readsName 73 = .ok (.aload_n 0, 1) := by decide +kernel
theorem dX2_readsName_74 : decode cX2_readsName 74 = .ok (.getfield 166, 3) := by decide +kernel
theorem dX2_readsName_77 : decode cX2_readsName 77 = .ok (.invokevirtual 178, 3) := by decide +kernel
theorem dX2_readsName_80 : decode cX2_readsName 80 = .ok (.iastore, 1) := by decide +kernel
theorem dX2_readsName_81 : decode cX2_readsName 81 = .ok (.aload_n 0, 1) := by decide +kernel
theorem dX2_readsName_82 : decode cX2_readsName 82 = .ok (.getfield 31, 3) := by decide +kernel
theorem dX2_readsName_85 : decode cX2_readsName 85 = .ok (.aload_n 0, 1) := by decide +kernel
theorem dX2_readsName_86 : decode cX2_readsName 86 = .ok (.getfield 175, 3) := by decide +kernel
theorem dX2_readsName_89 : decode cX2_readsName 89 = .ok (.aload_n 0, 1) := by decide +kernel
theorem dX2_readsName_90 : decode cX2_readsName 90 = .ok (.getfield 166, 3) := by decide +kernel
theorem dX2_readsName_93 : decode cX2_readsName 93 = .ok (.iload_n 1, 1) := by decide +kernel
theorem dX2_readsName_94 : decode cX2_readsName 94 = .ok (.isub, 1) := by decide +kernel
theorem dX2_readsName_95 : decode cX2_readsName 95 = .ok (.iastore, 1) := by decide +kernel
theorem dX2_readsName_96 : decode cX2_readsName 96 = .ok (.aload_n 0, 1) := by decide +kernel
theorem dX2_readsName_97 : decode cX2_readsName 97 = .ok (.getfield 34, 3) := by decide +kernel
theorem dX2_readsName_100 : decode cX2_readsName 100 = .ok (.aload_n 0, 1) := by decide +kernel
theorem dX2_readsName_101 : decode cX2_readsName 101 = .ok (.getfield 175, 3) := by decide +kernel
theorem dX2_readsName_104 : decode cX2_readsName 104 = .ok (.aload_n 0, 1) := by decide +kernel
theorem dX2_readsName_105 : decode cX2_readsName 105 = .ok (.getfield 25, 3) := by decide +kernel
theorem dX2_readsName_108 : decode cX2_readsName 108 = .ok (.aload_n 0, 1) := by decide +kernel
theorem dX2_readsName_109 : decode cX2_readsName 109 = .ok (.getfield 166, 3) := by decide +kernel
theorem dX2_readsName_112 : decode cX2_readsName 112 = .ok (.iaload, 1) := by decide +kernel
theorem dX2_readsName_113 : decode cX2_readsName 113 = .ok (.bipush 48, 2) := by decide +kernel
theorem dX2_readsName_115 : decode cX2_readsName 115 = .ok (.isub, 1) := by decide +kernel
theorem dX2_readsName_116 : decode cX2_readsName 116 = .ok (.iastore, 1) := by decide +kernel
theorem dX2_readsName_117 : decode cX2_readsName 117 = .ok (.aload_n 0, 1) := by decide +kernel
theorem dX2_readsName_118 : decode cX2_readsName 118 = .ok (.dup, 1) := by decide +kernel
theorem dX2_readsName_119 : decode cX2_readsName 119 = .ok (.getfield 175, 3) := by decide +kernel
theorem dX2_readsName_122 : decode cX2_readsName 122 = .ok (.iconst 1, 1) := by decide +kernel
theorem dX2_readsName_123 : decode cX2_readsName 123 = .ok (.iadd, 1) := by decide +kernel
theorem dX2_readsName_124 : decode cX2_readsName 124 = .ok (.putfield 175, 3) := by decide +kernel
theorem dX2_readsName_127 : decode cX2_readsName 127 = .ok (.aload_n 0, 1) := by decide +kernel
theorem dX2_readsName_128 : decode cX2_readsName 128 = .ok (.dup, 1) := by decide +kernel
theorem dX2_readsName_129 : decode cX2_readsName 129 = .ok (.getfield 166, 3) := by decide +kernel
theorem dX2_readsName_132 : decode cX2_readsName 132 = .ok (.iconst 1, 1) := by decide +kernel
theorem dX2_readsName_133 : decode cX2_readsName 133 = .ok (.iadd, 1) := by decide +kernel
theorem dX2_readsName_134 : decode cX2_readsName 134 = .ok (.putfield 166, 3) := by decide +kernel
theorem dX2_readsName_137 : decode cX2_readsName 137 = .ok (.iconst 1, 1) := by decide +kernel
theorem dX2_readsName_138 : decode cX2_readsName 138 = .ok (.ireturn, 1) := by decide +kernel
set_option maxRecDepth 20000 in
theorem ggX2_fault_X2_readsName : GoodIn wsX2_fault wsX2_readsName := goodIn_r _ [8, 1, 9, 2, 10, 11, 12, 13, 14, 15, 7, 16, 3, 17, 18, 19, 20, 21, 22, 23, 24, 25, 26, 27, 28, 29, 30, 31, 32, 33, 34, 35, 36, 37, 38, 39] (by decide +kernel) (by decide +kernel)
set_option maxRecDepth 20000 in
theorem gX2_fault_X2_readsName : GoodIn wsX2_fault (wsV RX2 181 RX2 yX2_readsName wsX2_readsName) := goodIn_app (goodIn_of _ (by decide +kernel)) ggX2_fault_X2_readsName
theorem dX2_fault_0 : decode cX2_fault 0 = .ok (.aload_n 0, 1) := by decide +kernel
theorem dX2_fault_1 : decode cX2_fault 1 = .ok (.iconst 0, 1) := by decide +kernel
theorem dX2_fault_2 : decode cX2_fault 2 = .ok (.putfield 166, 3) := by decide +kernel
theorem dX2_fault_5 : decode cX2_fault 5 = .ok (.aload_n 0, 1) := by decide +kernel
theorem dX2_fault_6 : decode cX2_fault 6 = .ok (.iconst 0, 1) := by decide +kernel
theorem dX2_fault_7 : decode cX2_fault 7 = .ok (.putfield 175, 3) := by decide +kernel
theorem dX2_fault_10 : decode cX2_fault 10 = .ok (.iconst 1, 1) := by decide +kernel
theorem dX2_fault_11 : decode cX2_fault 11 = .ok (.istore_n 1, 1) := by decide +kernel
theorem dX2_fault_12 : decode cX2_fault 12 = .ok (.iload_n 1, 1) := by decide +kernel
theorem dX2_fault_13 : decode cX2_fault 13 = .ok (.ifCond .eq 35, 3) := by decide +kernel
theorem dX2_fault_16 : decode cX2_fault 16 = .ok (.aload_n 0, 1) := by decide +kernel
theorem dX2_fault_17 : decode cX2_fault 17 = .ok (.invokevirtual 181, 3) := by decide +kernel
theorem dX2_fault_20 : decode cX2_fault 20 = .ok (.ifCond .ne 8, 3) := by decide +kernel
theorem dX2_fault_23 : decode cX2_fault 23 = .ok (.aload_n 0, 1) := by decide +kernel
theorem dX2_fault_24 : decode cX2_fault 24 = .ok (.getfield 166, 3) := by decide +kernel
theorem dX2_fault_27 : decode cX2_fault 27 = .ok (.ireturn, 1) := by decide +kernel
theorem dX2_fault_28 : decode cX2_fault 28 = .ok (.aload_n 0, 1) := by decide +kernel
theorem dX2_fault_29 : decode cX2_fault 29 = .ok (.getfield 166, 3) := by decide +kernel
theorem dX2_fault_32 : decode cX2_fault 32 = .ok (.aload_n 0, 1) := by decide +kernel
theorem dX2_fault_33 : decode cX2_fault 33 = .ok (.getfield 140, 3) := by decide +kernel
theorem dX2_fault_36 : decode cX2_fault 36 = .ok (.if_icmp .ge 7, 3) := by decide +kernel
theorem dX2_fault_39 : decode cX2_fault 39 = .ok (.iconst 1, 1) := by decide +kernel
theorem dX2_fault_40 : decode cX2_fault 40 = .ok (.goto 4, 3) := by decide +kernel
theorem dX2_fault_43 : decode cX2_fault 43 = .ok (.iconst 0, 1) := by decide +kernel
theorem dX2_fault_44 : decode cX2_fault 44 = .ok (.istore_n 1, 1) := by decide +kernel
theorem dX2_fault_45 : decode cX2_fault 45 = .ok (.goto (-33), 3) := by decide +kernel
theorem dX2_fault_48 : decode cX2_fault 48 = .ok (.bipush (-6), 2) := by decide +kernel
theorem dX2_fault_50 : decode cX2_fault 50 = .ok (.ireturn, 1) := by decide +kernel
set_option maxRecDepth 20000 in
theorem ggX2_read_X2_fault : GoodIn wsX2_read wsX2_fault := goodIn_r _ [11, 12, 2, 6, 13, 14, 15, 10, 16, 5, 4, 3, 17, 18, 19, 20, 21, 22, 23, 24, 25, 26, 27, 28, 29, 30, 31, 42, 43, 44, 45, 46, 47, 48, 49, 50, 51, 52, 53, 54] (by decide +kernel) (by decide +kernel)
set_option maxRecDepth 20000 in
theorem gX2_read_X2_fault : GoodIn wsX2_read (wsV RX2 185 RX2 yX2_fault wsX2_fault) := goodIn_app (goodIn_of _ (by decide +kernel)) ggX2_read_X2_fault
set_option maxRecDepth 20000 in
theorem ggX2_read_X2_changes : GoodIn wsX2_read wsX2_changes := goodIn_r _ [35, 36, 37, 1, 42, 43, 44, 45, 46, 47, 48, 49, 50, 51, 52, 53, 54] (by decide +kernel) (by decide +kernel)
set_option maxRecDepth 20000 in
theorem gX2_read_X2_changes : GoodIn wsX2_read (wsV RX2 101 RX2 yX2_changes wsX2_changes) := goodIn_app (goodIn_of _ (by decide +kernel)) ggX2_read_X2_changes
set_option maxRecDepth 20000 in
theorem ggX2_read_X2_lays : GoodIn wsX2_read wsX2_lays := goodIn_r _ [41, 1, 42, 43, 44, 45, 46, 47, 48, 49, 50, 51, 52, 53, 54] (by decide +kernel) (by decide +kernel)
set_option maxRecDepth 20000 in
theorem gX2_read_X2_lays : GoodIn wsX2_read (wsV RX2 65 RX2 yX2_lays wsX2_lays) := goodIn_app (goodIn_of _ (by decide +kernel)) ggX2_read_X2_lays
theorem dX2_read_0 : decode cX2_read 0 = .ok (.aload_n 0, 1) := by decide +kernel
theorem dX2_read_1 : decode cX2_read 1 = .ok (.invokevirtual 185, 3) := by decide +kernel
theorem dX2_read_4 : decode cX2_read 4 = .ok (.bipush (-6), 2) := by decide +kernel
theorem dX2_read_6 : decode cX2_read 6 = .ok (.if_icmp .eq 6, 3) := by decide +kernel
theorem dX2_read_9 : decode cX2_read 9 = .ok (.bipush (-3), 2) := by decide +kernel
theorem dX2_read_11 : decode cX2_read 11 = .ok (.ireturn, 1) := by decide +kernel
theorem dX2_read_12 : decode cX2_read 12 = .ok (.aload_n 0, 1) := by decide +kernel
theorem dX2_read_13 : decode cX2_read 13 = .ok (.getfield 7, 3) := by decide +kernel
theorem dX2_read_16 : decode cX2_read 16 = .ok (.iconst 5, 1) := by decide +kernel
theorem dX2_read_17 : decode cX2_read 17 = .ok (.iaload, 1) := by decide +kernel
theorem dX2_read_18 : decode cX2_read 18 = .ok (.aload_n 0, 1) := by decide +kernel
theorem dX2_read_19 : decode cX2_read 19 = .ok (.getfield 175, 3) := by decide +kernel
theorem dX2_read_22 : decode cX2_read 22 = .ok (.iadd, 1) := by decide +kernel
theorem dX2_read_23 : decode cX2_read 23 = .ok (.bipush 20, 2) := by decide +kernel
theorem dX2_read_25 : decode cX2_read 25 = .ok (.if_icmp .le 6, 3) := by decide +kernel
theorem dX2_read_28 : decode cX2_read 28 = .ok (.bipush (-4), 2) := by decide +kernel
theorem dX2_read_30 : decode cX2_read 30 = .ok (.ireturn, 1) := by decide +kernel
theorem dX2_read_31 : decode cX2_read 31 = .ok (.aload_n 0, 1) := by decide +kernel
theorem dX2_read_32 : decode cX2_read 32 = .ok (.invokevirtual 101, 3) := by decide +kernel
theorem dX2_read_35 : decode cX2_read 35 = .ok (.iconst 0, 1) := by decide +kernel
theorem dX2_read_36 : decode cX2_read 36 = .ok (.istore_n 1, 1) := by decide +kernel
theorem dX2_read_37 : decode cX2_read 37 = .ok (.iload_n 1, 1) := by decide +kernel
theorem dX2_read_38 : decode cX2_read 38 = .ok (.aload_n 0, 1) := by decide +kernel
theorem dX2_read_39 : decode cX2_read 39 = .ok (.getfield 175, 3) := by decide +kernel
theorem dX2_read_42 : decode cX2_read 42 = .ok (.if_icmp .ge 83, 3) := by decide +kernel
theorem dX2_read_45 : decode cX2_read 45 = .ok (.aload_n 0, 1) := by decide +kernel
theorem dX2_read_46 : decode cX2_read 46 = .ok (.getfield 7, 3) := by decide +kernel
theorem dX2_read_49 : decode cX2_read 49 = .ok (.iconst 5, 1) := by decide +kernel
theorem dX2_read_50 : decode cX2_read 50 = .ok (.iaload, 1) := by decide +kernel
theorem dX2_read_51 : decode cX2_read 51 = .ok (.istore_n 2, 1) := by decide +kernel
theorem dX2_read_52 : decode cX2_read 52 = .ok (.aload_n 0, 1) := by decide +kernel
theorem dX2_read_53 : decode cX2_read 53 = .ok (.getfield 7, 3) := by decide +kernel
theorem dX2_read_56 : decode cX2_read 56 = .ok (.iconst 5, 1) := by decide +kernel
theorem dX2_read_57 : decode cX2_read 57 = .ok (.dup2, 1) := by decide +kernel
theorem dX2_read_58 : decode cX2_read 58 = .ok (.iaload, 1) := by decide +kernel
theorem dX2_read_59 : decode cX2_read 59 = .ok (.iconst 1, 1) := by decide +kernel
theorem dX2_read_60 : decode cX2_read 60 = .ok (.iadd, 1) := by decide +kernel
theorem dX2_read_61 : decode cX2_read 61 = .ok (.iastore, 1) := by decide +kernel
theorem dX2_read_62 : decode cX2_read 62 = .ok (.iconst 0, 1) := by decide +kernel
theorem dX2_read_63 : decode cX2_read 63 = .ok (.istore_n 3, 1) := by decide +kernel
theorem dX2_read_64 : decode cX2_read 64 = .ok (.iload_n 3, 1) := by decide +kernel
theorem dX2_read_65 : decode cX2_read 65 = .ok (.bipush 12, 2) := by decide +kernel
theorem dX2_read_67 : decode cX2_read 67 = .ok (.if_icmp .ge 16, 3) := by decide +kernel
theorem dX2_read_70 : decode cX2_read 70 = .ok (.aload_n 0, 1) := by decide +kernel
theorem dX2_read_71 : decode cX2_read 71 = .ok (.iload_n 2, 1) := by decide +kernel
theorem dX2_read_72 : decode cX2_read 72 = .ok (.iload_n 3, 1) := by decide +kernel
theorem dX2_read_73 : decode cX2_read 73 = .ok (.iconst 0, 1) := by decide +kernel
theorem dX2_read_74 : decode cX2_read 74 = .ok (.invokevirtual 65, 3) := by decide +kernel
theorem dX2_read_77 : decode cX2_read 77 = .ok (.iinc 3 1, 3) := by decide +kernel
theorem dX2_read_80 : decode cX2_read 80 = .ok (.goto (-16), 3) := by decide +kernel
theorem dX2_read_83 : decode cX2_read 83 = .ok (.aload_n 0, 1) := by decide +kernel
theorem dX2_read_84 : decode cX2_read 84 = .ok (.iload_n 2, 1) := by decide +kernel
theorem dX2_read_85 : decode cX2_read 85 = .ok (.iconst 0, 1) := by decide +kernel
theorem dX2_read_86 : decode cX2_read 86 = .ok (.aload_n 0, 1) := by decide +kernel
theorem dX2_read_87 : decode cX2_read 87 = .ok (.getfield 34, 3) := by decide +kernel
theorem dX2_read_90 : decode cX2_read 90 = .ok (.iload_n 1, 1) := by decide +kernel
theorem dX2_read_91 : decode cX2_read 91 = .ok (.iaload, 1) := by decide +kernel
theorem dX2_read_92 : decode cX2_read 92 = .ok (.invokevirtual 65, 3) := by decide +kernel
theorem dX2_read_95 : decode cX2_read 95 = .ok (.aload_n 0, 1) := by decide +kernel
theorem dX2_read_96 : decode cX2_read 96 = .ok (.iload_n 2, 1) := by decide +kernel
theorem dX2_read_97 : decode cX2_read 97 = .ok (.iconst 3, 1) := by decide +kernel
theorem dX2_read_98 : decode cX2_read 98 = .ok (.aload_n 0, 1) := by decide +kernel
theorem dX2_read_99 : decode cX2_read 99 = .ok (.getfield 31, 3) := by decide +kernel
theorem dX2_read_102 : decode cX2_read 102 = .ok (.iload_n 1, 1) := by decide +kernel
theorem dX2_read_103 : decode cX2_read 103 = .ok (.iaload, 1) := by decide +kernel
theorem dX2_read_104 : decode cX2_read 104 = .ok (.invokevirtual 65, 3) := by decide +kernel
theorem dX2_read_107 : decode cX2_read 107 = .ok (.aload_n 0, 1) := by decide +kernel
theorem dX2_read_108 : decode cX2_read 108 = .ok (.iload_n 2, 1) := by decide +kernel
theorem dX2_read_109 : decode cX2_read 109 = .ok (.iconst 4, 1) := by decide +kernel
theorem dX2_read_110 : decode cX2_read 110 = .ok (.aload_n 0, 1) := by decide +kernel
theorem dX2_read_111 : decode cX2_read 111 = .ok (.getfield 28, 3) := by decide +kernel
theorem dX2_read_114 : decode cX2_read 114 = .ok (.iload_n 1, 1) := by decide +kernel
theorem dX2_read_115 : decode cX2_read 115 = .ok (.iaload, 1) := by decide +kernel
theorem dX2_read_116 : decode cX2_read 116 = .ok (.invokevirtual 65, 3) := by decide +kernel
theorem dX2_read_119 : decode cX2_read 119 = .ok (.iinc 1 1, 3) := by decide +kernel
theorem dX2_read_122 : decode cX2_read 122 = .ok (.goto (-85), 3) := by decide +kernel
theorem dX2_read_125 : decode cX2_read 125 = .ok (.aload_n 0, 1) := by decide +kernel
theorem dX2_read_126 : decode cX2_read 126 = .ok (.iconst 0, 1) := by decide +kernel
theorem dX2_read_127 : decode cX2_read 127 = .ok (.putfield 140, 3) := by decide +kernel
theorem dX2_read_130 : decode cX2_read 130 = .ok (.aload_n 0, 1) := by decide +kernel
theorem dX2_read_131 : decode cX2_read 131 = .ok (.getfield 7, 3) := by decide +kernel
theorem dX2_read_134 : decode cX2_read 134 = .ok (.iconst 5, 1) := by decide +kernel
theorem dX2_read_135 : decode cX2_read 135 = .ok (.iaload, 1) := by decide +kernel
theorem dX2_read_136 : decode cX2_read 136 = .ok (.ireturn, 1) := by decide +kernel
theorem dX2_undo_0 : decode cX2_undo 0 = .ok (.aload_n 0, 1) := by decide +kernel
theorem dX2_undo_1 : decode cX2_undo 1 = .ok (.getfield 37, 3) := by decide +kernel
theorem dX2_undo_4 : decode cX2_undo 4 = .ok (.ifCond .ne 6, 3) := by decide +kernel
theorem dX2_undo_7 : decode cX2_undo 7 = .ok (.bipush (-5), 2) := by decide +kernel
theorem dX2_undo_9 : decode cX2_undo 9 = .ok (.ireturn, 1) := by decide +kernel
theorem dX2_undo_10 : decode cX2_undo 10 = .ok (.aload_n 0, 1) := by decide +kernel
theorem dX2_undo_11 : decode cX2_undo 11 = .ok (.dup, 1) := by decide +kernel
theorem dX2_undo_12 : decode cX2_undo 12 = .ok (.getfield 37, 3) := by decide +kernel
theorem dX2_undo_15 : decode cX2_undo 15 = .ok (.iconst 1, 1) := by decide +kernel
theorem dX2_undo_16 : decode cX2_undo 16 = .ok (.isub, 1) := by decide +kernel
theorem dX2_undo_17 : decode cX2_undo 17 = .ok (.putfield 37, 3) := by decide +kernel
theorem dX2_undo_20 : decode cX2_undo 20 = .ok (.iconst 0, 1) := by decide +kernel
theorem dX2_undo_21 : decode cX2_undo 21 = .ok (.istore_n 1, 1) := by decide +kernel
theorem dX2_undo_22 : decode cX2_undo 22 = .ok (.iload_n 1, 1) := by decide +kernel
theorem dX2_undo_23 : decode cX2_undo 23 = .ok (.sipush 322, 3) := by decide +kernel
theorem dX2_undo_26 : decode cX2_undo 26 = .ok (.if_icmp .ge 30, 3) := by decide +kernel
theorem dX2_undo_29 : decode cX2_undo 29 = .ok (.aload_n 0, 1) := by decide +kernel
theorem dX2_undo_30 : decode cX2_undo 30 = .ok (.getfield 7, 3) := by decide +kernel
theorem dX2_undo_33 : decode cX2_undo 33 = .ok (.iload_n 1, 1) := by decide +kernel
theorem dX2_undo_34 : decode cX2_undo 34 = .ok (.aload_n 0, 1) := by decide +kernel
theorem dX2_undo_35 : decode cX2_undo 35 = .ok (.getfield 16, 3) := by decide +kernel
theorem dX2_undo_38 : decode cX2_undo 38 = .ok (.sipush 322, 3) := by decide +kernel
theorem dX2_undo_41 : decode cX2_undo 41 = .ok (.aload_n 0, 1) := by decide +kernel
theorem dX2_undo_42 : decode cX2_undo 42 = .ok (.getfield 37, 3) := by decide +kernel
theorem dX2_undo_45 : decode cX2_undo 45 = .ok (.imul, 1) := by decide +kernel
theorem dX2_undo_46 : decode cX2_undo 46 = .ok (.iload_n 1, 1) := by decide +kernel
theorem dX2_undo_47 : decode cX2_undo 47 = .ok (.iadd, 1) := by decide +kernel
theorem dX2_undo_48 : decode cX2_undo 48 = .ok (.iaload, 1) := by decide +kernel
theorem dX2_undo_49 : decode cX2_undo 49 = .ok (.iastore, 1) := by decide +kernel
theorem dX2_undo_50 : decode cX2_undo 50 = .ok (.iinc 1 1, 3) := by decide +kernel
theorem dX2_undo_53 : decode cX2_undo 53 = .ok (.goto (-31), 3) := by decide +kernel
theorem dX2_undo_56 : decode cX2_undo 56 = .ok (.aload_n 0, 1) := by decide +kernel
theorem dX2_undo_57 : decode cX2_undo 57 = .ok (.getfield 37, 3) := by decide +kernel
theorem dX2_undo_60 : decode cX2_undo 60 = .ok (.ireturn, 1) := by decide +kernel
theorem dX2_isSlot_0 : decode cX2_isSlot 0 = .ok (.iload_n 0, 1) := by decide +kernel
theorem dX2_isSlot_1 : decode cX2_isSlot 1 = .ok (.ifCond .eq 8, 3) := by decide +kernel
theorem dX2_isSlot_4 : decode cX2_isSlot 4 = .ok (.iload_n 0, 1) := by decide +kernel
theorem dX2_isSlot_5 : decode cX2_isSlot 5 = .ok (.iconst 1, 1) := by decide +kernel
theorem dX2_isSlot_6 : decode cX2_isSlot 6 = .ok (.if_icmp .ne 7, 3) := by decide +kernel
theorem dX2_isSlot_9 : decode cX2_isSlot 9 = .ok (.iconst 1, 1) := by decide +kernel
theorem dX2_isSlot_10 : decode cX2_isSlot 10 = .ok (.goto 4, 3) := by decide +kernel
theorem dX2_isSlot_13 : decode cX2_isSlot 13 = .ok (.iconst 0, 1) := by decide +kernel
theorem dX2_isSlot_14 : decode cX2_isSlot 14 = .ok (.ireturn, 1) := by decide +kernel
set_option maxRecDepth 20000 in
theorem ggX2_save_X2_isSlot : GoodIn wsX2_save wsX2_isSlot := goodIn_r _ [7] (by decide +kernel) (by decide +kernel)
set_option maxRecDepth 20000 in
theorem gX2_save_X2_isSlot : GoodIn wsX2_save (va_wsS RX2 188 yX2_isSlot wsX2_isSlot) := goodIn_app (goodIn_of _ (by decide +kernel)) ggX2_save_X2_isSlot
theorem dX2_save_0 : decode cX2_save 0 = .ok (.iload_n 1, 1) := by decide +kernel
theorem dX2_save_1 : decode cX2_save 1 = .ok (.invokestatic 188, 3) := by decide +kernel
theorem dX2_save_4 : decode cX2_save 4 = .ok (.ifCond .ne 6, 3) := by decide +kernel
theorem dX2_save_7 : decode cX2_save 7 = .ok (.bipush (-2), 2) := by decide +kernel
theorem dX2_save_9 : decode cX2_save 9 = .ok (.ireturn, 1) := by decide +kernel
theorem dX2_save_10 : decode cX2_save 10 = .ok (.iconst 0, 1) := by decide +kernel
theorem dX2_save_11 : decode cX2_save 11 = .ok (.istore_n 2, 1) := by decide +kernel
theorem dX2_save_12 : decode cX2_save 12 = .ok (.iload_n 2, 1) := by decide +kernel
theorem dX2_save_13 : decode cX2_save 13 = .ok (.sipush 322, 3) := by decide +kernel
theorem dX2_save_16 : decode cX2_save 16 = .ok (.if_icmp .ge 27, 3) := by decide +kernel
theorem dX2_save_19 : decode cX2_save 19 = .ok (.aload_n 0, 1) := by decide +kernel
theorem dX2_save_20 : decode cX2_save 20 = .ok (.getfield 19, 3) := by decide +kernel
theorem dX2_save_23 : decode cX2_save 23 = .ok (.sipush 322, 3) := by decide +kernel
theorem dX2_save_26 : decode cX2_save 26 = .ok (.iload_n 1, 1) := by decide +kernel
theorem dX2_save_27 : decode cX2_save 27 = .ok (.imul, 1) := by decide +kernel
theorem dX2_save_28 : decode cX2_save 28 = .ok (.iload_n 2, 1) := by decide +kernel
theorem dX2_save_29 : decode cX2_save 29 = .ok (.iadd, 1) := by decide +kernel
theorem dX2_save_30 : decode cX2_save 30 = .ok (.aload_n 0, 1) := by decide +kernel
theorem dX2_save_31 : decode cX2_save 31 = .ok (.getfield 7, 3) := by decide +kernel
theorem dX2_save_34 : decode cX2_save 34 = .ok (.iload_n 2, 1) := by decide +kernel
theorem dX2_save_35 : decode cX2_save 35 = .ok (.iaload, 1) := by decide +kernel
theorem dX2_save_36 : decode cX2_save 36 = .ok (.iastore, 1) := by decide +kernel
theorem dX2_save_37 : decode cX2_save 37 = .ok (.iinc 2 1, 3) := by decide +kernel
theorem dX2_save_40 : decode cX2_save 40 = .ok (.goto (-28), 3) := by decide +kernel
theorem dX2_save_43 : decode cX2_save 43 = .ok (.aload_n 0, 1) := by decide +kernel
theorem dX2_save_44 : decode cX2_save 44 = .ok (.getfield 22, 3) := by decide +kernel
theorem dX2_save_47 : decode cX2_save 47 = .ok (.iload_n 1, 1) := by decide +kernel
theorem dX2_save_48 : decode cX2_save 48 = .ok (.iconst 1, 1) := by decide +kernel
theorem dX2_save_49 : decode cX2_save 49 = .ok (.iastore, 1) := by decide +kernel
theorem dX2_save_50 : decode cX2_save 50 = .ok (.aload_n 0, 1) := by decide +kernel
theorem dX2_save_51 : decode cX2_save 51 = .ok (.getfield 7, 3) := by decide +kernel
theorem dX2_save_54 : decode cX2_save 54 = .ok (.iconst 4, 1) := by decide +kernel
theorem dX2_save_55 : decode cX2_save 55 = .ok (.iaload, 1) := by decide +kernel
theorem dX2_save_56 : decode cX2_save 56 = .ok (.ireturn, 1) := by decide +kernel
set_option maxRecDepth 20000 in
theorem ggX2_restore_X2_isSlot : GoodIn wsX2_restore wsX2_isSlot := goodIn_r _ [7] (by decide +kernel) (by decide +kernel)
set_option maxRecDepth 20000 in
theorem gX2_restore_X2_isSlot : GoodIn wsX2_restore (va_wsS RX2 188 yX2_isSlot wsX2_isSlot) := goodIn_app (goodIn_of _ (by decide +kernel)) ggX2_restore_X2_isSlot
set_option maxRecDepth 20000 in
theorem ggX2_restore_X2_changes : GoodIn wsX2_restore wsX2_changes := goodIn_r _ [11, 12, 13, 2, 14, 15, 16, 17, 18, 19, 20, 21, 22, 23, 24, 25, 26] (by decide +kernel) (by decide +kernel)
set_option maxRecDepth 20000 in
theorem gX2_restore_X2_changes : GoodIn wsX2_restore (wsV RX2 101 RX2 yX2_changes wsX2_changes) := goodIn_app (goodIn_of _ (by decide +kernel)) ggX2_restore_X2_changes
theorem dX2_restore_0 : decode cX2_restore 0 = .ok (.iload_n 1, 1) := by decide +kernel
theorem dX2_restore_1 : decode cX2_restore 1 = .ok (.invokestatic 188, 3) := by decide +kernel
theorem dX2_restore_4 : decode cX2_restore 4 = .ok (.ifCond .ne 6, 3) := by decide +kernel
theorem dX2_restore_7 : decode cX2_restore 7 = .ok (.bipush (-2), 2) := by decide +kernel
theorem dX2_restore_9 : decode cX2_restore 9 = .ok (.ireturn, 1) := by decide +kernel
theorem dX2_restore_10 : decode cX2_restore 10 = .ok (.aload_n 0, 1) := by decide +kernel
theorem dX2_restore_11 : decode cX2_restore 11 = .ok (.getfield 22, 3) := by decide +kernel
theorem dX2_restore_14 : decode cX2_restore 14 = .ok (.iload_n 1, 1) := by decide +kernel
theorem dX2_restore_15 : decode cX2_restore 15 = .ok (.iaload, 1) := by decide +kernel
theorem dX2_restore_16 : decode cX2_restore 16 = .ok (.ifCond .ne 6, 3) := by decide +kernel
theorem dX2_restore_19 : decode cX2_restore 19 = .ok (.bipush (-5), 2) := by decide +kernel
theorem dX2_restore_21 : decode cX2_restore 21 = .ok (.ireturn, 1) := by decide +kernel
theorem dX2_restore_22 : decode cX2_restore 22 = .ok (.aload_n 0, 1) := by decide +kernel
theorem dX2_restore_23 : decode cX2_restore 23 = .ok (.invokevirtual 101, 3) := by decide +kernel
theorem dX2_restore_26 : decode cX2_restore 26 = .ok (.iconst 0, 1) := by decide +kernel
theorem dX2_restore_27 : decode cX2_restore 27 = .ok (.istore_n 2, 1) := by decide +kernel
theorem dX2_restore_28 : decode cX2_restore 28 = .ok (.iload_n 2, 1) := by decide +kernel
theorem dX2_restore_29 : decode cX2_restore 29 = .ok (.sipush 322, 3) := by decide +kernel
theorem dX2_restore_32 : decode cX2_restore 32 = .ok (.if_icmp .ge 27, 3) := by decide +kernel
theorem dX2_restore_35 : decode cX2_restore 35 = .ok (.aload_n 0, 1) := by decide +kernel
theorem dX2_restore_36 : decode cX2_restore 36 = .ok (.getfield 7, 3) := by decide +kernel
theorem dX2_restore_39 : decode cX2_restore 39 = .ok (.iload_n 2, 1) := by decide +kernel
theorem dX2_restore_40 : decode cX2_restore 40 = .ok (.aload_n 0, 1) := by decide +kernel
theorem dX2_restore_41 : decode cX2_restore 41 = .ok (.getfield 19, 3) := by decide +kernel
theorem dX2_restore_44 : decode cX2_restore 44 = .ok (.sipush 322, 3) := by decide +kernel
theorem dX2_restore_47 : decode cX2_restore 47 = .ok (.iload_n 1, 1) := by decide +kernel
theorem dX2_restore_48 : decode cX2_restore 48 = .ok (.imul, 1) := by decide +kernel
theorem dX2_restore_49 : decode cX2_restore 49 = .ok (.iload_n 2, 1) := by decide +kernel
theorem dX2_restore_50 : decode cX2_restore 50 = .ok (.iadd, 1) := by decide +kernel
theorem dX2_restore_51 : decode cX2_restore 51 = .ok (.iaload, 1) := by decide +kernel
theorem dX2_restore_52 : decode cX2_restore 52 = .ok (.iastore, 1) := by decide +kernel
theorem dX2_restore_53 : decode cX2_restore 53 = .ok (.iinc 2 1, 3) := by decide +kernel
theorem dX2_restore_56 : decode cX2_restore 56 = .ok (.goto (-28), 3) := by decide +kernel
theorem dX2_restore_59 : decode cX2_restore 59 = .ok (.aload_n 0, 1) := by decide +kernel
theorem dX2_restore_60 : decode cX2_restore 60 = .ok (.getfield 7, 3) := by decide +kernel
theorem dX2_restore_63 : decode cX2_restore 63 = .ok (.iconst 4, 1) := by decide +kernel
theorem dX2_restore_64 : decode cX2_restore 64 = .ok (.iaload, 1) := by decide +kernel
theorem dX2_restore_65 : decode cX2_restore 65 = .ok (.ireturn, 1) := by decide +kernel
theorem dJ9_max_7cf53_0 : decode cJ9_max_7cf53 0 = .ok (.iload_n 0, 1) := by decide +kernel
theorem dJ9_max_7cf53_1 : decode cJ9_max_7cf53 1 = .ok (.iload_n 1, 1) := by decide +kernel
theorem dJ9_max_7cf53_2 : decode cJ9_max_7cf53 2 = .ok (.if_icmp .lt 7, 3) := by decide +kernel
theorem dJ9_max_7cf53_5 : decode cJ9_max_7cf53 5 = .ok (.iload_n 0, 1) := by decide +kernel
theorem dJ9_max_7cf53_6 : decode cJ9_max_7cf53 6 = .ok (.goto 4, 3) := by decide +kernel
theorem dJ9_max_7cf53_9 : decode cJ9_max_7cf53 9 = .ok (.iload_n 1, 1) := by decide +kernel
theorem dJ9_max_7cf53_10 : decode cJ9_max_7cf53 10 = .ok (.ireturn, 1) := by decide +kernel
theorem dJ9_min_7cf53_0 : decode cJ9_min_7cf53 0 = .ok (.iload_n 0, 1) := by decide +kernel
theorem dJ9_min_7cf53_1 : decode cJ9_min_7cf53 1 = .ok (.iload_n 1, 1) := by decide +kernel
theorem dJ9_min_7cf53_2 : decode cJ9_min_7cf53 2 = .ok (.if_icmp .gt 7, 3) := by decide +kernel
theorem dJ9_min_7cf53_5 : decode cJ9_min_7cf53 5 = .ok (.iload_n 0, 1) := by decide +kernel
theorem dJ9_min_7cf53_6 : decode cJ9_min_7cf53 6 = .ok (.goto 4, 3) := by decide +kernel
theorem dJ9_min_7cf53_9 : decode cJ9_min_7cf53 9 = .ok (.iload_n 1, 1) := by decide +kernel
theorem dJ9_min_7cf53_10 : decode cJ9_min_7cf53 10 = .ok (.ireturn, 1) := by decide +kernel
end
section
set_option maxRecDepth 20000 in
theorem ggL_law_X1_init : GoodIn wsL_law wsX1_init := goodIn_r _ [9, 10, 11, 12, 13, 14, 15, 16, 17, 18, 19, 20, 21, 22, 23, 24, 25, 26, 27, 28, 29, 30, 31, 32, 33, 34, 35, 36, 37, 38, 39, 40, 41, 615, 616, 617, 618, 619, 620, 621, 622, 623, 624, 625, 626, 627, 628, 629, 630, 594, 595, 596, 597, 598, 599, 600, 601] (by decide +kernel) (by decide +kernel)
set_option maxRecDepth 20000 in
theorem gL_law_X1_init : GoodIn wsL_law (wsX1_init) := ggL_law_X1_init
set_option maxRecDepth 20000 in
theorem ggL_law_X2_init : GoodIn wsL_law wsX2_init := goodIn_r _ [44, 45, 11, 12, 28, 46, 47, 48, 49, 50, 51, 52, 53, 54, 602, 603, 604, 605, 606, 607, 608, 609, 610, 611, 612, 613, 614] (by decide +kernel) (by decide +kernel)
set_option maxRecDepth 20000 in
theorem gL_law_X2_init : GoodIn wsL_law (wsX2_init) := ggL_law_X2_init
set_option maxRecDepth 20000 in
theorem ggL_law_X1_set : GoodIn wsL_law wsX1_set := goodIn_r _ [58, 59, 60, 16, 61, 62, 63, 64, 2, 65, 66, 18, 67, 68, 69, 70, 71, 72, 73, 74, 75, 76, 77, 78, 79, 80, 81, 82, 83, 84, 85, 86, 87, 88, 89, 90, 91, 92, 93, 94, 95, 594, 595, 596, 597, 598, 599, 600, 601, 615, 616, 617, 618, 619, 620, 621, 622, 623, 624, 625, 626, 627, 628, 629, 630] (by decide +kernel) (by decide +kernel)
set_option maxRecDepth 20000 in
theorem gL_law_X1_set : GoodIn wsL_law (wsV RL 13 RX1 yX1_set wsX1_set) := goodIn_app (goodIn_of _ (by decide +kernel)) ggL_law_X1_set
set_option maxRecDepth 20000 in
theorem ggL_law_X2_set : GoodIn wsL_law wsX2_set := goodIn_r _ [99, 46, 100, 101, 5, 102, 103, 104, 105, 106, 107, 108, 109, 110, 111, 112, 113, 114, 48, 602, 603, 604, 605, 606, 607, 608, 609, 610, 611, 612, 613, 614] (by decide +kernel) (by decide +kernel)
set_option maxRecDepth 20000 in
theorem gL_law_X2_set : GoodIn wsL_law (wsV RL 17 RX2 yX2_set wsX2_set) := goodIn_app (goodIn_of _ (by decide +kernel)) ggL_law_X2_set
set_option maxRecDepth 20000 in
theorem ggL_law_X1_read : GoodIn wsL_law wsX1_read := goodIn_r _ [118, 16, 71, 119, 23, 120, 121, 122, 2, 123, 124, 125, 126, 127, 128, 129, 130, 131, 132, 133, 62, 63, 64, 65, 66, 18, 67, 68, 69, 61, 70, 72, 73, 74, 75, 76, 77, 78, 79, 80, 81, 82, 83, 84, 85, 86, 87, 88, 89, 90, 91, 92, 93, 94, 95, 134, 135, 136, 15, 137, 138, 30, 139, 31, 33, 34, 35, 32, 140, 141, 142, 143, 144, 145, 146, 147, 594, 595, 596, 597, 598, 599, 600, 601, 615, 616, 617, 618, 619, 620, 621, 622, 623, 624, 625, 626, 627, 628, 629, 630] (by decide +kernel) (by decide +kernel)
set_option maxRecDepth 20000 in
theorem gL_law_X1_read : GoodIn wsL_law (wsV RL 18 RX1 yX1_read wsX1_read) := goodIn_app (goodIn_of _ (by decide +kernel)) ggL_law_X1_read
set_option maxRecDepth 20000 in
theorem ggL_law_X2_read : GoodIn wsL_law wsX2_read := goodIn_r _ [151, 46, 152, 54, 53, 52, 153, 154, 155, 156, 5, 157, 158, 159, 160, 161, 162, 51, 163, 164, 165, 166, 107, 108, 109, 167, 168, 169, 170, 171, 172, 173, 110, 111, 112, 113, 114, 48, 174, 175, 176, 177, 602, 603, 604, 605, 606, 607, 608, 609, 610, 611, 612, 613, 614] (by decide +kernel) (by decide +kernel)
set_option maxRecDepth 20000 in
theorem gL_law_X2_read : GoodIn wsL_law (wsV RL 22 RX2 yX2_read wsX2_read) := goodIn_app (goodIn_of _ (by decide +kernel)) ggL_law_X2_read
set_option maxRecDepth 20000 in
theorem ggL_law_X1_honour : GoodIn wsL_law wsX1_honour := goodIn_r _ [181, 16, 83, 182, 183, 184, 15, 185, 138, 62, 63, 64, 2, 65, 66, 18, 67, 68, 69, 61, 70, 71, 72, 73, 74, 75, 76, 77, 78, 79, 80, 81, 82, 84, 85, 86, 87, 88, 89, 90, 91, 92, 93, 94, 95, 594, 595, 596, 597, 598, 599, 600, 601, 615, 616, 617, 618, 619, 620, 621, 622, 623, 624, 625, 626, 627, 628, 629, 630] (by decide +kernel) (by decide +kernel)
set_option maxRecDepth 20000 in
theorem gL_law_X1_honour : GoodIn wsL_law (wsV RL 23 RX1 yX1_honour wsX1_honour) := goodIn_app (goodIn_of _ (by decide +kernel)) ggL_law_X1_honour
set_option maxRecDepth 20000 in
theorem ggL_law_X2_honour : GoodIn wsL_law wsX2_honour := goodIn_r _ [189, 105, 190, 191, 192, 5, 193, 46, 107, 108, 109, 110, 111, 112, 113, 114, 48, 194, 195, 196, 197, 174, 175, 176, 177, 602, 603, 604, 605, 606, 607, 608, 609, 610, 611, 612, 613, 614] (by decide +kernel) (by decide +kernel)
set_option maxRecDepth 20000 in
theorem gL_law_X2_honour : GoodIn wsL_law (wsV RL 26 RX2 yX2_honour wsX2_honour) := goodIn_app (goodIn_of _ (by decide +kernel)) ggL_law_X2_honour
set_option maxRecDepth 20000 in
theorem ggL_law_X1_withdraw : GoodIn wsL_law wsX1_withdraw := goodIn_r _ [201, 16, 84, 182, 183, 184, 15, 185, 138, 62, 63, 64, 2, 65, 66, 18, 67, 68, 69, 61, 70, 71, 72, 73, 74, 75, 76, 77, 78, 79, 80, 81, 82, 83, 85, 86, 87, 88, 89, 90, 91, 92, 93, 94, 95, 202, 203, 204, 205, 34, 36, 206, 207, 208, 209, 210, 211, 212, 213, 594, 595, 596, 597, 598, 599, 600, 601, 615, 616, 617, 618, 619, 620, 621, 622, 623, 624, 625, 626, 627, 628, 629, 630] (by decide +kernel) (by decide +kernel)
set_option maxRecDepth 20000 in
theorem gL_law_X1_withdraw : GoodIn wsL_law (wsV RL 27 RX1 yX1_withdraw wsX1_withdraw) := goodIn_app (goodIn_of _ (by decide +kernel)) ggL_law_X1_withdraw
set_option maxRecDepth 20000 in
theorem ggL_law_X2_withdraw : GoodIn wsL_law wsX2_withdraw := goodIn_r _ [217, 190, 191, 192, 5, 193, 46, 107, 108, 109, 194, 195, 196, 197, 110, 111, 112, 113, 114, 48, 218, 219, 220, 221, 222, 223, 224, 225, 174, 175, 176, 177, 226, 227, 228, 602, 603, 604, 605, 606, 607, 608, 609, 610, 611, 612, 613, 614] (by decide +kernel) (by decide +kernel)
set_option maxRecDepth 20000 in
theorem gL_law_X2_withdraw : GoodIn wsL_law (wsV RL 31 RX2 yX2_withdraw wsX2_withdraw) := goodIn_app (goodIn_of _ (by decide +kernel)) ggL_law_X2_withdraw
set_option maxRecDepth 20000 in
theorem ggL_law_X1_give : GoodIn wsL_law wsX1_give := goodIn_r _ [232, 16, 87, 182, 183, 184, 15, 185, 138, 233, 234, 2, 235, 236, 237, 238, 239, 206, 207, 208, 209, 36, 240, 241, 242, 243, 244, 245, 246, 247, 32, 248, 249, 250, 251, 252, 29, 253, 254, 75, 255, 256, 74, 76, 257, 258, 259, 260, 34, 33, 261, 39, 62, 63, 64, 65, 66, 18, 67, 68, 69, 61, 70, 71, 72, 73, 77, 78, 79, 80, 81, 82, 83, 84, 85, 86, 88, 89, 90, 91, 92, 93, 94, 95, 262, 263, 264, 265, 40, 35, 37, 594, 595, 596, 597, 598, 599, 600, 601, 615, 616, 617, 618, 619, 620, 621, 622, 623, 624, 625, 626, 627, 628, 629, 630] (by decide +kernel) (by decide +kernel)
set_option maxRecDepth 20000 in
theorem gL_law_X1_give : GoodIn wsL_law (wsV RL 32 RX1 yX1_give wsX1_give) := goodIn_app (goodIn_of _ (by decide +kernel)) ggL_law_X1_give
set_option maxRecDepth 20000 in
theorem ggL_law_X2_give : GoodIn wsL_law wsX2_give := goodIn_r _ [269, 46, 190, 191, 192, 5, 193, 107, 108, 109, 270, 271, 272, 103, 273, 274, 275, 276, 194, 195, 196, 197, 218, 219, 220, 221, 226, 227, 228, 277, 278, 279, 280, 281, 282, 283, 284, 110, 111, 112, 113, 114, 48, 285, 286, 287, 288, 174, 175, 176, 177, 602, 603, 604, 605, 606, 607, 608, 609, 610, 611, 612, 613, 614] (by decide +kernel) (by decide +kernel)
set_option maxRecDepth 20000 in
theorem gL_law_X2_give : GoodIn wsL_law (wsV RL 35 RX2 yX2_give wsX2_give) := goodIn_app (goodIn_of _ (by decide +kernel)) ggL_law_X2_give
set_option maxRecDepth 20000 in
theorem ggL_law_X1_strip : GoodIn wsL_law wsX1_strip := goodIn_r _ [292, 16, 86, 87, 233, 234, 2, 235, 62, 63, 64, 65, 66, 18, 67, 68, 69, 61, 70, 71, 72, 73, 74, 75, 76, 77, 78, 79, 80, 81, 82, 83, 84, 85, 88, 89, 90, 91, 92, 93, 94, 95, 293, 211, 212, 15, 213, 36, 594, 595, 596, 597, 598, 599, 600, 601, 615, 616, 617, 618, 619, 620, 621, 622, 623, 624, 625, 626, 627, 628, 629, 630] (by decide +kernel) (by decide +kernel)
set_option maxRecDepth 20000 in
theorem gL_law_X1_strip : GoodIn wsL_law (wsV RL 36 RX1 yX1_strip wsX1_strip) := goodIn_app (goodIn_of _ (by decide +kernel)) ggL_law_X1_strip
set_option maxRecDepth 20000 in
theorem ggL_law_X2_strip : GoodIn wsL_law wsX2_strip := goodIn_r _ [297, 46, 270, 271, 5, 272, 103, 107, 108, 109, 110, 111, 112, 113, 114, 48, 222, 223, 224, 225, 602, 603, 604, 605, 606, 607, 608, 609, 610, 611, 612, 613, 614] (by decide +kernel) (by decide +kernel)
set_option maxRecDepth 20000 in
theorem gL_law_X2_strip : GoodIn wsL_law (wsV RL 39 RX2 yX2_strip wsX2_strip) := goodIn_app (goodIn_of _ (by decide +kernel)) ggL_law_X2_strip
set_option maxRecDepth 20000 in
theorem ggL_law_X1_issue : GoodIn wsL_law wsX1_issue := goodIn_r _ [301, 16, 62, 63, 64, 2, 65, 66, 18, 67, 68, 69, 61, 70, 71, 72, 73, 74, 75, 76, 77, 78, 79, 80, 81, 82, 83, 84, 85, 86, 87, 88, 89, 90, 91, 92, 93, 94, 95, 302, 303, 304, 15, 305, 306, 41, 36, 307, 308, 309, 310, 594, 595, 596, 597, 598, 599, 600, 601, 615, 616, 617, 618, 619, 620, 621, 622, 623, 624, 625, 626, 627, 628, 629, 630] (by decide +kernel) (by decide +kernel)
set_option maxRecDepth 20000 in
theorem gL_law_X1_issue : GoodIn wsL_law (wsV RL 40 RX1 yX1_issue wsX1_issue) := goodIn_app (goodIn_of _ (by decide +kernel)) ggL_law_X1_issue
set_option maxRecDepth 20000 in
theorem ggL_law_X2_issue : GoodIn wsL_law wsX2_issue := goodIn_r _ [314, 46, 110, 111, 112, 5, 113, 114, 48, 315, 316, 317, 318, 602, 603, 604, 605, 606, 607, 608, 609, 610, 611, 612, 613, 614] (by decide +kernel) (by decide +kernel)
set_option maxRecDepth 20000 in
theorem gL_law_X2_issue : GoodIn wsL_law (wsV RL 43 RX2 yX2_issue wsX2_issue) := goodIn_app (goodIn_of _ (by decide +kernel)) ggL_law_X2_issue
set_option maxRecDepth 20000 in
theorem ggL_law_X1_pass : GoodIn wsL_law wsX1_pass := goodIn_r _ [322, 16, 70, 62, 63, 64, 2, 65, 66, 18, 67, 68, 69, 61, 71, 72, 73, 74, 75, 76, 77, 78, 79, 80, 81, 82, 83, 84, 85, 86, 87, 88, 89, 90, 91, 92, 93, 94, 95, 323, 324, 325, 15, 326, 261, 327, 328, 329, 330, 138, 33, 331, 332, 333, 334, 335, 336, 337, 338, 34, 206, 207, 208, 209, 36, 339, 340, 341, 342, 240, 241, 242, 243, 244, 245, 246, 247, 32, 248, 183, 184, 185, 249, 250, 251, 252, 29, 253, 254, 255, 256, 257, 258, 259, 260, 39, 343, 263, 264, 265, 40, 35, 37, 344, 345, 346, 347, 38, 348, 349, 350, 351, 594, 595, 596, 597, 598, 599, 600, 601, 615, 616, 617, 618, 619, 620, 621, 622, 623, 624, 625, 626, 627, 628, 629, 630] (by decide +kernel) (by decide +kernel)
set_option maxRecDepth 20000 in
theorem gL_law_X1_pass : GoodIn wsL_law (wsV RL 44 RX1 yX1_pass wsX1_pass) := goodIn_app (goodIn_of _ (by decide +kernel)) ggL_law_X1_pass
set_option maxRecDepth 20000 in
theorem ggL_law_X2_pass : GoodIn wsL_law wsX2_pass := goodIn_r _ [355, 356, 46, 107, 108, 5, 109, 110, 111, 112, 113, 114, 48, 357, 358, 359, 360, 361, 362, 363, 364, 365, 366, 367, 368, 194, 195, 196, 197, 218, 219, 220, 221, 369, 370, 371, 372, 373, 374, 375, 376, 273, 274, 275, 276, 226, 227, 228, 277, 278, 279, 280, 281, 282, 283, 284, 285, 286, 287, 288, 174, 175, 176, 177, 377, 378, 379, 380, 602, 603, 604, 605, 606, 607, 608, 609, 610, 611, 612, 613, 614] (by decide +kernel) (by decide +kernel)
set_option maxRecDepth 20000 in
theorem gL_law_X2_pass : GoodIn wsL_law (wsV RL 47 RX2 yX2_pass wsX2_pass) := goodIn_app (goodIn_of _ (by decide +kernel)) ggL_law_X2_pass
set_option maxRecDepth 20000 in
theorem ggL_law_X1_name : GoodIn wsL_law wsX1_name := goodIn_r _ [384, 16, 83, 82, 81, 85, 182, 183, 184, 15, 185, 138, 385, 336, 337, 338, 34, 206, 207, 208, 209, 36, 386, 387, 388, 389, 390, 391, 392, 393, 33, 331, 332, 333, 334, 335, 594, 595, 596, 597, 598, 599, 600, 601, 615, 616, 617, 618, 619, 620, 621, 622, 623, 624, 625, 626, 627, 628, 629, 630] (by decide +kernel) (by decide +kernel)
set_option maxRecDepth 20000 in
theorem gL_law_X1_name : GoodIn wsL_law (wsV RL 48 RX1 yX1_name wsX1_name) := goodIn_app (goodIn_of _ (by decide +kernel)) ggL_law_X1_name
set_option maxRecDepth 20000 in
theorem ggL_law_X2_name : GoodIn wsL_law wsX2_name := goodIn_r _ [397, 190, 191, 192, 5, 193, 46, 107, 108, 109, 194, 195, 196, 197, 365, 366, 367, 368, 218, 219, 220, 221, 398, 399, 400, 401, 369, 370, 371, 372, 602, 603, 604, 605, 606, 607, 608, 609, 610, 611, 612, 613, 614] (by decide +kernel) (by decide +kernel)
set_option maxRecDepth 20000 in
theorem gL_law_X2_name : GoodIn wsL_law (wsV RL 51 RX2 yX2_name wsX2_name) := goodIn_app (goodIn_of _ (by decide +kernel)) ggL_law_X2_name
set_option maxRecDepth 20000 in
theorem ggL_law_X1_alike : GoodIn wsL_law wsX1_alike := goodIn_r _ [405, 16, 82, 182, 183, 184, 15, 185, 138, 406, 407, 408, 409, 31, 410, 411, 412, 413, 414, 415, 416, 417, 144, 145, 146, 147, 30, 594, 595, 596, 597, 598, 599, 600, 601, 615, 616, 617, 618, 619, 620, 621, 622, 623, 624, 625, 626, 627, 628, 629, 630] (by decide +kernel) (by decide +kernel)
set_option maxRecDepth 20000 in
theorem gL_law_X1_alike : GoodIn wsL_law (wsV RL 52 RX1 yX1_alike wsX1_alike) := goodIn_app (goodIn_of _ (by decide +kernel)) ggL_law_X1_alike
set_option maxRecDepth 20000 in
theorem ggL_law_X2_alike : GoodIn wsL_law wsX2_alike := goodIn_r _ [421, 190, 191, 192, 5, 193, 46, 107, 108, 109, 281, 282, 283, 284, 194, 195, 196, 197, 602, 603, 604, 605, 606, 607, 608, 609, 610, 611, 612, 613, 614] (by decide +kernel) (by decide +kernel)
set_option maxRecDepth 20000 in
theorem gL_law_X2_alike : GoodIn wsL_law (wsV RL 56 RX2 yX2_alike wsX2_alike) := goodIn_app (goodIn_of _ (by decide +kernel)) ggL_law_X2_alike
set_option maxRecDepth 20000 in
theorem ggL_law_X1_corner : GoodIn wsL_law wsX1_corner := goodIn_r _ [425, 16, 86, 87, 88, 89, 90, 91, 92, 233, 234, 2, 235, 594, 595, 596, 597, 598, 599, 600, 601, 615, 616, 617, 618, 619, 620, 621, 622, 623, 624, 625, 626, 627, 628, 629, 630] (by decide +kernel) (by decide +kernel)
set_option maxRecDepth 20000 in
theorem gL_law_X1_corner : GoodIn wsL_law (wsV RL 57 RX1 yX1_corner wsX1_corner) := goodIn_app (goodIn_of _ (by decide +kernel)) ggL_law_X1_corner
set_option maxRecDepth 20000 in
theorem ggL_law_X2_corner : GoodIn wsL_law wsX2_corner := goodIn_r _ [429, 430, 46, 270, 271, 5, 272, 103, 107, 108, 109, 602, 603, 604, 605, 606, 607, 608, 609, 610, 611, 612, 613, 614] (by decide +kernel) (by decide +kernel)
set_option maxRecDepth 20000 in
theorem gL_law_X2_corner : GoodIn wsL_law (wsV RL 60 RX2 yX2_corner wsX2_corner) := goodIn_app (goodIn_of _ (by decide +kernel)) ggL_law_X2_corner
set_option maxRecDepth 20000 in
theorem ggL_law_X1_why : GoodIn wsL_law wsX1_why := goodIn_r _ [434, 16, 182, 183, 184, 15, 185, 138, 233, 234, 2, 235, 236, 237, 238, 239, 206, 207, 208, 209, 36, 240, 241, 242, 243, 244, 245, 246, 247, 32, 248, 249, 250, 251, 252, 29, 253, 254, 75, 255, 256, 74, 76, 257, 258, 259, 260, 34, 33, 261, 39, 594, 595, 596, 597, 598, 599, 600, 601, 615, 616, 617, 618, 619, 620, 621, 622, 623, 624, 625, 626, 627, 628, 629, 630] (by decide +kernel) (by decide +kernel)
set_option maxRecDepth 20000 in
theorem gL_law_X1_why : GoodIn wsL_law (wsV RL 61 RX1 yX1_why wsX1_why) := goodIn_app (goodIn_of _ (by decide +kernel)) ggL_law_X1_why
set_option maxRecDepth 20000 in
theorem ggL_law_X2_why : GoodIn wsL_law wsX2_why := goodIn_r _ [438, 190, 191, 192, 5, 193, 46, 107, 108, 109, 270, 271, 272, 103, 273, 274, 275, 276, 194, 195, 196, 197, 218, 219, 220, 221, 226, 227, 228, 277, 278, 279, 280, 281, 282, 283, 284, 602, 603, 604, 605, 606, 607, 608, 609, 610, 611, 612, 613, 614] (by decide +kernel) (by decide +kernel)
set_option maxRecDepth 20000 in
theorem gL_law_X2_why : GoodIn wsL_law (wsV RL 64 RX2 yX2_why wsX2_why) := goodIn_app (goodIn_of _ (by decide +kernel)) ggL_law_X2_why
set_option maxRecDepth 20000 in
theorem ggL_law_X1_count : GoodIn wsL_law wsX1_count := goodIn_r _ [442, 16, 61, 70, 71, 87, 88, 85, 119, 66, 443, 444, 445, 15, 446, 138, 331, 332, 333, 334, 335, 336, 337, 338, 34, 206, 207, 208, 209, 36, 447, 448, 449, 450, 451, 452, 2, 453, 302, 303, 304, 305, 306, 41, 454, 455, 456, 457, 244, 245, 246, 247, 32, 248, 183, 184, 185, 594, 595, 596, 597, 598, 599, 600, 601, 615, 616, 617, 618, 619, 620, 621, 622, 623, 624, 625, 626, 627, 628, 629, 630] (by decide +kernel) (by decide +kernel)
set_option maxRecDepth 20000 in
theorem gL_law_X1_count : GoodIn wsL_law (wsV RL 65 RX1 yX1_count wsX1_count) := goodIn_app (goodIn_of _ (by decide +kernel)) ggL_law_X1_count
set_option maxRecDepth 20000 in
theorem ggL_law_X2_count : GoodIn wsL_law wsX2_count := goodIn_r _ [461, 46, 153, 114, 430, 462, 463, 464, 5, 465, 365, 366, 367, 368, 194, 195, 196, 197, 218, 219, 220, 221, 466, 467, 468, 469, 470, 471, 472, 473, 315, 316, 317, 318, 474, 475, 476, 477, 281, 282, 283, 284, 107, 108, 109, 602, 603, 604, 605, 606, 607, 608, 609, 610, 611, 612, 613, 614] (by decide +kernel) (by decide +kernel)
set_option maxRecDepth 20000 in
theorem gL_law_X2_count : GoodIn wsL_law (wsV RL 68 RX2 yX2_count wsX2_count) := goodIn_app (goodIn_of _ (by decide +kernel)) ggL_law_X2_count
set_option maxRecDepth 20000 in
theorem ggL_law_X1_bestCorner : GoodIn wsL_law wsX1_bestCorner := goodIn_r _ [481, 16, 182, 183, 184, 15, 185, 138, 482, 340, 341, 342, 206, 207, 208, 209, 36, 240, 241, 242, 243, 244, 245, 246, 247, 32, 248, 249, 250, 251, 252, 29, 253, 254, 75, 255, 256, 74, 76, 257, 258, 259, 260, 34, 33, 261, 39, 594, 595, 596, 597, 598, 599, 600, 601, 615, 616, 617, 618, 619, 620, 621, 622, 623, 624, 625, 626, 627, 628, 629, 630] (by decide +kernel) (by decide +kernel)
set_option maxRecDepth 20000 in
theorem gL_law_X1_bestCorner : GoodIn wsL_law (wsV RL 69 RX1 yX1_bestCorner wsX1_bestCorner) := goodIn_app (goodIn_of _ (by decide +kernel)) ggL_law_X1_bestCorner
set_option maxRecDepth 20000 in
theorem ggL_law_X2_bestCorner : GoodIn wsL_law wsX2_bestCorner := goodIn_r _ [486, 190, 191, 192, 5, 193, 46, 107, 108, 109, 373, 374, 375, 376, 273, 274, 275, 276, 194, 195, 196, 197, 218, 219, 220, 221, 226, 227, 228, 277, 278, 279, 280, 281, 282, 283, 284, 602, 603, 604, 605, 606, 607, 608, 609, 610, 611, 612, 613, 614] (by decide +kernel) (by decide +kernel)
set_option maxRecDepth 20000 in
theorem gL_law_X2_bestCorner : GoodIn wsL_law (wsV RL 72 RX2 yX2_bestCorner wsX2_bestCorner) := goodIn_app (goodIn_of _ (by decide +kernel)) ggL_law_X2_bestCorner
set_option maxRecDepth 20000 in
theorem ggL_law_X1_untilBorne : GoodIn wsL_law wsX1_untilBorne := goodIn_r _ [490, 16, 17, 182, 183, 184, 15, 185, 138, 491, 207, 208, 209, 36, 67, 68, 2, 69, 61, 70, 71, 72, 73, 74, 75, 76, 77, 78, 79, 80, 81, 82, 83, 84, 85, 86, 87, 88, 89, 90, 91, 92, 93, 94, 95, 323, 324, 325, 326, 261, 327, 328, 329, 330, 33, 331, 332, 333, 334, 335, 336, 337, 338, 34, 206, 339, 340, 341, 342, 240, 241, 242, 243, 244, 245, 246, 247, 32, 248, 249, 250, 251, 252, 29, 253, 254, 255, 256, 257, 258, 259, 260, 39, 343, 263, 264, 265, 40, 35, 37, 344, 345, 346, 347, 38, 348, 349, 350, 351, 594, 595, 596, 597, 598, 599, 600, 601, 615, 616, 617, 618, 619, 620, 621, 622, 623, 624, 625, 626, 627, 628, 629, 630] (by decide +kernel) (by decide +kernel)
set_option maxRecDepth 20000 in
theorem gL_law_X1_untilBorne : GoodIn wsL_law (wsV RL 73 RX1 yX1_untilBorne wsX1_untilBorne) := goodIn_app (goodIn_of _ (by decide +kernel)) ggL_law_X1_untilBorne
set_option maxRecDepth 20000 in
theorem ggL_law_X2_untilBorne : GoodIn wsL_law wsX2_untilBorne := goodIn_r _ [495, 190, 191, 192, 5, 193, 46, 107, 108, 109, 496, 497, 498, 499, 500, 501, 502, 503, 47, 470, 471, 472, 473, 365, 366, 367, 368, 194, 195, 196, 197, 218, 219, 220, 221, 357, 358, 359, 360, 361, 362, 363, 364, 369, 370, 371, 372, 373, 374, 375, 376, 273, 274, 275, 276, 226, 227, 228, 277, 278, 279, 280, 281, 282, 283, 284, 285, 286, 287, 288, 174, 175, 176, 177, 377, 378, 379, 380, 504, 505, 506, 507, 602, 603, 604, 605, 606, 607, 608, 609, 610, 611, 612, 613, 614] (by decide +kernel) (by decide +kernel)
set_option maxRecDepth 20000 in
theorem gL_law_X2_untilBorne : GoodIn wsL_law (wsV RL 76 RX2 yX2_untilBorne wsX2_untilBorne) := goodIn_app (goodIn_of _ (by decide +kernel)) ggL_law_X2_untilBorne
set_option maxRecDepth 20000 in
theorem ggL_law_X1_untilPosted : GoodIn wsL_law wsX1_untilPosted := goodIn_r _ [511, 16, 87, 17, 451, 452, 2, 453, 67, 68, 69, 61, 70, 71, 72, 73, 74, 75, 76, 77, 78, 79, 80, 81, 82, 83, 84, 85, 86, 88, 89, 90, 91, 92, 93, 94, 95, 323, 324, 325, 15, 326, 261, 327, 328, 329, 330, 138, 33, 331, 332, 333, 334, 335, 336, 337, 338, 34, 206, 207, 208, 209, 36, 339, 340, 341, 342, 240, 241, 242, 243, 244, 245, 246, 247, 32, 248, 183, 184, 185, 249, 250, 251, 252, 29, 253, 254, 255, 256, 257, 258, 259, 260, 39, 343, 263, 264, 265, 40, 35, 37, 344, 345, 346, 347, 38, 348, 349, 350, 351, 594, 595, 596, 597, 598, 599, 600, 601, 615, 616, 617, 618, 619, 620, 621, 622, 623, 624, 625, 626, 627, 628, 629, 630] (by decide +kernel) (by decide +kernel)
set_option maxRecDepth 20000 in
theorem gL_law_X1_untilPosted : GoodIn wsL_law (wsV RL 77 RX1 yX1_untilPosted wsX1_untilPosted) := goodIn_app (goodIn_of _ (by decide +kernel)) ggL_law_X1_untilPosted
set_option maxRecDepth 20000 in
theorem ggL_law_X2_untilPosted : GoodIn wsL_law wsX2_untilPosted := goodIn_r _ [515, 496, 497, 498, 5, 499, 500, 501, 502, 503, 47, 46, 470, 471, 472, 473, 365, 366, 367, 368, 194, 195, 196, 197, 218, 219, 220, 221, 357, 358, 359, 360, 361, 362, 363, 364, 369, 370, 371, 372, 373, 374, 375, 376, 273, 274, 275, 276, 226, 227, 228, 277, 278, 279, 280, 281, 282, 283, 284, 285, 286, 287, 288, 174, 175, 176, 177, 377, 378, 379, 380, 504, 505, 506, 507, 602, 603, 604, 605, 606, 607, 608, 609, 610, 611, 612, 613, 614] (by decide +kernel) (by decide +kernel)
set_option maxRecDepth 20000 in
theorem gL_law_X2_untilPosted : GoodIn wsL_law (wsV RL 80 RX2 yX2_untilPosted wsX2_untilPosted) := goodIn_app (goodIn_of _ (by decide +kernel)) ggL_law_X2_untilPosted
set_option maxRecDepth 20000 in
theorem ggL_law_X1_ifPassed : GoodIn wsL_law wsX1_ifPassed := goodIn_r _ [519, 16, 17, 88, 87, 67, 68, 2, 69, 61, 70, 71, 72, 73, 74, 75, 76, 77, 78, 79, 80, 81, 82, 83, 84, 85, 86, 89, 90, 91, 92, 93, 94, 95, 323, 324, 325, 15, 326, 261, 327, 328, 329, 330, 138, 33, 331, 332, 333, 334, 335, 336, 337, 338, 34, 206, 207, 208, 209, 36, 339, 340, 341, 342, 240, 241, 242, 243, 244, 245, 246, 247, 32, 248, 183, 184, 185, 249, 250, 251, 252, 29, 253, 254, 255, 256, 257, 258, 259, 260, 39, 343, 263, 264, 265, 40, 35, 37, 344, 345, 346, 347, 38, 348, 349, 350, 351, 451, 452, 453, 594, 595, 596, 597, 598, 599, 600, 601, 615, 616, 617, 618, 619, 620, 621, 622, 623, 624, 625, 626, 627, 628, 629, 630] (by decide +kernel) (by decide +kernel)
set_option maxRecDepth 20000 in
theorem gL_law_X1_ifPassed : GoodIn wsL_law (wsV RL 81 RX1 yX1_ifPassed wsX1_ifPassed) := goodIn_app (goodIn_of _ (by decide +kernel)) ggL_law_X1_ifPassed
set_option maxRecDepth 20000 in
theorem ggL_law_X2_ifPassed : GoodIn wsL_law wsX2_ifPassed := goodIn_r _ [523, 524, 525, 46, 47, 107, 108, 5, 109, 500, 501, 502, 503, 357, 358, 359, 360, 361, 362, 363, 364, 365, 366, 367, 368, 194, 195, 196, 197, 218, 219, 220, 221, 369, 370, 371, 372, 373, 374, 375, 376, 273, 274, 275, 276, 226, 227, 228, 277, 278, 279, 280, 281, 282, 283, 284, 285, 286, 287, 288, 174, 175, 176, 177, 377, 378, 379, 380, 470, 471, 472, 473, 504, 505, 506, 507, 602, 603, 604, 605, 606, 607, 608, 609, 610, 611, 612, 613, 614] (by decide +kernel) (by decide +kernel)
set_option maxRecDepth 20000 in
theorem gL_law_X2_ifPassed : GoodIn wsL_law (wsV RL 84 RX2 yX2_ifPassed wsX2_ifPassed) := goodIn_app (goodIn_of _ (by decide +kernel)) ggL_law_X2_ifPassed
set_option maxRecDepth 20000 in
theorem ggL_law_X1_put : GoodIn wsL_law wsX1_put := goodIn_r _ [529, 119, 530, 531, 2, 532, 533, 534, 535, 536, 537, 538, 539, 540, 23, 594, 595, 596, 597, 598, 599, 600, 601] (by decide +kernel) (by decide +kernel)
set_option maxRecDepth 20000 in
theorem gL_law_X1_put : GoodIn wsL_law (wsV RL 87 RX1 yX1_put wsX1_put) := goodIn_app (goodIn_of _ (by decide +kernel)) ggL_law_X1_put
set_option maxRecDepth 20000 in
theorem ggL_law_X2_put : GoodIn wsL_law wsX2_put := goodIn_r _ [544, 153, 51, 545, 546, 547, 5, 548, 549, 550, 107, 108, 109, 602, 603, 604, 605, 606, 607, 608, 609, 610, 611, 612, 613, 614] (by decide +kernel) (by decide +kernel)
set_option maxRecDepth 20000 in
theorem gL_law_X2_put : GoodIn wsL_law (wsV RL 91 RX2 yX2_put wsX2_put) := goodIn_app (goodIn_of _ (by decide +kernel)) ggL_law_X2_put
set_option maxRecDepth 20000 in
theorem ggL_law_X1_wipe : GoodIn wsL_law wsX1_wipe := goodIn_r _ [554, 119, 594, 595, 596, 597, 598, 599, 600, 601] (by decide +kernel) (by decide +kernel)
set_option maxRecDepth 20000 in
theorem gL_law_X1_wipe : GoodIn wsL_law (wsV RL 92 RX1 yX1_wipe wsX1_wipe) := goodIn_app (goodIn_of _ (by decide +kernel)) ggL_law_X1_wipe
set_option maxRecDepth 20000 in
theorem ggL_law_X2_wipe : GoodIn wsL_law wsX2_wipe := goodIn_r _ [558, 153, 602, 603, 604, 605, 606, 607, 608, 609, 610, 611, 612, 613, 614] (by decide +kernel) (by decide +kernel)
set_option maxRecDepth 20000 in
theorem gL_law_X2_wipe : GoodIn wsL_law (wsV RL 95 RX2 yX2_wipe wsX2_wipe) := goodIn_app (goodIn_of _ (by decide +kernel)) ggL_law_X2_wipe
set_option maxRecDepth 20000 in
theorem ggL_law_X1_fault : GoodIn wsL_law wsX1_fault := goodIn_r _ [562, 120, 121, 122, 2, 123, 119, 23, 124, 125, 126, 127, 128, 129, 594, 595, 596, 597, 598, 599, 600, 601] (by decide +kernel) (by decide +kernel)
set_option maxRecDepth 20000 in
theorem gL_law_X1_fault : GoodIn wsL_law (wsV RL 96 RX1 yX1_fault wsX1_fault) := goodIn_app (goodIn_of _ (by decide +kernel)) ggL_law_X1_fault
set_option maxRecDepth 20000 in
theorem ggL_law_X2_fault : GoodIn wsL_law wsX2_fault := goodIn_r _ [157, 158, 152, 153, 159, 160, 161, 5, 162, 52, 53, 54, 51, 163, 164, 165, 166, 107, 108, 109, 167, 168, 169, 170, 171, 172, 173, 602, 603, 604, 605, 606, 607, 608, 609, 610, 611, 612, 613, 614] (by decide +kernel) (by decide +kernel)
set_option maxRecDepth 20000 in
theorem gL_law_X2_fault : GoodIn wsL_law (wsV RL 99 RX2 yX2_fault wsX2_fault) := goodIn_app (goodIn_of _ (by decide +kernel)) ggL_law_X2_fault
set_option maxRecDepth 20000 in
theorem ggL_law_X1_undo : GoodIn wsL_law wsX1_undo := goodIn_r _ [567, 66, 18, 16, 67, 68, 2, 69, 61, 70, 71, 72, 73, 74, 75, 76, 77, 78, 79, 80, 81, 82, 83, 84, 85, 86, 87, 88, 89, 90, 91, 92, 93, 94, 95, 594, 595, 596, 597, 598, 599, 600, 601, 615, 616, 617, 618, 619, 620, 621, 622, 623, 624, 625, 626, 627, 628, 629, 630] (by decide +kernel) (by decide +kernel)
set_option maxRecDepth 20000 in
theorem gL_law_X1_undo : GoodIn wsL_law (wsV RL 100 RX1 yX1_undo wsX1_undo) := goodIn_app (goodIn_of _ (by decide +kernel)) ggL_law_X1_undo
set_option maxRecDepth 20000 in
theorem ggL_law_X2_undo : GoodIn wsL_law wsX2_undo := goodIn_r _ [571, 114, 46, 48, 602, 603, 604, 605, 606, 607, 608, 609, 610, 611, 612, 613, 614] (by decide +kernel) (by decide +kernel)
set_option maxRecDepth 20000 in
theorem gL_law_X2_undo : GoodIn wsL_law (wsV RL 103 RX2 yX2_undo wsX2_undo) := goodIn_app (goodIn_of _ (by decide +kernel)) ggL_law_X2_undo
set_option maxRecDepth 20000 in
theorem ggL_law_X1_save : GoodIn wsL_law wsX1_save := goodIn_r _ [575, 16, 19, 21, 70, 576, 577, 2, 578, 67, 68, 69, 61, 71, 72, 73, 74, 75, 76, 77, 78, 79, 80, 81, 82, 83, 84, 85, 86, 87, 88, 89, 90, 91, 92, 93, 94, 95, 594, 595, 596, 597, 598, 599, 600, 601, 615, 616, 617, 618, 619, 620, 621, 622, 623, 624, 625, 626, 627, 628, 629, 630] (by decide +kernel) (by decide +kernel)
set_option maxRecDepth 20000 in
theorem gL_law_X1_save : GoodIn wsL_law (wsV RL 104 RX1 yX1_save wsX1_save) := goodIn_app (goodIn_of _ (by decide +kernel)) ggL_law_X1_save
set_option maxRecDepth 20000 in
theorem ggL_law_X2_save : GoodIn wsL_law wsX2_save := goodIn_r _ [582, 49, 46, 50, 583, 584, 5, 585, 602, 603, 604, 605, 606, 607, 608, 609, 610, 611, 612, 613, 614] (by decide +kernel) (by decide +kernel)
set_option maxRecDepth 20000 in
theorem gL_law_X2_save : GoodIn wsL_law (wsV RL 107 RX2 yX2_save wsX2_save) := goodIn_app (goodIn_of _ (by decide +kernel)) ggL_law_X2_save
set_option maxRecDepth 20000 in
theorem ggL_law_X1_restore : GoodIn wsL_law wsX1_restore := goodIn_r _ [589, 21, 19, 16, 70, 576, 577, 2, 578, 62, 63, 64, 65, 66, 18, 67, 68, 69, 61, 71, 72, 73, 74, 75, 76, 77, 78, 79, 80, 81, 82, 83, 84, 85, 86, 87, 88, 89, 90, 91, 92, 93, 94, 95, 594, 595, 596, 597, 598, 599, 600, 601, 615, 616, 617, 618, 619, 620, 621, 622, 623, 624, 625, 626, 627, 628, 629, 630] (by decide +kernel) (by decide +kernel)
set_option maxRecDepth 20000 in
theorem gL_law_X1_restore : GoodIn wsL_law (wsV RL 108 RX1 yX1_restore wsX1_restore) := goodIn_app (goodIn_of _ (by decide +kernel)) ggL_law_X1_restore
set_option maxRecDepth 20000 in
theorem ggL_law_X2_restore : GoodIn wsL_law wsX2_restore := goodIn_r _ [593, 50, 46, 49, 583, 584, 5, 585, 110, 111, 112, 113, 114, 48, 602, 603, 604, 605, 606, 607, 608, 609, 610, 611, 612, 613, 614] (by decide +kernel) (by decide +kernel)
set_option maxRecDepth 20000 in
theorem gL_law_X2_restore : GoodIn wsL_law (wsV RL 111 RX2 yX2_restore wsX2_restore) := goodIn_app (goodIn_of _ (by decide +kernel)) ggL_law_X2_restore
theorem dL_law_0 : decode cL_law 0 = .ok (.new 7, 3) := by decide +kernel
theorem dL_law_3 : decode cL_law 3 = .ok (.dup, 1) := by decide +kernel
theorem dL_law_4 : decode cL_law 4 = .ok (.invokespecial 9, 3) := by decide +kernel
theorem dL_law_7 : decode cL_law 7 = .ok (.astore_n 1, 1) := by decide +kernel
theorem dL_law_8 : decode cL_law 8 = .ok (.new 10, 3) := by decide +kernel
theorem dL_law_11 : decode cL_law 11 = .ok (.dup, 1) := by decide +kernel
theorem dL_law_12 : decode cL_law 12 = .ok (.invokespecial 12, 3) := by decide +kernel
theorem dL_law_15 : decode cL_law 15 = .ok (.astore_n 2, 1) := by decide +kernel
theorem dL_law_16 : decode cL_law 16 = .ok (.iconst 0, 1) := by decide +kernel
theorem dL_law_17 : decode cL_law 17 = .ok (.istore_n 3, 1) := by decide +kernel
theorem dL_law_18 : decode cL_law 18 = .ok (.iload_n 3, 1) := by decide +kernel
theorem dL_law_19 : decode cL_law 19 = .ok (.aload_n 0, 1) := by decide +kernel
theorem dL_law_20 : decode cL_law 20 = .ok (.arraylength, 1) := by decide +kernel
theorem dL_law_21 : decode cL_law 21 = .ok (.iconst 4, 1) := by decide +kernel
theorem dL_law_22 : decode cL_law 22 = .ok (.isub, 1) := by decide +kernel
theorem dL_law_23 : decode cL_law 23 = .ok (.if_icmp .gt 712, 3) := by decide +kernel
theorem dL_law_26 : decode cL_law 26 = .ok (.aload_n 0, 1) := by decide +kernel
theorem dL_law_27 : decode cL_law 27 = .ok (.iload_n 3, 1) := by decide +kernel
theorem dL_law_28 : decode cL_law 28 = .ok (.iaload, 1) := by decide +kernel
theorem dL_law_29 : decode cL_law 29 = .ok (.bipush 31, 2) := by decide +kernel
theorem dL_law_31 : decode cL_law 31 = .ok (.iand, 1) := by decide +kernel
theorem dL_law_32 : decode cL_law 32 = .ok (.tableswitch 697 0 22 #[108, 141, 154, 187, 210, 243, 266, 279, 302, 335, 378, 411, 444, 467, 490, 513, 526, 559, 612, 625, 638, 651, 674], 108) := by decide +kernel
theorem dL_law_140 : decode cL_law 140 = .ok (.aload_n 1, 1) := by decide +kernel
theorem dL_law_141 : decode cL_law 141 = .ok (.aload_n 0, 1) := by decide +kernel
theorem dL_law_142 : decode cL_law 142 = .ok (.iload_n 3, 1) := by decide +kernel
theorem dL_law_143 : decode cL_law 143 = .ok (.iconst 1, 1) := by decide +kernel
theorem dL_law_144 : decode cL_law 144 = .ok (.iadd, 1) := by decide +kernel
theorem dL_law_145 : decode cL_law 145 = .ok (.iaload, 1) := by decide +kernel
theorem dL_law_146 : decode cL_law 146 = .ok (.aload_n 0, 1) := by decide +kernel
theorem dL_law_147 : decode cL_law 147 = .ok (.iload_n 3, 1) := by decide +kernel
theorem dL_law_148 : decode cL_law 148 = .ok (.iconst 2, 1) := by decide +kernel
theorem dL_law_149 : decode cL_law 149 = .ok (.iadd, 1) := by decide +kernel
theorem dL_law_150 : decode cL_law 150 = .ok (.iaload, 1) := by decide +kernel
theorem dL_law_151 : decode cL_law 151 = .ok (.invokevirtual 13, 3) := by decide +kernel
theorem dL_law_154 : decode cL_law 154 = .ok (.aload_n 2, 1) := by decide +kernel
theorem dL_law_155 : decode cL_law 155 = .ok (.aload_n 0, 1) := by decide +kernel
theorem dL_law_156 : decode cL_law 156 = .ok (.iload_n 3, 1) := by decide +kernel
theorem dL_law_157 : decode cL_law 157 = .ok (.iconst 1, 1) := by decide +kernel
theorem dL_law_158 : decode cL_law 158 = .ok (.iadd, 1) := by decide +kernel
theorem dL_law_159 : decode cL_law 159 = .ok (.iaload, 1) := by decide +kernel
theorem dL_law_160 : decode cL_law 160 = .ok (.aload_n 0, 1) := by decide +kernel
theorem dL_law_161 : decode cL_law 161 = .ok (.iload_n 3, 1) := by decide +kernel
theorem dL_law_162 : decode cL_law 162 = .ok (.iconst 2, 1) := by decide +kernel
theorem dL_law_163 : decode cL_law 163 = .ok (.iadd, 1) := by decide +kernel
theorem dL_law_164 : decode cL_law 164 = .ok (.iaload, 1) := by decide +kernel
theorem dL_law_165 : decode cL_law 165 = .ok (.invokevirtual 17, 3) := by decide +kernel
theorem dL_law_168 : decode cL_law 168 = .ok (.if_icmp .eq 561, 3) := by decide +kernel
theorem dL_law_171 : decode cL_law 171 = .ok (.iconst 0, 1) := by decide +kernel
theorem dL_law_172 : decode cL_law 172 = .ok (.ireturn, 1) := by decide +kernel
theorem dL_law_173 : decode cL_law 173 = .ok (.aload_n 1, 1) := by decide +kernel
theorem dL_law_174 : decode cL_law 174 = .ok (.invokevirtual 18, 3) := by decide +kernel
theorem dL_law_177 : decode cL_law 177 = .ok (.aload_n 2, 1) := by decide +kernel
theorem dL_law_178 : decode cL_law 178 = .ok (.invokevirtual 22, 3) := by decide +kernel
theorem dL_law_181 : decode cL_law 181 = .ok (.if_icmp .eq 548, 3) := by decide +kernel
theorem dL_law_184 : decode cL_law 184 = .ok (.iconst 0, 1) := by decide +kernel
theorem dL_law_185 : decode cL_law 185 = .ok (.ireturn, 1) := by decide +kernel
theorem dL_law_186 : decode cL_law 186 = .ok (.aload_n 1, 1) := by decide +kernel
theorem dL_law_187 : decode cL_law 187 = .ok (.aload_n 0, 1) := by decide +kernel
theorem dL_law_188 : decode cL_law 188 = .ok (.iload_n 3, 1) := by decide +kernel
theorem dL_law_189 : decode cL_law 189 = .ok (.iconst 1, 1) := by decide +kernel
theorem dL_law_190 : decode cL_law 190 = .ok (.iadd, 1) := by decide +kernel
theorem dL_law_191 : decode cL_law 191 = .ok (.iaload, 1) := by decide +kernel
theorem dL_law_192 : decode cL_law 192 = .ok (.aload_n 0, 1) := by decide +kernel
theorem dL_law_193 : decode cL_law 193 = .ok (.iload_n 3, 1) := by decide +kernel
theorem dL_law_194 : decode cL_law 194 = .ok (.iconst 2, 1) := by decide +kernel
theorem dL_law_195 : decode cL_law 195 = .ok (.iadd, 1) := by decide +kernel
theorem dL_law_196 : decode cL_law 196 = .ok (.iaload, 1) := by decide +kernel
theorem dL_law_197 : decode cL_law 197 = .ok (.invokevirtual 23, 3) := by decide +kernel
theorem dL_law_200 : decode cL_law 200 = .ok (.aload_n 2, 1) := by decide +kernel
theorem dL_law_201 : decode cL_law 201 = .ok (.aload_n 0, 1) := by decide +kernel
theorem dL_law_202 : decode cL_law 202 = .ok (.iload_n 3, 1) := by decide +kernel
theorem dL_law_203 : decode cL_law 203 = .ok (.iconst 1, 1) := by decide +kernel
theorem dL_law_204 : decode cL_law 204 = .ok (.iadd, 1) := by decide +kernel
theorem dL_law_205 : decode cL_law 205 = .ok (.iaload, 1) := by decide +kernel
theorem dL_law_206 : decode cL_law 206 = .ok (.aload_n 0, 1) := by decide +kernel
theorem dL_law_207 : decode cL_law 207 = .ok (.iload_n 3, 1) := by decide +kernel
theorem dL_law_208 : decode cL_law 208 = .ok (.iconst 2, 1) := by decide +kernel
theorem dL_law_209 : decode cL_law 209 = .ok (.iadd, 1) := by decide +kernel
theorem dL_law_210 : decode cL_law 210 = .ok (.iaload, 1) := by decide +kernel
theorem dL_law_211 : decode cL_law 211 = .ok (.invokevirtual 26, 3) := by decide +kernel
theorem dL_law_214 : decode cL_law 214 = .ok (.if_icmp .eq 515, 3) := by decide +kernel
theorem dL_law_217 : decode cL_law 217 = .ok (.iconst 0, 1) := by decide +kernel
theorem dL_law_218 : decode cL_law 218 = .ok (.ireturn, 1) := by decide +kernel
theorem dL_law_219 : decode cL_law 219 = .ok (.aload_n 1, 1) := by decide +kernel
theorem dL_law_220 : decode cL_law 220 = .ok (.aload_n 0, 1) := by decide +kernel
theorem dL_law_221 : decode cL_law 221 = .ok (.iload_n 3, 1) := by decide +kernel
theorem dL_law_222 : decode cL_law 222 = .ok (.iconst 1, 1) := by decide +kernel
theorem dL_law_223 : decode cL_law 223 = .ok (.iadd, 1) := by decide +kernel
theorem dL_law_224 : decode cL_law 224 = .ok (.iaload, 1) := by decide +kernel
theorem dL_law_225 : decode cL_law 225 = .ok (.invokevirtual 27, 3) := by decide +kernel
theorem dL_law_228 : decode cL_law 228 = .ok (.aload_n 2, 1) := by decide +kernel
theorem dL_law_229 : decode cL_law 229 = .ok (.aload_n 0, 1) := by decide +kernel
theorem dL_law_230 : decode cL_law 230 = .ok (.iload_n 3, 1) := by decide +kernel
theorem dL_law_231 : decode cL_law 231 = .ok (.iconst 1, 1) := by decide +kernel
theorem dL_law_232 : decode cL_law 232 = .ok (.iadd, 1) := by decide +kernel
theorem dL_law_233 : decode cL_law 233 = .ok (.iaload, 1) := by decide +kernel
theorem dL_law_234 : decode cL_law 234 = .ok (.invokevirtual 31, 3) := by decide +kernel
theorem dL_law_237 : decode cL_law 237 = .ok (.if_icmp .eq 492, 3) := by decide +kernel
theorem dL_law_240 : decode cL_law 240 = .ok (.iconst 0, 1) := by decide +kernel
theorem dL_law_241 : decode cL_law 241 = .ok (.ireturn, 1) := by decide +kernel
theorem dL_law_242 : decode cL_law 242 = .ok (.aload_n 1, 1) := by decide +kernel
theorem dL_law_243 : decode cL_law 243 = .ok (.aload_n 0, 1) := by decide +kernel
theorem dL_law_244 : decode cL_law 244 = .ok (.iload_n 3, 1) := by decide +kernel
theorem dL_law_245 : decode cL_law 245 = .ok (.iconst 1, 1) := by decide +kernel
theorem dL_law_246 : decode cL_law 246 = .ok (.iadd, 1) := by decide +kernel
theorem dL_law_247 : decode cL_law 247 = .ok (.iaload, 1) := by decide +kernel
theorem dL_law_248 : decode cL_law 248 = .ok (.aload_n 0, 1) := by decide +kernel
theorem dL_law_249 : decode cL_law 249 = .ok (.iload_n 3, 1) := by decide +kernel
theorem dL_law_250 : decode cL_law 250 = .ok (.iconst 2, 1) := by decide +kernel
theorem dL_law_251 : decode cL_law 251 = .ok (.iadd, 1) := by decide +kernel
theorem dL_law_252 : decode cL_law 252 = .ok (.iaload, 1) := by decide +kernel
theorem dL_law_253 : decode cL_law 253 = .ok (.invokevirtual 32, 3) := by decide +kernel
theorem dL_law_256 : decode cL_law 256 = .ok (.aload_n 2, 1) := by decide +kernel
theorem dL_law_257 : decode cL_law 257 = .ok (.aload_n 0, 1) := by decide +kernel
theorem dL_law_258 : decode cL_law 258 = .ok (.iload_n 3, 1) := by decide +kernel
theorem dL_law_259 : decode cL_law 259 = .ok (.iconst 1, 1) := by decide +kernel
theorem dL_law_260 : decode cL_law 260 = .ok (.iadd, 1) := by decide +kernel
theorem dL_law_261 : decode cL_law 261 = .ok (.iaload, 1) := by decide +kernel
theorem dL_law_262 : decode cL_law 262 = .ok (.aload_n 0, 1) := by decide +kernel
theorem dL_law_263 : decode cL_law 263 = .ok (.iload_n 3, 1) := by decide +kernel
theorem dL_law_264 : decode cL_law 264 = .ok (.iconst 2, 1) := by decide +kernel
theorem dL_law_265 : decode cL_law 265 = .ok (.iadd, 1) := by decide +kernel
theorem dL_law_266 : decode cL_law 266 = .ok (.iaload, 1) := by decide +kernel
theorem dL_law_267 : decode cL_law 267 = .ok (.invokevirtual 35, 3) := by decide +kernel
theorem dL_law_270 : decode cL_law 270 = .ok (.if_icmp .eq 459, 3) := by decide +kernel
theorem dL_law_273 : decode cL_law 273 = .ok (.iconst 0, 1) := by decide +kernel
theorem dL_law_274 : decode cL_law 274 = .ok (.ireturn, 1) := by decide +kernel
theorem dL_law_275 : decode cL_law 275 = .ok (.aload_n 1, 1) := by decide +kernel
theorem dL_law_276 : decode cL_law 276 = .ok (.aload_n 0, 1) := by decide +kernel
theorem dL_law_277 : decode cL_law 277 = .ok (.iload_n 3, 1) := by decide +kernel
theorem dL_law_278 : decode cL_law 278 = .ok (.iconst 1, 1) := by decide +kernel
theorem dL_law_279 : decode cL_law 279 = .ok (.iadd, 1) := by decide +kernel
theorem dL_law_280 : decode cL_law 280 = .ok (.iaload, 1) := by decide +kernel
theorem dL_law_281 : decode cL_law 281 = .ok (.invokevirtual 36, 3) := by decide +kernel
theorem dL_law_284 : decode cL_law 284 = .ok (.aload_n 2, 1) := by decide +kernel
theorem dL_law_285 : decode cL_law 285 = .ok (.aload_n 0, 1) := by decide +kernel
theorem dL_law_286 : decode cL_law 286 = .ok (.iload_n 3, 1) := by decide +kernel
theorem dL_law_287 : decode cL_law 287 = .ok (.iconst 1, 1) := by decide +kernel
theorem dL_law_288 : decode cL_law 288 = .ok (.iadd, 1) := by decide +kernel
theorem dL_law_289 : decode cL_law 289 = .ok (.iaload, 1) := by decide +kernel
theorem dL_law_290 : decode cL_law 290 = .ok (.invokevirtual 39, 3) := by decide +kernel
theorem dL_law_293 : decode cL_law 293 = .ok (.if_icmp .eq 436, 3) := by decide +kernel
theorem dL_law_296 : decode cL_law 296 = .ok (.iconst 0, 1) := by decide +kernel
theorem dL_law_297 : decode cL_law 297 = .ok (.ireturn, 1) := by decide +kernel
theorem dL_law_298 : decode cL_law 298 = .ok (.aload_n 1, 1) := by decide +kernel
theorem dL_law_299 : decode cL_law 299 = .ok (.invokevirtual 40, 3) := by decide +kernel
theorem dL_law_302 : decode cL_law 302 = .ok (.aload_n 2, 1) := by decide +kernel
theorem dL_law_303 : decode cL_law 303 = .ok (.invokevirtual 43, 3) := by decide +kernel
theorem dL_law_306 : decode cL_law 306 = .ok (.if_icmp .eq 423, 3) := by decide +kernel
theorem dL_law_309 : decode cL_law 309 = .ok (.iconst 0, 1) := by decide +kernel
theorem dL_law_310 : decode cL_law 310 = .ok (.ireturn, 1) := by decide +kernel
theorem dL_law_311 : decode cL_law 311 = .ok (.aload_n 1, 1) := by decide +kernel
theorem dL_law_312 : decode cL_law 312 = .ok (.aload_n 0, 1) := by decide +kernel
theorem dL_law_313 : decode cL_law 313 = .ok (.iload_n 3, 1) := by decide +kernel
theorem dL_law_314 : decode cL_law 314 = .ok (.iconst 1, 1) := by decide +kernel
theorem dL_law_315 : decode cL_law 315 = .ok (.iadd, 1) := by decide +kernel
theorem dL_law_316 : decode cL_law 316 = .ok (.iaload, 1) := by decide +kernel
theorem dL_law_317 : decode cL_law 317 = .ok (.invokevirtual 44, 3) := by decide +kernel
theorem dL_law_320 : decode cL_law 320 = .ok (.aload_n 2, 1) := by decide +kernel
theorem dL_law_321 : decode cL_law 321 = .ok (.aload_n 0, 1) := by decide +kernel
theorem dL_law_322 : decode cL_law 322 = .ok (.iload_n 3, 1) := by decide +kernel
theorem dL_law_323 : decode cL_law 323 = .ok (.iconst 1, 1) := by decide +kernel
theorem dL_law_324 : decode cL_law 324 = .ok (.iadd, 1) := by decide +kernel
theorem dL_law_325 : decode cL_law 325 = .ok (.iaload, 1) := by decide +kernel
theorem dL_law_326 : decode cL_law 326 = .ok (.invokevirtual 47, 3) := by decide +kernel
theorem dL_law_329 : decode cL_law 329 = .ok (.if_icmp .eq 400, 3) := by decide +kernel
theorem dL_law_332 : decode cL_law 332 = .ok (.iconst 0, 1) := by decide +kernel
theorem dL_law_333 : decode cL_law 333 = .ok (.ireturn, 1) := by decide +kernel
theorem dL_law_334 : decode cL_law 334 = .ok (.aload_n 1, 1) := by decide +kernel
theorem dL_law_335 : decode cL_law 335 = .ok (.aload_n 0, 1) := by decide +kernel
theorem dL_law_336 : decode cL_law 336 = .ok (.iload_n 3, 1) := by decide +kernel
theorem dL_law_337 : decode cL_law 337 = .ok (.iconst 1, 1) := by decide +kernel
theorem dL_law_338 : decode cL_law 338 = .ok (.iadd, 1) := by decide +kernel
theorem dL_law_339 : decode cL_law 339 = .ok (.iaload, 1) := by decide +kernel
theorem dL_law_340 : decode cL_law 340 = .ok (.aload_n 0, 1) := by decide +kernel
theorem dL_law_341 : decode cL_law 341 = .ok (.iload_n 3, 1) := by decide +kernel
theorem dL_law_342 : decode cL_law 342 = .ok (.iconst 2, 1) := by decide +kernel
theorem dL_law_343 : decode cL_law 343 = .ok (.iadd, 1) := by decide +kernel
theorem dL_law_344 : decode cL_law 344 = .ok (.iaload, 1) := by decide +kernel
theorem dL_law_345 : decode cL_law 345 = .ok (.invokevirtual 48, 3) := by decide +kernel
theorem dL_law_348 : decode cL_law 348 = .ok (.aload_n 2, 1) := by decide +kernel
theorem dL_law_349 : decode cL_law 349 = .ok (.aload_n 0, 1) := by decide +kernel
theorem dL_law_350 : decode cL_law 350 = .ok (.iload_n 3, 1) := by decide +kernel
theorem dL_law_351 : decode cL_law 351 = .ok (.iconst 1, 1) := by decide +kernel
theorem dL_law_352 : decode cL_law 352 = .ok (.iadd, 1) := by decide +kernel
theorem dL_law_353 : decode cL_law 353 = .ok (.iaload, 1) := by decide +kernel
theorem dL_law_354 : decode cL_law 354 = .ok (.aload_n 0, 1) := by decide +kernel
theorem dL_law_355 : decode cL_law 355 = .ok (.iload_n 3, 1) := by decide +kernel
theorem dL_law_356 : decode cL_law 356 = .ok (.iconst 2, 1) := by decide +kernel
theorem dL_law_357 : decode cL_law 357 = .ok (.iadd, 1) := by decide +kernel
theorem dL_law_358 : decode cL_law 358 = .ok (.iaload, 1) := by decide +kernel
theorem dL_law_359 : decode cL_law 359 = .ok (.invokevirtual 51, 3) := by decide +kernel
theorem dL_law_362 : decode cL_law 362 = .ok (.if_icmp .eq 367, 3) := by decide +kernel
theorem dL_law_365 : decode cL_law 365 = .ok (.iconst 0, 1) := by decide +kernel
theorem dL_law_366 : decode cL_law 366 = .ok (.ireturn, 1) := by decide +kernel
theorem dL_law_367 : decode cL_law 367 = .ok (.aload_n 1, 1) := by decide +kernel
theorem dL_law_368 : decode cL_law 368 = .ok (.aload_n 0, 1) := by decide +kernel
theorem dL_law_369 : decode cL_law 369 = .ok (.iload_n 3, 1) := by decide +kernel
theorem dL_law_370 : decode cL_law 370 = .ok (.iconst 1, 1) := by decide +kernel
theorem dL_law_371 : decode cL_law 371 = .ok (.iadd, 1) := by decide +kernel
theorem dL_law_372 : decode cL_law 372 = .ok (.iaload, 1) := by decide +kernel
theorem dL_law_373 : decode cL_law 373 = .ok (.aload_n 0, 1) := by decide +kernel
theorem dL_law_374 : decode cL_law 374 = .ok (.iload_n 3, 1) := by decide +kernel
theorem dL_law_375 : decode cL_law 375 = .ok (.iconst 2, 1) := by decide +kernel
theorem dL_law_376 : decode cL_law 376 = .ok (.iadd, 1) := by decide +kernel
theorem dL_law_377 : decode cL_law 377 = .ok (.iaload, 1) := by decide +kernel
theorem dL_law_378 : decode cL_law 378 = .ok (.aload_n 0, 1) := by decide +kernel
theorem dL_law_379 : decode cL_law 379 = .ok (.iload_n 3, 1) := by decide +kernel
theorem dL_law_380 : decode cL_law 380 = .ok (.iconst 3, 1) := by decide +kernel
theorem dL_law_381 : decode cL_law 381 = .ok (.iadd, 1) := by decide +kernel
theorem dL_law_382 : decode cL_law 382 = .ok (.iaload, 1) := by decide +kernel
theorem dL_law_383 : decode cL_law 383 = .ok (.invokevirtual 52, 3) := by decide +kernel
theorem dL_law_386 : decode cL_law 386 = .ok (.aload_n 2, 1) := by decide +kernel
theorem dL_law_387 : decode cL_law 387 = .ok (.aload_n 0, 1) := by decide +kernel
theorem dL_law_388 : decode cL_law 388 = .ok (.iload_n 3, 1) := by decide +kernel
theorem dL_law_389 : decode cL_law 389 = .ok (.iconst 1, 1) := by decide +kernel
theorem dL_law_390 : decode cL_law 390 = .ok (.iadd, 1) := by decide +kernel
theorem dL_law_391 : decode cL_law 391 = .ok (.iaload, 1) := by decide +kernel
theorem dL_law_392 : decode cL_law 392 = .ok (.aload_n 0, 1) := by decide +kernel
theorem dL_law_393 : decode cL_law 393 = .ok (.iload_n 3, 1) := by decide +kernel
theorem dL_law_394 : decode cL_law 394 = .ok (.iconst 2, 1) := by decide +kernel
theorem dL_law_395 : decode cL_law 395 = .ok (.iadd, 1) := by decide +kernel
theorem dL_law_396 : decode cL_law 396 = .ok (.iaload, 1) := by decide +kernel
theorem dL_law_397 : decode cL_law 397 = .ok (.aload_n 0, 1) := by decide +kernel
theorem dL_law_398 : decode cL_law 398 = .ok (.iload_n 3, 1) := by decide +kernel
theorem dL_law_399 : decode cL_law 399 = .ok (.iconst 3, 1) := by decide +kernel
theorem dL_law_400 : decode cL_law 400 = .ok (.iadd, 1) := by decide +kernel
theorem dL_law_401 : decode cL_law 401 = .ok (.iaload, 1) := by decide +kernel
theorem dL_law_402 : decode cL_law 402 = .ok (.invokevirtual 56, 3) := by decide +kernel
theorem dL_law_405 : decode cL_law 405 = .ok (.if_icmp .eq 324, 3) := by decide +kernel
theorem dL_law_408 : decode cL_law 408 = .ok (.iconst 0, 1) := by decide +kernel
theorem dL_law_409 : decode cL_law 409 = .ok (.ireturn, 1) := by decide +kernel
theorem dL_law_410 : decode cL_law 410 = .ok (.aload_n 1, 1) := by decide +kernel
theorem dL_law_411 : decode cL_law 411 = .ok (.aload_n 0, 1) := by decide +kernel
theorem dL_law_412 : decode cL_law 412 = .ok (.iload_n 3, 1) := by decide +kernel
theorem dL_law_413 : decode cL_law 413 = .ok (.iconst 1, 1) := by decide +kernel
theorem dL_law_414 : decode cL_law 414 = .ok (.iadd, 1) := by decide +kernel
theorem dL_law_415 : decode cL_law 415 = .ok (.iaload, 1) := by decide +kernel
theorem dL_law_416 : decode cL_law 416 = .ok (.aload_n 0, 1) := by decide +kernel
theorem dL_law_417 : decode cL_law 417 = .ok (.iload_n 3, 1) := by decide +kernel
theorem dL_law_418 : decode cL_law 418 = .ok (.iconst 2, 1) := by decide +kernel
theorem dL_law_419 : decode cL_law 419 = .ok (.iadd, 1) := by decide +kernel
theorem dL_law_420 : decode cL_law 420 = .ok (.iaload, 1) := by decide +kernel
theorem dL_law_421 : decode cL_law 421 = .ok (.invokevirtual 57, 3) := by decide +kernel
theorem dL_law_424 : decode cL_law 424 = .ok (.aload_n 2, 1) := by decide +kernel
theorem dL_law_425 : decode cL_law 425 = .ok (.aload_n 0, 1) := by decide +kernel
theorem dL_law_426 : decode cL_law 426 = .ok (.iload_n 3, 1) := by decide +kernel
theorem dL_law_427 : decode cL_law 427 = .ok (.iconst 1, 1) := by decide +kernel
theorem dL_law_428 : decode cL_law 428 = .ok (.iadd, 1) := by decide +kernel
theorem dL_law_429 : decode cL_law 429 = .ok (.iaload, 1) := by decide +kernel
theorem dL_law_430 : decode cL_law 430 = .ok (.aload_n 0, 1) := by decide +kernel
theorem dL_law_431 : decode cL_law 431 = .ok (.iload_n 3, 1) := by decide +kernel
theorem dL_law_432 : decode cL_law 432 = .ok (.iconst 2, 1) := by decide +kernel
theorem dL_law_433 : decode cL_law 433 = .ok (.iadd, 1) := by decide +kernel
theorem dL_law_434 : decode cL_law 434 = .ok (.iaload, 1) := by decide +kernel
theorem dL_law_435 : decode cL_law 435 = .ok (.invokevirtual 60, 3) := by decide +kernel
theorem dL_law_438 : decode cL_law 438 = .ok (.if_icmp .eq 291, 3) := by decide +kernel
theorem dL_law_441 : decode cL_law 441 = .ok (.iconst 0, 1) := by decide +kernel
theorem dL_law_442 : decode cL_law 442 = .ok (.ireturn, 1) := by decide +kernel
theorem dL_law_443 : decode cL_law 443 = .ok (.aload_n 1, 1) := by decide +kernel
theorem dL_law_444 : decode cL_law 444 = .ok (.aload_n 0, 1) := by decide +kernel
theorem dL_law_445 : decode cL_law 445 = .ok (.iload_n 3, 1) := by decide +kernel
theorem dL_law_446 : decode cL_law 446 = .ok (.iconst 1, 1) := by decide +kernel
theorem dL_law_447 : decode cL_law 447 = .ok (.iadd, 1) := by decide +kernel
theorem dL_law_448 : decode cL_law 448 = .ok (.iaload, 1) := by decide +kernel
theorem dL_law_449 : decode cL_law 449 = .ok (.aload_n 0, 1) := by decide +kernel
theorem dL_law_450 : decode cL_law 450 = .ok (.iload_n 3, 1) := by decide +kernel
theorem dL_law_451 : decode cL_law 451 = .ok (.iconst 2, 1) := by decide +kernel
theorem dL_law_452 : decode cL_law 452 = .ok (.iadd, 1) := by decide +kernel
theorem dL_law_453 : decode cL_law 453 = .ok (.iaload, 1) := by decide +kernel
theorem dL_law_454 : decode cL_law 454 = .ok (.invokevirtual 61, 3) := by decide +kernel
theorem dL_law_457 : decode cL_law 457 = .ok (.aload_n 2, 1) := by decide +kernel
theorem dL_law_458 : decode cL_law 458 = .ok (.aload_n 0, 1) := by decide +kernel
theorem dL_law_459 : decode cL_law 459 = .ok (.iload_n 3, 1) := by decide +kernel
theorem dL_law_460 : decode cL_law 460 = .ok (.iconst 1, 1) := by decide +kernel
theorem dL_law_461 : decode cL_law 461 = .ok (.iadd, 1) := by decide +kernel
theorem dL_law_462 : decode cL_law 462 = .ok (.iaload, 1) := by decide +kernel
theorem dL_law_463 : decode cL_law 463 = .ok (.aload_n 0, 1) := by decide +kernel
theorem dL_law_464 : decode cL_law 464 = .ok (.iload_n 3, 1) := by decide +kernel
theorem dL_law_465 : decode cL_law 465 = .ok (.iconst 2, 1) := by decide +kernel
theorem dL_law_466 : decode cL_law 466 = .ok (.iadd, 1) := by decide +kernel
theorem dL_law_467 : decode cL_law 467 = .ok (.iaload, 1) := by decide +kernel
theorem dL_law_468 : decode cL_law 468 = .ok (.invokevirtual 64, 3) := by decide +kernel
theorem dL_law_471 : decode cL_law 471 = .ok (.if_icmp .eq 258, 3) := by decide +kernel
theorem dL_law_474 : decode cL_law 474 = .ok (.iconst 0, 1) := by decide +kernel
theorem dL_law_475 : decode cL_law 475 = .ok (.ireturn, 1) := by decide +kernel
theorem dL_law_476 : decode cL_law 476 = .ok (.aload_n 1, 1) := by decide +kernel
theorem dL_law_477 : decode cL_law 477 = .ok (.aload_n 0, 1) := by decide +kernel
theorem dL_law_478 : decode cL_law 478 = .ok (.iload_n 3, 1) := by decide +kernel
theorem dL_law_479 : decode cL_law 479 = .ok (.iconst 1, 1) := by decide +kernel
theorem dL_law_480 : decode cL_law 480 = .ok (.iadd, 1) := by decide +kernel
theorem dL_law_481 : decode cL_law 481 = .ok (.iaload, 1) := by decide +kernel
theorem dL_law_482 : decode cL_law 482 = .ok (.invokevirtual 65, 3) := by decide +kernel
theorem dL_law_485 : decode cL_law 485 = .ok (.aload_n 2, 1) := by decide +kernel
theorem dL_law_486 : decode cL_law 486 = .ok (.aload_n 0, 1) := by decide +kernel
theorem dL_law_487 : decode cL_law 487 = .ok (.iload_n 3, 1) := by decide +kernel
theorem dL_law_488 : decode cL_law 488 = .ok (.iconst 1, 1) := by decide +kernel
theorem dL_law_489 : decode cL_law 489 = .ok (.iadd, 1) := by decide +kernel
theorem dL_law_490 : decode cL_law 490 = .ok (.iaload, 1) := by decide +kernel
theorem dL_law_491 : decode cL_law 491 = .ok (.invokevirtual 68, 3) := by decide +kernel
theorem dL_law_494 : decode cL_law 494 = .ok (.if_icmp .eq 235, 3) := by decide +kernel
theorem dL_law_497 : decode cL_law 497 = .ok (.iconst 0, 1) := by decide +kernel
theorem dL_law_498 : decode cL_law 498 = .ok (.ireturn, 1) := by decide +kernel
theorem dL_law_499 : decode cL_law 499 = .ok (.aload_n 1, 1) := by decide +kernel
theorem dL_law_500 : decode cL_law 500 = .ok (.aload_n 0, 1) := by decide +kernel
theorem dL_law_501 : decode cL_law 501 = .ok (.iload_n 3, 1) := by decide +kernel
theorem dL_law_502 : decode cL_law 502 = .ok (.iconst 1, 1) := by decide +kernel
theorem dL_law_503 : decode cL_law 503 = .ok (.iadd, 1) := by decide +kernel
theorem dL_law_504 : decode cL_law 504 = .ok (.iaload, 1) := by decide +kernel
theorem dL_law_505 : decode cL_law 505 = .ok (.invokevirtual 69, 3) := by decide +kernel
theorem dL_law_508 : decode cL_law 508 = .ok (.aload_n 2, 1) := by decide +kernel
theorem dL_law_509 : decode cL_law 509 = .ok (.aload_n 0, 1) := by decide +kernel
theorem dL_law_510 : decode cL_law 510 = .ok (.iload_n 3, 1) := by decide +kernel
theorem dL_law_511 : decode cL_law 511 = .ok (.iconst 1, 1) := by decide +kernel
theorem dL_law_512 : decode cL_law 512 = .ok (.iadd, 1) := by decide +kernel
theorem dL_law_513 : decode cL_law 513 = .ok (.iaload, 1) := by decide +kernel
theorem dL_law_514 : decode cL_law 514 = .ok (.invokevirtual 72, 3) := by decide +kernel
theorem dL_law_517 : decode cL_law 517 = .ok (.if_icmp .eq 212, 3) := by decide +kernel
theorem dL_law_520 : decode cL_law 520 = .ok (.iconst 0, 1) := by decide +kernel
theorem dL_law_521 : decode cL_law 521 = .ok (.ireturn, 1) := by decide +kernel
theorem dL_law_522 : decode cL_law 522 = .ok (.aload_n 1, 1) := by decide +kernel
theorem dL_law_523 : decode cL_law 523 = .ok (.aload_n 0, 1) := by decide +kernel
theorem dL_law_524 : decode cL_law 524 = .ok (.iload_n 3, 1) := by decide +kernel
theorem dL_law_525 : decode cL_law 525 = .ok (.iconst 1, 1) := by decide +kernel
theorem dL_law_526 : decode cL_law 526 = .ok (.iadd, 1) := by decide +kernel
theorem dL_law_527 : decode cL_law 527 = .ok (.iaload, 1) := by decide +kernel
theorem dL_law_528 : decode cL_law 528 = .ok (.invokevirtual 73, 3) := by decide +kernel
theorem dL_law_531 : decode cL_law 531 = .ok (.aload_n 2, 1) := by decide +kernel
theorem dL_law_532 : decode cL_law 532 = .ok (.aload_n 0, 1) := by decide +kernel
theorem dL_law_533 : decode cL_law 533 = .ok (.iload_n 3, 1) := by decide +kernel
theorem dL_law_534 : decode cL_law 534 = .ok (.iconst 1, 1) := by decide +kernel
theorem dL_law_535 : decode cL_law 535 = .ok (.iadd, 1) := by decide +kernel
theorem dL_law_536 : decode cL_law 536 = .ok (.iaload, 1) := by decide +kernel
theorem dL_law_537 : decode cL_law 537 = .ok (.invokevirtual 76, 3) := by decide +kernel
theorem dL_law_540 : decode cL_law 540 = .ok (.if_icmp .eq 189, 3) := by decide +kernel
theorem dL_law_543 : decode cL_law 543 = .ok (.iconst 0, 1) := by decide +kernel
theorem dL_law_544 : decode cL_law 544 = .ok (.ireturn, 1) := by decide +kernel
theorem dL_law_545 : decode cL_law 545 = .ok (.aload_n 1, 1) := by decide +kernel
theorem dL_law_546 : decode cL_law 546 = .ok (.invokevirtual 77, 3) := by decide +kernel
theorem dL_law_549 : decode cL_law 549 = .ok (.aload_n 2, 1) := by decide +kernel
theorem dL_law_550 : decode cL_law 550 = .ok (.invokevirtual 80, 3) := by decide +kernel
theorem dL_law_553 : decode cL_law 553 = .ok (.if_icmp .eq 176, 3) := by decide +kernel
theorem dL_law_556 : decode cL_law 556 = .ok (.iconst 0, 1) := by decide +kernel
theorem dL_law_557 : decode cL_law 557 = .ok (.ireturn, 1) := by decide +kernel
theorem dL_law_558 : decode cL_law 558 = .ok (.aload_n 1, 1) := by decide +kernel
theorem dL_law_559 : decode cL_law 559 = .ok (.aload_n 0, 1) := by decide +kernel
theorem dL_law_560 : decode cL_law 560 = .ok (.iload_n 3, 1) := by decide +kernel
theorem dL_law_561 : decode cL_law 561 = .ok (.iconst 1, 1) := by decide +kernel
theorem dL_law_562 : decode cL_law 562 = .ok (.iadd, 1) := by decide +kernel
theorem dL_law_563 : decode cL_law 563 = .ok (.iaload, 1) := by decide +kernel
theorem dL_law_564 : decode cL_law 564 = .ok (.aload_n 0, 1) := by decide +kernel
theorem dL_law_565 : decode cL_law 565 = .ok (.iload_n 3, 1) := by decide +kernel
theorem dL_law_566 : decode cL_law 566 = .ok (.iconst 2, 1) := by decide +kernel
theorem dL_law_567 : decode cL_law 567 = .ok (.iadd, 1) := by decide +kernel
theorem dL_law_568 : decode cL_law 568 = .ok (.iaload, 1) := by decide +kernel
theorem dL_law_569 : decode cL_law 569 = .ok (.invokevirtual 81, 3) := by decide +kernel
theorem dL_law_572 : decode cL_law 572 = .ok (.aload_n 2, 1) := by decide +kernel
theorem dL_law_573 : decode cL_law 573 = .ok (.aload_n 0, 1) := by decide +kernel
theorem dL_law_574 : decode cL_law 574 = .ok (.iload_n 3, 1) := by decide +kernel
theorem dL_law_575 : decode cL_law 575 = .ok (.iconst 1, 1) := by decide +kernel
theorem dL_law_576 : decode cL_law 576 = .ok (.iadd, 1) := by decide +kernel
theorem dL_law_577 : decode cL_law 577 = .ok (.iaload, 1) := by decide +kernel
theorem dL_law_578 : decode cL_law 578 = .ok (.aload_n 0, 1) := by decide +kernel
theorem dL_law_579 : decode cL_law 579 = .ok (.iload_n 3, 1) := by decide +kernel
theorem dL_law_580 : decode cL_law 580 = .ok (.iconst 2, 1) := by decide +kernel
theorem dL_law_581 : decode cL_law 581 = .ok (.iadd, 1) := by decide +kernel
theorem dL_law_582 : decode cL_law 582 = .ok (.iaload, 1) := by decide +kernel
theorem dL_law_583 : decode cL_law 583 = .ok (.invokevirtual 84, 3) := by decide +kernel
theorem dL_law_586 : decode cL_law 586 = .ok (.if_icmp .eq 143, 3) := by decide +kernel
theorem dL_law_589 : decode cL_law 589 = .ok (.iconst 0, 1) := by decide +kernel
theorem dL_law_590 : decode cL_law 590 = .ok (.ireturn, 1) := by decide +kernel
theorem dL_law_591 : decode cL_law 591 = .ok (.aload_n 1, 1) := by decide +kernel
theorem dL_law_592 : decode cL_law 592 = .ok (.aload_n 0, 1) := by decide +kernel
theorem dL_law_593 : decode cL_law 593 = .ok (.iload_n 3, 1) := by decide +kernel
theorem dL_law_594 : decode cL_law 594 = .ok (.iconst 1, 1) := by decide +kernel
theorem dL_law_595 : decode cL_law 595 = .ok (.iadd, 1) := by decide +kernel
theorem dL_law_596 : decode cL_law 596 = .ok (.iaload, 1) := by decide +kernel
theorem dL_law_597 : decode cL_law 597 = .ok (.i2l, 1) := by decide +kernel
theorem dL_law_598 : decode cL_law 598 = .ok (.bipush 32, 2) := by decide +kernel
theorem dL_law_600 : decode cL_law 600 = .ok (.lshl, 1) := by decide +kernel
theorem dL_law_601 : decode cL_law 601 = .ok (.aload_n 0, 1) := by decide +kernel
theorem dL_law_602 : decode cL_law 602 = .ok (.iload_n 3, 1) := by decide +kernel
theorem dL_law_603 : decode cL_law 603 = .ok (.iconst 2, 1) := by decide +kernel
theorem dL_law_604 : decode cL_law 604 = .ok (.iadd, 1) := by decide +kernel
theorem dL_law_605 : decode cL_law 605 = .ok (.iaload, 1) := by decide +kernel
theorem dL_law_606 : decode cL_law 606 = .ok (.i2l, 1) := by decide +kernel
theorem dL_law_607 : decode cL_law 607 = .ok (.ldc2_w 85, 3) := by decide +kernel
theorem dL_law_610 : decode cL_law 610 = .ok (.land, 1) := by decide +kernel
theorem dL_law_611 : decode cL_law 611 = .ok (.lor, 1) := by decide +kernel
theorem dL_law_612 : decode cL_law 612 = .ok (.invokevirtual 87, 3) := by decide +kernel
theorem dL_law_615 : decode cL_law 615 = .ok (.aload_n 2, 1) := by decide +kernel
theorem dL_law_616 : decode cL_law 616 = .ok (.aload_n 0, 1) := by decide +kernel
theorem dL_law_617 : decode cL_law 617 = .ok (.iload_n 3, 1) := by decide +kernel
theorem dL_law_618 : decode cL_law 618 = .ok (.iconst 1, 1) := by decide +kernel
theorem dL_law_619 : decode cL_law 619 = .ok (.iadd, 1) := by decide +kernel
theorem dL_law_620 : decode cL_law 620 = .ok (.iaload, 1) := by decide +kernel
theorem dL_law_621 : decode cL_law 621 = .ok (.i2l, 1) := by decide +kernel
theorem dL_law_622 : decode cL_law 622 = .ok (.bipush 32, 2) := by decide +kernel
theorem dL_law_624 : decode cL_law 624 = .ok (.lshl, 1) := by decide +kernel
theorem dL_law_625 : decode cL_law 625 = .ok (.aload_n 0, 1) := by decide +kernel
theorem dL_law_626 : decode cL_law 626 = .ok (.iload_n 3, 1) := by decide +kernel
theorem dL_law_627 : decode cL_law 627 = .ok (.iconst 2, 1) := by decide +kernel
theorem dL_law_628 : decode cL_law 628 = .ok (.iadd, 1) := by decide +kernel
theorem dL_law_629 : decode cL_law 629 = .ok (.iaload, 1) := by decide +kernel
theorem dL_law_630 : decode cL_law 630 = .ok (.i2l, 1) := by decide +kernel
theorem dL_law_631 : decode cL_law 631 = .ok (.ldc2_w 85, 3) := by decide +kernel
theorem dL_law_634 : decode cL_law 634 = .ok (.land, 1) := by decide +kernel
theorem dL_law_635 : decode cL_law 635 = .ok (.lor, 1) := by decide +kernel
theorem dL_law_636 : decode cL_law 636 = .ok (.invokevirtual 91, 3) := by decide +kernel
theorem dL_law_639 : decode cL_law 639 = .ok (.if_icmp .eq 90, 3) := by decide +kernel
theorem dL_law_642 : decode cL_law 642 = .ok (.iconst 0, 1) := by decide +kernel
theorem dL_law_643 : decode cL_law 643 = .ok (.ireturn, 1) := by decide +kernel
theorem dL_law_644 : decode cL_law 644 = .ok (.aload_n 1, 1) := by decide +kernel
theorem dL_law_645 : decode cL_law 645 = .ok (.invokevirtual 92, 3) := by decide +kernel
theorem dL_law_648 : decode cL_law 648 = .ok (.aload_n 2, 1) := by decide +kernel
theorem dL_law_649 : decode cL_law 649 = .ok (.invokevirtual 95, 3) := by decide +kernel
theorem dL_law_652 : decode cL_law 652 = .ok (.if_icmp .eq 77, 3) := by decide +kernel
theorem dL_law_655 : decode cL_law 655 = .ok (.iconst 0, 1) := by decide +kernel
theorem dL_law_656 : decode cL_law 656 = .ok (.ireturn, 1) := by decide +kernel
theorem dL_law_657 : decode cL_law 657 = .ok (.aload_n 1, 1) := by decide +kernel
theorem dL_law_658 : decode cL_law 658 = .ok (.invokevirtual 96, 3) := by decide +kernel
theorem dL_law_661 : decode cL_law 661 = .ok (.aload_n 2, 1) := by decide +kernel
theorem dL_law_662 : decode cL_law 662 = .ok (.invokevirtual 99, 3) := by decide +kernel
theorem dL_law_665 : decode cL_law 665 = .ok (.if_icmp .eq 64, 3) := by decide +kernel
theorem dL_law_668 : decode cL_law 668 = .ok (.iconst 0, 1) := by decide +kernel
theorem dL_law_669 : decode cL_law 669 = .ok (.ireturn, 1) := by decide +kernel
theorem dL_law_670 : decode cL_law 670 = .ok (.aload_n 1, 1) := by decide +kernel
theorem dL_law_671 : decode cL_law 671 = .ok (.invokevirtual 100, 3) := by decide +kernel
theorem dL_law_674 : decode cL_law 674 = .ok (.aload_n 2, 1) := by decide +kernel
theorem dL_law_675 : decode cL_law 675 = .ok (.invokevirtual 103, 3) := by decide +kernel
theorem dL_law_678 : decode cL_law 678 = .ok (.if_icmp .eq 51, 3) := by decide +kernel
theorem dL_law_681 : decode cL_law 681 = .ok (.iconst 0, 1) := by decide +kernel
theorem dL_law_682 : decode cL_law 682 = .ok (.ireturn, 1) := by decide +kernel
theorem dL_law_683 : decode cL_law 683 = .ok (.aload_n 1, 1) := by decide +kernel
theorem dL_law_684 : decode cL_law 684 = .ok (.aload_n 0, 1) := by decide +kernel
theorem dL_law_685 : decode cL_law 685 = .ok (.iload_n 3, 1) := by decide +kernel
theorem dL_law_686 : decode cL_law 686 = .ok (.iconst 1, 1) := by decide +kernel
theorem dL_law_687 : decode cL_law 687 = .ok (.iadd, 1) := by decide +kernel
theorem dL_law_688 : decode cL_law 688 = .ok (.iaload, 1) := by decide +kernel
theorem dL_law_689 : decode cL_law 689 = .ok (.invokevirtual 104, 3) := by decide +kernel
theorem dL_law_692 : decode cL_law 692 = .ok (.aload_n 2, 1) := by decide +kernel
theorem dL_law_693 : decode cL_law 693 = .ok (.aload_n 0, 1) := by decide +kernel
theorem dL_law_694 : decode cL_law 694 = .ok (.iload_n 3, 1) := by decide +kernel
theorem dL_law_695 : decode cL_law 695 = .ok (.iconst 1, 1) := by decide +kernel
theorem dL_law_696 : decode cL_law 696 = .ok (.iadd, 1) := by decide +kernel
theorem dL_law_697 : decode cL_law 697 = .ok (.iaload, 1) := by decide +kernel
theorem dL_law_698 : decode cL_law 698 = .ok (.invokevirtual 107, 3) := by decide +kernel
theorem dL_law_701 : decode cL_law 701 = .ok (.if_icmp .eq 28, 3) := by decide +kernel
theorem dL_law_704 : decode cL_law 704 = .ok (.iconst 0, 1) := by decide +kernel
theorem dL_law_705 : decode cL_law 705 = .ok (.ireturn, 1) := by decide +kernel
theorem dL_law_706 : decode cL_law 706 = .ok (.aload_n 1, 1) := by decide +kernel
theorem dL_law_707 : decode cL_law 707 = .ok (.aload_n 0, 1) := by decide +kernel
theorem dL_law_708 : decode cL_law 708 = .ok (.iload_n 3, 1) := by decide +kernel
theorem dL_law_709 : decode cL_law 709 = .ok (.iconst 1, 1) := by decide +kernel
theorem dL_law_710 : decode cL_law 710 = .ok (.iadd, 1) := by decide +kernel
theorem dL_law_711 : decode cL_law 711 = .ok (.iaload, 1) := by decide +kernel
theorem dL_law_712 : decode cL_law 712 = .ok (.invokevirtual 108, 3) := by decide +kernel
theorem dL_law_715 : decode cL_law 715 = .ok (.aload_n 2, 1) := by decide +kernel
theorem dL_law_716 : decode cL_law 716 = .ok (.aload_n 0, 1) := by decide +kernel
theorem dL_law_717 : decode cL_law 717 = .ok (.iload_n 3, 1) := by decide +kernel
theorem dL_law_718 : decode cL_law 718 = .ok (.iconst 1, 1) := by decide +kernel
theorem dL_law_719 : decode cL_law 719 = .ok (.iadd, 1) := by decide +kernel
theorem dL_law_720 : decode cL_law 720 = .ok (.iaload, 1) := by decide +kernel
theorem dL_law_721 : decode cL_law 721 = .ok (.invokevirtual 111, 3) := by decide +kernel
theorem dL_law_724 : decode cL_law 724 = .ok (.if_icmp .eq 5, 3) := by decide +kernel
theorem dL_law_727 : decode cL_law 727 = .ok (.iconst 0, 1) := by decide +kernel
theorem dL_law_728 : decode cL_law 728 = .ok (.ireturn, 1) := by decide +kernel
theorem dL_law_729 : decode cL_law 729 = .ok (.iinc 3 4, 3) := by decide +kernel
theorem dL_law_732 : decode cL_law 732 = .ok (.goto (-714), 3) := by decide +kernel
theorem dL_law_735 : decode cL_law 735 = .ok (.iconst 1, 1) := by decide +kernel
theorem dL_law_736 : decode cL_law 736 = .ok (.ireturn, 1) := by decide +kernel
abbrev vwCl : List vw_C := [(RX0, TX0, 16), (RX1, TX1, 8), (RX2, TX2, 13)]
end
section
/-! THE MEMORY: block, offset, place. Blocks 0..9: courts (0 now, 1 trial, 2..7 made for the past, 8, 9 slots); 10: the PunCourts object; 11: the model. Offset 0: the object's own int fields (place = slot of the field); offset f + 1: the array in field f. -/
abbrev Mm : Type := Nat → Nat → Nat → Int32
def us (V : Nat → Nat → Int32) (k j : Nat) (v : Int32) : Nat → Nat → Int32 := fun k' j' => if k' = k ∧ j' = j then v else V k' j'
def uc (V : Nat → Nat → Int32) (k : Nat) (f : Nat → Int32) : Nat → Nat → Int32 := fun k' => if k' = k then f else V k'
def mb (μ : Mm) (b : Nat) (V : Nat → Nat → Int32) : Mm := fun b' => if b' = b then V else μ b'
def mc (μ : Mm) (b k : Nat) (f : Nat → Int32) : Mm := mb μ b (uc (μ b) k f)
def ms (μ : Mm) (b k j : Nat) (v : Int32) : Mm := mc μ b k (upd (μ b k) j v)
theorem mb_s {μ : Mm} {b : Nat} {V : Nat → Nat → Int32} : mb μ b V b = V := if_pos rfl
theorem mb_n {μ : Mm} {b b' : Nat} {V : Nat → Nat → Int32} (h : b' ≠ b) : mb μ b V b' = μ b' := if_neg h
theorem mb_self {μ : Mm} {b : Nat} : mb μ b (μ b) = μ := by
  funext b'
  by_cases h : b' = b
  · subst h; exact mb_s
  · exact mb_n h
theorem mb_mb {μ : Mm} {b : Nat} {V V1 : Nat → Nat → Int32} : mb (mb μ b V) b V1 = mb μ b V1 := by
  funext b'
  by_cases h : b' = b
  · subst h; rw [mb_s, mb_s]
  · rw [mb_n h, mb_n h, mb_n h]
theorem mb_comm {μ : Mm} {b b1 : Nat} {V V1 : Nat → Nat → Int32} (h : b ≠ b1) : mb (mb μ b V) b1 V1 = mb (mb μ b1 V1) b V := by
  funext b'
  by_cases h1 : b' = b
  · subst h1; rw [mb_n h, mb_s, mb_s]
  · by_cases h2 : b' = b1
    · subst h2; rw [mb_s, mb_n h1, mb_s]
    · rw [mb_n h1, mb_n h2, mb_n h2, mb_n h1]
theorem uc_s {V : Nat → Nat → Int32} {k : Nat} {f : Nat → Int32} : uc V k f k = f := if_pos rfl
theorem uc_n {V : Nat → Nat → Int32} {k k' : Nat} {f : Nat → Int32} (h : k' ≠ k) : uc V k f k' = V k' := if_neg h
theorem us_e {V : Nat → Nat → Int32} {k j : Nat} {v : Int32} (k' j' : Nat) : us V k j v k' j' = if k' = k ∧ j' = j then v else V k' j' := rfl
theorem us_s {V : Nat → Nat → Int32} {k j : Nat} {v : Int32} : us V k j v k j = v := if_pos ⟨rfl, rfl⟩
theorem us_i {V : Nat → Nat → Int32} {k j j' : Nat} {v : Int32} : us V k j v k j' = if j' = j then v else V k j' := by
  rw [us_e]; by_cases h : j' = j <;> simp [h]
theorem us_n {V : Nat → Nat → Int32} {k j k' : Nat} {v : Int32} (h : k' ≠ k) : us V k j v k' = V k' := by
  funext j'; rw [us_e, if_neg (fun q => h q.1)]
theorem uc_upd {V : Nat → Nat → Int32} {k j : Nat} {v : Int32} : uc V k (upd (V k) j v) = us V k j v := by
  funext k' j'
  by_cases h : k' = k
  · subst h
    rw [uc_s, us_i]; rfl
  · rw [uc_n h, us_n h]
theorem ms_mb {μ : Mm} {b k j : Nat} {v : Int32} : ms μ b k j v = mb μ b (us (μ b) k j v) := by rw [ms, mc, uc_upd]
theorem ms_b {μ : Mm} {b k j : Nat} {V : Nat → Nat → Int32} {v : Int32} : ms (mb μ b V) b k j v = mb μ b (us V k j v) := by rw [ms_mb, mb_s, mb_mb]
theorem mc_b {μ : Mm} {b k : Nat} {V : Nat → Nat → Int32} {f : Nat → Int32} : mc (mb μ b V) b k f = mb μ b (uc V k f) := by rw [mc, mb_s, mb_mb]
theorem mc_s {μ : Mm} {b k : Nat} {f : Nat → Int32} : mc μ b k f b k = f := by rw [mc, mb_s, uc_s]
theorem mc_n {μ : Mm} {b k b' k' : Nat} {f : Nat → Int32} (h : b' ≠ b ∨ k' ≠ k) : mc μ b k f b' k' = μ b' k' := by
  by_cases hb : b' = b
  · subst hb
    rw [mc, mb_s, uc_n (h.elim (fun z => absurd rfl z) id)]
  · rw [mc, mb_n hb]
theorem ms_s {μ : Mm} {b k j : Nat} {v : Int32} : ms μ b k j v b k j = v := by rw [ms_mb, mb_s, us_s]
theorem ms_i {μ : Mm} {b k j j' : Nat} {v : Int32} : ms μ b k j v b k j' = if j' = j then v else μ b k j' := by rw [ms_mb, mb_s, us_i]
theorem ms_n {μ : Mm} {b k j b' k' : Nat} {v : Int32} (h : b' ≠ b ∨ k' ≠ k) : ms μ b k j v b' k' = μ b' k' := mc_n h
theorem mc_out {μ : Mm} {b k b' k' : Nat} {f : Nat → Int32} (h : ¬ (b' = b ∧ k' = k)) : mc μ b k f b' k' = μ b' k' := mc_n (by
  rcases Nat.decEq b' b with q | q
  · exact Or.inl q
  · exact Or.inr (fun z => h ⟨q, z⟩))
def cC (ad : Nat → Nat → Nat) (b : Nat) (f : Nat → Int32) : List Value := [.ref (ad b 1), .int (f 1), .int (f 2), .ref (ad b 4), .ref (ad b 5), .ref (ad b 6), .ref (ad b 7), .ref (ad b 8), .ref (ad b 9), .ref (ad b 10), .ref (ad b 11), .ref (ad b 12), .ref (ad b 13), .ref (ad b 14), .int (f 14), .ref (ad b 16)]
def cM (ad : Nat → Nat → Nat) (f : Nat → Int32) : List Value := [.ref (ad 0 0), .ref (ad 1 0), .ref (ad 10 3), .int (f 3), .ref (ad 10 5), .ref (ad 10 6), .ref (ad 10 7), .int (f 7)]
def cR (ad : Nat → Nat → Nat) (f : Nat → Int32) : List Value := [.ref (ad 11 1), .ref (ad 11 2), .ref (ad 11 3), .int (f 3), .ref (ad 11 5), .ref (ad 11 6), .ref (ad 11 7), .int (f 7), .int (f 8), .ref (ad 11 10), .ref (ad 11 11), .ref (ad 11 12), .int (f 12)]
/-- an array of courts holds the number of a block at each place -/
def qC (ad : Nat → Nat → Nat) (f : Nat → Int32) : Nat → Option Nat := fun j => some (ad (f j).toNatClampNeg 0)
def eC (ad : Nat → Nat → Nat) (cs : Nat → ClassId) (b k : Nat) (f : Nat → Int32) : va_E := match k with
  | 0 => .inr (0, cC ad b f)
  | 1 => .inl (cs 0, 4, .inl f)
  | 4 => .inl (cs 1, 180, .inl f)
  | 5 => .inl (cs 0, 20, .inl f)
  | 6 => .inl (cs 0, 20, .inl f)
  | 7 => .inl (cs 0, 20, .inl f)
  | 8 => .inl (cs 2, 20, .inl f)
  | 9 => .inl (cs 0, 20, .inl f)
  | _ => .inl (cs 0, 12, .inl f)
def eM (ad : Nat → Nat → Nat) (cs : Nat → ClassId) (k : Nat) (f : Nat → Int32) : va_E := match k with
  | 0 => .inr (1, cM ad f)
  | 3 => .inl (cs 3, 6, .inr (.inr (.inr (.inr (qC ad f)))))
  | 5 => .inl (cs 3, 2, .inr (.inr (.inr (.inr (qC ad f)))))
  | 6 => .inl (cs 2, 2, .inl f)
  | _ => .inl (cs 1, 60, .inl f)
def eR (ad : Nat → Nat → Nat) (cs : Nat → ClassId) (k : Nat) (f : Nat → Int32) : va_E := match k with
  | 0 => .inr (2, cR ad f)
  | 1 => .inl (cs 0, 322, .inl f)
  | 2 => .inl (cs 0, 322, .inl f)
  | 3 => .inl (cs 0, 1932, .inl f)
  | 5 => .inl (cs 0, 644, .inl f)
  | 6 => .inl (cs 0, 2, .inl f)
  | 7 => .inl (cs 0, 60, .inl f)
  | _ => .inl (cs 0, 30, .inl f)
def EE (ad : Nat → Nat → Nat) (cs : Nat → ClassId) (b k : Nat) (f : Nat → Int32) : va_E := if b < 10 then eC ad cs b k f else if b = 10 then eM ad cs k f else eR ad cs k f
def ixC : List Nat := [0, 1, 4, 5, 6, 7, 8, 9, 10, 11, 12, 13, 14, 16]
def ixM : List (Nat × Nat) := [(10, 0), (10, 3), (10, 5), (10, 6), (10, 7)]
def ixR : List (Nat × Nat) := [(11, 0), (11, 1), (11, 2), (11, 3), (11, 5), (11, 6), (11, 7), (11, 10), (11, 11), (11, 12)]
def idx : List (Nat × Nat) := (List.range 10).flatMap (fun b => ixC.map (fun k => (b, k))) ++ (ixM ++ ixR)
theorem idx_nd : idx.Nodup := by decide +kernel
theorem idx_C {b k : Nat} (hb : b < 10) (hk : k ∈ ixC) : (b, k) ∈ idx := List.mem_append_left _ (List.mem_flatMap.mpr ⟨b, List.mem_range.mpr hb, List.mem_map.mpr ⟨k, hk, rfl⟩⟩)
theorem idx_lt {b k : Nat} (h : (b, k) ∈ idx) : b < 12 := by
  have h1 : ∀ q ∈ idx, q.1 < 12 := by decide +kernel
  exact h1 _ h
def wl (ad : Nat → Nat → Nat) (cs : Nat → ClassId) (μ : Mm) : va_W := idx.map (fun q => (ad q.1 q.2, EE ad cs q.1 q.2 (μ q.1 q.2)))
theorem wl_get {ad : Nat → Nat → Nat} {cs : Nat → ClassId} (μ : Mm) {b k : Nat} (h : (b, k) ∈ idx) : ∃ q0 : Nat, idx[q0]? = some (b, k) ∧ (wl ad cs μ)[q0]? = some (ad b k, EE ad cs b k (μ b k)) := by
  obtain ⟨q0, h0⟩ := List.getElem?_of_mem h
  exact ⟨q0, h0, by rw [wl, List.getElem?_map, h0]; rfl⟩
theorem wl_set {ad : Nat → Nat → Nat} {cs : Nat → ClassId} (μ : Mm) {b k q0 : Nat} (f : Nat → Int32) (h : idx[q0]? = some (b, k)) : (wl ad cs μ).set q0 (ad b k, EE ad cs b k f) = wl ad cs (mc μ b k f) := by
  apply List.ext_getElem?
  intro i
  have hq : q0 < idx.length := (List.getElem?_eq_some_iff.mp h).1
  by_cases hi : i = q0
  · subst hi
    rw [List.getElem?_set_self (by rw [wl, List.length_map]; exact hq), wl, List.getElem?_map, h]
    show _ = some (ad b k, EE ad cs b k (mc μ b k f b k))
    rw [mc_s]
  · rw [List.getElem?_set_ne (Ne.symm hi), wl, wl, List.getElem?_map, List.getElem?_map]
    cases hx : idx[i]? with
    | none => rfl
    | some x =>
      have hne : x ≠ (b, k) := by
        intro e
        subst e
        have hl := (List.getElem?_eq_some_iff.mp hx).1
        exact hi ((List.getElem?_inj hl idx_nd).mp (hx.trans h.symm))
      have h2 : x.1 ≠ b ∨ x.2 ≠ k := by
        rcases Nat.decEq x.1 b with q | q
        · exact Or.inl q
        · exact Or.inr (fun z => hne (by rw [← q, ← z]))
      show some _ = some (ad x.1 x.2, EE ad cs x.1 x.2 (mc μ b k f x.1 x.2))
      rw [mc_n h2]
def AD (A : Nat → Prop) (ad : Nat → Nat → Nat) : Prop := (∀ p ∈ idx, ∀ q ∈ idx, ad p.1 p.2 = ad q.1 q.2 → p = q) ∧ ∀ p ∈ idx, A (ad p.1 p.2)
theorem AD.D {A : Nat → Prop} {ad : Nat → Nat → Nat} {cs : Nat → ClassId} {μ : Mm} (h : AD A ad) : va_D A (wl ad cs μ) := by
  have key : ∀ (k : Nat) (q : Nat × va_E), (wl ad cs μ)[k]? = some q → ∃ x, idx[k]? = some x ∧ q.1 = ad x.1 x.2 := by
    intro k q hk
    rw [wl, List.getElem?_map] at hk
    cases hx : idx[k]? with
    | none => rw [hx] at hk; cases hk
    | some x => rw [hx] at hk; cases hk; exact ⟨x, rfl, rfl⟩
  refine ⟨fun i j p q hi hj hpq => ?_, fun k q hk => ?_⟩
  · obtain ⟨x, h1, h2⟩ := key i p hi
    obtain ⟨y, h3, h4⟩ := key j q hj
    have e := h.1 x (List.mem_of_getElem? h1) y (List.mem_of_getElem? h3) (by rw [← h2, ← h4]; exact hpq)
    subst e
    exact (List.getElem?_inj (List.getElem?_eq_some_iff.mp h1).1 idx_nd).mp (h1.trans h3.symm)
  · obtain ⟨x, h1, h2⟩ := key k q hk
    rw [h2]
    exact h.2 x (List.mem_of_getElem? h1)
/-- what the small arrays hold fits them -/
def isCh (x : Int32) : Prop := ∃ q : Nat, q < 65536 ∧ x = nI q
def isBo (x : Int32) : Prop := x = 0 ∨ x = 1
def TY (μ : Mm) : Prop := (∀ b j, b < 10 → j < 180 → isCh (μ b 4 j)) ∧ (∀ b j, b < 10 → j < 20 → isBo (μ b 8 j)) ∧ ∀ j, j < 60 → isCh (μ 10 7 j)
theorem TY.keep {μ : Mm} {b k : Nat} {f : Nat → Int32} (h : TY μ) (h1 : b < 10 → k = 4 → ∀ j, j < 180 → isCh (f j)) (h2 : b < 10 → k = 8 → ∀ j, j < 20 → isBo (f j)) (h3 : b = 10 → k = 7 → ∀ j, j < 60 → isCh (f j)) : TY (mc μ b k f) := by
  refine ⟨fun b' j hb hj => ?_, fun b' j hb hj => ?_, fun j hj => ?_⟩
  · by_cases e : b' = b ∧ 4 = k
    · obtain ⟨rfl, rfl⟩ := e
      rw [mc_s]; exact h1 hb rfl j hj
    · rw [mc_out e]; exact h.1 b' j hb hj
  · by_cases e : b' = b ∧ 8 = k
    · obtain ⟨rfl, rfl⟩ := e
      rw [mc_s]; exact h2 hb rfl j hj
    · rw [mc_out e]; exact h.2.1 b' j hb hj
  · by_cases e : 10 = b ∧ 7 = k
    · obtain ⟨rfl, rfl⟩ := e
      rw [mc_s]; exact h3 rfl rfl j hj
    · rw [mc_out e]; exact h.2.2 j hj
def sg (j : Nat) : Int32 := ([7, 1, 2, 3, 7, 4, 2, 0, 7, 2, 2, 5, 6, 6, 7, 1, 2, 5, 2, 3, 7, 4, 4, 2, 0, 2] : List Int32).getD j 0
def lo4 (j : Nat) : Int32 := ([0, 1, 0, 0] : List Int32).getD j 0
def hi4 (j : Nat) : Int32 := ([11, 6, 9, 60] : List Int32).getD j 0
def ST (z : Nat → Nat) (A : Nat → Prop) (U : State) (H : Heap) : Prop := (va_Z RX1 "SIGNS" "[I" (.ref (z 0)) A U H ∧ va_Z RX1 "LOWEST" "[I" (.ref (z 1)) A U H ∧ va_Z RX1 "HIGHEST" "[I" (.ref (z 2)) A U H) ∧ va_T .int (z 0) 26 (fun j => .int (sg j)) A U H ∧ va_T .int (z 1) 4 (fun j => .int (lo4 j)) A U H ∧ va_T .int (z 2) 4 (fun j => .int (hi4 j)) A U H
theorem ST.moved {z : Nat → Nat} {A : Nat → Prop} {u U : State} {H : Heap} (hvm : u.vm.Alike U.vm) (h : ST z A u H) : ST z A U H := ⟨⟨h.1.1.moved hvm, h.1.2.1.moved hvm, h.1.2.2.moved hvm⟩, h.2.1.moved hvm, h.2.2.1.moved hvm, h.2.2.2.moved hvm⟩
theorem ST.kept {z : Nat → Nat} {A : Nat → Prop} {U : State} {H H1 : Heap} (h : ST z A U H) (hq : ∀ a : Nat, a < H.size → ¬ A a → H1[a]? = H[a]?) : ST z A U H1 := ⟨⟨h.1.1.kept hq, h.1.2.1.kept hq, h.1.2.2.kept hq⟩, h.2.1.kept hq, h.2.2.1.kept hq, h.2.2.2.kept hq⟩
def NW (U : State) : Prop := va_Nw (.fieldLinkNest RX0 71 "PunCourts" "SIGNS" "[I" "PunCourts") U ∧ va_Nw (.methodLinkNest RX0 144 yX1_copyRow "PunCourts") U
theorem NW.warm {s U : State} (hW : s.WarmedH U.vm) (h : NW s) : NW U := ⟨va_Nw.warmF hW h.1, va_Nw.warmM hW h.2⟩
abbrev tyl (cs : Nat → ClassId) : List (ClassId × FieldType) := [(cs 0, .int), (cs 1, .char), (cs 2, .boolean), (cs 3, .object RX0)]
def WS (D : va_G) (ad : Nat → Nat → Nat) (cs : Nat → ClassId) (A : Nat → Prop) (z : Nat → Nat) (μ : Mm) (U : State) : Prop := va_P D vwCl (wl ad cs μ) U.heap ∧ TY μ ∧ va_K D vwCl (tyl cs) U ∧ AD A ad ∧ ST z A U U.heap ∧ NW U
def QS (D : va_G) (ad : Nat → Nat → Nat) (cs : Nat → ClassId) (μ : Mm) (t : State) : Prop := va_P D vwCl (wl ad cs μ) t.heap ∧ TY μ
theorem WS.blind {D : va_G} {ad : Nat → Nat → Nat} {cs : Nat → ClassId} {A : Nat → Prop} {z : Nat → Nat} {as : List Value} {μ : Mm} : FrameBlind (va_Pc as (WS D ad cs A z μ)) := fun a U g mk q => ⟨q.1, q.2.1, q.2.2.1, va_K.moved (u := U) (U := U.calling g mk a) (Vm.Alike.refl U.vm) q.2.2.2.1, q.2.2.2.2.1, ST.moved (u := U) (U := U.calling g mk a) (Vm.Alike.refl U.vm) q.2.2.2.2.2.1, va_Nw.same rfl rfl q.2.2.2.2.2.2.1, va_Nw.same rfl rfl q.2.2.2.2.2.2.2⟩
/-- contracts: int answer, no answer -/
def KI (l : Launch) (D : va_G) (ad : Nat → Nat → Nat) (cs : Nat → ClassId) (A : Nat → Prop) (z : Nat → Nat) (y : MethodName) (ws : List Cond) (rm : Room) (as : List Value) (μ : Mm) (post : Int32 → Mm → Prop) : Prop := Met l y ws rm (va_Pc as (WS D ad cs A z μ)) (va_Qi post (QS D ad cs) A) 0 0 A
def KV (l : Launch) (D : va_G) (ad : Nat → Nat → Nat) (cs : Nat → ClassId) (A : Nat → Prop) (z : Nat → Nat) (y : MethodName) (ws : List Cond) (rm : Room) (as : List Value) (μ : Mm) (post : Mm → Prop) : Prop := Met l y ws rm (va_Pc as (WS D ad cs A z μ)) (va_Qv post (QS D ad cs) A) 0 0 A
def JX (p : Program) (s : State) (m : MethodId) (args : Array Value) (c : Code) (cc : ByteArray) (nL : Nat) (own : String) (Ts : List Cond) (R : Room) (ce sl : Nat) (D : va_G) (ad : Nat → Nat → Nat) (cs : Nat → ClassId) (A : Nat → Prop) (z : Nat → Nat) : Prop := CallFix p m c cc nL s args Ts own ∧ (ce ≤ R.cells ∧ sl ≤ R.slots) ∧ va_K D vwCl (tyl cs) s ∧ AD A ad ∧ ST z A s s.heap ∧ NW s
def J (p : Program) (l : Launch) (e : Env) (R : Room) (s : State) (m : MethodId) (args : Array Value) (below : List Frame) (meth : Method) (c : Code) (ce sl : Nat) (Q : State → Prop) (nL : Nat) (D : va_G) (ad : Nat → Nat → Nat) (cs : Nat → ClassId) (A : Nat → Prop) (pc : Nat) (lv : List (Nat × Value)) (st : List Value) (μ : Mm) : Prop :=
  ∀ (H : Heap) (locs : List Loc) (ls : Array Slot), va_P D vwCl (wl ad cs μ) H → TY μ → va_S A s.heap H locs → lv_has ls nL lv → W p l e R s m args below meth c H locs ce sl Q (F0 m pc ls st)

section JROWS
variable {p : Program} {l : Launch} {e : Env} {R : Room} {s : State} {m : MethodId} {args : Array Value} {below : List Frame} {meth : Method} {c : Code} {ce sl : Nat} {Q : State → Prop} {cc : ByteArray} {nL : Nat} {own : String} {Ts : List Cond} {D : va_G} {ad : Nat → Nat → Nat} {cs : Nat → ClassId} {A : Nat → Prop} {z : Nat → Nat} {pc : Nat} {lv lv' : List (Nat × Value)} {st : List Value} {μ : Mm}

theorem j_iconst (X : JX p s m args c cc nL own Ts R ce sl D ad cs A z) {n : Int} {v : Int32} (d : decode cc pc = .ok (.iconst n, 1)) (hv : Int32.ofInt n = v) (kk : J p l e R s m args below meth c ce sl Q nL D ad cs A (pc + 1) lv (.int v :: st) μ) : J p l e R s m args below meth c ce sl Q nL D ad cs A pc lv st μ := fun H locs ls hP hT hS hl => lv_iconst X.1.1 X.1.2.1 d hv (kk H locs ls hP hT hS hl)
theorem j_bipush (X : JX p s m args c cc nL own Ts R ce sl D ad cs A z) {n : Int} {v : Int32} (d : decode cc pc = .ok (.bipush n, 2)) (hv : (Int8.ofInt n).toInt32 = v) (kk : J p l e R s m args below meth c ce sl Q nL D ad cs A (pc + 2) lv (.int v :: st) μ) : J p l e R s m args below meth c ce sl Q nL D ad cs A pc lv st μ := fun H locs ls hP hT hS hl => lv_bipush X.1.1 X.1.2.1 d hv (kk H locs ls hP hT hS hl)
theorem j_sipush (X : JX p s m args c cc nL own Ts R ce sl D ad cs A z) {n : Int} {v : Int32} (d : decode cc pc = .ok (.sipush n, 3)) (hv : (Int16.ofInt n).toInt32 = v) (kk : J p l e R s m args below meth c ce sl Q nL D ad cs A (pc + 3) lv (.int v :: st) μ) : J p l e R s m args below meth c ce sl Q nL D ad cs A pc lv st μ := fun H locs ls hP hT hS hl => lv_sipush X.1.1 X.1.2.1 d hv (kk H locs ls hP hT hS hl)
theorem j_lconst (X : JX p s m args c cc nL own Ts R ce sl D ad cs A z) {n : Fin 2} {v : Int64} (d : decode cc pc = .ok (.lconst n, 1)) (hv : Int64.ofNat (n : Nat) = v) (kk : J p l e R s m args below meth c ce sl Q nL D ad cs A (pc + 1) lv (.long v :: st) μ) : J p l e R s m args below meth c ce sl Q nL D ad cs A pc lv st μ := fun H locs ls hP hT hS hl => lv_lconst X.1.1 X.1.2.1 d hv (kk H locs ls hP hT hS hl)
theorem j_ldc2 (X : JX p s m args c cc nL own Ts R ce sl D ad cs A z) {index : Nat} {v : Int64} (hc : (Jvm.Cond.constantLong own index v).before args s = true) (d : decode cc pc = .ok (.ldc2_w index, 3)) (kk : J p l e R s m args below meth c ce sl Q nL D ad cs A (pc + 3) lv (.long v :: st) μ) : J p l e R s m args below meth c ce sl Q nL D ad cs A pc lv st μ := fun H locs ls hP hT hS hl => lv_ldc2 X.1.1 X.1.2.1 X.1.2.2.2.1 hc d (kk H locs ls hP hT hS hl)
theorem j_iload_n (X : JX p s m args c cc nL own Ts R ce sl D ad cs A z) {k : Fin 4} {i q : Nat} {x : Int32} (d : decode cc pc = .ok (.iload_n k, 1)) (hi : (k : Nat) = i) (hq : lv[q]? = some (i, .int x)) (kk : J p l e R s m args below meth c ce sl Q nL D ad cs A (pc + 1) lv (.int x :: st) μ) : J p l e R s m args below meth c ce sl Q nL D ad cs A pc lv st μ := fun H locs ls hP hT hS hl => lv_iload_n X.1.1 X.1.2.1 d hi (lv_at hl q hq) (kk H locs ls hP hT hS hl)
theorem j_iload (X : JX p s m args c cc nL own Ts R ce sl D ad cs A z) {i q : Nat} {x : Int32} (d : decode cc pc = .ok (.iload i, 2)) (hq : lv[q]? = some (i, .int x)) (kk : J p l e R s m args below meth c ce sl Q nL D ad cs A (pc + 2) lv (.int x :: st) μ) : J p l e R s m args below meth c ce sl Q nL D ad cs A pc lv st μ := fun H locs ls hP hT hS hl => lv_iload X.1.1 X.1.2.1 d (lv_at hl q hq) (kk H locs ls hP hT hS hl)
theorem j_lload_n (X : JX p s m args c cc nL own Ts R ce sl D ad cs A z) {k : Fin 4} {i q : Nat} {x : Int64} (d : decode cc pc = .ok (.lload_n k, 1)) (hi : (k : Nat) = i) (hq : lv[q]? = some (i, .long x)) (kk : J p l e R s m args below meth c ce sl Q nL D ad cs A (pc + 1) lv (.long x :: st) μ) : J p l e R s m args below meth c ce sl Q nL D ad cs A pc lv st μ := fun H locs ls hP hT hS hl => lv_lload_n X.1.1 X.1.2.1 d hi (lv_at hl q hq) (kk H locs ls hP hT hS hl)
theorem j_lload (X : JX p s m args c cc nL own Ts R ce sl D ad cs A z) {i q : Nat} {x : Int64} (d : decode cc pc = .ok (.lload i, 2)) (hq : lv[q]? = some (i, .long x)) (kk : J p l e R s m args below meth c ce sl Q nL D ad cs A (pc + 2) lv (.long x :: st) μ) : J p l e R s m args below meth c ce sl Q nL D ad cs A pc lv st μ := fun H locs ls hP hT hS hl => lv_lload X.1.1 X.1.2.1 d (lv_at hl q hq) (kk H locs ls hP hT hS hl)
theorem j_aload_n (X : JX p s m args c cc nL own Ts R ce sl D ad cs A z) {k : Fin 4} {i q : Nat} {x : Nat} (d : decode cc pc = .ok (.aload_n k, 1)) (hi : (k : Nat) = i) (hq : lv[q]? = some (i, .ref x)) (kk : J p l e R s m args below meth c ce sl Q nL D ad cs A (pc + 1) lv (.ref x :: st) μ) : J p l e R s m args below meth c ce sl Q nL D ad cs A pc lv st μ := fun H locs ls hP hT hS hl => lv_aload_n X.1.1 X.1.2.1 d hi (lv_at hl q hq) (kk H locs ls hP hT hS hl)
theorem j_aload (X : JX p s m args c cc nL own Ts R ce sl D ad cs A z) {i q : Nat} {x : Nat} (d : decode cc pc = .ok (.aload i, 2)) (hq : lv[q]? = some (i, .ref x)) (kk : J p l e R s m args below meth c ce sl Q nL D ad cs A (pc + 2) lv (.ref x :: st) μ) : J p l e R s m args below meth c ce sl Q nL D ad cs A pc lv st μ := fun H locs ls hP hT hS hl => lv_aload X.1.1 X.1.2.1 d (lv_at hl q hq) (kk H locs ls hP hT hS hl)
theorem j_istore_n (X : JX p s m args c cc nL own Ts R ce sl D ad cs A z) {k : Fin 4} {i : Nat} {x : Int32} (d : decode cc pc = .ok (.istore_n k, 1)) (hi : (k : Nat) = i) (hn : i < nL) (hlv : (i, Value.int x) :: lv.filter (fun q => !(q.1 == i) && !(q.1 + 1 == i && q.2.category == 2)) = lv') (kk : J p l e R s m args below meth c ce sl Q nL D ad cs A (pc + 1) lv' st μ) : J p l e R s m args below meth c ce sl Q nL D ad cs A pc lv (.int x :: st) μ := fun H locs ls hP hT hS hl => lv_istore_n X.1.1 X.1.2.1 d hi hl hn hlv (fun ls1 hl1 => kk H locs ls1 hP hT hS hl1)
theorem j_istore (X : JX p s m args c cc nL own Ts R ce sl D ad cs A z) {i : Nat} {x : Int32} (d : decode cc pc = .ok (.istore i, 2)) (hn : i < nL) (hlv : (i, Value.int x) :: lv.filter (fun q => !(q.1 == i) && !(q.1 + 1 == i && q.2.category == 2)) = lv') (kk : J p l e R s m args below meth c ce sl Q nL D ad cs A (pc + 2) lv' st μ) : J p l e R s m args below meth c ce sl Q nL D ad cs A pc lv (.int x :: st) μ := fun H locs ls hP hT hS hl => lv_istore X.1.1 X.1.2.1 d hl hn hlv (fun ls1 hl1 => kk H locs ls1 hP hT hS hl1)
theorem j_astore_n (X : JX p s m args c cc nL own Ts R ce sl D ad cs A z) {k : Fin 4} {i : Nat} {x : Nat} (d : decode cc pc = .ok (.astore_n k, 1)) (hi : (k : Nat) = i) (hn : i < nL) (hlv : (i, Value.ref x) :: lv.filter (fun q => !(q.1 == i) && !(q.1 + 1 == i && q.2.category == 2)) = lv') (kk : J p l e R s m args below meth c ce sl Q nL D ad cs A (pc + 1) lv' st μ) : J p l e R s m args below meth c ce sl Q nL D ad cs A pc lv (.ref x :: st) μ := fun H locs ls hP hT hS hl => lv_astore_n X.1.1 X.1.2.1 d hi hl hn hlv (fun ls1 hl1 => kk H locs ls1 hP hT hS hl1)
theorem j_astore (X : JX p s m args c cc nL own Ts R ce sl D ad cs A z) {i : Nat} {x : Nat} (d : decode cc pc = .ok (.astore i, 2)) (hn : i < nL) (hlv : (i, Value.ref x) :: lv.filter (fun q => !(q.1 == i) && !(q.1 + 1 == i && q.2.category == 2)) = lv') (kk : J p l e R s m args below meth c ce sl Q nL D ad cs A (pc + 2) lv' st μ) : J p l e R s m args below meth c ce sl Q nL D ad cs A pc lv (.ref x :: st) μ := fun H locs ls hP hT hS hl => lv_astore X.1.1 X.1.2.1 d hl hn hlv (fun ls1 hl1 => kk H locs ls1 hP hT hS hl1)
theorem j_lstore_n (X : JX p s m args c cc nL own Ts R ce sl D ad cs A z) {k : Fin 4} {i : Nat} {x : Int64} (d : decode cc pc = .ok (.lstore_n k, 1)) (hi : (k : Nat) = i) (hn : i + 1 < nL) (hlv : (i, Value.long x) :: lv.filter (fun q => !(q.1 == i) && (!(q.1 == i + 1) && !(q.1 + 1 == i && q.2.category == 2))) = lv') (kk : J p l e R s m args below meth c ce sl Q nL D ad cs A (pc + 1) lv' st μ) : J p l e R s m args below meth c ce sl Q nL D ad cs A pc lv (.long x :: st) μ := fun H locs ls hP hT hS hl => lv_lstore_n X.1.1 X.1.2.1 d hi hl hn hlv (fun ls1 hl1 => kk H locs ls1 hP hT hS hl1)
theorem j_iinc (X : JX p s m args c cc nL own Ts R ce sl D ad cs A z) {i q : Nat} {n : Int} {x v : Int32} (d : decode cc pc = .ok (.iinc i n, 3)) (hq : lv[q]? = some (i, .int x)) (hv : x + Int32.ofInt n = v) (hn : i < nL) (hlv : (i, Value.int v) :: lv.filter (fun q => !(q.1 == i) && !(q.1 + 1 == i && q.2.category == 2)) = lv') (kk : J p l e R s m args below meth c ce sl Q nL D ad cs A (pc + 3) lv' st μ) : J p l e R s m args below meth c ce sl Q nL D ad cs A pc lv st μ := fun H locs ls hP hT hS hl => lv_iinc X.1.1 X.1.2.1 d hl hq hv hn hlv (fun ls1 hl1 => kk H locs ls1 hP hT hS hl1)
theorem j_iadd (X : JX p s m args c cc nL own Ts R ce sl D ad cs A z) {x y v : Int32} (d : decode cc pc = .ok (.iadd, 1)) (hv : x + y = v) (kk : J p l e R s m args below meth c ce sl Q nL D ad cs A (pc + 1) lv (.int v :: st) μ) : J p l e R s m args below meth c ce sl Q nL D ad cs A pc lv (.int y :: .int x :: st) μ := fun H locs ls hP hT hS hl => by subst hv; exact lv_iadd X.1.1 X.1.2.1 d (kk H locs ls hP hT hS hl)
theorem j_isub (X : JX p s m args c cc nL own Ts R ce sl D ad cs A z) {x y v : Int32} (d : decode cc pc = .ok (.isub, 1)) (hv : x - y = v) (kk : J p l e R s m args below meth c ce sl Q nL D ad cs A (pc + 1) lv (.int v :: st) μ) : J p l e R s m args below meth c ce sl Q nL D ad cs A pc lv (.int y :: .int x :: st) μ := fun H locs ls hP hT hS hl => by subst hv; exact lv_isub X.1.1 X.1.2.1 d (kk H locs ls hP hT hS hl)
theorem j_imul (X : JX p s m args c cc nL own Ts R ce sl D ad cs A z) {x y v : Int32} (d : decode cc pc = .ok (.imul, 1)) (hv : x * y = v) (kk : J p l e R s m args below meth c ce sl Q nL D ad cs A (pc + 1) lv (.int v :: st) μ) : J p l e R s m args below meth c ce sl Q nL D ad cs A pc lv (.int y :: .int x :: st) μ := fun H locs ls hP hT hS hl => by subst hv; exact lv_imul X.1.1 X.1.2.1 d (kk H locs ls hP hT hS hl)
theorem j_iand (X : JX p s m args c cc nL own Ts R ce sl D ad cs A z) {x y v : Int32} (d : decode cc pc = .ok (.iand, 1)) (hv : x &&& y = v) (kk : J p l e R s m args below meth c ce sl Q nL D ad cs A (pc + 1) lv (.int v :: st) μ) : J p l e R s m args below meth c ce sl Q nL D ad cs A pc lv (.int y :: .int x :: st) μ := fun H locs ls hP hT hS hl => by subst hv; exact lv_iand X.1.1 X.1.2.1 d (kk H locs ls hP hT hS hl)
theorem j_ior (X : JX p s m args c cc nL own Ts R ce sl D ad cs A z) {x y v : Int32} (d : decode cc pc = .ok (.ior, 1)) (hv : x ||| y = v) (kk : J p l e R s m args below meth c ce sl Q nL D ad cs A (pc + 1) lv (.int v :: st) μ) : J p l e R s m args below meth c ce sl Q nL D ad cs A pc lv (.int y :: .int x :: st) μ := fun H locs ls hP hT hS hl => by subst hv; exact lv_ior X.1.1 X.1.2.1 d (kk H locs ls hP hT hS hl)
theorem j_ishl (X : JX p s m args c cc nL own Ts R ce sl D ad cs A z) {x y v : Int32} (d : decode cc pc = .ok (.ishl, 1)) (hv : x <<< (y &&& 31) = v) (kk : J p l e R s m args below meth c ce sl Q nL D ad cs A (pc + 1) lv (.int v :: st) μ) : J p l e R s m args below meth c ce sl Q nL D ad cs A pc lv (.int y :: .int x :: st) μ := fun H locs ls hP hT hS hl => by subst hv; exact lv_ishl X.1.1 X.1.2.1 d (kk H locs ls hP hT hS hl)
theorem j_ishr (X : JX p s m args c cc nL own Ts R ce sl D ad cs A z) {x y v : Int32} (d : decode cc pc = .ok (.ishr, 1)) (hv : x >>> (y &&& 31) = v) (kk : J p l e R s m args below meth c ce sl Q nL D ad cs A (pc + 1) lv (.int v :: st) μ) : J p l e R s m args below meth c ce sl Q nL D ad cs A pc lv (.int y :: .int x :: st) μ := fun H locs ls hP hT hS hl => by subst hv; exact lv_ishr X.1.1 X.1.2.1 d (kk H locs ls hP hT hS hl)
theorem j_lsub (X : JX p s m args c cc nL own Ts R ce sl D ad cs A z) {x y v : Int64} (d : decode cc pc = .ok (.lsub, 1)) (hv : x - y = v) (kk : J p l e R s m args below meth c ce sl Q nL D ad cs A (pc + 1) lv (.long v :: st) μ) : J p l e R s m args below meth c ce sl Q nL D ad cs A pc lv (.long y :: .long x :: st) μ := fun H locs ls hP hT hS hl => by subst hv; exact lv_lsub X.1.1 X.1.2.1 d (kk H locs ls hP hT hS hl)
theorem j_land (X : JX p s m args c cc nL own Ts R ce sl D ad cs A z) {x y v : Int64} (d : decode cc pc = .ok (.land, 1)) (hv : x &&& y = v) (kk : J p l e R s m args below meth c ce sl Q nL D ad cs A (pc + 1) lv (.long v :: st) μ) : J p l e R s m args below meth c ce sl Q nL D ad cs A pc lv (.long y :: .long x :: st) μ := fun H locs ls hP hT hS hl => by subst hv; exact lv_land X.1.1 X.1.2.1 d (kk H locs ls hP hT hS hl)
theorem j_lor (X : JX p s m args c cc nL own Ts R ce sl D ad cs A z) {x y v : Int64} (d : decode cc pc = .ok (.lor, 1)) (hv : x ||| y = v) (kk : J p l e R s m args below meth c ce sl Q nL D ad cs A (pc + 1) lv (.long v :: st) μ) : J p l e R s m args below meth c ce sl Q nL D ad cs A pc lv (.long y :: .long x :: st) μ := fun H locs ls hP hT hS hl => by subst hv; exact lv_lor X.1.1 X.1.2.1 d (kk H locs ls hP hT hS hl)
theorem j_i2l (X : JX p s m args c cc nL own Ts R ce sl D ad cs A z) {x : Int32} {v : Int64} (d : decode cc pc = .ok (.i2l, 1)) (hv : x.toInt64 = v) (kk : J p l e R s m args below meth c ce sl Q nL D ad cs A (pc + 1) lv (.long v :: st) μ) : J p l e R s m args below meth c ce sl Q nL D ad cs A pc lv (.int x :: st) μ := fun H locs ls hP hT hS hl => lv_i2l X.1.1 X.1.2.1 d hv (kk H locs ls hP hT hS hl)
theorem j_l2i (X : JX p s m args c cc nL own Ts R ce sl D ad cs A z) {x : Int64} {v : Int32} (d : decode cc pc = .ok (.l2i, 1)) (hv : x.toInt32 = v) (kk : J p l e R s m args below meth c ce sl Q nL D ad cs A (pc + 1) lv (.int v :: st) μ) : J p l e R s m args below meth c ce sl Q nL D ad cs A pc lv (.long x :: st) μ := fun H locs ls hP hT hS hl => lv_l2i X.1.1 X.1.2.1 d hv (kk H locs ls hP hT hS hl)
theorem j_i2c (X : JX p s m args c cc nL own Ts R ce sl D ad cs A z) {x v : Int32} (d : decode cc pc = .ok (.i2c, 1)) (hv : (x.toUInt32 % 65536).toInt32 = v) (kk : J p l e R s m args below meth c ce sl Q nL D ad cs A (pc + 1) lv (.int v :: st) μ) : J p l e R s m args below meth c ce sl Q nL D ad cs A pc lv (.int x :: st) μ := fun H locs ls hP hT hS hl => lv_i2c X.1.1 X.1.2.1 d hv (kk H locs ls hP hT hS hl)
theorem j_lushr (X : JX p s m args c cc nL own Ts R ce sl D ad cs A z) {x v : Int64} {y : Int32} (d : decode cc pc = .ok (.lushr, 1)) (hv : (x.toUInt64 >>> (y.toInt64.toUInt64 &&& Int64.toUInt64 63)).toInt64 = v) (kk : J p l e R s m args below meth c ce sl Q nL D ad cs A (pc + 1) lv (.long v :: st) μ) : J p l e R s m args below meth c ce sl Q nL D ad cs A pc lv (.int y :: .long x :: st) μ := fun H locs ls hP hT hS hl => lv_lushr X.1.1 X.1.2.1 d hv (kk H locs ls hP hT hS hl)
theorem j_lshl (X : JX p s m args c cc nL own Ts R ce sl D ad cs A z) {x v : Int64} {y : Int32} (d : decode cc pc = .ok (.lshl, 1)) (hv : x <<< (y.toInt64 &&& 63) = v) (kk : J p l e R s m args below meth c ce sl Q nL D ad cs A (pc + 1) lv (.long v :: st) μ) : J p l e R s m args below meth c ce sl Q nL D ad cs A pc lv (.int y :: .long x :: st) μ := fun H locs ls hP hT hS hl => lv_lshl X.1.1 X.1.2.1 d hv (kk H locs ls hP hT hS hl)
theorem j_dup (X : JX p s m args c cc nL own Ts R ce sl D ad cs A z) {v : Value} (d : decode cc pc = .ok (.dup, 1)) (hc : v.category = 1) (kk : J p l e R s m args below meth c ce sl Q nL D ad cs A (pc + 1) lv (v :: v :: st) μ) : J p l e R s m args below meth c ce sl Q nL D ad cs A pc lv (v :: st) μ := fun H locs ls hP hT hS hl => lv_dup X.1.1 X.1.2.1 d hc (kk H locs ls hP hT hS hl)
theorem j_dup2 (X : JX p s m args c cc nL own Ts R ce sl D ad cs A z) {v1 v2 : Value} (d : decode cc pc = .ok (.dup2, 1)) (h1 : v1.category = 1) (h2 : v2.category = 1) (kk : J p l e R s m args below meth c ce sl Q nL D ad cs A (pc + 1) lv (v1 :: v2 :: v1 :: v2 :: st) μ) : J p l e R s m args below meth c ce sl Q nL D ad cs A pc lv (v1 :: v2 :: st) μ := fun H locs ls hP hT hS hl => lv_dup2_11 X.1.1 X.1.2.1 d h1 h2 (kk H locs ls hP hT hS hl)
theorem j_pop (X : JX p s m args c cc nL own Ts R ce sl D ad cs A z) {v : Value} (d : decode cc pc = .ok (.pop, 1)) (hc : v.category = 1) (kk : J p l e R s m args below meth c ce sl Q nL D ad cs A (pc + 1) lv st μ) : J p l e R s m args below meth c ce sl Q nL D ad cs A pc lv (v :: st) μ := fun H locs ls hP hT hS hl => lv_pop X.1.1 X.1.2.1 d hc (kk H locs ls hP hT hS hl)
theorem j_goto (X : JX p s m args c cc nL own Ts R ce sl D ad cs A z) {off : Int} {tgt : Nat} (d : decode cc pc = .ok (.goto off, 3)) (ht : (pc : Int) + off = (tgt : Int)) (kk : J p l e R s m args below meth c ce sl Q nL D ad cs A tgt lv st μ) : J p l e R s m args below meth c ce sl Q nL D ad cs A pc lv st μ := fun H locs ls hP hT hS hl => lv_goto X.1.1 X.1.2.1 d ht (kk H locs ls hP hT hS hl)
theorem j_if_eq (X : JX p s m args c cc nL own Ts R ce sl D ad cs A z) {x : Int32} {off : Int} {tgt : Nat} (d : decode cc pc = .ok (.ifCond .eq off, 3)) (ht : (pc : Int) + off = (tgt : Int)) (kt : x = 0 → J p l e R s m args below meth c ce sl Q nL D ad cs A tgt lv st μ) (kf : ¬ (x = 0) → J p l e R s m args below meth c ce sl Q nL D ad cs A (pc + 3) lv st μ) : J p l e R s m args below meth c ce sl Q nL D ad cs A pc lv (.int x :: st) μ := fun H locs ls hP hT hS hl => lv_if_eq X.1.1 X.1.2.1 d ht (fun q => kt q H locs ls hP hT hS hl) (fun q => kf q H locs ls hP hT hS hl)
theorem j_if_ne (X : JX p s m args c cc nL own Ts R ce sl D ad cs A z) {x : Int32} {off : Int} {tgt : Nat} (d : decode cc pc = .ok (.ifCond .ne off, 3)) (ht : (pc : Int) + off = (tgt : Int)) (kt : x ≠ 0 → J p l e R s m args below meth c ce sl Q nL D ad cs A tgt lv st μ) (kf : ¬ (x ≠ 0) → J p l e R s m args below meth c ce sl Q nL D ad cs A (pc + 3) lv st μ) : J p l e R s m args below meth c ce sl Q nL D ad cs A pc lv (.int x :: st) μ := fun H locs ls hP hT hS hl => lv_if_ne X.1.1 X.1.2.1 d ht (fun q => kt q H locs ls hP hT hS hl) (fun q => kf (fun w => w q) H locs ls hP hT hS hl)
theorem j_if_lt (X : JX p s m args c cc nL own Ts R ce sl D ad cs A z) {x : Int32} {off : Int} {tgt : Nat} (d : decode cc pc = .ok (.ifCond .lt off, 3)) (ht : (pc : Int) + off = (tgt : Int)) (kt : x < 0 → J p l e R s m args below meth c ce sl Q nL D ad cs A tgt lv st μ) (kf : ¬ (x < 0) → J p l e R s m args below meth c ce sl Q nL D ad cs A (pc + 3) lv st μ) : J p l e R s m args below meth c ce sl Q nL D ad cs A pc lv (.int x :: st) μ := fun H locs ls hP hT hS hl => lv_if_lt X.1.1 X.1.2.1 d ht (fun q => kt q H locs ls hP hT hS hl) (fun q => kf q H locs ls hP hT hS hl)
theorem j_if_ge (X : JX p s m args c cc nL own Ts R ce sl D ad cs A z) {x : Int32} {off : Int} {tgt : Nat} (d : decode cc pc = .ok (.ifCond .ge off, 3)) (ht : (pc : Int) + off = (tgt : Int)) (kt : 0 ≤ x → J p l e R s m args below meth c ce sl Q nL D ad cs A tgt lv st μ) (kf : ¬ (0 ≤ x) → J p l e R s m args below meth c ce sl Q nL D ad cs A (pc + 3) lv st μ) : J p l e R s m args below meth c ce sl Q nL D ad cs A pc lv (.int x :: st) μ := fun H locs ls hP hT hS hl => lv_if_ge X.1.1 X.1.2.1 d ht (fun q => kt q H locs ls hP hT hS hl) (fun q => kf q H locs ls hP hT hS hl)
theorem j_if_gt (X : JX p s m args c cc nL own Ts R ce sl D ad cs A z) {x : Int32} {off : Int} {tgt : Nat} (d : decode cc pc = .ok (.ifCond .gt off, 3)) (ht : (pc : Int) + off = (tgt : Int)) (kt : 0 < x → J p l e R s m args below meth c ce sl Q nL D ad cs A tgt lv st μ) (kf : ¬ (0 < x) → J p l e R s m args below meth c ce sl Q nL D ad cs A (pc + 3) lv st μ) : J p l e R s m args below meth c ce sl Q nL D ad cs A pc lv (.int x :: st) μ := fun H locs ls hP hT hS hl => lv_if_gt X.1.1 X.1.2.1 d ht (fun q => kt q H locs ls hP hT hS hl) (fun q => kf q H locs ls hP hT hS hl)
theorem j_if_le (X : JX p s m args c cc nL own Ts R ce sl D ad cs A z) {x : Int32} {off : Int} {tgt : Nat} (d : decode cc pc = .ok (.ifCond .le off, 3)) (ht : (pc : Int) + off = (tgt : Int)) (kt : x ≤ 0 → J p l e R s m args below meth c ce sl Q nL D ad cs A tgt lv st μ) (kf : ¬ (x ≤ 0) → J p l e R s m args below meth c ce sl Q nL D ad cs A (pc + 3) lv st μ) : J p l e R s m args below meth c ce sl Q nL D ad cs A pc lv (.int x :: st) μ := fun H locs ls hP hT hS hl => lv_if_le X.1.1 X.1.2.1 d ht (fun q => kt q H locs ls hP hT hS hl) (fun q => kf q H locs ls hP hT hS hl)
theorem j_icmp_eq (X : JX p s m args c cc nL own Ts R ce sl D ad cs A z) {x y : Int32} {off : Int} {tgt : Nat} (d : decode cc pc = .ok (.if_icmp .eq off, 3)) (ht : (pc : Int) + off = (tgt : Int)) (kt : x = y → J p l e R s m args below meth c ce sl Q nL D ad cs A tgt lv st μ) (kf : ¬ (x = y) → J p l e R s m args below meth c ce sl Q nL D ad cs A (pc + 3) lv st μ) : J p l e R s m args below meth c ce sl Q nL D ad cs A pc lv (.int y :: .int x :: st) μ := fun H locs ls hP hT hS hl => lv_icmp_eq X.1.1 X.1.2.1 d ht (fun q => kt q H locs ls hP hT hS hl) (fun q => kf q H locs ls hP hT hS hl)
theorem j_icmp_ne (X : JX p s m args c cc nL own Ts R ce sl D ad cs A z) {x y : Int32} {off : Int} {tgt : Nat} (d : decode cc pc = .ok (.if_icmp .ne off, 3)) (ht : (pc : Int) + off = (tgt : Int)) (kt : x ≠ y → J p l e R s m args below meth c ce sl Q nL D ad cs A tgt lv st μ) (kf : ¬ (x ≠ y) → J p l e R s m args below meth c ce sl Q nL D ad cs A (pc + 3) lv st μ) : J p l e R s m args below meth c ce sl Q nL D ad cs A pc lv (.int y :: .int x :: st) μ := fun H locs ls hP hT hS hl => lv_icmp_ne X.1.1 X.1.2.1 d ht (fun q => kt q H locs ls hP hT hS hl) (fun q => kf (fun w => w q) H locs ls hP hT hS hl)
theorem j_icmp_lt (X : JX p s m args c cc nL own Ts R ce sl D ad cs A z) {x y : Int32} {off : Int} {tgt : Nat} (d : decode cc pc = .ok (.if_icmp .lt off, 3)) (ht : (pc : Int) + off = (tgt : Int)) (kt : x < y → J p l e R s m args below meth c ce sl Q nL D ad cs A tgt lv st μ) (kf : ¬ (x < y) → J p l e R s m args below meth c ce sl Q nL D ad cs A (pc + 3) lv st μ) : J p l e R s m args below meth c ce sl Q nL D ad cs A pc lv (.int y :: .int x :: st) μ := fun H locs ls hP hT hS hl => lv_icmp_lt X.1.1 X.1.2.1 d ht (fun q => kt q H locs ls hP hT hS hl) (fun q => kf q H locs ls hP hT hS hl)
theorem j_icmp_ge (X : JX p s m args c cc nL own Ts R ce sl D ad cs A z) {x y : Int32} {off : Int} {tgt : Nat} (d : decode cc pc = .ok (.if_icmp .ge off, 3)) (ht : (pc : Int) + off = (tgt : Int)) (kt : y ≤ x → J p l e R s m args below meth c ce sl Q nL D ad cs A tgt lv st μ) (kf : ¬ (y ≤ x) → J p l e R s m args below meth c ce sl Q nL D ad cs A (pc + 3) lv st μ) : J p l e R s m args below meth c ce sl Q nL D ad cs A pc lv (.int y :: .int x :: st) μ := fun H locs ls hP hT hS hl => lv_icmp_ge X.1.1 X.1.2.1 d ht (fun q => kt q H locs ls hP hT hS hl) (fun q => kf q H locs ls hP hT hS hl)
theorem j_icmp_gt (X : JX p s m args c cc nL own Ts R ce sl D ad cs A z) {x y : Int32} {off : Int} {tgt : Nat} (d : decode cc pc = .ok (.if_icmp .gt off, 3)) (ht : (pc : Int) + off = (tgt : Int)) (kt : y < x → J p l e R s m args below meth c ce sl Q nL D ad cs A tgt lv st μ) (kf : ¬ (y < x) → J p l e R s m args below meth c ce sl Q nL D ad cs A (pc + 3) lv st μ) : J p l e R s m args below meth c ce sl Q nL D ad cs A pc lv (.int y :: .int x :: st) μ := fun H locs ls hP hT hS hl => lv_icmp_gt X.1.1 X.1.2.1 d ht (fun q => kt q H locs ls hP hT hS hl) (fun q => kf q H locs ls hP hT hS hl)
theorem j_icmp_le (X : JX p s m args c cc nL own Ts R ce sl D ad cs A z) {x y : Int32} {off : Int} {tgt : Nat} (d : decode cc pc = .ok (.if_icmp .le off, 3)) (ht : (pc : Int) + off = (tgt : Int)) (kt : x ≤ y → J p l e R s m args below meth c ce sl Q nL D ad cs A tgt lv st μ) (kf : ¬ (x ≤ y) → J p l e R s m args below meth c ce sl Q nL D ad cs A (pc + 3) lv st μ) : J p l e R s m args below meth c ce sl Q nL D ad cs A pc lv (.int y :: .int x :: st) μ := fun H locs ls hP hT hS hl => lv_icmp_le X.1.1 X.1.2.1 d ht (fun q => kt q H locs ls hP hT hS hl) (fun q => kf q H locs ls hP hT hS hl)
theorem j_ncmp_eq (X : JX p s m args c cc nL own Ts R ce sl D ad cs A z) {x y : Int32} {off : Int} {tgt : Nat} (a b : Nat) (d : decode cc pc = .ok (.if_icmp .eq off, 3)) (ht : (pc : Int) + off = (tgt : Int)) (hx : x = nI a) (hy : y = nI b) (ha : a < 2 ^ 31) (hb : b < 2 ^ 31) (kt : a = b → J p l e R s m args below meth c ce sl Q nL D ad cs A tgt lv st μ) (kf : ¬ (a = b) → J p l e R s m args below meth c ce sl Q nL D ad cs A (pc + 3) lv st μ) : J p l e R s m args below meth c ce sl Q nL D ad cs A pc lv (.int y :: .int x :: st) μ := by
  subst hx; subst hy
  exact j_icmp_eq X d ht (fun q => kt ((nI_eq ha hb).mp q)) (fun q => kf (fun r => q ((nI_eq ha hb).mpr r)))
theorem j_ncmp_lt (X : JX p s m args c cc nL own Ts R ce sl D ad cs A z) {x y : Int32} {off : Int} {tgt : Nat} (a b : Nat) (d : decode cc pc = .ok (.if_icmp .lt off, 3)) (ht : (pc : Int) + off = (tgt : Int)) (hx : x = nI a) (hy : y = nI b) (ha : a < 2 ^ 31) (hb : b < 2 ^ 31) (kt : a < b → J p l e R s m args below meth c ce sl Q nL D ad cs A tgt lv st μ) (kf : ¬ (a < b) → J p l e R s m args below meth c ce sl Q nL D ad cs A (pc + 3) lv st μ) : J p l e R s m args below meth c ce sl Q nL D ad cs A pc lv (.int y :: .int x :: st) μ := by
  subst hx; subst hy
  exact j_icmp_lt X d ht (fun q => kt ((nI_ltI ha hb).mp q)) (fun q => kf (fun r => q ((nI_ltI ha hb).mpr r)))
theorem j_ncmp_ge (X : JX p s m args c cc nL own Ts R ce sl D ad cs A z) {x y : Int32} {off : Int} {tgt : Nat} (a b : Nat) (d : decode cc pc = .ok (.if_icmp .ge off, 3)) (ht : (pc : Int) + off = (tgt : Int)) (hx : x = nI a) (hy : y = nI b) (ha : a < 2 ^ 31) (hb : b < 2 ^ 31) (kt : b ≤ a → J p l e R s m args below meth c ce sl Q nL D ad cs A tgt lv st μ) (kf : ¬ (b ≤ a) → J p l e R s m args below meth c ce sl Q nL D ad cs A (pc + 3) lv st μ) : J p l e R s m args below meth c ce sl Q nL D ad cs A pc lv (.int y :: .int x :: st) μ := by
  subst hx; subst hy
  exact j_icmp_ge X d ht (fun q => kt ((nI_leI hb ha).mp q)) (fun q => kf (fun r => q ((nI_leI hb ha).mpr r)))
theorem j_ncmp_gt (X : JX p s m args c cc nL own Ts R ce sl D ad cs A z) {x y : Int32} {off : Int} {tgt : Nat} (a b : Nat) (d : decode cc pc = .ok (.if_icmp .gt off, 3)) (ht : (pc : Int) + off = (tgt : Int)) (hx : x = nI a) (hy : y = nI b) (ha : a < 2 ^ 31) (hb : b < 2 ^ 31) (kt : b < a → J p l e R s m args below meth c ce sl Q nL D ad cs A tgt lv st μ) (kf : ¬ (b < a) → J p l e R s m args below meth c ce sl Q nL D ad cs A (pc + 3) lv st μ) : J p l e R s m args below meth c ce sl Q nL D ad cs A pc lv (.int y :: .int x :: st) μ := by
  subst hx; subst hy
  exact j_icmp_gt X d ht (fun q => kt ((nI_ltI hb ha).mp q)) (fun q => kf (fun r => q ((nI_ltI hb ha).mpr r)))
theorem j_ncmp_le (X : JX p s m args c cc nL own Ts R ce sl D ad cs A z) {x y : Int32} {off : Int} {tgt : Nat} (a b : Nat) (d : decode cc pc = .ok (.if_icmp .le off, 3)) (ht : (pc : Int) + off = (tgt : Int)) (hx : x = nI a) (hy : y = nI b) (ha : a < 2 ^ 31) (hb : b < 2 ^ 31) (kt : a ≤ b → J p l e R s m args below meth c ce sl Q nL D ad cs A tgt lv st μ) (kf : ¬ (a ≤ b) → J p l e R s m args below meth c ce sl Q nL D ad cs A (pc + 3) lv st μ) : J p l e R s m args below meth c ce sl Q nL D ad cs A pc lv (.int y :: .int x :: st) μ := by
  subst hx; subst hy
  exact j_icmp_le X d ht (fun q => kt ((nI_leI ha hb).mp q)) (fun q => kf (fun r => q ((nI_leI ha hb).mpr r)))
theorem j_ncmp_ne (X : JX p s m args c cc nL own Ts R ce sl D ad cs A z) {x y : Int32} {off : Int} {tgt : Nat} (a b : Nat) (d : decode cc pc = .ok (.if_icmp .ne off, 3)) (ht : (pc : Int) + off = (tgt : Int)) (hx : x = nI a) (hy : y = nI b) (ha : a < 2 ^ 31) (hb : b < 2 ^ 31) (kt : a ≠ b → J p l e R s m args below meth c ce sl Q nL D ad cs A tgt lv st μ) (kf : ¬ (a ≠ b) → J p l e R s m args below meth c ce sl Q nL D ad cs A (pc + 3) lv st μ) : J p l e R s m args below meth c ce sl Q nL D ad cs A pc lv (.int y :: .int x :: st) μ := by
  subst hx; subst hy
  exact j_icmp_ne X d ht (fun q => kt (fun r => q (by rw [r]))) (fun q => kf (fun r => q (fun z => r ((nI_eq ha hb).mp z))))
theorem j_ifnull (X : JX p s m args c cc nL own Ts R ce sl D ad cs A z) {x : Nat} {off : Int} (d : decode cc pc = .ok (.ifnull off, 3)) (kk : J p l e R s m args below meth c ce sl Q nL D ad cs A (pc + 3) lv st μ) : J p l e R s m args below meth c ce sl Q nL D ad cs A pc lv (.ref x :: st) μ := fun H locs ls hP hT hS hl => lv_ifnull X.1.1 X.1.2.1 d (kk H locs ls hP hT hS hl)
theorem j_ifnonnull (X : JX p s m args c cc nL own Ts R ce sl D ad cs A z) {x : Nat} {off : Int} {tgt : Nat} (d : decode cc pc = .ok (.ifnonnull off, 3)) (ht : (pc : Int) + off = (tgt : Int)) (kk : J p l e R s m args below meth c ce sl Q nL D ad cs A tgt lv st μ) : J p l e R s m args below meth c ce sl Q nL D ad cs A pc lv (.ref x :: st) μ := fun H locs ls hP hT hS hl => lv_ifnonnull X.1.1 X.1.2.1 d ht (kk H locs ls hP hT hS hl)
theorem j_tabIn (X : JX p s m args c cc nL own Ts R ce sl D ad cs A z) {dflt lo hi : Int} {offs : Array Int} {len : Nat} {x : Int32} {off : Int} {tgt : Nat} (d : decode cc pc = .ok (.tableswitch dflt lo hi offs, len)) (h1 : ¬ x.toInt < lo) (h2 : ¬ hi < x.toInt) (ho : offs[(x.toInt - lo).toNat]? = some off) (ht : (pc : Int) + off = (tgt : Int)) (kk : J p l e R s m args below meth c ce sl Q nL D ad cs A tgt lv st μ) : J p l e R s m args below meth c ce sl Q nL D ad cs A pc lv (.int x :: st) μ := fun H locs ls hP hT hS hl => lv_tableIn X.1.1 X.1.2.1 d h1 h2 ho ht (kk H locs ls hP hT hS hl)
theorem j_tabOut (X : JX p s m args c cc nL own Ts R ce sl D ad cs A z) {dflt lo hi : Int} {offs : Array Int} {len : Nat} {x : Int32} {tgt : Nat} (d : decode cc pc = .ok (.tableswitch dflt lo hi offs, len)) (h : x.toInt < lo ∨ hi < x.toInt) (ht : (pc : Int) + dflt = (tgt : Int)) (kk : J p l e R s m args below meth c ce sl Q nL D ad cs A tgt lv st μ) : J p l e R s m args below meth c ce sl Q nL D ad cs A pc lv (.int x :: st) μ := fun H locs ls hP hT hS hl => lv_tableOut X.1.1 X.1.2.1 d h ht (kk H locs ls hP hT hS hl)
theorem j_lookup (X : JX p s m args c cc nL own Ts R ce sl D ad cs A z) {dflt : Int} {ps : Array (Int × Int)} {len : Nat} {x : Int32} {off : Int} {tgt : Nat} (d : decode cc pc = .ok (.lookupswitch dflt ps, len)) (hp : (ps.toList.zip (ps.toList.drop 1)).all (fun (a, next) => a.1 < next.1) = true) (ho : Op.lookupswitch.offset ps.toList dflt x.toInt = off) (ht : (pc : Int) + off = (tgt : Int)) (kk : J p l e R s m args below meth c ce sl Q nL D ad cs A tgt lv st μ) : J p l e R s m args below meth c ce sl Q nL D ad cs A pc lv (.int x :: st) μ := fun H locs ls hP hT hS hl => lv_lookup X.1.1 X.1.2.1 d hp ho ht (kk H locs ls hP hT hS hl)
def Arr (ad : Nat → Nat → Nat) (cs : Nat → ClassId) (b k t n : Nat) : Prop := (b, k) ∈ idx ∧ ∀ f, EE ad cs b k f = .inl (cs t, n, .inl f)
def Obj (ad : Nat → Nat → Nat) (cs : Nat → ClassId) (b ci : Nat) (fs : (Nat → Int32) → List Value) : Prop := (b, 0) ∈ idx ∧ ∀ f, EE ad cs b 0 f = .inr (ci, fs f)
def Rfs (ad : Nat → Nat → Nat) (cs : Nat → ClassId) (b k n : Nat) : Prop := (b, k) ∈ idx ∧ ∀ f, EE ad cs b k f = .inl (cs 3, n, .inr (.inr (.inr (.inr (qC ad f)))))
theorem aC_1 {b : Nat} (hb : b < 10) : Arr ad cs b 1 0 4 := ⟨idx_C hb (by decide), fun f => by rw [EE, if_pos hb]; rfl⟩
theorem aC_4 {b : Nat} (hb : b < 10) : Arr ad cs b 4 1 180 := ⟨idx_C hb (by decide), fun f => by rw [EE, if_pos hb]; rfl⟩
theorem aC_5 {b : Nat} (hb : b < 10) : Arr ad cs b 5 0 20 := ⟨idx_C hb (by decide), fun f => by rw [EE, if_pos hb]; rfl⟩
theorem aC_6 {b : Nat} (hb : b < 10) : Arr ad cs b 6 0 20 := ⟨idx_C hb (by decide), fun f => by rw [EE, if_pos hb]; rfl⟩
theorem aC_7 {b : Nat} (hb : b < 10) : Arr ad cs b 7 0 20 := ⟨idx_C hb (by decide), fun f => by rw [EE, if_pos hb]; rfl⟩
theorem aC_8 {b : Nat} (hb : b < 10) : Arr ad cs b 8 2 20 := ⟨idx_C hb (by decide), fun f => by rw [EE, if_pos hb]; rfl⟩
theorem aC_9 {b : Nat} (hb : b < 10) : Arr ad cs b 9 0 20 := ⟨idx_C hb (by decide), fun f => by rw [EE, if_pos hb]; rfl⟩
theorem aC_10 {b : Nat} (hb : b < 10) : Arr ad cs b 10 0 12 := ⟨idx_C hb (by decide), fun f => by rw [EE, if_pos hb]; rfl⟩
theorem aC_11 {b : Nat} (hb : b < 10) : Arr ad cs b 11 0 12 := ⟨idx_C hb (by decide), fun f => by rw [EE, if_pos hb]; rfl⟩
theorem aC_12 {b : Nat} (hb : b < 10) : Arr ad cs b 12 0 12 := ⟨idx_C hb (by decide), fun f => by rw [EE, if_pos hb]; rfl⟩
theorem aC_13 {b : Nat} (hb : b < 10) : Arr ad cs b 13 0 12 := ⟨idx_C hb (by decide), fun f => by rw [EE, if_pos hb]; rfl⟩
theorem aC_14 {b : Nat} (hb : b < 10) : Arr ad cs b 14 0 12 := ⟨idx_C hb (by decide), fun f => by rw [EE, if_pos hb]; rfl⟩
theorem aC_16 {b : Nat} (hb : b < 10) : Arr ad cs b 16 0 12 := ⟨idx_C hb (by decide), fun f => by rw [EE, if_pos hb]; rfl⟩
theorem aM_6 : Arr ad cs 10 6 2 2 := ⟨by decide +kernel, fun f => rfl⟩
theorem aM_7 : Arr ad cs 10 7 1 60 := ⟨by decide +kernel, fun f => rfl⟩
theorem aR_1 : Arr ad cs 11 1 0 322 := ⟨by decide +kernel, fun f => rfl⟩
theorem aR_2 : Arr ad cs 11 2 0 322 := ⟨by decide +kernel, fun f => rfl⟩
theorem aR_3 : Arr ad cs 11 3 0 1932 := ⟨by decide +kernel, fun f => rfl⟩
theorem aR_5 : Arr ad cs 11 5 0 644 := ⟨by decide +kernel, fun f => rfl⟩
theorem aR_6 : Arr ad cs 11 6 0 2 := ⟨by decide +kernel, fun f => rfl⟩
theorem aR_7 : Arr ad cs 11 7 0 60 := ⟨by decide +kernel, fun f => rfl⟩
theorem aR_10 : Arr ad cs 11 10 0 30 := ⟨by decide +kernel, fun f => rfl⟩
theorem aR_11 : Arr ad cs 11 11 0 30 := ⟨by decide +kernel, fun f => rfl⟩
theorem aR_12 : Arr ad cs 11 12 0 30 := ⟨by decide +kernel, fun f => rfl⟩
theorem qM_3 : Rfs ad cs 10 3 6 := ⟨by decide +kernel, fun f => rfl⟩
theorem qM_5 : Rfs ad cs 10 5 2 := ⟨by decide +kernel, fun f => rfl⟩
theorem oC {b : Nat} (hb : b < 10) : Obj ad cs b 0 (cC ad b) := ⟨idx_C hb (by decide), fun f => by rw [EE, if_pos hb]; rfl⟩
theorem oM : Obj ad cs 10 1 (cM ad) := ⟨by decide +kernel, fun f => rfl⟩
theorem oR : Obj ad cs 11 2 (cR ad) := ⟨by decide +kernel, fun f => rfl⟩
theorem j_getC (X : JX p s m args c cc nL own Ts R ce sl D ad cs A z) {b index : Nat} {fs : (Nat → Int32) → List Value} (ho : Obj ad cs b 0 fs) (hin : ∀ w ∈ u_ws RX0 TX0 16, w ∈ Ts) (k : Nat) (hk : k < 16) {v : Value} (hv : (fs (μ b 0))[k]? = some v) (hlink : (Cond.fieldLink own index (TX0 k).1 (TX0 k).2.1 (TX0 k).2.2.1).before args s = true) (d : decode cc pc = .ok (.getfield index, 3)) (kk : J p l e R s m args below meth c ce sl Q nL D ad cs A (pc + 3) lv (v :: st) μ) : J p l e R s m args below meth c ce sl Q nL D ad cs A pc lv (.ref (ad b 0) :: st) μ := fun H locs ls hP hT hS hl => by
  obtain ⟨q0, h0, h1⟩ := wl_get (ad := ad) (cs := cs) μ ho.1
  rw [ho.2] at h1
  exact va_get X.1.1 X.1.2.1 X.1.2.2.2.2 hin X.1.2.2.2.1 X.2.2.1 hP q0 h1 (C := RX0) (T := TX0) (N := 16) rfl k hk hlink (fun _ h => h) hv d (kk H locs ls hP hT hS hl)
theorem j_putC (X : JX p s m args c cc nL own Ts R ce sl D ad cs A z) {b index : Nat} {fs : (Nat → Int32) → List Value} (ho : Obj ad cs b 0 fs) (hin : ∀ w ∈ u_ws RX0 TX0 16, w ∈ Ts) (k : Nat) (hk : k < 16) {ty : FieldType} {x : Int32} (hset : ∀ f, fs (upd f k x) = (fs f).set k (.int x)) (hfin : (TX0 k).2.2.2 = false) (hd : parseFieldDescriptor (TX0 k).2.2.1 = some ty) (hn : narrow ty (.int x) = .int x) (hfit : fits ty (.int x) = true) (hlk : k < (fs (μ b 0)).length) (hlink : (Cond.fieldLink own index (TX0 k).1 (TX0 k).2.1 (TX0 k).2.2.1).before args s = true) (d : decode cc pc = .ok (.putfield index, 3)) (kk : J p l e R s m args below meth c ce sl Q nL D ad cs A (pc + 3) lv st (ms μ b 0 k x)) : J p l e R s m args below meth c ce sl Q nL D ad cs A pc lv (.int x :: .ref (ad b 0) :: st) μ := fun H locs ls hP hT hS hl => by
  obtain ⟨q0, h0, h1⟩ := wl_get (ad := ad) (cs := cs) μ ho.1
  rw [ho.2] at h1
  refine va_put X.1.1 X.1.2.1 X.1.2.2.2.2 hin tyX0 tyX0_ok nmX0 X.1.2.2.2.1 X.2.2.1 hP X.2.2.2.1.D hS q0 h1 (C := RX0) (T := TX0) (N := 16) rfl k hk hlink (fun _ h => h) hfin hd hn hfit hlk d (fun H1 locs1 hP1 _ hS1 => ?_)
  rw [← hset, ← ho.2, wl_set μ (upd (μ b 0) k x) h0] at hP1
  exact kk H1 locs1 ls hP1 (hT.keep (fun _ q => absurd q (by decide)) (fun _ q => absurd q (by decide)) (fun _ q => absurd q (by decide))) hS1 hl
theorem j_getM (X : JX p s m args c cc nL own Ts R ce sl D ad cs A z) {b index : Nat} {fs : (Nat → Int32) → List Value} (ho : Obj ad cs b 1 fs) (hin : ∀ w ∈ u_ws RX1 TX1 8, w ∈ Ts) (k : Nat) (hk : k < 8) {v : Value} (hv : (fs (μ b 0))[k]? = some v) (hlink : (Cond.fieldLink own index (TX1 k).1 (TX1 k).2.1 (TX1 k).2.2.1).before args s = true) (d : decode cc pc = .ok (.getfield index, 3)) (kk : J p l e R s m args below meth c ce sl Q nL D ad cs A (pc + 3) lv (v :: st) μ) : J p l e R s m args below meth c ce sl Q nL D ad cs A pc lv (.ref (ad b 0) :: st) μ := fun H locs ls hP hT hS hl => by
  obtain ⟨q0, h0, h1⟩ := wl_get (ad := ad) (cs := cs) μ ho.1
  rw [ho.2] at h1
  exact va_get X.1.1 X.1.2.1 X.1.2.2.2.2 hin X.1.2.2.2.1 X.2.2.1 hP q0 h1 (C := RX1) (T := TX1) (N := 8) rfl k hk hlink (fun _ h => h) hv d (kk H locs ls hP hT hS hl)
theorem j_putM (X : JX p s m args c cc nL own Ts R ce sl D ad cs A z) {b index : Nat} {fs : (Nat → Int32) → List Value} (ho : Obj ad cs b 1 fs) (hin : ∀ w ∈ u_ws RX1 TX1 8, w ∈ Ts) (k : Nat) (hk : k < 8) {ty : FieldType} {x : Int32} (hset : ∀ f, fs (upd f k x) = (fs f).set k (.int x)) (hfin : (TX1 k).2.2.2 = false) (hd : parseFieldDescriptor (TX1 k).2.2.1 = some ty) (hn : narrow ty (.int x) = .int x) (hfit : fits ty (.int x) = true) (hlk : k < (fs (μ b 0)).length) (hlink : (Cond.fieldLink own index (TX1 k).1 (TX1 k).2.1 (TX1 k).2.2.1).before args s = true) (d : decode cc pc = .ok (.putfield index, 3)) (kk : J p l e R s m args below meth c ce sl Q nL D ad cs A (pc + 3) lv st (ms μ b 0 k x)) : J p l e R s m args below meth c ce sl Q nL D ad cs A pc lv (.int x :: .ref (ad b 0) :: st) μ := fun H locs ls hP hT hS hl => by
  obtain ⟨q0, h0, h1⟩ := wl_get (ad := ad) (cs := cs) μ ho.1
  rw [ho.2] at h1
  refine va_put X.1.1 X.1.2.1 X.1.2.2.2.2 hin tyX1 tyX1_ok nmX1 X.1.2.2.2.1 X.2.2.1 hP X.2.2.2.1.D hS q0 h1 (C := RX1) (T := TX1) (N := 8) rfl k hk hlink (fun _ h => h) hfin hd hn hfit hlk d (fun H1 locs1 hP1 _ hS1 => ?_)
  rw [← hset, ← ho.2, wl_set μ (upd (μ b 0) k x) h0] at hP1
  exact kk H1 locs1 ls hP1 (hT.keep (fun _ q => absurd q (by decide)) (fun _ q => absurd q (by decide)) (fun _ q => absurd q (by decide))) hS1 hl
theorem j_getR (X : JX p s m args c cc nL own Ts R ce sl D ad cs A z) {b index : Nat} {fs : (Nat → Int32) → List Value} (ho : Obj ad cs b 2 fs) (hin : ∀ w ∈ u_ws RX2 TX2 13, w ∈ Ts) (k : Nat) (hk : k < 13) {v : Value} (hv : (fs (μ b 0))[k]? = some v) (hlink : (Cond.fieldLink own index (TX2 k).1 (TX2 k).2.1 (TX2 k).2.2.1).before args s = true) (d : decode cc pc = .ok (.getfield index, 3)) (kk : J p l e R s m args below meth c ce sl Q nL D ad cs A (pc + 3) lv (v :: st) μ) : J p l e R s m args below meth c ce sl Q nL D ad cs A pc lv (.ref (ad b 0) :: st) μ := fun H locs ls hP hT hS hl => by
  obtain ⟨q0, h0, h1⟩ := wl_get (ad := ad) (cs := cs) μ ho.1
  rw [ho.2] at h1
  exact va_get X.1.1 X.1.2.1 X.1.2.2.2.2 hin X.1.2.2.2.1 X.2.2.1 hP q0 h1 (C := RX2) (T := TX2) (N := 13) rfl k hk hlink (fun _ h => h) hv d (kk H locs ls hP hT hS hl)
theorem j_putR (X : JX p s m args c cc nL own Ts R ce sl D ad cs A z) {b index : Nat} {fs : (Nat → Int32) → List Value} (ho : Obj ad cs b 2 fs) (hin : ∀ w ∈ u_ws RX2 TX2 13, w ∈ Ts) (k : Nat) (hk : k < 13) {ty : FieldType} {x : Int32} (hset : ∀ f, fs (upd f k x) = (fs f).set k (.int x)) (hfin : (TX2 k).2.2.2 = false) (hd : parseFieldDescriptor (TX2 k).2.2.1 = some ty) (hn : narrow ty (.int x) = .int x) (hfit : fits ty (.int x) = true) (hlk : k < (fs (μ b 0)).length) (hlink : (Cond.fieldLink own index (TX2 k).1 (TX2 k).2.1 (TX2 k).2.2.1).before args s = true) (d : decode cc pc = .ok (.putfield index, 3)) (kk : J p l e R s m args below meth c ce sl Q nL D ad cs A (pc + 3) lv st (ms μ b 0 k x)) : J p l e R s m args below meth c ce sl Q nL D ad cs A pc lv (.int x :: .ref (ad b 0) :: st) μ := fun H locs ls hP hT hS hl => by
  obtain ⟨q0, h0, h1⟩ := wl_get (ad := ad) (cs := cs) μ ho.1
  rw [ho.2] at h1
  refine va_put X.1.1 X.1.2.1 X.1.2.2.2.2 hin tyX2 tyX2_ok nmX2 X.1.2.2.2.1 X.2.2.1 hP X.2.2.2.1.D hS q0 h1 (C := RX2) (T := TX2) (N := 13) rfl k hk hlink (fun _ h => h) hfin hd hn hfit hlk d (fun H1 locs1 hP1 _ hS1 => ?_)
  rw [← hset, ← ho.2, wl_set μ (upd (μ b 0) k x) h0] at hP1
  exact kk H1 locs1 ls hP1 (hT.keep (fun _ q => absurd q (by decide)) (fun _ q => absurd q (by decide)) (fun _ q => absurd q (by decide))) hS1 hl
theorem j_iald (X : JX p s m args c cc nL own Ts R ce sl D ad cs A z) {b k n : Nat} (ha : Arr ad cs b k 0 n) {x : Int32} (i : Nat) (hx : x = nI i) (hi : i < n) (hn : n < 2 ^ 31) {v : Int32} (hv : μ b k i = v) (d : decode cc pc = .ok (.iaload, 1)) (kk : J p l e R s m args below meth c ce sl Q nL D ad cs A (pc + 1) lv (.int v :: st) μ) : J p l e R s m args below meth c ce sl Q nL D ad cs A pc lv (.int x :: .ref (ad b k) :: st) μ := fun H locs ls hP hT hS hl => by
  subst hx
  obtain ⟨q0, h0, h1⟩ := wl_get (ad := ad) (cs := cs) μ ha.1
  rw [ha.2] at h1
  refine va_iald X.1.1 X.1.2.1 X.2.2.1 hP q0 0 h1 rfl (vp_in_nI hi hn) d ?_
  rw [nI_clamp (Nat.lt_trans hi hn), hv]
  exact kk H locs ls hP hT hS hl
theorem j_cald (X : JX p s m args c cc nL own Ts R ce sl D ad cs A z) {b k n : Nat} (ha : Arr ad cs b k 1 n) {x : Int32} (i : Nat) (hx : x = nI i) (hi : i < n) (hn : n < 2 ^ 31) {v : Int32} (hv : μ b k i = v) (d : decode cc pc = .ok (.caload, 1)) (kk : J p l e R s m args below meth c ce sl Q nL D ad cs A (pc + 1) lv (.int v :: st) μ) : J p l e R s m args below meth c ce sl Q nL D ad cs A pc lv (.int x :: .ref (ad b k) :: st) μ := fun H locs ls hP hT hS hl => by
  subst hx
  obtain ⟨q0, h0, h1⟩ := wl_get (ad := ad) (cs := cs) μ ha.1
  rw [ha.2] at h1
  refine va_cald X.1.1 X.1.2.1 X.2.2.1 hP q0 1 h1 rfl (vp_in_nI hi hn) d ?_
  rw [nI_clamp (Nat.lt_trans hi hn), hv]
  exact kk H locs ls hP hT hS hl
theorem j_zald (X : JX p s m args c cc nL own Ts R ce sl D ad cs A z) {b k n : Nat} (ha : Arr ad cs b k 2 n) {x : Int32} (i : Nat) (hx : x = nI i) (hi : i < n) (hn : n < 2 ^ 31) {v : Int32} (hv : μ b k i = v) (d : decode cc pc = .ok (.baload, 1)) (kk : J p l e R s m args below meth c ce sl Q nL D ad cs A (pc + 1) lv (.int v :: st) μ) : J p l e R s m args below meth c ce sl Q nL D ad cs A pc lv (.int x :: .ref (ad b k) :: st) μ := fun H locs ls hP hT hS hl => by
  subst hx
  obtain ⟨q0, h0, h1⟩ := wl_get (ad := ad) (cs := cs) μ ha.1
  rw [ha.2] at h1
  refine va_zald X.1.1 X.1.2.1 X.2.2.1 hP q0 2 h1 rfl (vp_in_nI hi hn) d ?_
  rw [nI_clamp (Nat.lt_trans hi hn), hv]
  exact kk H locs ls hP hT hS hl
theorem j_iast (X : JX p s m args c cc nL own Ts R ce sl D ad cs A z) {b k n : Nat} (ha : Arr ad cs b k 0 n) {x v : Int32} (i : Nat) (hx : x = nI i) (hi : i < n) (hn : n < 2 ^ 31) (hne : ¬ (b < 10 ∧ (k = 4 ∨ k = 8)) ∧ ¬ (b = 10 ∧ k = 7)) (d : decode cc pc = .ok (.iastore, 1)) (kk : J p l e R s m args below meth c ce sl Q nL D ad cs A (pc + 1) lv st (ms μ b k i v)) : J p l e R s m args below meth c ce sl Q nL D ad cs A pc lv (.int v :: .int x :: .ref (ad b k) :: st) μ := fun H locs ls hP hT hS hl => by
  subst hx
  obtain ⟨q0, h0, h1⟩ := wl_get (ad := ad) (cs := cs) μ ha.1
  rw [ha.2] at h1
  refine va_iast X.1.1 X.1.2.1 X.2.2.1 hP X.2.2.2.1.D hS q0 0 h1 rfl (vp_in_nI hi hn) d (fun H1 locs1 hP1 _ hS1 => ?_)
  rw [nI_clamp (Nat.lt_trans hi hn), ← ha.2, wl_set μ _ h0] at hP1
  exact kk H1 locs1 ls hP1 (hT.keep (fun q r => absurd ⟨q, Or.inl r⟩ hne.1) (fun q r => absurd ⟨q, Or.inr r⟩ hne.1) (fun q r => absurd ⟨q, r⟩ hne.2)) hS1 hl
theorem j_zast (X : JX p s m args c cc nL own Ts R ce sl D ad cs A z) {b k n : Nat} (ha : Arr ad cs b k 2 n) {x v : Int32} (i : Nat) (hx : x = nI i) (hi : i < n) (hn : n < 2 ^ 31) (hv : isBo v) (hne : k ≠ 4 ∧ ¬ (b = 10 ∧ k = 7)) (d : decode cc pc = .ok (.bastore, 1)) (kk : J p l e R s m args below meth c ce sl Q nL D ad cs A (pc + 1) lv st (ms μ b k i v)) : J p l e R s m args below meth c ce sl Q nL D ad cs A pc lv (.int v :: .int x :: .ref (ad b k) :: st) μ := fun H locs ls hP hT hS hl => by
  subst hx
  obtain ⟨q0, h0, h1⟩ := wl_get (ad := ad) (cs := cs) μ ha.1
  rw [ha.2] at h1
  refine va_zast X.1.1 X.1.2.1 X.2.2.1 hP X.2.2.2.1.D hS q0 2 h1 rfl (vp_in_nI hi hn) d (fun H1 locs1 hP1 _ hS1 => ?_)
  have e : vp_nar .boolean v = v := by rcases hv with rfl | rfl <;> rfl
  rw [nI_clamp (Nat.lt_trans hi hn), e, ← ha.2, wl_set μ _ h0] at hP1
  refine kk H1 locs1 ls hP1 (hT.keep (fun _ r => absurd r hne.1) (fun q r j hj => ?_) (fun q r => absurd ⟨q, r⟩ hne.2)) hS1 hl
  subst r
  show isBo (if j = i then v else μ b 8 j)
  by_cases hji : j = i
  · rw [if_pos hji]; exact hv
  · rw [if_neg hji]; exact hT.2.1 b j q hj
theorem j_cast (X : JX p s m args c cc nL own Ts R ce sl D ad cs A z) {x v : Int32} (i : Nat) (hx : x = nI i) (hi : i < 60) (hv : isCh v) (d : decode cc pc = .ok (.castore, 1)) (kk : J p l e R s m args below meth c ce sl Q nL D ad cs A (pc + 1) lv st (ms μ 10 7 i v)) : J p l e R s m args below meth c ce sl Q nL D ad cs A pc lv (.int v :: .int x :: .ref (ad 10 7) :: st) μ := fun H locs ls hP hT hS hl => by
  subst hx
  have ha : Arr ad cs 10 7 1 60 := aM_7
  obtain ⟨q0, h0, h1⟩ := wl_get (ad := ad) (cs := cs) μ ha.1
  rw [ha.2] at h1
  refine va_cast X.1.1 X.1.2.1 X.2.2.1 hP X.2.2.2.1.D hS q0 1 h1 rfl (vp_in_nI hi (by decide)) d (fun H1 locs1 hP1 _ hS1 => ?_)
  have e : vp_nar .char v = v := by
    obtain ⟨q, hq, rfl⟩ := hv
    have h := (pk_charN hq).1
    show (match narrow .char (.int (nI q)) with | .int y => y | _ => 0) = nI q
    rw [h]
  rw [nI_clamp (Nat.lt_trans hi (by decide)), e, ← ha.2, wl_set μ _ h0] at hP1
  refine kk H1 locs1 ls hP1 (hT.keep (fun q _ => absurd q (by decide)) (fun q _ => absurd q (by decide)) (fun q r j hj => ?_)) hS1 hl
  show isCh (if j = i then v else μ 10 7 j)
  by_cases hji : j = i
  · rw [if_pos hji]; exact hv
  · rw [if_neg hji]; exact hT.2.2 j hj
theorem j_aald (X : JX p s m args c cc nL own Ts R ce sl D ad cs A z) {b k n : Nat} (ha : Rfs ad cs b k n) {x : Int32} (i : Nat) (hx : x = nI i) (hi : i < n) (hn : n < 2 ^ 31) (y : Nat) (hy : μ b k i = nI y) (hyl : y < 2 ^ 31) (d : decode cc pc = .ok (.aaload, 1)) (kk : J p l e R s m args below meth c ce sl Q nL D ad cs A (pc + 1) lv (.ref (ad y 0) :: st) μ) : J p l e R s m args below meth c ce sl Q nL D ad cs A pc lv (.int x :: .ref (ad b k) :: st) μ := fun H locs ls hP hT hS hl => by
  subst hx
  obtain ⟨q0, h0, h1⟩ := wl_get (ad := ad) (cs := cs) μ ha.1
  rw [ha.2] at h1
  refine va_aldq X.1.1 X.1.2.1 X.2.2.1 hP q0 3 h1 rfl (vp_in_nI hi hn) d ?_
  have e : qC ad (μ b k) (nI i).toNatClampNeg = some (ad y 0) := by
    rw [nI_clamp (Nat.lt_trans hi hn)]
    show some (ad (μ b k i).toNatClampNeg 0) = _
    rw [hy, nI_clamp hyl]
  rw [e]
  exact kk H locs ls hP hT hS hl
theorem j_aast (X : JX p s m args c cc nL own Ts R ce sl D ad cs A z) {b k n : Nat} (ha : Rfs ad cs b k n) (hb : 10 ≤ b) (hk : k ≠ 7) {x : Int32} (i : Nat) (hx : x = nI i) (hi : i < n) (hn : n < 2 ^ 31) (y : Nat) (hy : y < 10) (d : decode cc pc = .ok (.aastore, 1)) (kk : J p l e R s m args below meth c ce sl Q nL D ad cs A (pc + 1) lv st (ms μ b k i (nI y))) : J p l e R s m args below meth c ce sl Q nL D ad cs A pc lv (.ref (ad y 0) :: .int x :: .ref (ad b k) :: st) μ := fun H locs ls hP hT hS hl => by
  subst hx
  obtain ⟨q0, h0, h1⟩ := wl_get (ad := ad) (cs := cs) μ ha.1
  obtain ⟨qk, h2, h3⟩ := wl_get (ad := ad) (cs := cs) μ (oC (ad := ad) (cs := cs) hy).1
  rw [ha.2] at h1
  rw [(oC hy).2] at h3
  refine va_astq X.1.1 X.1.2.1 X.2.2.1 hP X.2.2.2.1.D hS q0 3 qk 0 h1 rfl h3 (r := (RX0, TX0, 16)) rfl (vp_in_nI hi hn) d (fun H1 locs1 hP1 _ hS1 => ?_)
  have e : va_up (qC ad (μ b k)) (nI i).toNatClampNeg (some (ad y 0)) = qC ad (upd (μ b k) i (nI y)) := by
    funext j
    rw [nI_clamp (Nat.lt_trans hi hn)]
    show (if j = i then some (ad y 0) else qC ad (μ b k) j) = some (ad (if j = i then nI y else μ b k j).toNatClampNeg 0)
    by_cases hji : j = i
    · rw [if_pos hji, if_pos hji, nI_clamp (Nat.lt_trans hy (by decide))]
    · rw [if_neg hji, if_neg hji]; rfl
  rw [e, ← ha.2, wl_set μ _ h0] at hP1
  exact kk H1 locs1 ls hP1 (hT.keep (fun q _ => absurd q (by omega)) (fun q _ => absurd q (by omega)) (fun _ r => absurd r hk)) hS1 hl
theorem j_alen (X : JX p s m args c cc nL own Ts R ce sl D ad cs A z) {b k t n : Nat} {ty : FieldType} (ha : Arr ad cs b k t n) (ht : (tyl cs)[t]? = some (cs t, ty)) {v : Int32} (hv : Int32.ofNat n = v) (d : decode cc pc = .ok (.arraylength, 1)) (kk : J p l e R s m args below meth c ce sl Q nL D ad cs A (pc + 1) lv (.int v :: st) μ) : J p l e R s m args below meth c ce sl Q nL D ad cs A pc lv (.ref (ad b k) :: st) μ := fun H locs ls hP hT hS hl => by
  obtain ⟨q0, h0, h1⟩ := wl_get (ad := ad) (cs := cs) μ ha.1
  rw [ha.2] at h1
  exact va_alen X.1.1 X.1.2.1 X.2.2.1 hP q0 t h1 ht hv d (kk H locs ls hP hT hS hl)
theorem j_sgs (X : JX p s m args c cc nL own Ts R ce sl D ad cs A z) (ho : own = RX0) (d : decode cc pc = .ok (.getstatic 71, 3)) (kk : J p l e R s m args below meth c ce sl Q nL D ad cs A (pc + 3) lv (.ref (z 0) :: st) μ) : J p l e R s m args below meth c ce sl Q nL D ad cs A pc lv st μ := fun H locs ls hP hT hS hl => va_getsN X.1.1 X.1.2.1 X.2.2.2.2.1.1.1 hS X.1.2.2.2.1 (ref := "PunCourts") (by rw [ho]; exact va_Nw.use rfl X.2.2.2.2.2.1) (fun _ h => h) d (kk H locs ls hP hT hS hl)
theorem j_sgl (X : JX p s m args c cc nL own Ts R ce sl D ad cs A z) (d : decode cc pc = .ok (.arraylength, 1)) (kk : J p l e R s m args below meth c ce sl Q nL D ad cs A (pc + 1) lv (.int (nI 26) :: st) μ) : J p l e R s m args below meth c ce sl Q nL D ad cs A pc lv (.ref (z 0) :: st) μ := fun H locs ls hP hT hS hl => va_tlen X.1.1 X.1.2.1 X.2.2.2.2.1.2.1 hS rfl d (kk H locs ls hP hT hS hl)
theorem j_sga (X : JX p s m args c cc nL own Ts R ce sl D ad cs A z) {x : Int32} (i : Nat) (hx : x = nI i) (hi : i < 26) (d : decode cc pc = .ok (.iaload, 1)) (kk : J p l e R s m args below meth c ce sl Q nL D ad cs A (pc + 1) lv (.int (sg i) :: st) μ) : J p l e R s m args below meth c ce sl Q nL D ad cs A pc lv (.int x :: .ref (z 0) :: st) μ := fun H locs ls hP hT hS hl => by
  subst hx
  exact va_ti X.1.1 X.1.2.1 X.2.2.2.2.1.2.1 hS (vp_in_nI hi (by decide)) (by rw [nI_clamp (Nat.lt_trans hi (by decide))]) d (kk H locs ls hP hT hS hl)
theorem j_los (X : JX p s m args c cc nL own Ts R ce sl D ad cs A z) {index : Nat} (hlink : (Cond.fieldLink own index RX1 "LOWEST" "[I").before args s = true) (d : decode cc pc = .ok (.getstatic index, 3)) (kk : J p l e R s m args below meth c ce sl Q nL D ad cs A (pc + 3) lv (.ref (z 1) :: st) μ) : J p l e R s m args below meth c ce sl Q nL D ad cs A pc lv st μ := fun H locs ls hP hT hS hl => va_gets X.1.1 X.1.2.1 X.2.2.2.2.1.1.2.1 hS X.1.2.2.2.1 hlink (fun _ h => h) d (kk H locs ls hP hT hS hl)
theorem j_loa (X : JX p s m args c cc nL own Ts R ce sl D ad cs A z) {x : Int32} (i : Nat) (hx : x = nI i) (hi : i < 4) (d : decode cc pc = .ok (.iaload, 1)) (kk : J p l e R s m args below meth c ce sl Q nL D ad cs A (pc + 1) lv (.int (lo4 i) :: st) μ) : J p l e R s m args below meth c ce sl Q nL D ad cs A pc lv (.int x :: .ref (z 1) :: st) μ := fun H locs ls hP hT hS hl => by
  subst hx
  exact va_ti X.1.1 X.1.2.1 X.2.2.2.2.1.2.2.1 hS (vp_in_nI hi (by decide)) (by rw [nI_clamp (Nat.lt_trans hi (by decide))]) d (kk H locs ls hP hT hS hl)
theorem j_his (X : JX p s m args c cc nL own Ts R ce sl D ad cs A z) {index : Nat} (hlink : (Cond.fieldLink own index RX1 "HIGHEST" "[I").before args s = true) (d : decode cc pc = .ok (.getstatic index, 3)) (kk : J p l e R s m args below meth c ce sl Q nL D ad cs A (pc + 3) lv (.ref (z 2) :: st) μ) : J p l e R s m args below meth c ce sl Q nL D ad cs A pc lv st μ := fun H locs ls hP hT hS hl => va_gets X.1.1 X.1.2.1 X.2.2.2.2.1.1.2.2 hS X.1.2.2.2.1 hlink (fun _ h => h) d (kk H locs ls hP hT hS hl)
theorem j_hia (X : JX p s m args c cc nL own Ts R ce sl D ad cs A z) {x : Int32} (i : Nat) (hx : x = nI i) (hi : i < 4) (d : decode cc pc = .ok (.iaload, 1)) (kk : J p l e R s m args below meth c ce sl Q nL D ad cs A (pc + 1) lv (.int (hi4 i) :: st) μ) : J p l e R s m args below meth c ce sl Q nL D ad cs A pc lv (.int x :: .ref (z 2) :: st) μ := fun H locs ls hP hT hS hl => by
  subst hx
  exact va_ti X.1.1 X.1.2.1 X.2.2.2.2.1.2.2.2 hS (vp_in_nI hi (by decide)) (by rw [nI_clamp (Nat.lt_trans hi (by decide))]) d (kk H locs ls hP hT hS hl)
theorem j_mmax (X : JX p s m args c cc nL own Ts R ce sl D ad cs A z) {index : Nat} {x y v : Int32} (hlink : (Cond.methodLink own index Lib.Math.max.name).before args s = true) (hstat : (Cond.static Lib.Math.max.name).before args s = true) (hini : (Cond.initialized "java/lang/Math").before args s = true) (hcode : (Cond.code Lib.Math.max.name Lib.Math.max.code 2 (some .int)).before args s = true) (hfr : 1 ≤ R.frames) (hlo : (st.map fun v => v.category).sum + 13 ≤ R.locals) (hv : (if x < y then y else x) = v) (d : decode cc pc = .ok (.invokestatic index, 3)) (kk : J p l e R s m args below meth c ce sl Q nL D ad cs A (pc + 3) lv (.int v :: st) μ) : J p l e R s m args below meth c ce sl Q nL D ad cs A pc lv (.int y :: .int x :: st) μ := fun H locs ls hP hT hS hl => by
  subst hv
  exact va_mmax X.1.1 X.1.2.1 (X.1.2.2.1.trans hl.1.symm) X.1.2.2.2.1 hlink hstat hini hcode hfr hlo X.2.1.1 X.2.1.2 d (kk H locs ls hP hT hS hl)
theorem j_mmin (X : JX p s m args c cc nL own Ts R ce sl D ad cs A z) {index : Nat} {x y v : Int32} (hlink : (Cond.methodLink own index Lib.Math.min.name).before args s = true) (hstat : (Cond.static Lib.Math.min.name).before args s = true) (hini : (Cond.initialized "java/lang/Math").before args s = true) (hcode : (Cond.code Lib.Math.min.name Lib.Math.min.code 2 (some .int)).before args s = true) (hfr : 1 ≤ R.frames) (hlo : (st.map fun v => v.category).sum + 13 ≤ R.locals) (hv : (if y < x then y else x) = v) (d : decode cc pc = .ok (.invokestatic index, 3)) (kk : J p l e R s m args below meth c ce sl Q nL D ad cs A (pc + 3) lv (.int v :: st) μ) : J p l e R s m args below meth c ce sl Q nL D ad cs A pc lv (.int y :: .int x :: st) μ := fun H locs ls hP hT hS hl => by
  subst hv
  exact va_mmin X.1.1 X.1.2.1 (X.1.2.2.1.trans hl.1.symm) X.1.2.2.2.1 hlink hstat hini hcode hfr hlo X.2.1.1 X.2.1.2 d (kk H locs ls hP hT hS hl)
/-- arraycopy from the start of one array, or from a place, into another array of its kind -/
theorem j_copy (X : JX p s m args c cc nL own Ts R ce sl D ad cs A z) {b k b1 k1 t n0 n1 index : Nat} {ty : FieldType} (ha : Arr ad cs b k t n0) (ha1 : Arr ad cs b1 k1 t n1) (ht : (tyl cs)[t]? = some (cs t, ty)) (hprim : refKind ty = false) {xs xd xn : Int32} (sp dp n : Nat) (hxs : xs = nI sp) (hxd : xd = nI dp) (hxn : xn = nI n) (h4 : sp + n ≤ n0) (h5 : dp + n ≤ n1) (hn0 : n0 < 2 ^ 31) (hn1 : n1 < 2 ^ 31) (hfit : TY μ → ∀ i, i < n → fits ty (.int (μ b k (sp + i))) = true) (hty : TY μ → TY (mc μ b1 k1 (va_cpy (μ b k) (μ b1 k1) sp dp n))) (hlink : (Cond.methodLink own index arraycopyName).before args s = true) (hnat : (Cond.native arraycopyName).before args s = true) (hstat : (Cond.static arraycopyName).before args s = true) (hini : (Cond.initialized "java/lang/System").before args s = true) (hfr : 1 ≤ R.frames) (hlo : (st.map fun v => v.category).sum + (nativeFrameWords "java/lang/System" "arraycopy" 5 + 11) ≤ R.locals) (d : decode cc pc = .ok (.invokestatic index, 3)) (kk : J p l e R s m args below meth c ce sl Q nL D ad cs A (pc + 3) lv st (mc μ b1 k1 (va_cpy (μ b k) (μ b1 k1) sp dp n))) : J p l e R s m args below meth c ce sl Q nL D ad cs A pc lv (.int xn :: .int xd :: .ref (ad b1 k1) :: .int xs :: .ref (ad b k) :: st) μ := fun H locs ls hP hT hS hl => by
  subst hxs; subst hxd; subst hxn
  obtain ⟨q0, h0, h1⟩ := wl_get (ad := ad) (cs := cs) μ ha.1
  obtain ⟨q1, h2, h3⟩ := wl_get (ad := ad) (cs := cs) μ ha1.1
  rw [ha.2] at h1
  rw [ha1.2] at h3
  have e1 : (nI sp).toNatClampNeg = sp := nI_clamp (by omega)
  have e2 : (nI dp).toNatClampNeg = dp := nI_clamp (by omega)
  have e3 : (nI n).toNatClampNeg = n := nI_clamp (by omega)
  refine va_copyi X.1.1 X.1.2.1 (X.1.2.2.1.trans hl.1.symm) X.1.2.2.2.1 hlink hnat hstat hini X.2.2.1 hP X.2.2.2.1.D hS q0 q1 t t h1 h3 ht ht hprim (nI_pos (by omega)) (nI_pos (by omega)) (nI_pos (by omega)) (by rw [e1, e3]; exact h4) (by rw [e2, e3]; exact h5) (by rw [e1, e3]; exact hfit hT) hfr hlo d (fun H1 locs1 hP1 _ hS1 => ?_)
  rw [e1, e2, e3, ← ha1.2, wl_set μ _ h2] at hP1
  exact kk H1 locs1 ls hP1 (hty hT) hS1 hl

theorem j_ialdB (X : JX p s m args c cc nL own Ts R ce sl D ad cs A z) {b k n : Nat} {V : Nat → Nat → Int32} (ha : Arr ad cs b k 0 n) {x : Int32} (i : Nat) (hx : x = nI i) (hi : i < n) (hn : n < 2 ^ 31) (d : decode cc pc = .ok (.iaload, 1)) (kk : J p l e R s m args below meth c ce sl Q nL D ad cs A (pc + 1) lv (.int (V k i) :: st) (mb μ b V)) : J p l e R s m args below meth c ce sl Q nL D ad cs A pc lv (.int x :: .ref (ad b k) :: st) (mb μ b V) := j_iald X ha i hx hi hn (by rw [mb_s]) d kk
theorem j_caldB (X : JX p s m args c cc nL own Ts R ce sl D ad cs A z) {b k n : Nat} {V : Nat → Nat → Int32} (ha : Arr ad cs b k 1 n) {x : Int32} (i : Nat) (hx : x = nI i) (hi : i < n) (hn : n < 2 ^ 31) (d : decode cc pc = .ok (.caload, 1)) (kk : J p l e R s m args below meth c ce sl Q nL D ad cs A (pc + 1) lv (.int (V k i) :: st) (mb μ b V)) : J p l e R s m args below meth c ce sl Q nL D ad cs A pc lv (.int x :: .ref (ad b k) :: st) (mb μ b V) := j_cald X ha i hx hi hn (by rw [mb_s]) d kk
theorem j_zaldB (X : JX p s m args c cc nL own Ts R ce sl D ad cs A z) {b k n : Nat} {V : Nat → Nat → Int32} (ha : Arr ad cs b k 2 n) {x : Int32} (i : Nat) (hx : x = nI i) (hi : i < n) (hn : n < 2 ^ 31) (d : decode cc pc = .ok (.baload, 1)) (kk : J p l e R s m args below meth c ce sl Q nL D ad cs A (pc + 1) lv (.int (V k i) :: st) (mb μ b V)) : J p l e R s m args below meth c ce sl Q nL D ad cs A pc lv (.int x :: .ref (ad b k) :: st) (mb μ b V) := j_zald X ha i hx hi hn (by rw [mb_s]) d kk
theorem j_iastB (X : JX p s m args c cc nL own Ts R ce sl D ad cs A z) {b k n : Nat} {V : Nat → Nat → Int32} (ha : Arr ad cs b k 0 n) {x v : Int32} (i : Nat) (hx : x = nI i) (hi : i < n) (hn : n < 2 ^ 31) (hne : ¬ (b < 10 ∧ (k = 4 ∨ k = 8)) ∧ ¬ (b = 10 ∧ k = 7)) (d : decode cc pc = .ok (.iastore, 1)) (kk : J p l e R s m args below meth c ce sl Q nL D ad cs A (pc + 1) lv st (mb μ b (us V k i v))) : J p l e R s m args below meth c ce sl Q nL D ad cs A pc lv (.int v :: .int x :: .ref (ad b k) :: st) (mb μ b V) := j_iast X ha i hx hi hn hne d (ms_b ▸ kk)
theorem j_zastB (X : JX p s m args c cc nL own Ts R ce sl D ad cs A z) {b k n : Nat} {V : Nat → Nat → Int32} (ha : Arr ad cs b k 2 n) {x v : Int32} (i : Nat) (hx : x = nI i) (hi : i < n) (hn : n < 2 ^ 31) (hv : isBo v) (hne : k ≠ 4 ∧ ¬ (b = 10 ∧ k = 7)) (d : decode cc pc = .ok (.bastore, 1)) (kk : J p l e R s m args below meth c ce sl Q nL D ad cs A (pc + 1) lv st (mb μ b (us V k i v))) : J p l e R s m args below meth c ce sl Q nL D ad cs A pc lv (.int v :: .int x :: .ref (ad b k) :: st) (mb μ b V) := j_zast X ha i hx hi hn hv hne d (ms_b ▸ kk)
theorem j_castB (X : JX p s m args c cc nL own Ts R ce sl D ad cs A z) {V : Nat → Nat → Int32} {x v : Int32} (i : Nat) (hx : x = nI i) (hi : i < 60) (hv : isCh v) (d : decode cc pc = .ok (.castore, 1)) (kk : J p l e R s m args below meth c ce sl Q nL D ad cs A (pc + 1) lv st (mb μ 10 (us V 7 i v))) : J p l e R s m args below meth c ce sl Q nL D ad cs A pc lv (.int v :: .int x :: .ref (ad 10 7) :: st) (mb μ 10 V) := j_cast X i hx hi hv d (ms_b ▸ kk)
theorem j_getCB (X : JX p s m args c cc nL own Ts R ce sl D ad cs A z) {b index : Nat} {V : Nat → Nat → Int32} {fs : (Nat → Int32) → List Value} (ho : Obj ad cs b 0 fs) (hin : ∀ w ∈ u_ws RX0 TX0 16, w ∈ Ts) (k : Nat) (hk : k < 16) {v : Value} (hv : (fs (V 0))[k]? = some v) (hlink : (Cond.fieldLink own index (TX0 k).1 (TX0 k).2.1 (TX0 k).2.2.1).before args s = true) (d : decode cc pc = .ok (.getfield index, 3)) (kk : J p l e R s m args below meth c ce sl Q nL D ad cs A (pc + 3) lv (v :: st) (mb μ b V)) : J p l e R s m args below meth c ce sl Q nL D ad cs A pc lv (.ref (ad b 0) :: st) (mb μ b V) := j_getC X ho hin k hk (by rw [mb_s]; exact hv) hlink d kk
theorem j_putCB (X : JX p s m args c cc nL own Ts R ce sl D ad cs A z) {b index : Nat} {V : Nat → Nat → Int32} {fs : (Nat → Int32) → List Value} (ho : Obj ad cs b 0 fs) (hin : ∀ w ∈ u_ws RX0 TX0 16, w ∈ Ts) (k : Nat) (hk : k < 16) {ty : FieldType} {x : Int32} (hset : ∀ f, fs (upd f k x) = (fs f).set k (.int x)) (hfin : (TX0 k).2.2.2 = false) (hd : parseFieldDescriptor (TX0 k).2.2.1 = some ty) (hn : narrow ty (.int x) = .int x) (hfit : fits ty (.int x) = true) (hlk : k < (fs (V 0)).length) (hlink : (Cond.fieldLink own index (TX0 k).1 (TX0 k).2.1 (TX0 k).2.2.1).before args s = true) (d : decode cc pc = .ok (.putfield index, 3)) (kk : J p l e R s m args below meth c ce sl Q nL D ad cs A (pc + 3) lv st (mb μ b (us V 0 k x))) : J p l e R s m args below meth c ce sl Q nL D ad cs A pc lv (.int x :: .ref (ad b 0) :: st) (mb μ b V) := j_putC X ho hin k hk hset hfin hd hn hfit (by rw [mb_s]; exact hlk) hlink d (ms_b ▸ kk)
theorem j_getMB (X : JX p s m args c cc nL own Ts R ce sl D ad cs A z) {b index : Nat} {V : Nat → Nat → Int32} {fs : (Nat → Int32) → List Value} (ho : Obj ad cs b 1 fs) (hin : ∀ w ∈ u_ws RX1 TX1 8, w ∈ Ts) (k : Nat) (hk : k < 8) {v : Value} (hv : (fs (V 0))[k]? = some v) (hlink : (Cond.fieldLink own index (TX1 k).1 (TX1 k).2.1 (TX1 k).2.2.1).before args s = true) (d : decode cc pc = .ok (.getfield index, 3)) (kk : J p l e R s m args below meth c ce sl Q nL D ad cs A (pc + 3) lv (v :: st) (mb μ b V)) : J p l e R s m args below meth c ce sl Q nL D ad cs A pc lv (.ref (ad b 0) :: st) (mb μ b V) := j_getM X ho hin k hk (by rw [mb_s]; exact hv) hlink d kk
theorem j_putMB (X : JX p s m args c cc nL own Ts R ce sl D ad cs A z) {b index : Nat} {V : Nat → Nat → Int32} {fs : (Nat → Int32) → List Value} (ho : Obj ad cs b 1 fs) (hin : ∀ w ∈ u_ws RX1 TX1 8, w ∈ Ts) (k : Nat) (hk : k < 8) {ty : FieldType} {x : Int32} (hset : ∀ f, fs (upd f k x) = (fs f).set k (.int x)) (hfin : (TX1 k).2.2.2 = false) (hd : parseFieldDescriptor (TX1 k).2.2.1 = some ty) (hn : narrow ty (.int x) = .int x) (hfit : fits ty (.int x) = true) (hlk : k < (fs (V 0)).length) (hlink : (Cond.fieldLink own index (TX1 k).1 (TX1 k).2.1 (TX1 k).2.2.1).before args s = true) (d : decode cc pc = .ok (.putfield index, 3)) (kk : J p l e R s m args below meth c ce sl Q nL D ad cs A (pc + 3) lv st (mb μ b (us V 0 k x))) : J p l e R s m args below meth c ce sl Q nL D ad cs A pc lv (.int x :: .ref (ad b 0) :: st) (mb μ b V) := j_putM X ho hin k hk hset hfin hd hn hfit (by rw [mb_s]; exact hlk) hlink d (ms_b ▸ kk)
theorem j_getRB (X : JX p s m args c cc nL own Ts R ce sl D ad cs A z) {b index : Nat} {V : Nat → Nat → Int32} {fs : (Nat → Int32) → List Value} (ho : Obj ad cs b 2 fs) (hin : ∀ w ∈ u_ws RX2 TX2 13, w ∈ Ts) (k : Nat) (hk : k < 13) {v : Value} (hv : (fs (V 0))[k]? = some v) (hlink : (Cond.fieldLink own index (TX2 k).1 (TX2 k).2.1 (TX2 k).2.2.1).before args s = true) (d : decode cc pc = .ok (.getfield index, 3)) (kk : J p l e R s m args below meth c ce sl Q nL D ad cs A (pc + 3) lv (v :: st) (mb μ b V)) : J p l e R s m args below meth c ce sl Q nL D ad cs A pc lv (.ref (ad b 0) :: st) (mb μ b V) := j_getR X ho hin k hk (by rw [mb_s]; exact hv) hlink d kk
theorem j_putRB (X : JX p s m args c cc nL own Ts R ce sl D ad cs A z) {b index : Nat} {V : Nat → Nat → Int32} {fs : (Nat → Int32) → List Value} (ho : Obj ad cs b 2 fs) (hin : ∀ w ∈ u_ws RX2 TX2 13, w ∈ Ts) (k : Nat) (hk : k < 13) {ty : FieldType} {x : Int32} (hset : ∀ f, fs (upd f k x) = (fs f).set k (.int x)) (hfin : (TX2 k).2.2.2 = false) (hd : parseFieldDescriptor (TX2 k).2.2.1 = some ty) (hn : narrow ty (.int x) = .int x) (hfit : fits ty (.int x) = true) (hlk : k < (fs (V 0)).length) (hlink : (Cond.fieldLink own index (TX2 k).1 (TX2 k).2.1 (TX2 k).2.2.1).before args s = true) (d : decode cc pc = .ok (.putfield index, 3)) (kk : J p l e R s m args below meth c ce sl Q nL D ad cs A (pc + 3) lv st (mb μ b (us V 0 k x))) : J p l e R s m args below meth c ce sl Q nL D ad cs A pc lv (.int x :: .ref (ad b 0) :: st) (mb μ b V) := j_putR X ho hin k hk hset hfin hd hn hfit (by rw [mb_s]; exact hlk) hlink d (ms_b ▸ kk)
theorem j_callVi (X : JX p s m args c cc nL own Ts R ce sl D ad cs A z) {y : MethodName} {ws : List Cond} {rm : Room} {b ci index maxL n : Nat} {q : vw_C} {fs : (Nat → Int32) → List Value} {bytes : ByteArray} {ret : Option FieldType} {As st0 : List Value} {post : Int32 → Mm → Prop} (hM : KI l D ad cs A z y ws rm (.ref (ad b 0) :: As) μ post) (ho : Obj ad cs b ci fs) (hq : vwCl[ci]? = some q) (cw : CallW R s args own q.1 index y bytes maxL ret ws rm 0 0 n) (hst : As.reverse ++ .ref (ad b 0) :: st = st0) (hn : As.length = n) (hw : (st.map fun v => v.category).sum ≤ 8) (d : decode cc pc = .ok (.invokevirtual index, 3)) (kk : ∀ (r : Int32) (μ1 : Mm), post r μ1 → J p l e R s m args below meth c ce sl Q nL D ad cs A (pc + 3) lv (.int r :: st) μ1) : J p l e R s m args below meth c ce sl Q nL D ad cs A pc lv st0 μ := fun H locs ls hP hT hS hl => by
  subst hst
  obtain ⟨q0, h0, h1⟩ := wl_get (ad := ad) (cs := cs) μ ho.1
  rw [ho.2] at h1
  exact va_calli (va_runV (As := As) (rest := st) X.1 hM cw ⟨WS.blind, va_recv X.2.2.1 hP hq h1, fun U hU hW => ⟨rfl, by rw [hU]; exact hP, hT, va_K.moved hW.alike X.2.2.1, X.2.2.2.1, by rw [hU]; exact ST.moved hW.alike (X.2.2.2.2.1.kept hS.2.1), X.2.2.2.2.2.warm hW⟩⟩ rfl hn hl.1 rfl (by show 2 * 0 + _ ≤ 8; omega) d ⟨X.2.1.1, X.2.1.2⟩) hS (fun q _ h => h) (fun q h => h) (fun r u t H1 locs1 ht hvm hw hB hz1 hk1 hS1 => kk r u hw H1 locs1 ls (by rw [← ht]; exact hB.1) hB.2 hS1 hl)
theorem j_callSi (X : JX p s m args c cc nL own Ts R ce sl D ad cs A z) {y : MethodName} {ws : List Cond} {rm : Room} {index maxL n : Nat} {bytes : ByteArray} {ret : Option FieldType} {As st0 : List Value} {post : Int32 → Mm → Prop} (hM : KI l D ad cs A z y ws rm As μ post) (cw : CallB R s args own index y bytes maxL ret ws rm 0 0 n ∧ (Cond.static y).before args s = true) (hst : As.reverse ++ st = st0) (hn : As.length = n) (hw : (st.map fun v => v.category).sum ≤ 8) (d : decode cc pc = .ok (.invokestatic index, 3)) (kk : ∀ (r : Int32) (μ1 : Mm), post r μ1 → J p l e R s m args below meth c ce sl Q nL D ad cs A (pc + 3) lv (.int r :: st) μ1) : J p l e R s m args below meth c ce sl Q nL D ad cs A pc lv st0 μ := fun H locs ls hP hT hS hl => by
  subst hst
  exact va_calli (va_runS (As := As) (rest := st) X.1 hM cw ⟨WS.blind, fun U hU hW => ⟨rfl, by rw [hU]; exact hP, hT, va_K.moved hW.alike X.2.2.1, X.2.2.2.1, by rw [hU]; exact ST.moved hW.alike (X.2.2.2.2.1.kept hS.2.1), X.2.2.2.2.2.warm hW⟩⟩ rfl hn hl.1 rfl (by show 2 * 0 + _ ≤ 8; omega) d ⟨X.2.1.1, X.2.1.2⟩) hS (fun q _ h => h) (fun q h => h) (fun r u t H1 locs1 ht hvm hw hB hz1 hk1 hS1 => kk r u hw H1 locs1 ls (by rw [← ht]; exact hB.1) hB.2 hS1 hl)
theorem j_callSNi (X : JX p s m args c cc nL own Ts R ce sl D ad cs A z) {y : MethodName} {ws : List Cond} {rm : Room} {index maxL n : Nat} {host : String} {bytes : ByteArray} {ret : Option FieldType} {As st0 : List Value} {post : Int32 → Mm → Prop} (hM : KI l D ad cs A z y ws rm As μ post) (cw : va_CN R s args own index y host bytes maxL ret ws rm 0 0 n ∧ (Cond.static y).before args s = true ∧ True) (hst : As.reverse ++ st = st0) (hn : As.length = n) (hw : (st.map fun v => v.category).sum ≤ 8) (d : decode cc pc = .ok (.invokestatic index, 3)) (kk : ∀ (r : Int32) (μ1 : Mm), post r μ1 → J p l e R s m args below meth c ce sl Q nL D ad cs A (pc + 3) lv (.int r :: st) μ1) : J p l e R s m args below meth c ce sl Q nL D ad cs A pc lv st0 μ := fun H locs ls hP hT hS hl => by
  subst hst
  exact va_calli (va_runSN (As := As) (rest := st) X.1 hM cw ⟨WS.blind, fun U hU hW => ⟨rfl, by rw [hU]; exact hP, hT, va_K.moved hW.alike X.2.2.1, X.2.2.2.1, by rw [hU]; exact ST.moved hW.alike (X.2.2.2.2.1.kept hS.2.1), X.2.2.2.2.2.warm hW⟩⟩ rfl hn hl.1 rfl (by show 2 * 0 + _ ≤ 8; omega) d ⟨X.2.1.1, X.2.1.2⟩) hS (fun q _ h => h) (fun q h => h) (fun r u t H1 locs1 ht hvm hw hB hz1 hk1 hS1 => kk r u hw H1 locs1 ls (by rw [← ht]; exact hB.1) hB.2 hS1 hl)
theorem j_callVv (X : JX p s m args c cc nL own Ts R ce sl D ad cs A z) {y : MethodName} {ws : List Cond} {rm : Room} {b ci index maxL n : Nat} {q : vw_C} {fs : (Nat → Int32) → List Value} {bytes : ByteArray} {ret : Option FieldType} {As st0 : List Value} {post : Mm → Prop} (hM : KV l D ad cs A z y ws rm (.ref (ad b 0) :: As) μ post) (ho : Obj ad cs b ci fs) (hq : vwCl[ci]? = some q) (cw : CallW R s args own q.1 index y bytes maxL ret ws rm 0 0 n) (hst : As.reverse ++ .ref (ad b 0) :: st = st0) (hn : As.length = n) (hw : (st.map fun v => v.category).sum ≤ 8) (d : decode cc pc = .ok (.invokevirtual index, 3)) (kk : ∀ (μ1 : Mm), post μ1 → J p l e R s m args below meth c ce sl Q nL D ad cs A (pc + 3) lv st μ1) : J p l e R s m args below meth c ce sl Q nL D ad cs A pc lv st0 μ := fun H locs ls hP hT hS hl => by
  subst hst
  obtain ⟨q0, h0, h1⟩ := wl_get (ad := ad) (cs := cs) μ ho.1
  rw [ho.2] at h1
  exact va_callv (va_runV (As := As) (rest := st) X.1 hM cw ⟨WS.blind, va_recv X.2.2.1 hP hq h1, fun U hU hW => ⟨rfl, by rw [hU]; exact hP, hT, va_K.moved hW.alike X.2.2.1, X.2.2.2.1, by rw [hU]; exact ST.moved hW.alike (X.2.2.2.2.1.kept hS.2.1), X.2.2.2.2.2.warm hW⟩⟩ rfl hn hl.1 rfl (by show 2 * 0 + _ ≤ 8; omega) d ⟨X.2.1.1, X.2.1.2⟩) hS (fun q _ h => h) (fun q h => h) (fun u t H1 locs1 ht hvm hw hB hz1 hk1 hS1 => kk u hw H1 locs1 ls (by rw [← ht]; exact hB.1) hB.2 hS1 hl)
theorem j_callSv (X : JX p s m args c cc nL own Ts R ce sl D ad cs A z) {y : MethodName} {ws : List Cond} {rm : Room} {index maxL n : Nat} {bytes : ByteArray} {ret : Option FieldType} {As st0 : List Value} {post : Mm → Prop} (hM : KV l D ad cs A z y ws rm As μ post) (cw : CallB R s args own index y bytes maxL ret ws rm 0 0 n ∧ (Cond.static y).before args s = true) (hst : As.reverse ++ st = st0) (hn : As.length = n) (hw : (st.map fun v => v.category).sum ≤ 8) (d : decode cc pc = .ok (.invokestatic index, 3)) (kk : ∀ (μ1 : Mm), post μ1 → J p l e R s m args below meth c ce sl Q nL D ad cs A (pc + 3) lv st μ1) : J p l e R s m args below meth c ce sl Q nL D ad cs A pc lv st0 μ := fun H locs ls hP hT hS hl => by
  subst hst
  exact va_callv (va_runS (As := As) (rest := st) X.1 hM cw ⟨WS.blind, fun U hU hW => ⟨rfl, by rw [hU]; exact hP, hT, va_K.moved hW.alike X.2.2.1, X.2.2.2.1, by rw [hU]; exact ST.moved hW.alike (X.2.2.2.2.1.kept hS.2.1), X.2.2.2.2.2.warm hW⟩⟩ rfl hn hl.1 rfl (by show 2 * 0 + _ ≤ 8; omega) d ⟨X.2.1.1, X.2.1.2⟩) hS (fun q _ h => h) (fun q h => h) (fun u t H1 locs1 ht hvm hw hB hz1 hk1 hS1 => kk u hw H1 locs1 ls (by rw [← ht]; exact hB.1) hB.2 hS1 hl)
theorem j_callSNv (X : JX p s m args c cc nL own Ts R ce sl D ad cs A z) {y : MethodName} {ws : List Cond} {rm : Room} {index maxL n : Nat} {host : String} {bytes : ByteArray} {ret : Option FieldType} {As st0 : List Value} {post : Mm → Prop} (hM : KV l D ad cs A z y ws rm As μ post) (cw : va_CN R s args own index y host bytes maxL ret ws rm 0 0 n ∧ (Cond.static y).before args s = true ∧ True) (hst : As.reverse ++ st = st0) (hn : As.length = n) (hw : (st.map fun v => v.category).sum ≤ 8) (d : decode cc pc = .ok (.invokestatic index, 3)) (kk : ∀ (μ1 : Mm), post μ1 → J p l e R s m args below meth c ce sl Q nL D ad cs A (pc + 3) lv st μ1) : J p l e R s m args below meth c ce sl Q nL D ad cs A pc lv st0 μ := fun H locs ls hP hT hS hl => by
  subst hst
  exact va_callv (va_runSN (As := As) (rest := st) X.1 hM cw ⟨WS.blind, fun U hU hW => ⟨rfl, by rw [hU]; exact hP, hT, va_K.moved hW.alike X.2.2.1, X.2.2.2.1, by rw [hU]; exact ST.moved hW.alike (X.2.2.2.2.1.kept hS.2.1), X.2.2.2.2.2.warm hW⟩⟩ rfl hn hl.1 rfl (by show 2 * 0 + _ ≤ 8; omega) d ⟨X.2.1.1, X.2.1.2⟩) hS (fun q _ h => h) (fun q h => h) (fun u t H1 locs1 ht hvm hw hB hz1 hk1 hS1 => kk u hw H1 locs1 ls (by rw [← ht]; exact hB.1) hB.2 hS1 hl)
theorem j_iret {post : Int32 → Mm → Prop} (X : JX p s m args c cc nL own Ts R ce sl D ad cs A z) (hr : meth.sig.returnType = some .int) (hlocks : meth.locks = false) {v : Int32} (hp : post v μ) (d : decode cc pc = .ok (.ireturn, 1)) : J p l e R s m args below meth c ce sl (MQ below (va_Qi post (QS D ad cs) A) args s ce sl A) nL D ad cs A pc lv [.int v] μ := fun H locs ls hP hT hS hl => W.iret X.1.1 X.1.2.1 hr (fun t ht hW => ⟨⟨v, μ, rfl, hp, by rw [ht]; exact hP, hT⟩, hS.F ht⟩) hS.2.2 d
theorem j_zret {post : Int32 → Mm → Prop} (X : JX p s m args c cc nL own Ts R ce sl D ad cs A z) (hr : meth.sig.returnType = some .boolean) (hlocks : meth.locks = false) {v : Int32} (hv : isBo v) (hp : post v μ) (d : decode cc pc = .ok (.ireturn, 1)) : J p l e R s m args below meth c ce sl (MQ below (va_Qi post (QS D ad cs) A) args s ce sl A) nL D ad cs A pc lv [.int v] μ := fun H locs ls hP hT hS hl => W.zret X.1.1 X.1.2.1 hr (by rcases hv with rfl | rfl <;> rfl) (fun t ht hW => ⟨⟨v, μ, rfl, hp, by rw [ht]; exact hP, hT⟩, hS.F ht⟩) hS.2.2 d
theorem j_vret {post : Mm → Prop} (X : JX p s m args c cc nL own Ts R ce sl D ad cs A z) (hr : meth.sig.returnType = none) (hlocks : meth.locks = false) (hp : post μ) (d : decode cc pc = .ok (.return_, 1)) : J p l e R s m args below meth c ce sl (MQ below (va_Qv post (QS D ad cs) A) args s ce sl A) nL D ad cs A pc lv [] μ := fun H locs ls hP hT hS hl => W.vret X.1.1 X.1.2.1 hr (fun t ht hW => ⟨⟨μ, rfl, hp, by rw [ht]; exact hP, hT⟩, hS.F ht⟩) hS.2.2 d
theorem j_eq {μ1 : Mm} (h : μ = μ1) (kk : J p l e R s m args below meth c ce sl Q nL D ad cs A pc lv st μ1) : J p l e R s m args below meth c ce sl Q nL D ad cs A pc lv st μ := h ▸ kk
theorem j_nm {b : Nat} {V : Nat → Nat → Int32} (kk : ∀ W : Nat → Nat → Int32, W = V → J p l e R s m args below meth c ce sl Q nL D ad cs A pc lv st (mb μ b W)) : J p l e R s m args below meth c ce sl Q nL D ad cs A pc lv st (mb μ b V) := kk V rfl
theorem j_ng (kk : ∀ W : Mm, W = μ → J p l e R s m args below meth c ce sl Q nL D ad cs A pc lv st W) : J p l e R s m args below meth c ce sl Q nL D ad cs A pc lv st μ := kk μ rfl
theorem j_lv {lv1 : List (Nat × Value)} (ks : List Nat) (h : lv_pick lv ks = lv1) (kk : J p l e R s m args below meth c ce sl Q nL D ad cs A pc lv1 st μ) : J p l e R s m args below meth c ce sl Q nL D ad cs A pc lv st μ := fun H locs ls hP hT hS hl => kk H locs ls hP hT hS (lv_sub hl ks h)
end JROWS

theorem KI_of {l : Launch} {D : va_G} {ad : Nat → Nat → Nat} {cs : Nat → ClassId} {A : Nat → Prop} {z : Nat → Nat} {y : MethodName} {ws ws' : List Cond} {rm : Room} {as : List Value} {μ : Mm} {post : Int32 → Mm → Prop} {cc : ByteArray} {maxL : Nat} {ret : Option FieldType} (hy : plainName y.cls = true) (hw : ws = Cond.code y cc maxL ret :: ws') (hn : (lg_sl as).length ≤ maxL)
  (body : ∀ (p : Program) (e : Env) (s : State) (m : MethodId) (args : Array Value) (below : List Frame) (meth : Method) (c : Code), meth.sig.returnType = ret → meth.locks = false → JX p s m args c cc maxL y.cls ws rm 0 0 D ad cs A z → J p l e rm s m args below meth c 0 0 (MQ below (va_Qi post (QS D ad cs) A) args s 0 0 A) maxL D ad cs A 0 (lv_args 0 as) [] μ) : KI l D ad cs A z y ws rm as μ post := by
  refine Met.ofW (cc := cc) (maxL := maxL) (ret := ret) hy hw ?_
  intro p e s m args below meth c s₁ B hml hv
  obtain ⟨rfl, hP, hT, hK, hAD, hST, hNW⟩ := hv
  have hl := lv_entry as (n := maxL) hn
  rw [lg_entry_eq]
  exact body p e s m as.toArray below meth c B.returns B.notSynchronized ⟨⟨B.exec, B.bytes, hml, findClass_of_methodNamed B.named, atoms_spec (ws := ws) B.pre⟩, ⟨Nat.zero_le _, Nat.zero_le _⟩, hK, hAD, hST, hNW⟩ s.heap [] _ hP hT va_S.rf hl
theorem KV_of {l : Launch} {D : va_G} {ad : Nat → Nat → Nat} {cs : Nat → ClassId} {A : Nat → Prop} {z : Nat → Nat} {y : MethodName} {ws ws' : List Cond} {rm : Room} {as : List Value} {μ : Mm} {post : Mm → Prop} {cc : ByteArray} {maxL : Nat} {ret : Option FieldType} (hy : plainName y.cls = true) (hw : ws = Cond.code y cc maxL ret :: ws') (hn : (lg_sl as).length ≤ maxL)
  (body : ∀ (p : Program) (e : Env) (s : State) (m : MethodId) (args : Array Value) (below : List Frame) (meth : Method) (c : Code), meth.sig.returnType = ret → meth.locks = false → JX p s m args c cc maxL y.cls ws rm 0 0 D ad cs A z → J p l e rm s m args below meth c 0 0 (MQ below (va_Qv post (QS D ad cs) A) args s 0 0 A) maxL D ad cs A 0 (lv_args 0 as) [] μ) : KV l D ad cs A z y ws rm as μ post := by
  refine Met.ofW (cc := cc) (maxL := maxL) (ret := ret) hy hw ?_
  intro p e s m args below meth c s₁ B hml hv
  obtain ⟨rfl, hP, hT, hK, hAD, hST, hNW⟩ := hv
  have hl := lv_entry as (n := maxL) hn
  rw [lg_entry_eq]
  exact body p e s m as.toArray below meth c B.returns B.notSynchronized ⟨⟨B.exec, B.bytes, hml, findClass_of_methodNamed B.named, atoms_spec (ws := ws) B.pre⟩, ⟨Nat.zero_le _, Nat.zero_le _⟩, hK, hAD, hST, hNW⟩ s.heap [] _ hP hT va_S.rf hl
abbrev rm (f n : Nat) : Room := { frames := f, cells := 0, slots := 0, locals := n }
theorem jl1 {A1 : Type} {G : Nat → List (Nat × Value) → List Value → Mm → Prop} {pc : Nat} {st : List Value} (lvf : A1 → List (Nat × Value)) (μf : A1 → Mm) (I : A1 → Prop) (ms : A1 → Nat) (hs : ∀ (a1 : A1), I a1 → (∀ (b1 : A1), I b1 → ms b1 < ms a1 → G pc (lvf b1) st (μf b1)) → G pc (lvf a1) st (μf a1)) (a1 : A1) (h : I a1) : G pc (lvf a1) st (μf a1) := by
  generalize hn : ms a1 = n
  induction n using Nat.strongRecOn generalizing a1 with
  | ind n ih => exact hs a1 h (fun b1 hb hm => ih (ms b1) (by omega) b1 hb rfl)
theorem jl2 {A1 A2 : Type} {G : Nat → List (Nat × Value) → List Value → Mm → Prop} {pc : Nat} {st : List Value} (lvf : A1 → A2 → List (Nat × Value)) (μf : A1 → A2 → Mm) (I : A1 → A2 → Prop) (ms : A1 → A2 → Nat) (hs : ∀ (a1 : A1) (a2 : A2), I a1 a2 → (∀ (b1 : A1) (b2 : A2), I b1 b2 → ms b1 b2 < ms a1 a2 → G pc (lvf b1 b2) st (μf b1 b2)) → G pc (lvf a1 a2) st (μf a1 a2)) (a1 : A1) (a2 : A2) (h : I a1 a2) : G pc (lvf a1 a2) st (μf a1 a2) := by
  generalize hn : ms a1 a2 = n
  induction n using Nat.strongRecOn generalizing a1 a2 with
  | ind n ih => exact hs a1 a2 h (fun b1 b2 hb hm => ih (ms b1 b2) (by omega) b1 b2 hb rfl)
theorem jl3 {A1 A2 A3 : Type} {G : Nat → List (Nat × Value) → List Value → Mm → Prop} {pc : Nat} {st : List Value} (lvf : A1 → A2 → A3 → List (Nat × Value)) (μf : A1 → A2 → A3 → Mm) (I : A1 → A2 → A3 → Prop) (ms : A1 → A2 → A3 → Nat) (hs : ∀ (a1 : A1) (a2 : A2) (a3 : A3), I a1 a2 a3 → (∀ (b1 : A1) (b2 : A2) (b3 : A3), I b1 b2 b3 → ms b1 b2 b3 < ms a1 a2 a3 → G pc (lvf b1 b2 b3) st (μf b1 b2 b3)) → G pc (lvf a1 a2 a3) st (μf a1 a2 a3)) (a1 : A1) (a2 : A2) (a3 : A3) (h : I a1 a2 a3) : G pc (lvf a1 a2 a3) st (μf a1 a2 a3) := by
  generalize hn : ms a1 a2 a3 = n
  induction n using Nat.strongRecOn generalizing a1 a2 a3 with
  | ind n ih => exact hs a1 a2 a3 h (fun b1 b2 b3 hb hm => ih (ms b1 b2 b3) (by omega) b1 b2 b3 hb rfl)
theorem jl4 {A1 A2 A3 A4 : Type} {G : Nat → List (Nat × Value) → List Value → Mm → Prop} {pc : Nat} {st : List Value} (lvf : A1 → A2 → A3 → A4 → List (Nat × Value)) (μf : A1 → A2 → A3 → A4 → Mm) (I : A1 → A2 → A3 → A4 → Prop) (ms : A1 → A2 → A3 → A4 → Nat) (hs : ∀ (a1 : A1) (a2 : A2) (a3 : A3) (a4 : A4), I a1 a2 a3 a4 → (∀ (b1 : A1) (b2 : A2) (b3 : A3) (b4 : A4), I b1 b2 b3 b4 → ms b1 b2 b3 b4 < ms a1 a2 a3 a4 → G pc (lvf b1 b2 b3 b4) st (μf b1 b2 b3 b4)) → G pc (lvf a1 a2 a3 a4) st (μf a1 a2 a3 a4)) (a1 : A1) (a2 : A2) (a3 : A3) (a4 : A4) (h : I a1 a2 a3 a4) : G pc (lvf a1 a2 a3 a4) st (μf a1 a2 a3 a4) := by
  generalize hn : ms a1 a2 a3 a4 = n
  induction n using Nat.strongRecOn generalizing a1 a2 a3 a4 with
  | ind n ih => exact hs a1 a2 a3 a4 h (fun b1 b2 b3 b4 hb hm => ih (ms b1 b2 b3 b4) (by omega) b1 b2 b3 b4 hb rfl)
theorem jl5 {A1 A2 A3 A4 A5 : Type} {G : Nat → List (Nat × Value) → List Value → Mm → Prop} {pc : Nat} {st : List Value} (lvf : A1 → A2 → A3 → A4 → A5 → List (Nat × Value)) (μf : A1 → A2 → A3 → A4 → A5 → Mm) (I : A1 → A2 → A3 → A4 → A5 → Prop) (ms : A1 → A2 → A3 → A4 → A5 → Nat) (hs : ∀ (a1 : A1) (a2 : A2) (a3 : A3) (a4 : A4) (a5 : A5), I a1 a2 a3 a4 a5 → (∀ (b1 : A1) (b2 : A2) (b3 : A3) (b4 : A4) (b5 : A5), I b1 b2 b3 b4 b5 → ms b1 b2 b3 b4 b5 < ms a1 a2 a3 a4 a5 → G pc (lvf b1 b2 b3 b4 b5) st (μf b1 b2 b3 b4 b5)) → G pc (lvf a1 a2 a3 a4 a5) st (μf a1 a2 a3 a4 a5)) (a1 : A1) (a2 : A2) (a3 : A3) (a4 : A4) (a5 : A5) (h : I a1 a2 a3 a4 a5) : G pc (lvf a1 a2 a3 a4 a5) st (μf a1 a2 a3 a4 a5) := by
  generalize hn : ms a1 a2 a3 a4 a5 = n
  induction n using Nat.strongRecOn generalizing a1 a2 a3 a4 a5 with
  | ind n ih => exact hs a1 a2 a3 a4 a5 h (fun b1 b2 b3 b4 b5 hb hm => ih (ms b1 b2 b3 b4 b5) (by omega) b1 b2 b3 b4 b5 hb rfl)
theorem jl6 {A1 A2 A3 A4 A5 A6 : Type} {G : Nat → List (Nat × Value) → List Value → Mm → Prop} {pc : Nat} {st : List Value} (lvf : A1 → A2 → A3 → A4 → A5 → A6 → List (Nat × Value)) (μf : A1 → A2 → A3 → A4 → A5 → A6 → Mm) (I : A1 → A2 → A3 → A4 → A5 → A6 → Prop) (ms : A1 → A2 → A3 → A4 → A5 → A6 → Nat) (hs : ∀ (a1 : A1) (a2 : A2) (a3 : A3) (a4 : A4) (a5 : A5) (a6 : A6), I a1 a2 a3 a4 a5 a6 → (∀ (b1 : A1) (b2 : A2) (b3 : A3) (b4 : A4) (b5 : A5) (b6 : A6), I b1 b2 b3 b4 b5 b6 → ms b1 b2 b3 b4 b5 b6 < ms a1 a2 a3 a4 a5 a6 → G pc (lvf b1 b2 b3 b4 b5 b6) st (μf b1 b2 b3 b4 b5 b6)) → G pc (lvf a1 a2 a3 a4 a5 a6) st (μf a1 a2 a3 a4 a5 a6)) (a1 : A1) (a2 : A2) (a3 : A3) (a4 : A4) (a5 : A5) (a6 : A6) (h : I a1 a2 a3 a4 a5 a6) : G pc (lvf a1 a2 a3 a4 a5 a6) st (μf a1 a2 a3 a4 a5 a6) := by
  generalize hn : ms a1 a2 a3 a4 a5 a6 = n
  induction n using Nat.strongRecOn generalizing a1 a2 a3 a4 a5 a6 with
  | ind n ih => exact hs a1 a2 a3 a4 a5 a6 h (fun b1 b2 b3 b4 b5 b6 hb hm => ih (ms b1 b2 b3 b4 b5 b6) (by omega) b1 b2 b3 b4 b5 b6 hb rfl)
end
section
/-! WHAT THE METHODS COMPUTE, of a court's memory V (V k j: place j of the array in field k - 1; V 0 f: the int in field f) -/
abbrev CV : Type := Nat → Nat → Int32
/-- a boolean answer -/
def bP (r : Int32) (P : Prop) : Prop := (r = 1 ∧ P) ∨ (r = 0 ∧ ¬ P)
theorem bP.y {P : Prop} (h : P) : bP 1 P := Or.inl ⟨rfl, h⟩
theorem bP.n {P : Prop} (h : ¬ P) : bP 0 P := Or.inr ⟨rfl, h⟩
theorem bP.yn {P : Prop} (h : P) : bP (nI 1) P := Or.inl ⟨rfl, h⟩
theorem bP.nn {P : Prop} (h : ¬ P) : bP (nI 0) P := Or.inr ⟨rfl, h⟩
theorem bP.t {r : Int32} {P : Prop} (h : bP r P) (hr : ¬ r = 0) : P := h.elim (fun q => q.2) (fun q => absurd q.1 hr)
theorem bP.f {r : Int32} {P : Prop} (h : bP r P) (hr : r = 0) : ¬ P := h.elim (fun q => by rw [q.1] at hr; exact absurd hr (by decide)) (fun q => q.2)
theorem bP.bo {r : Int32} {P : Prop} (h : bP r P) : isBo r := h.elim (fun q => Or.inr q.1) (fun q => Or.inl q.1)
theorem bP.iff {r : Int32} {P R : Prop} (h : bP r P) (e : P ↔ R) : bP r R := h.elim (fun q => Or.inl ⟨q.1, e.mp q.2⟩) (fun q => Or.inr ⟨q.1, fun z => q.2 (e.mpr z)⟩)
theorem bP.nt {r : Int32} {P : Prop} (h : bP r P) (hr : r ≠ 0) : P := h.t hr
theorem bP.nf {r : Int32} {P : Prop} (h : bP r P) (hr : ¬ r ≠ 0) : ¬ P := h.f (Classical.not_not.mp hr)
/-! numbers and bits -/
theorem ixx {x : Int32} {n : Nat} (h0 : ¬ x < 0) (h1 : ¬ nI n ≤ x) (hn : n < 2 ^ 31) : x = nI x.toNatClampNeg ∧ x.toNatClampNeg < n := by
  rcases pk_ix x hn with h | h | ⟨j, hj, rfl⟩
  · exact absurd h h0
  · exact absurd h h1
  · rw [nI_clamp (Nat.lt_trans hj hn)]
    exact ⟨rfl, hj⟩
def bt (x : Int32) (i : Nat) : Bool := x.toBitVec.getLsbD i
theorem b_or (x y : Int32) (i : Nat) : bt (x ||| y) i = (bt x i || bt y i) := by unfold bt; rw [Int32.toBitVec_or, BitVec.getLsbD_or]
theorem b_and (x y : Int32) (i : Nat) : bt (x &&& y) i = (bt x i && bt y i) := by unfold bt; rw [Int32.toBitVec_and, BitVec.getLsbD_and]
theorem b_ext {x y : Int32} (h : ∀ i, i < 32 → bt x i = bt y i) : x = y := Int32.toBitVec_inj.mp (BitVec.eq_of_getLsbD_eq (fun i hi => h i hi))
theorem b_0 (i : Nat) : bt 0 i = false := BitVec.getLsbD_zero
theorem b_n0 (i : Nat) : bt (nI 0) i = false := BitVec.getLsbD_zero
theorem sh_tw : ∀ l, l < 32 → ((nI 1) <<< (nI l &&& 31)).toBitVec = BitVec.twoPow 32 l := by decide +kernel
theorem b_tw (c d : Nat) (hc : c < 32) : bt ((nI 1) <<< (nI c &&& 31)) d = decide (d = c) := by
  unfold bt
  rw [sh_tw c hc, BitVec.getLsbD_twoPow]
  by_cases h : d = c
  · subst h; simp [hc]
  · have : ¬ c = d := fun q => h q.symm
    simp [h, this]
theorem b_in (x : Int32) (c : Nat) (hc : c < 32) : (x &&& ((nI 1) <<< (nI c &&& 31))) = 0 ↔ bt x c = false := by
  constructor
  · intro h
    have h1 := b_and x ((nI 1) <<< (nI c &&& 31)) c
    rw [h, b_0, b_tw c c hc] at h1
    simpa using h1.symm
  · intro h
    apply b_ext
    intro i hi
    rw [b_and, b_tw c i hc, b_0]
    by_cases hic : i = c
    · subst hic; simp [h]
    · simp [hic]
/-- how many of the first k corners bear x -/
def nb (V : CV) (x : Int32) : Nat → Nat
  | 0 => 0
  | k + 1 => if V 10 k = x then nb V x k + 1 else nb V x k
theorem nb_le (V : CV) (x : Int32) : ∀ k, nb V x k ≤ k
  | 0 => Nat.le_refl _
  | k + 1 => by
    have := nb_le V x k
    rw [nb]
    split <;> omega
/-- the first k corners that bear x, as a mask -/
def bm (V : CV) (x : Int32) : Nat → Int32
  | 0 => 0
  | k + 1 => if V 10 k = x then bm V x k ||| ((nI 1) <<< (nI k &&& 31)) else bm V x k
abbrev hasN (V : CV) (x : Int32) : Prop := 0 ≤ x ∧ x < V 0 2 ∧ x < 20
theorem hasN.ix {V : CV} {x : Int32} (h : hasN V x) : x = nI x.toNatClampNeg ∧ x.toNatClampNeg < 20 := ixx (by simpa using h.1) (by have := h.2.2; show ¬ (20 : Int32) ≤ x; simpa using this) (by decide)
/-- 0 waiting, 1 borne, 2 withdrawn -/
def wh (V : CV) (n : Nat) : Int32 := if V 8 n = 0 then (if 0 < nb V (nI n) 12 then 1 else 0) else 2
/-- i stands before n in the queue, by honour and number -/
abbrev befS (V : CV) (i n : Nat) : Prop := V 7 n < V 7 i ∨ (V 7 i = V 7 n ∧ i < n)
def plc (V : CV) (n : Nat) : Nat → Nat
  | 0 => 0
  | k + 1 => if befS V k n ∧ wh V k = 0 then plc V n k + 1 else plc V n k
def wtn (V : CV) : Nat → Nat
  | 0 => 0
  | k + 1 => if wh V k = 0 then wtn V k + 1 else wtn V k
abbrev punS (V : CV) (x y : Int32) : Prop := x ≠ y ∧ hasN V x ∧ hasN V y ∧ V 6 x.toNatClampNeg = V 6 y.toNatClampNeg
def pq (V : CV) (i : Nat) : Nat → Nat
  | 0 => 0
  | d + 1 => if i < d ∧ punS V (V 10 i) (V 10 d) then pq V i d + 1 else pq V i d
def pp (V : CV) : Nat → Nat
  | 0 => 0
  | i + 1 => pp V i + pq V i 12
theorem pq_0 (V : CV) (i : Nat) : ∀ d, d ≤ i + 1 → pq V i d = 0
  | 0, _ => rfl
  | d + 1, h => by rw [pq, if_neg (fun q => absurd q.1 (by omega)), pq_0 V i d (by omega)]
/-- a corner at most a away, another one -/
abbrev nearC (a c d : Nat) : Prop := c ≠ d ∧ c ≤ d + a ∧ d ≤ c + a
/-- some of the first k corners is near c and bears a pun on n -/
def nearB (V : CV) (a n c : Nat) : Nat → Bool
  | 0 => false
  | k + 1 => nearB V a n c k || decide (punS V (nI n) (V 10 k) ∧ nearC a c k)
/-- why n is refused for c, with k bearers, q: a pun near -/
def rsnq (V : CV) (n c k : Nat) (q : Bool) : Int32 :=
  if V 8 n ≠ 0 then 1 else if V 10 c = nI n then 2 else if ¬ nI k < V 1 1 then 3 else if q = true then 4 else if hasN V (V 10 c) ∧ V 7 n < V 7 (V 10 c).toNatClampNeg then 5 else if hasN V (V 10 c) ∧ V 0 1 - V 13 c < V 1 3 then 6 else 0
def rsn (V : CV) (a n c : Nat) : Int32 := rsnq V n c (nb V (nI n) 12) (nearB V a n c 12)
/-- the first of k places where f is 0, else k -/
def lw (f : Nat → Int32) : Nat → Nat
  | 0 => 0
  | k + 1 => if lw f k < k then lw f k else if f k = 0 then k else k + 1
theorem lw_hit {f : Nat → Int32} {i : Nat} (h : lw f i = i) (h0 : f i = 0) : ∀ n, i < n → lw f n = i
  | 0, q => absurd q (Nat.not_lt_zero _)
  | n + 1, q => by
    rcases Nat.lt_or_ge i n with r | r
    · have := lw_hit h h0 n r
      rw [lw, if_pos (by omega), this]
    · have e : n = i := by omega
      subst e
      rw [lw, if_neg (by omega), if_pos h0]
theorem lw_go {f : Nat → Int32} {i : Nat} (h : lw f i = i) (h0 : f i ≠ 0) : lw f (i + 1) = i + 1 := by rw [lw, if_neg (by omega), if_neg h0]
def low (f : Nat → Int32) : Int32 := if lw f 12 < 12 then nI (lw f 12) else -6
/-- a sum of the first k numbers of a row -/
def sm (f : Nat → Int32) : Nat → Int32
  | 0 => 0
  | k + 1 => sm f k + f k
/-- the sign of a letter's code -/
def sgn (x : Int32) : Int32 := if ¬ (x - nI 97 < 0) ∧ ¬ (nI 26 ≤ x - nI 97) then sg (x - nI 97).toNatClampNeg else 0
/-- the sign at a letter of a name -/
def sga (V : CV) (n i : Nat) : Int32 := sgn (V 4 (n * 9 + i))
/-- the last sign, and the sound, of the first k letters, by their signs -/
def sdP (g : Nat → Int32) : Nat → Int32
  | 0 => 0
  | k + 1 => if g k = 0 then sdP g k else g k
abbrev hrd (g : Nat → Int32) (k : Nat) : Prop := g k ≠ 0 ∧ g k ≠ sdP g k ∧ (g k ≠ nI 7 ∨ sdP g k = 0)
def sdS (g : Nat → Int32) : Nat → Int32
  | 0 => 0
  | k + 1 => if hrd g k then sdS g k * nI 10 + g k else sdS g k
theorem sdP_pred {g : Nat → Int32} {j : Nat} (h : 1 ≤ j) : sdP g j = if g (j - 1) = 0 then sdP g (j - 1) else g (j - 1) := by
  obtain ⟨i, rfl⟩ : ∃ i, j = i + 1 := ⟨j - 1, by omega⟩
  rfl
/-- the heard signs of the first k letters -/
def hls (g : Nat → Int32) : Nat → List Int32
  | 0 => []
  | k + 1 => if hrd g k then hls g k ++ [g k] else hls g k
theorem hls_len (g : Nat → Int32) : ∀ k, (hls g k).length ≤ k
  | 0 => Nat.le_refl _
  | k + 1 => by
    have := hls_len g k
    rw [hls]
    split
    · rw [List.length_append]; simp; omega
    · omega
theorem hls_skip {g : Nat → Int32} {i : Nat} : ∀ k, i ≤ k → (∀ t, i ≤ t → t < k → ¬ hrd g t) → hls g k = hls g i
  | 0, h, _ => by rw [show i = 0 by omega]
  | k + 1, h, hn => by
    rcases Nat.lt_or_ge k i with q | q
    · rw [show i = k + 1 by omega]
    · rw [hls, if_neg (hn k q (by omega)), hls_skip k q (fun t h1 h2 => hn t h1 (by omega))]
theorem hls_pre {g : Nat → Int32} {i : Nat} : ∀ k, i ≤ k → ∃ l, hls g k = hls g i ++ l
  | 0, h => ⟨[], by rw [show i = 0 by omega, List.append_nil]⟩
  | k + 1, h => by
    rcases Nat.lt_or_ge k i with q | q
    · exact ⟨[], by rw [show i = k + 1 by omega, List.append_nil]⟩
    · obtain ⟨l, hl⟩ := hls_pre k q
      rw [hls]
      split
      · exact ⟨l ++ [g k], by rw [hl, List.append_assoc]⟩
      · exact ⟨l, hl⟩
theorem hls_at {g : Nat → Int32} {i k : Nat} (h : i < k) (hh : hrd g i) : ∃ l, hls g k = hls g i ++ (g i :: l) := by
  obtain ⟨l, hl⟩ := hls_pre (g := g) (i := i + 1) k h
  exact ⟨l, by rw [hl, hls, if_pos hh, List.append_assoc]; rfl⟩
theorem mx_sub {a c : Nat} (ha : a < 2 ^ 30) (hc : c < 2 ^ 30) : (if nI 0 < nI c - nI a then nI c - nI a else nI 0) = nI (c - a) := by
  rcases Nat.lt_or_ge a c with h | h
  · rw [pk_sub (Nat.le_of_lt h), if_pos (nI_lt (by omega) (by omega))]
  · rw [if_neg, show c - a = 0 by omega]
    rcases Nat.lt_or_ge c a with q | q
    · intro z
      have := pk_sneg ha q
      exact absurd z (Int32.not_lt.mpr (Int32.le_of_lt this))
    · rw [show a = c by omega, pk_sub (Nat.le_refl _), Nat.sub_self]
      exact nI_nlt (Nat.le_refl _) (by omega)
theorem mn_add {x : Nat} (hx : x < 2 ^ 30) : (if nI x < nI 11 then nI x else nI 11) = nI (min 11 x) := by
  rcases Nat.lt_or_ge x 11 with h | h
  · rw [if_pos (nI_lt h (by omega)), Nat.min_eq_right (by omega)]
  · rw [if_neg (nI_nlt h (by omega)), Nat.min_eq_left h]
theorem sub1_t {j : Nat} (hj : j < 2 ^ 30) (h : nI j - nI 1 < 0) : j = 0 := by
  rcases Nat.eq_zero_or_pos j with q | q
  · exact q
  · rw [pk_sub (show 1 ≤ j by omega)] at h
    exact absurd h (nI_pos (by omega))
theorem sub1_f {j : Nat} (h : ¬ nI j - nI 1 < 0) : 1 ≤ j := by
  rcases Nat.eq_zero_or_pos j with q | q
  · subst q
    exact absurd (pk_sneg (a := 0) (b := 1) (by decide) (by decide)) h
  · exact q
theorem hls_ne {g g' : Nat → Int32} {i j L1 L2 : Nat} (hll : hls g i = hls g' j) (hx : (i < L1 ∧ j = L2) ∨ (j < L2 ∧ i = L1)) (hhi : i < L1 → hrd g i) (hhj : j < L2 → hrd g' j) : ¬ hls g L1 = hls g' L2 := by
  intro q
  rcases hx with ⟨h, e⟩ | ⟨h, e⟩
  · obtain ⟨u, hu⟩ := hls_at (k := L1) h (hhi h)
    rw [hu, ← e, hll] at q
    exact absurd (congrArg List.length q) (by simp)
  · obtain ⟨u, hu⟩ := hls_at (k := L2) h (hhj h)
    rw [hu, ← e, hll] at q
    exact absurd (congrArg List.length q) (by simp)
theorem iinc_m1 (x : Int32) : x + Int32.ofInt (-1) = x - nI 1 := by
  rw [Int32.sub_eq_add_neg, show Int32.ofInt (-1) = -nI 1 by decide]
theorem hls_0 (g : Nat → Int32) : hls g 0 = [] := rfl
/-! changes of a court -/
def bump (V : CV) (c : Nat) : CV := us V 11 c (V 11 c + nI 1)
def pa1 (V : CV) (n c : Nat) : CV := us V 10 c (nI n)
def pa2 (V : CV) (c : Nat) : CV := us V 13 c (V 0 1)
def pa3 (V : CV) (c : Nat) : CV := us V 14 c (V 14 c + nI 1)
def pa4 (V : CV) (n : Nat) : CV := us V 9 n (V 9 n + nI 1)
def pa5 (V : CV) (c : Nat) : CV := us V 11 c (V 11 c + nI 2)
def pl5 (V : CV) (n c : Nat) : CV := pa5 (pa4 (pa3 (pa2 (pa1 V n c) c) c) n) c
def upL (V : CV) (c : Nat) : CV := if 0 < c then bump V (c - 1) else V
def upR (V : CV) (c : Nat) : CV := if c < 11 then bump V (c + 1) else V
/-- a name is given to a corner -/
def placeS (V : CV) (n c : Nat) : CV := upR (upL (pl5 V n c) c) c
/-- the first k corners lose the name n -/
def dr (V : CV) (n : Nat) : Nat → CV
  | 0 => V
  | k + 1 => if dr V n k 10 k = nI n then us (dr V n k) 10 k (-6) else dr V n k
/-- the corner that owes the most, of the first k -/
def mo (V : CV) : Nat → Nat
  | 0 => 0
  | k + 1 => if V 11 (mo V k) < V 11 k then k else mo V k
theorem mo_lt (V : CV) : ∀ k, mo V k ≤ k - 1
  | 0 => Nat.le_refl _
  | k + 1 => by
    have := mo_lt V k
    rw [mo]
    split <;> omega
theorem mo_1 (V : CV) : mo V 1 = 0 := by rw [mo]; split <;> rfl
def pst (V : CV) (m : Nat) : CV := us (us V 11 m (V 11 m - nI 1)) 12 m ((us V 11 m (V 11 m - nI 1)) 12 m + nI 1)
def up1 (V : CV) : CV := if 0 < V 11 (mo V 12) then pst V (mo V 12) else V
def su (V : CV) : Nat → CV
  | 0 => V
  | k + 1 => up1 (su V k)
theorem su_fix {V : CV} {i : Nat} (h : up1 (su V i) = su V i) : ∀ k, i ≤ k → su V k = su V i
  | 0, q => by rw [show i = 0 by omega]
  | k + 1, q => by
    rcases Nat.lt_or_ge k i with r | r
    · rw [show i = k + 1 by omega]
    · rw [su, su_fix h k r, h]
theorem up1_row {V : CV} {r : Nat} (h1 : r ≠ 11) (h2 : r ≠ 12) : up1 V r = V r := by
  rw [up1]
  split
  · rw [pst, us_n h2, us_n h1]
  · rfl
theorem su_row {V : CV} {r : Nat} (h1 : r ≠ 11) (h2 : r ≠ 12) : ∀ k, su V k r = V r
  | 0 => rfl
  | k + 1 => by rw [su, up1_row h1 h2, su_row h1 h2 k]
theorem bump_row {V : CV} {c r : Nat} (h : r ≠ 11) : bump V c r = V r := us_n h
theorem upL_row {V : CV} {c r : Nat} (h : r ≠ 11) : upL V c r = V r := by
  rw [upL]; split
  · exact bump_row h
  · rfl
theorem upR_row {V : CV} {c r : Nat} (h : r ≠ 11) : upR V c r = V r := by
  rw [upR]; split
  · exact bump_row h
  · rfl
theorem place_row {V : CV} {n c r : Nat} (h1 : r ≠ 10) (h2 : r ≠ 13) (h3 : r ≠ 14) (h4 : r ≠ 9) (h5 : r ≠ 11) : placeS V n c r = V r := by
  rw [placeS, upR_row h5, upL_row h5, pl5, pa5, us_n h5, pa4, us_n h4, pa3, us_n h3, pa2, us_n h2, pa1, us_n h1]
/-- a name that waits and has a corner -/
abbrev cnd (V : CV) (a N n : Nat) : Prop := n < N ∧ wh V n = 0 ∧ low (rsn V a n) ≠ -6
/-- the name that is given next among the first k, 20: none -/
def pkN (V : CV) (a : Nat) : Nat → Nat
  | 0 => 20
  | k + 1 => if wh V k = 0 ∧ (pkN V a k = 20 ∨ befS V k (pkN V a k)) ∧ low (rsn V a k) ≠ -6 then k else pkN V a k
theorem low_c {f : Nat → Int32} (h : low f ≠ -6) : low f = nI (lw f 12) ∧ lw f 12 < 12 := by
  by_cases q : lw f 12 < 12
  · exact ⟨by rw [low, if_pos q], q⟩
  · exact absurd (by rw [low, if_neg q]) h
theorem lw_le (f : Nat → Int32) : ∀ k, lw f k ≤ k
  | 0 => Nat.le_refl _
  | k + 1 => by
    have := lw_le f k
    rw [lw]; split
    · omega
    · split <;> omega
theorem bef_tot (V : CV) {m n : Nat} (h : m ≠ n) : befS V m n ∨ befS V n m := by
  by_cases q : V 7 n < V 7 m
  · exact Or.inl (Or.inl q)
  · by_cases q2 : V 7 m < V 7 n
    · exact Or.inr (Or.inl q2)
    · have e : V 7 m = V 7 n := Int32.le_antisymm (Int32.not_lt.mp q) (Int32.not_lt.mp q2)
      rcases Nat.lt_or_gt_of_ne h with z | z
      · exact Or.inl (Or.inr ⟨e, z⟩)
      · exact Or.inr (Or.inr ⟨e.symm, z⟩)
theorem bef_trans (V : CV) {m n q : Nat} (h1 : befS V m n) (h2 : befS V n q) : befS V m q := by
  rcases h1 with h1 | ⟨e1, l1⟩ <;> rcases h2 with h2 | ⟨e2, l2⟩
  · exact Or.inl (Int32.lt_trans h2 h1)
  · exact Or.inl (by rw [← e2]; exact h1)
  · exact Or.inl (by rw [e1]; exact h2)
  · exact Or.inr ⟨e1.trans e2, by omega⟩
theorem bef_asym (V : CV) {m n : Nat} (h1 : befS V m n) (h2 : befS V n m) : False := by
  rcases h1 with h1 | ⟨e1, l1⟩ <;> rcases h2 with h2 | ⟨e2, l2⟩
  · exact Int32.lt_asymm h1 h2
  · rw [e2] at h1; exact Int32.lt_irrefl h1
  · rw [e1] at h2; exact Int32.lt_irrefl h2
  · omega
/-- what pkN finds -/
theorem pkN_is (V : CV) (a : Nat) : ∀ k, k ≤ 20 → (pkN V a k = 20 ∧ ∀ n, ¬ cnd V a k n) ∨ (cnd V a k (pkN V a k) ∧ ∀ m, cnd V a k m → ¬ befS V m (pkN V a k))
  | 0, _ => Or.inl ⟨rfl, fun n h => absurd h.1 (Nat.not_lt_zero _)⟩
  | k + 1, hk => by
    have ih := pkN_is V a k (by omega)
    rw [pkN]
    by_cases h : wh V k = 0 ∧ (pkN V a k = 20 ∨ befS V k (pkN V a k)) ∧ low (rsn V a k) ≠ -6
    · rw [if_pos h]
      refine Or.inr ⟨⟨Nat.lt_succ_self k, h.1, h.2.2⟩, fun m hm hb => ?_⟩
      rcases Nat.lt_or_ge m k with q | q
      · rcases ih with ⟨e, hn⟩ | ⟨hc, hn⟩
        · exact hn m ⟨q, hm.2⟩
        · rcases h.2.1 with e | e
          · have := hc.1; omega
          · exact hn m ⟨q, hm.2⟩ (bef_trans V hb e)
      · have e : m = k := by have := hm.1; omega
        subst e
        exact bef_asym V hb hb
    · rw [if_neg h]
      rcases ih with ⟨e, hn⟩ | ⟨hc, hn⟩
      · refine Or.inl ⟨e, fun n hc => ?_⟩
        rcases Nat.lt_or_ge n k with q | q
        · exact hn n ⟨q, hc.2⟩
        · have e2 : n = k := by have := hc.1; omega
          subst e2
          exact h ⟨hc.2.1, Or.inl e, hc.2.2⟩
      · refine Or.inr ⟨⟨Nat.lt_succ_of_lt hc.1, hc.2⟩, fun m hm hb => ?_⟩
        rcases Nat.lt_or_ge m k with q | q
        · exact hn m ⟨q, hm.2⟩ hb
        · have e2 : m = k := by have := hm.1; omega
          subst e2
          exact h ⟨hm.2.1, Or.inr hb, hm.2.2⟩
theorem pkN_eq {V : CV} {a N n : Nat} (hN : N ≤ 20) (h : cnd V a N n) (hb : ∀ m, cnd V a N m → ¬ befS V m n) : pkN V a N = n := by
  rcases pkN_is V a N hN with ⟨-, q⟩ | ⟨hc, q⟩
  · exact absurd h (q n)
  · by_cases e : pkN V a N = n
    · exact e
    · rcases bef_tot V e with z | z
      · exact absurd z (hb _ hc)
      · exact absurd z (q _ h)
theorem pkN_none {V : CV} {a N : Nat} (hN : N ≤ 20) (h : ∀ n, ¬ cnd V a N n) : pkN V a N = 20 := by
  rcases pkN_is V a N hN with ⟨q, -⟩ | ⟨hc, -⟩
  · exact q
  · exact absurd hc (h _)
/-- a day: a name of the queue is given, posts are set up, the day is counted -/
def gq (V : CV) (a N : Nat) : CV := if pkN V a N = 20 then V else placeS V (pkN V a N) (lw (rsn V a (pkN V a N)) 12)
def gqn (V : CV) (a N : Nat) : Nat := if pkN V a N = 20 then 0 else 1
def day (V : CV) (a N P : Nat) : CV := us (su (gq V a N) P) 0 1 (su (gq V a N) P 0 1 + nI 1)
def days (V : CV) (a N P : Nat) : Nat → CV
  | 0 => V
  | k + 1 => day (days V a N P k) a N P
def dayn (V : CV) (a N P : Nat) : Nat → Nat
  | 0 => 0
  | k + 1 => dayn V a N P k + gqn (days V a N P k) a N
theorem gqn_le (V : CV) (a N : Nat) : gqn V a N ≤ 1 := by rw [gqn]; split <;> omega
theorem dayn_le (V : CV) (a N P : Nat) : ∀ k, dayn V a N P k ≤ k
  | 0 => Nat.le_refl _
  | k + 1 => by
    have h1 := dayn_le V a N P k
    have h2 := gqn_le (days V a N P k) a N
    rw [dayn]; omega
theorem gq_row {V : CV} {a N r : Nat} (h1 : r ≠ 10) (h2 : r ≠ 13) (h3 : r ≠ 14) (h4 : r ≠ 9) (h5 : r ≠ 11) : gq V a N r = V r := by
  rw [gq]; split
  · rfl
  · exact place_row h1 h2 h3 h4 h5
theorem day_row {V : CV} {a N P r : Nat} (h0 : r ≠ 0) (h1 : r ≠ 10) (h2 : r ≠ 13) (h3 : r ≠ 14) (h4 : r ≠ 9) (h5 : r ≠ 11) (h6 : r ≠ 12) : day V a N P r = V r := by
  rw [day, us_n h0, su_row h5 h6, gq_row h1 h2 h3 h4 h5]
theorem day_2 {V : CV} {a N P : Nat} : day V a N P 0 2 = V 0 2 := by
  rw [day, us_i, if_neg (by decide), su_row (by decide) (by decide), gq_row (by decide) (by decide) (by decide) (by decide) (by decide)]
/-- what a day asks of a court -/
def PD (V : CV) (a N P : Nat) : Prop := V 1 0 = nI a ∧ a ≤ 11 ∧ V 0 2 = nI N ∧ N ≤ 20 ∧ V 1 2 = nI P ∧ P ≤ 9 ∧ ∀ n, n < N → ∃ h, h ≤ 9 ∧ V 7 n = nI h
theorem PD.row {V W : CV} {a N P : Nat} (h : PD V a N P) (h1 : W 1 = V 1) (h2 : W 0 2 = V 0 2) (h7 : W 7 = V 7) : PD W a N P := by
  obtain ⟨q1, q2, q3, q4, q5, q6, q7⟩ := h
  exact ⟨by rw [h1]; exact q1, q2, by rw [h2]; exact q3, q4, by rw [h1]; exact q5, q6, fun n hn => by rw [h7]; exact q7 n hn⟩
theorem PD.day {V : CV} {a N P : Nat} (h : PD V a N P) : PD (day V a N P) a N P := h.row (day_row (by decide) (by decide) (by decide) (by decide) (by decide) (by decide) (by decide)) day_2 (day_row (by decide) (by decide) (by decide) (by decide) (by decide) (by decide) (by decide))
theorem PD.days {V : CV} {a N P : Nat} (h : PD V a N P) : ∀ k, PD (days V a N P k) a N P
  | 0 => h
  | k + 1 => (PD.days h k).day
/-- corners at which the map is wrong -/
def wm (V : CV) : Nat → Nat
  | 0 => 0
  | k + 1 => if V 16 k = V 10 k then wm V k else wm V k + 1
def wmS (V : CV) : Int32 := if V 0 14 = 0 then -6 else nI (wm V 12)
def dm (V : CV) : CV := uc (us V 0 14 (nI 1)) 16 (va_cpy (us V 0 14 (nI 1) 10) (us V 0 14 (nI 1) 16) 0 0 12)
end
section
set_option maxHeartbeats 4000000 in
set_option maxRecDepth 100000 in
theorem kX0_hasName (l : Launch) (D : va_G) (ad : Nat → Nat → Nat) (cs : Nat → ClassId) (A : Nat → Prop) (z : Nat → Nat) {b : Nat} (hb : b < 10) (μ : Mm) (V : CV) (x : Int32) : KI l D ad cs A z yX0_hasName wsX0_hasName (rm 0 0) [.ref (ad b 0), .int x] (mb μ b V) (fun r μ1 => bP r (hasN V x) ∧ μ1 = mb μ b V) := by
  refine KI_of (cc := cX0_hasName) (maxL := 2) (ret := (some .boolean)) (by decide) rfl (Nat.le_of_ble_eq_true rfl) ?_
  intro p e s m args below meth c hr hlk X
  show J p l e _ s m args below meth c 0 0 _ 2 D ad cs A 0 [(0, .ref (ad b 0)), (1, .int x)] [] (mb μ b V)
  have hinX0 : ∀ w ∈ wsX00, w ∈ wsX0_hasName := by decide +kernel
  have k53 : (Cond.fieldLink RX0 53 "PunCourts$Court" "names" "I").before args s = true := X.1.2.2.2.2 _ (by decide +kernel)
  refine j_iload_n (q := 1) X dX0_hasName_0 rfl rfl ?_
  refine j_if_lt (tgt := 22) X dX0_hasName_1 (by decide) (fun c1 => ?_) (fun c1 => ?_)
  · skip
    refine j_iconst (v := (nI 0)) X dX0_hasName_22 (by decide) ?_
    exact j_zret X hr hlk (by first | exact Or.inl rfl | exact Or.inr rfl) ⟨bP.nn (fun h => by first | exact absurd c1 (Int32.not_lt.mpr h.1) | exact absurd h.2.1 (Int32.not_lt.mpr c9) | exact absurd h.2.2 (Int32.not_lt.mpr c15)), rfl⟩ dX0_hasName_23
  · skip
    refine j_iload_n (q := 1) X dX0_hasName_4 rfl rfl ?_
    refine j_aload_n (q := 0) X dX0_hasName_5 rfl rfl ?_
    refine j_getCB X (oC hb) hinX0 2 (by decide) rfl k53 dX0_hasName_6 ?_
    refine j_icmp_ge (tgt := 22) X dX0_hasName_9 (by decide) (fun c9 => ?_) (fun c9 => ?_)
    · skip
      refine j_iconst (v := (nI 0)) X dX0_hasName_22 (by decide) ?_
      exact j_zret X hr hlk (by first | exact Or.inl rfl | exact Or.inr rfl) ⟨bP.nn (fun h => by first | exact absurd c1 (Int32.not_lt.mpr h.1) | exact absurd h.2.1 (Int32.not_lt.mpr c9) | exact absurd h.2.2 (Int32.not_lt.mpr c15)), rfl⟩ dX0_hasName_23
    · skip
      refine j_iload_n (q := 1) X dX0_hasName_12 rfl rfl ?_
      refine j_bipush (v := (nI 20)) X dX0_hasName_13 (by decide) ?_
      refine j_icmp_ge (tgt := 22) X dX0_hasName_15 (by decide) (fun c15 => ?_) (fun c15 => ?_)
      · skip
        refine j_iconst (v := (nI 0)) X dX0_hasName_22 (by decide) ?_
        exact j_zret X hr hlk (by first | exact Or.inl rfl | exact Or.inr rfl) ⟨bP.nn (fun h => by first | exact absurd c1 (Int32.not_lt.mpr h.1) | exact absurd h.2.1 (Int32.not_lt.mpr c9) | exact absurd h.2.2 (Int32.not_lt.mpr c15)), rfl⟩ dX0_hasName_23
      · skip
        refine j_iconst (v := (nI 1)) X dX0_hasName_18 (by decide) ?_
        refine j_goto (tgt := 23) X dX0_hasName_19 (by decide) ?_
        exact j_zret X hr hlk (by first | exact Or.inl rfl | exact Or.inr rfl) ⟨bP.yn ⟨Int32.not_lt.mp c1, Int32.not_le.mp c9, Int32.not_le.mp c15⟩, rfl⟩ dX0_hasName_23
set_option maxHeartbeats 4000000 in
set_option maxRecDepth 100000 in
theorem kX0_bearers (l : Launch) (D : va_G) (ad : Nat → Nat → Nat) (cs : Nat → ClassId) (A : Nat → Prop) (z : Nat → Nat) {b : Nat} (hb : b < 10) (μ : Mm) (V : CV) (x : Int32) : KI l D ad cs A z yX0_bearers wsX0_bearers (rm 0 0) [.ref (ad b 0), .int x] (mb μ b V) (fun r μ1 => r = nI (nb V x 12) ∧ μ1 = mb μ b V) := by
  refine KI_of (cc := cX0_bearers) (maxL := 4) (ret := (some .int)) (by decide) rfl (Nat.le_of_ble_eq_true rfl) ?_
  intro p e s m args below meth c hr hlk X
  show J p l e _ s m args below meth c 0 0 _ 4 D ad cs A 0 [(0, .ref (ad b 0)), (1, .int x)] [] (mb μ b V)
  have hinX0 : ∀ w ∈ wsX00, w ∈ wsX0_bearers := by decide +kernel
  have k35 : (Cond.fieldLink RX0 35 "PunCourts$Court" "borne" "[I").before args s = true := X.1.2.2.2.2 _ (by decide +kernel)
  refine j_iconst (v := (nI 0)) X dX0_bearers_0 (by decide) ?_
  refine j_istore_n (lv' := [(2, .int (nI 0)), (0, .ref (ad b 0)), (1, .int x)]) X dX0_bearers_1 rfl (by decide) rfl ?_
  refine j_iconst (v := (nI 0)) X dX0_bearers_2 (by decide) ?_
  refine j_istore_n (lv' := [(3, .int (nI 0)), (2, .int (nI 0)), (0, .ref (ad b 0)), (1, .int x)]) X dX0_bearers_3 rfl (by decide) rfl ?_
  refine jl2 (G := J p l e _ s m args below meth c 0 0 _ _ D ad cs A) (pc := 4) (fun (i : Nat) (r : Nat) => [(3, .int (nI i)), (2, .int (nI r)), (0, .ref (ad b 0)), (1, .int x)]) (fun (i : Nat) (r : Nat) => (mb μ b V)) (fun (i : Nat) (r : Nat) => i ≤ 12 ∧ r = nb V x i) (fun (i : Nat) (r : Nat) => 12 - i) ?_ 0 0 ⟨by omega, rfl⟩
  intro i r hI4 ih4
  try dsimp only at ih4 ⊢
  obtain ⟨hi, hrr⟩ := hI4
  refine j_iload_n (q := 0) X dX0_bearers_4 rfl rfl ?_
  refine j_bipush (v := (nI 12)) X dX0_bearers_5 (by decide) ?_
  refine j_ncmp_ge (tgt := 29) X i 12 dX0_bearers_7 (by decide) rfl rfl (by omega) (by omega) (fun c7 => ?_) (fun c7 => ?_)
  · skip
    refine j_iload_n (q := 1) X dX0_bearers_29 rfl rfl ?_
    exact j_iret X hr hlk ⟨by rw [hrr, show i = 12 by omega], rfl⟩ dX0_bearers_30
  · skip
    refine j_aload_n (q := 2) X dX0_bearers_10 rfl rfl ?_
    refine j_getCB X (oC hb) hinX0 9 (by decide) rfl k35 dX0_bearers_11 ?_
    refine j_iload_n (q := 0) X dX0_bearers_14 rfl rfl ?_
    refine j_ialdB X (aC_10 hb) i rfl (by omega) (by decide) dX0_bearers_15 ?_
    refine j_iload_n (q := 3) X dX0_bearers_16 rfl rfl ?_
    refine j_icmp_ne (tgt := 23) X dX0_bearers_17 (by decide) (fun c17 => ?_) (fun c17 => ?_)
    · skip
      refine j_iinc (q := 0) (v := (nI (i + 1))) (lv' := [(3, .int (nI (i + 1))), (2, .int (nI r)), (0, .ref (ad b 0)), (1, .int x)]) X dX0_bearers_23 rfl (nI_1 _) (by decide) rfl ?_
      refine j_goto (tgt := 4) X dX0_bearers_26 (by decide) ?_
      exact ih4 (i + 1) r ⟨by omega, by rw [nb]; simp_all⟩ (by omega)
    · skip
      refine j_iinc (q := 1) (v := (nI (r + 1))) (lv' := [(2, .int (nI (r + 1))), (3, .int (nI i)), (0, .ref (ad b 0)), (1, .int x)]) X dX0_bearers_20 rfl (nI_1 _) (by decide) rfl ?_
      refine j_iinc (q := 1) (v := (nI (i + 1))) (lv' := [(3, .int (nI (i + 1))), (2, .int (nI (r + 1))), (0, .ref (ad b 0)), (1, .int x)]) X dX0_bearers_23 rfl (nI_1 _) (by decide) rfl ?_
      refine j_goto (tgt := 4) X dX0_bearers_26 (by decide) ?_
      exact ih4 (i + 1) (r + 1) ⟨by omega, by rw [nb]; simp_all⟩ (by omega)
set_option maxHeartbeats 4000000 in
set_option maxRecDepth 100000 in
theorem kX0_bearerSet (l : Launch) (D : va_G) (ad : Nat → Nat → Nat) (cs : Nat → ClassId) (A : Nat → Prop) (z : Nat → Nat) {b : Nat} (hb : b < 10) (μ : Mm) (V : CV) (x : Int32) : KI l D ad cs A z yX0_bearerSet wsX0_bearerSet (rm 0 0) [.ref (ad b 0), .int x] (mb μ b V) (fun r μ1 => r = bm V x 12 ∧ μ1 = mb μ b V) := by
  refine KI_of (cc := cX0_bearerSet) (maxL := 4) (ret := (some .int)) (by decide) rfl (Nat.le_of_ble_eq_true rfl) ?_
  intro p e s m args below meth c hr hlk X
  show J p l e _ s m args below meth c 0 0 _ 4 D ad cs A 0 [(0, .ref (ad b 0)), (1, .int x)] [] (mb μ b V)
  have hinX0 : ∀ w ∈ wsX00, w ∈ wsX0_bearerSet := by decide +kernel
  have k35 : (Cond.fieldLink RX0 35 "PunCourts$Court" "borne" "[I").before args s = true := X.1.2.2.2.2 _ (by decide +kernel)
  refine j_iconst (v := (nI 0)) X dX0_bearerSet_0 (by decide) ?_
  refine j_istore_n (lv' := [(2, .int (nI 0)), (0, .ref (ad b 0)), (1, .int x)]) X dX0_bearerSet_1 rfl (by decide) rfl ?_
  refine j_iconst (v := (nI 0)) X dX0_bearerSet_2 (by decide) ?_
  refine j_istore_n (lv' := [(3, .int (nI 0)), (2, .int (nI 0)), (0, .ref (ad b 0)), (1, .int x)]) X dX0_bearerSet_3 rfl (by decide) rfl ?_
  refine jl2 (G := J p l e _ s m args below meth c 0 0 _ _ D ad cs A) (pc := 4) (fun (i : Nat) (r : Int32) => [(3, .int (nI i)), (2, .int r), (0, .ref (ad b 0)), (1, .int x)]) (fun (i : Nat) (r : Int32) => (mb μ b V)) (fun (i : Nat) (r : Int32) => i ≤ 12 ∧ r = bm V x i) (fun (i : Nat) (r : Int32) => 12 - i) ?_ 0 (nI 0) ⟨by omega, rfl⟩
  intro i r hI4 ih4
  try dsimp only at ih4 ⊢
  obtain ⟨hi, hrr⟩ := hI4
  refine j_iload_n (q := 0) X dX0_bearerSet_4 rfl rfl ?_
  refine j_bipush (v := (nI 12)) X dX0_bearerSet_5 (by decide) ?_
  refine j_ncmp_ge (tgt := 32) X i 12 dX0_bearerSet_7 (by decide) rfl rfl (by omega) (by omega) (fun c7 => ?_) (fun c7 => ?_)
  · skip
    refine j_iload_n (q := 1) X dX0_bearerSet_32 rfl rfl ?_
    exact j_iret X hr hlk ⟨by rw [hrr, show i = 12 by omega], rfl⟩ dX0_bearerSet_33
  · skip
    refine j_aload_n (q := 2) X dX0_bearerSet_10 rfl rfl ?_
    refine j_getCB X (oC hb) hinX0 9 (by decide) rfl k35 dX0_bearerSet_11 ?_
    refine j_iload_n (q := 0) X dX0_bearerSet_14 rfl rfl ?_
    refine j_ialdB X (aC_10 hb) i rfl (by omega) (by decide) dX0_bearerSet_15 ?_
    refine j_iload_n (q := 3) X dX0_bearerSet_16 rfl rfl ?_
    refine j_icmp_ne (tgt := 26) X dX0_bearerSet_17 (by decide) (fun c17 => ?_) (fun c17 => ?_)
    · skip
      refine j_iinc (q := 0) (v := (nI (i + 1))) (lv' := [(3, .int (nI (i + 1))), (2, .int r), (0, .ref (ad b 0)), (1, .int x)]) X dX0_bearerSet_26 rfl (nI_1 _) (by decide) rfl ?_
      refine j_goto (tgt := 4) X dX0_bearerSet_29 (by decide) ?_
      exact ih4 (i + 1) r ⟨by omega, by rw [bm]; simp_all⟩ (by omega)
    · skip
      refine j_iload_n (q := 1) X dX0_bearerSet_20 rfl rfl ?_
      refine j_iconst (v := (nI 1)) X dX0_bearerSet_21 (by decide) ?_
      refine j_iload_n (q := 0) X dX0_bearerSet_22 rfl rfl ?_
      refine j_ishl (v := ((nI 1) <<< ((nI i) &&& 31))) X dX0_bearerSet_23 rfl ?_
      refine j_ior (v := (r ||| ((nI 1) <<< ((nI i) &&& 31)))) X dX0_bearerSet_24 rfl ?_
      refine j_istore_n (lv' := [(2, .int (r ||| ((nI 1) <<< ((nI i) &&& 31)))), (3, .int (nI i)), (0, .ref (ad b 0)), (1, .int x)]) X dX0_bearerSet_25 rfl (by decide) rfl ?_
      refine j_iinc (q := 1) (v := (nI (i + 1))) (lv' := [(3, .int (nI (i + 1))), (2, .int (r ||| ((nI 1) <<< ((nI i) &&& 31)))), (0, .ref (ad b 0)), (1, .int x)]) X dX0_bearerSet_26 rfl (nI_1 _) (by decide) rfl ?_
      refine j_goto (tgt := 4) X dX0_bearerSet_29 (by decide) ?_
      exact ih4 (i + 1) (r ||| ((nI 1) <<< ((nI i) &&& 31))) ⟨by omega, by rw [bm]; simp_all⟩ (by omega)
set_option maxHeartbeats 4000000 in
set_option maxRecDepth 100000 in
theorem kX0_whereIs (l : Launch) (D : va_G) (ad : Nat → Nat → Nat) (cs : Nat → ClassId) (A : Nat → Prop) (z : Nat → Nat) {b : Nat} (hb : b < 10) (μ : Mm) (V : CV) (n : Nat) (hn : n < 20) : KI l D ad cs A z yX0_whereIs wsX0_whereIs (rm 1 23) [.ref (ad b 0), .int (nI n)] (mb μ b V) (fun r μ1 => r = wh V n ∧ μ1 = mb μ b V) := by
  refine KI_of (cc := cX0_whereIs) (maxL := 2) (ret := (some .int)) (by decide) rfl (Nat.le_of_ble_eq_true rfl) ?_
  intro p e s m args below meth c hr hlk X
  show J p l e _ s m args below meth c 0 0 _ 2 D ad cs A 0 [(0, .ref (ad b 0)), (1, .int (nI n))] [] (mb μ b V)
  have hinX0 : ∀ w ∈ wsX00, w ∈ wsX0_whereIs := by decide +kernel
  have k28 : (Cond.fieldLink RX0 28 "PunCourts$Court" "withdrawn" "[Z").before args s = true := X.1.2.2.2.2 _ (by decide +kernel)
  refine j_aload_n (q := 0) X dX0_whereIs_0 rfl rfl ?_
  refine j_getCB X (oC hb) hinX0 7 (by decide) rfl k28 dX0_whereIs_1 ?_
  refine j_iload_n (q := 1) X dX0_whereIs_4 rfl rfl ?_
  refine j_zaldB X (aC_8 hb) n rfl (by omega) (by decide) dX0_whereIs_5 ?_
  refine j_if_eq (tgt := 11) X dX0_whereIs_6 (by decide) (fun c6 => ?_) (fun c6 => ?_)
  · skip
    refine j_aload_n (q := 0) X dX0_whereIs_11 rfl rfl ?_
    refine j_iload_n (q := 1) X dX0_whereIs_12 rfl rfl ?_
    refine j_callVi (As := [.int (nI n)]) X (kX0_bearers l D ad cs A z hb μ V (nI n)) (oC hb) rfl (cwV 1 X.1.2.2.2.2 gX0_whereIs_X0_bearers rfl rfl rfl (by decide +kernel) ⟨Nat.le_of_ble_eq_true rfl, Nat.le_of_ble_eq_true rfl⟩) rfl rfl (Nat.le_of_ble_eq_true rfl) dX0_whereIs_13 (fun r13 μ13 h13 => ?_)
    obtain ⟨rfl, rfl⟩ := h13
    have hnb := nb_le V (nI n) 12
    refine j_if_le (tgt := 23) X dX0_whereIs_16 (by decide) (fun c16 => ?_) (fun c16 => ?_)
    · skip
      have c16n : ¬ 0 < nb V (nI n) 12 := fun q => absurd c16 (nI_nle q (by omega))
      refine j_iconst (v := (nI 0)) X dX0_whereIs_23 (by decide) ?_
      exact j_iret X hr hlk ⟨by rw [wh, if_pos c6]; rw [if_neg c16n]; rfl, rfl⟩ dX0_whereIs_24
    · skip
      have c16n : 0 < nb V (nI n) 12 := by rcases Nat.eq_zero_or_pos (nb V (nI n) 12) with q | q; (rw [q] at c16; exact absurd (by decide) c16); exact q
      refine j_iconst (v := (nI 1)) X dX0_whereIs_19 (by decide) ?_
      refine j_goto (tgt := 24) X dX0_whereIs_20 (by decide) ?_
      exact j_iret X hr hlk ⟨by rw [wh, if_pos c6]; rw [if_pos c16n]; rfl, rfl⟩ dX0_whereIs_24
  · skip
    refine j_iconst (v := (nI 2)) X dX0_whereIs_9 (by decide) ?_
    exact j_iret X hr hlk ⟨by rw [wh, if_neg c6]; rfl, rfl⟩ dX0_whereIs_10
set_option maxHeartbeats 4000000 in
set_option maxRecDepth 100000 in
theorem kX0_waits (l : Launch) (D : va_G) (ad : Nat → Nat → Nat) (cs : Nat → ClassId) (A : Nat → Prop) (z : Nat → Nat) {b : Nat} (hb : b < 10) (μ : Mm) (V : CV) (n : Nat) (hn : n < 20) : KI l D ad cs A z yX0_waits wsX0_waits (rm 2 44) [.ref (ad b 0), .int (nI n)] (mb μ b V) (fun r μ1 => bP r (wh V n = 0) ∧ μ1 = mb μ b V) := by
  refine KI_of (cc := cX0_waits) (maxL := 2) (ret := (some .boolean)) (by decide) rfl (Nat.le_of_ble_eq_true rfl) ?_
  intro p e s m args below meth c hr hlk X
  show J p l e _ s m args below meth c 0 0 _ 2 D ad cs A 0 [(0, .ref (ad b 0)), (1, .int (nI n))] [] (mb μ b V)
  refine j_aload_n (q := 0) X dX0_waits_0 rfl rfl ?_
  refine j_iload_n (q := 1) X dX0_waits_1 rfl rfl ?_
  refine j_callVi (As := [.int (nI n)]) X (kX0_whereIs l D ad cs A z hb μ V n hn) (oC hb) rfl (cwV 1 X.1.2.2.2.2 gX0_waits_X0_whereIs rfl rfl rfl (by decide +kernel) ⟨Nat.le_of_ble_eq_true rfl, Nat.le_of_ble_eq_true rfl⟩) rfl rfl (Nat.le_of_ble_eq_true rfl) dX0_waits_2 (fun r2 μ2 h2 => ?_)
  obtain ⟨h2, rfl⟩ := h2
  rw [h2]
  refine j_if_ne (tgt := 12) X dX0_waits_5 (by decide) (fun c5 => ?_) (fun c5 => ?_)
  · skip
    refine j_iconst (v := (nI 0)) X dX0_waits_12 (by decide) ?_
    exact j_zret X hr hlk (by first | exact Or.inl rfl | exact Or.inr rfl) ⟨bP.nn c5, rfl⟩ dX0_waits_13
  · skip
    refine j_iconst (v := (nI 1)) X dX0_waits_8 (by decide) ?_
    refine j_goto (tgt := 13) X dX0_waits_9 (by decide) ?_
    exact j_zret X hr hlk (by first | exact Or.inl rfl | exact Or.inr rfl) ⟨bP.yn (Classical.not_not.mp c5), rfl⟩ dX0_waits_13
set_option maxHeartbeats 4000000 in
set_option maxRecDepth 100000 in
theorem kX0_placeInQueue (l : Launch) (D : va_G) (ad : Nat → Nat → Nat) (cs : Nat → ClassId) (A : Nat → Prop) (z : Nat → Nat) {b : Nat} (hb : b < 10) (μ : Mm) (V : CV) (N : Nat) (hN : V 0 2 = nI N) (hN20 : N ≤ 20) (n : Nat) (hn : n < 20) : KI l D ad cs A z yX0_placeInQueue wsX0_placeInQueue (rm 3 65) [.ref (ad b 0), .int (nI n)] (mb μ b V) (fun r μ1 => r = (if wh V n = 0 then nI (plc V n N) else -6) ∧ μ1 = mb μ b V) := by
  refine KI_of (cc := cX0_placeInQueue) (maxL := 5) (ret := (some .int)) (by decide) rfl (Nat.le_of_ble_eq_true rfl) ?_
  intro p e s m args below meth c hr hlk X
  show J p l e _ s m args below meth c 0 0 _ 5 D ad cs A 0 [(0, .ref (ad b 0)), (1, .int (nI n))] [] (mb μ b V)
  have hinX0 : ∀ w ∈ wsX00, w ∈ wsX0_placeInQueue := by decide +kernel
  have k53 : (Cond.fieldLink RX0 53 "PunCourts$Court" "names" "I").before args s = true := X.1.2.2.2.2 _ (by decide +kernel)
  have k25 : (Cond.fieldLink RX0 25 "PunCourts$Court" "honours" "[I").before args s = true := X.1.2.2.2.2 _ (by decide +kernel)
  refine j_aload_n (q := 0) X dX0_placeInQueue_0 rfl rfl ?_
  refine j_iload_n (q := 1) X dX0_placeInQueue_1 rfl rfl ?_
  refine j_callVi (As := [.int (nI n)]) X (kX0_waits l D ad cs A z hb μ V n (by omega)) (oC hb) rfl (cwV 1 X.1.2.2.2.2 gX0_placeInQueue_X0_waits rfl rfl rfl (by decide +kernel) ⟨Nat.le_of_ble_eq_true rfl, Nat.le_of_ble_eq_true rfl⟩) rfl rfl (Nat.le_of_ble_eq_true rfl) dX0_placeInQueue_2 (fun r2 μ2 h2 => ?_)
  obtain ⟨h2, rfl⟩ := h2
  refine j_if_ne (tgt := 11) X dX0_placeInQueue_5 (by decide) (fun c5 => ?_) (fun c5 => ?_)
  · skip
    have hw0 := h2.nt c5
    refine j_iconst (v := (nI 0)) X dX0_placeInQueue_11 (by decide) ?_
    refine j_istore_n (lv' := [(2, .int (nI 0)), (0, .ref (ad b 0)), (1, .int (nI n))]) X dX0_placeInQueue_12 rfl (by decide) rfl ?_
    refine j_iconst (v := (nI 0)) X dX0_placeInQueue_13 (by decide) ?_
    refine j_istore_n (lv' := [(3, .int (nI 0)), (2, .int (nI 0)), (0, .ref (ad b 0)), (1, .int (nI n))]) X dX0_placeInQueue_14 rfl (by decide) rfl ?_
    refine jl2 (G := J p l e _ s m args below meth c 0 0 _ _ D ad cs A) (pc := 15) (fun (i : Nat) (r : Nat) => [(3, .int (nI i)), (2, .int (nI r)), (0, .ref (ad b 0)), (1, .int (nI n))]) (fun (i : Nat) (r : Nat) => (mb μ b V)) (fun (i : Nat) (r : Nat) => i ≤ N ∧ r = plc V n i) (fun (i : Nat) (r : Nat) => N - i) ?_ 0 0 ⟨by omega, rfl⟩
    intro i r hI15 ih15
    try dsimp only at ih15 ⊢
    obtain ⟨hi, hrr⟩ := hI15
    refine j_iload_n (q := 0) X dX0_placeInQueue_15 rfl rfl ?_
    refine j_aload_n (q := 2) X dX0_placeInQueue_16 rfl rfl ?_
    refine j_getCB X (oC hb) hinX0 2 (by decide) rfl k53 dX0_placeInQueue_17 ?_
    rw [hN]
    refine j_ncmp_ge (tgt := 87) X i N dX0_placeInQueue_20 (by decide) rfl rfl (by omega) (by omega) (fun c20 => ?_) (fun c20 => ?_)
    · skip
      refine j_iload_n (q := 1) X dX0_placeInQueue_87 rfl rfl ?_
      exact j_iret X hr hlk ⟨by rw [if_pos hw0, hrr, show i = N by omega], rfl⟩ dX0_placeInQueue_88
    · skip
      refine j_aload_n (q := 2) X dX0_placeInQueue_23 rfl rfl ?_
      refine j_getCB X (oC hb) hinX0 6 (by decide) rfl k25 dX0_placeInQueue_24 ?_
      refine j_iload_n (q := 0) X dX0_placeInQueue_27 rfl rfl ?_
      refine j_ialdB X (aC_7 hb) i rfl (by omega) (by decide) dX0_placeInQueue_28 ?_
      refine j_aload_n (q := 2) X dX0_placeInQueue_29 rfl rfl ?_
      refine j_getCB X (oC hb) hinX0 6 (by decide) rfl k25 dX0_placeInQueue_30 ?_
      refine j_iload_n (q := 3) X dX0_placeInQueue_33 rfl rfl ?_
      refine j_ialdB X (aC_7 hb) n rfl (by omega) (by decide) dX0_placeInQueue_34 ?_
      refine j_icmp_gt (tgt := 58) X dX0_placeInQueue_35 (by decide) (fun c35 => ?_) (fun c35 => ?_)
      · skip
        have hbf : befS V i n := Or.inl c35
        refine j_iconst (v := (nI 1)) X dX0_placeInQueue_58 (by decide) ?_
        refine j_goto (tgt := 63) X dX0_placeInQueue_59 (by decide) ?_
        refine j_istore (lv' := [(4, .int (nI 1)), (3, .int (nI i)), (2, .int (nI r)), (0, .ref (ad b 0)), (1, .int (nI n))]) X dX0_placeInQueue_63 (by decide) rfl ?_
        refine j_iload (q := 0) X dX0_placeInQueue_65 rfl ?_
        refine j_if_eq (tgt := 81) X dX0_placeInQueue_67 (by decide) (fun c67 => absurd c67 (by decide)) (fun c67 => ?_)
        refine j_aload_n (q := 3) X dX0_placeInQueue_70 rfl rfl ?_
        refine j_iload_n (q := 1) X dX0_placeInQueue_71 rfl rfl ?_
        refine j_callVi (As := [.int (nI i)]) X (kX0_waits l D ad cs A z hb μ V i (by omega)) (oC hb) rfl (cwV 1 X.1.2.2.2.2 gX0_placeInQueue_X0_waits rfl rfl rfl (by decide +kernel) ⟨Nat.le_of_ble_eq_true rfl, Nat.le_of_ble_eq_true rfl⟩) rfl rfl (Nat.le_of_ble_eq_true rfl) dX0_placeInQueue_72 (fun r72 μ72 h72 => ?_)
        obtain ⟨h72, rfl⟩ := h72
        refine j_if_eq (tgt := 81) X dX0_placeInQueue_75 (by decide) (fun c75 => ?_) (fun c75 => ?_)
        · skip
          have hs : ¬ (befS V i n ∧ wh V i = 0) := fun q => h72.f c75 q.2
          refine j_iinc (q := 1) (v := (nI (i + 1))) (lv' := [(3, .int (nI (i + 1))), (4, .int (nI 1)), (2, .int (nI r)), (0, .ref (ad b 0)), (1, .int (nI n))]) X dX0_placeInQueue_81 rfl (nI_1 _) (by decide) rfl ?_
          refine j_goto (tgt := 15) X dX0_placeInQueue_84 (by decide) ?_
          refine j_lv [0, 2, 3, 4] rfl ?_
          exact ih15 (i + 1) r ⟨by omega, by rw [plc]; first | rw [if_pos hs, hrr] | rw [if_neg hs, hrr]⟩ (by omega)
        · skip
          have hs : befS V i n ∧ wh V i = 0 := And.intro hbf (h72.t c75)
          refine j_iinc (q := 2) (v := (nI (r + 1))) (lv' := [(2, .int (nI (r + 1))), (4, .int (nI 1)), (3, .int (nI i)), (0, .ref (ad b 0)), (1, .int (nI n))]) X dX0_placeInQueue_78 rfl (nI_1 _) (by decide) rfl ?_
          refine j_iinc (q := 2) (v := (nI (i + 1))) (lv' := [(3, .int (nI (i + 1))), (2, .int (nI (r + 1))), (4, .int (nI 1)), (0, .ref (ad b 0)), (1, .int (nI n))]) X dX0_placeInQueue_81 rfl (nI_1 _) (by decide) rfl ?_
          refine j_goto (tgt := 15) X dX0_placeInQueue_84 (by decide) ?_
          refine j_lv [0, 1, 3, 4] rfl ?_
          exact ih15 (i + 1) (r + 1) ⟨by omega, by rw [plc]; first | rw [if_pos hs, hrr] | rw [if_neg hs, hrr]⟩ (by omega)
      · skip
        refine j_aload_n (q := 2) X dX0_placeInQueue_38 rfl rfl ?_
        refine j_getCB X (oC hb) hinX0 6 (by decide) rfl k25 dX0_placeInQueue_39 ?_
        refine j_iload_n (q := 0) X dX0_placeInQueue_42 rfl rfl ?_
        refine j_ialdB X (aC_7 hb) i rfl (by omega) (by decide) dX0_placeInQueue_43 ?_
        refine j_aload_n (q := 2) X dX0_placeInQueue_44 rfl rfl ?_
        refine j_getCB X (oC hb) hinX0 6 (by decide) rfl k25 dX0_placeInQueue_45 ?_
        refine j_iload_n (q := 3) X dX0_placeInQueue_48 rfl rfl ?_
        refine j_ialdB X (aC_7 hb) n rfl (by omega) (by decide) dX0_placeInQueue_49 ?_
        refine j_icmp_ne (tgt := 62) X dX0_placeInQueue_50 (by decide) (fun c50 => ?_) (fun c50 => ?_)
        · skip
          have hs : ¬ (befS V i n ∧ wh V i = 0) := fun q => q.1.elim (fun w => c35 w) (fun w => c50 w.1)
          refine j_iconst (v := (nI 0)) X dX0_placeInQueue_62 (by decide) ?_
          refine j_istore (lv' := [(4, .int (nI 0)), (3, .int (nI i)), (2, .int (nI r)), (0, .ref (ad b 0)), (1, .int (nI n))]) X dX0_placeInQueue_63 (by decide) rfl ?_
          refine j_iload (q := 0) X dX0_placeInQueue_65 rfl ?_
          refine j_if_eq (tgt := 81) X dX0_placeInQueue_67 (by decide) (fun c67 => ?_) (fun c67 => absurd (by decide) c67)
          refine j_iinc (q := 1) (v := (nI (i + 1))) (lv' := [(3, .int (nI (i + 1))), (4, .int (nI 0)), (2, .int (nI r)), (0, .ref (ad b 0)), (1, .int (nI n))]) X dX0_placeInQueue_81 rfl (nI_1 _) (by decide) rfl ?_
          refine j_goto (tgt := 15) X dX0_placeInQueue_84 (by decide) ?_
          refine j_lv [0, 2, 3, 4] rfl ?_
          exact ih15 (i + 1) r ⟨by omega, by rw [plc]; first | rw [if_pos hs, hrr] | rw [if_neg hs, hrr]⟩ (by omega)
        · skip
          refine j_iload_n (q := 0) X dX0_placeInQueue_53 rfl rfl ?_
          refine j_iload_n (q := 3) X dX0_placeInQueue_54 rfl rfl ?_
          refine j_ncmp_ge (tgt := 62) X i n dX0_placeInQueue_55 (by decide) rfl rfl (by omega) (by omega) (fun c55 => ?_) (fun c55 => ?_)
          · skip
            have hs : ¬ (befS V i n ∧ wh V i = 0) := fun q => q.1.elim (fun w => c35 w) (fun w => absurd w.2 (by omega))
            refine j_iconst (v := (nI 0)) X dX0_placeInQueue_62 (by decide) ?_
            refine j_istore (lv' := [(4, .int (nI 0)), (3, .int (nI i)), (2, .int (nI r)), (0, .ref (ad b 0)), (1, .int (nI n))]) X dX0_placeInQueue_63 (by decide) rfl ?_
            refine j_iload (q := 0) X dX0_placeInQueue_65 rfl ?_
            refine j_if_eq (tgt := 81) X dX0_placeInQueue_67 (by decide) (fun c67 => ?_) (fun c67 => absurd (by decide) c67)
            refine j_iinc (q := 1) (v := (nI (i + 1))) (lv' := [(3, .int (nI (i + 1))), (4, .int (nI 0)), (2, .int (nI r)), (0, .ref (ad b 0)), (1, .int (nI n))]) X dX0_placeInQueue_81 rfl (nI_1 _) (by decide) rfl ?_
            refine j_goto (tgt := 15) X dX0_placeInQueue_84 (by decide) ?_
            refine j_lv [0, 2, 3, 4] rfl ?_
            exact ih15 (i + 1) r ⟨by omega, by rw [plc]; first | rw [if_pos hs, hrr] | rw [if_neg hs, hrr]⟩ (by omega)
          · skip
            have hbf : befS V i n := Or.inr ⟨Classical.not_not.mp c50, by omega⟩
            refine j_iconst (v := (nI 1)) X dX0_placeInQueue_58 (by decide) ?_
            refine j_goto (tgt := 63) X dX0_placeInQueue_59 (by decide) ?_
            refine j_istore (lv' := [(4, .int (nI 1)), (3, .int (nI i)), (2, .int (nI r)), (0, .ref (ad b 0)), (1, .int (nI n))]) X dX0_placeInQueue_63 (by decide) rfl ?_
            refine j_iload (q := 0) X dX0_placeInQueue_65 rfl ?_
            refine j_if_eq (tgt := 81) X dX0_placeInQueue_67 (by decide) (fun c67 => absurd c67 (by decide)) (fun c67 => ?_)
            refine j_aload_n (q := 3) X dX0_placeInQueue_70 rfl rfl ?_
            refine j_iload_n (q := 1) X dX0_placeInQueue_71 rfl rfl ?_
            refine j_callVi (As := [.int (nI i)]) X (kX0_waits l D ad cs A z hb μ V i (by omega)) (oC hb) rfl (cwV 1 X.1.2.2.2.2 gX0_placeInQueue_X0_waits rfl rfl rfl (by decide +kernel) ⟨Nat.le_of_ble_eq_true rfl, Nat.le_of_ble_eq_true rfl⟩) rfl rfl (Nat.le_of_ble_eq_true rfl) dX0_placeInQueue_72 (fun r72 μ72 h72 => ?_)
            obtain ⟨h72, rfl⟩ := h72
            refine j_if_eq (tgt := 81) X dX0_placeInQueue_75 (by decide) (fun c75 => ?_) (fun c75 => ?_)
            · skip
              have hs : ¬ (befS V i n ∧ wh V i = 0) := fun q => h72.f c75 q.2
              refine j_iinc (q := 1) (v := (nI (i + 1))) (lv' := [(3, .int (nI (i + 1))), (4, .int (nI 1)), (2, .int (nI r)), (0, .ref (ad b 0)), (1, .int (nI n))]) X dX0_placeInQueue_81 rfl (nI_1 _) (by decide) rfl ?_
              refine j_goto (tgt := 15) X dX0_placeInQueue_84 (by decide) ?_
              refine j_lv [0, 2, 3, 4] rfl ?_
              exact ih15 (i + 1) r ⟨by omega, by rw [plc]; first | rw [if_pos hs, hrr] | rw [if_neg hs, hrr]⟩ (by omega)
            · skip
              have hs : befS V i n ∧ wh V i = 0 := And.intro hbf (h72.t c75)
              refine j_iinc (q := 2) (v := (nI (r + 1))) (lv' := [(2, .int (nI (r + 1))), (4, .int (nI 1)), (3, .int (nI i)), (0, .ref (ad b 0)), (1, .int (nI n))]) X dX0_placeInQueue_78 rfl (nI_1 _) (by decide) rfl ?_
              refine j_iinc (q := 2) (v := (nI (i + 1))) (lv' := [(3, .int (nI (i + 1))), (2, .int (nI (r + 1))), (4, .int (nI 1)), (0, .ref (ad b 0)), (1, .int (nI n))]) X dX0_placeInQueue_81 rfl (nI_1 _) (by decide) rfl ?_
              refine j_goto (tgt := 15) X dX0_placeInQueue_84 (by decide) ?_
              refine j_lv [0, 1, 3, 4] rfl ?_
              exact ih15 (i + 1) (r + 1) ⟨by omega, by rw [plc]; first | rw [if_pos hs, hrr] | rw [if_neg hs, hrr]⟩ (by omega)
  · skip
    have hw0 := h2.nf c5
    refine j_bipush (v := (-6)) X dX0_placeInQueue_8 (by decide) ?_
    exact j_iret X hr hlk ⟨by rw [if_neg hw0], rfl⟩ dX0_placeInQueue_10
set_option maxHeartbeats 4000000 in
set_option maxRecDepth 100000 in
theorem kX0_waitingNames (l : Launch) (D : va_G) (ad : Nat → Nat → Nat) (cs : Nat → ClassId) (A : Nat → Prop) (z : Nat → Nat) {b : Nat} (hb : b < 10) (μ : Mm) (V : CV) (N : Nat) (hN : V 0 2 = nI N) (hN20 : N ≤ 20) : KI l D ad cs A z yX0_waitingNames wsX0_waitingNames (rm 3 65) [.ref (ad b 0)] (mb μ b V) (fun r μ1 => r = nI (wtn V N) ∧ μ1 = mb μ b V) := by
  refine KI_of (cc := cX0_waitingNames) (maxL := 3) (ret := (some .int)) (by decide) rfl (Nat.le_of_ble_eq_true rfl) ?_
  intro p e s m args below meth c hr hlk X
  show J p l e _ s m args below meth c 0 0 _ 3 D ad cs A 0 [(0, .ref (ad b 0))] [] (mb μ b V)
  have hinX0 : ∀ w ∈ wsX00, w ∈ wsX0_waitingNames := by decide +kernel
  have k53 : (Cond.fieldLink RX0 53 "PunCourts$Court" "names" "I").before args s = true := X.1.2.2.2.2 _ (by decide +kernel)
  refine j_iconst (v := (nI 0)) X dX0_waitingNames_0 (by decide) ?_
  refine j_istore_n (lv' := [(1, .int (nI 0)), (0, .ref (ad b 0))]) X dX0_waitingNames_1 rfl (by decide) rfl ?_
  refine j_iconst (v := (nI 0)) X dX0_waitingNames_2 (by decide) ?_
  refine j_istore_n (lv' := [(2, .int (nI 0)), (1, .int (nI 0)), (0, .ref (ad b 0))]) X dX0_waitingNames_3 rfl (by decide) rfl ?_
  refine jl2 (G := J p l e _ s m args below meth c 0 0 _ _ D ad cs A) (pc := 4) (fun (i : Nat) (r : Nat) => [(2, .int (nI i)), (1, .int (nI r)), (0, .ref (ad b 0))]) (fun (i : Nat) (r : Nat) => (mb μ b V)) (fun (i : Nat) (r : Nat) => i ≤ N ∧ r = wtn V i) (fun (i : Nat) (r : Nat) => N - i) ?_ 0 0 ⟨by omega, rfl⟩
  intro i r hI4 ih4
  try dsimp only at ih4 ⊢
  obtain ⟨hi, hrr⟩ := hI4
  refine j_iload_n (q := 0) X dX0_waitingNames_4 rfl rfl ?_
  refine j_aload_n (q := 2) X dX0_waitingNames_5 rfl rfl ?_
  refine j_getCB X (oC hb) hinX0 2 (by decide) rfl k53 dX0_waitingNames_6 ?_
  rw [hN]
  refine j_ncmp_ge (tgt := 29) X i N dX0_waitingNames_9 (by decide) rfl rfl (by omega) (by omega) (fun c9 => ?_) (fun c9 => ?_)
  · skip
    refine j_iload_n (q := 1) X dX0_waitingNames_29 rfl rfl ?_
    exact j_iret X hr hlk ⟨by rw [hrr, show i = N by omega], rfl⟩ dX0_waitingNames_30
  · skip
    refine j_aload_n (q := 2) X dX0_waitingNames_12 rfl rfl ?_
    refine j_iload_n (q := 0) X dX0_waitingNames_13 rfl rfl ?_
    refine j_callVi (As := [.int (nI i)]) X (kX0_waits l D ad cs A z hb μ V i (by omega)) (oC hb) rfl (cwV 1 X.1.2.2.2.2 gX0_waitingNames_X0_waits rfl rfl rfl (by decide +kernel) ⟨Nat.le_of_ble_eq_true rfl, Nat.le_of_ble_eq_true rfl⟩) rfl rfl (Nat.le_of_ble_eq_true rfl) dX0_waitingNames_14 (fun r14 μ14 h14 => ?_)
    obtain ⟨h14, rfl⟩ := h14
    refine j_if_eq (tgt := 23) X dX0_waitingNames_17 (by decide) (fun c17 => ?_) (fun c17 => ?_)
    · skip
      have hw := h14.f c17
      refine j_iinc (q := 0) (v := (nI (i + 1))) (lv' := [(2, .int (nI (i + 1))), (1, .int (nI r)), (0, .ref (ad b 0))]) X dX0_waitingNames_23 rfl (nI_1 _) (by decide) rfl ?_
      refine j_goto (tgt := 4) X dX0_waitingNames_26 (by decide) ?_
      exact ih4 (i + 1) r ⟨by omega, by rw [wtn]; simp_all⟩ (by omega)
    · skip
      have hw := h14.t c17
      refine j_iinc (q := 1) (v := (nI (r + 1))) (lv' := [(1, .int (nI (r + 1))), (2, .int (nI i)), (0, .ref (ad b 0))]) X dX0_waitingNames_20 rfl (nI_1 _) (by decide) rfl ?_
      refine j_iinc (q := 1) (v := (nI (i + 1))) (lv' := [(2, .int (nI (i + 1))), (1, .int (nI (r + 1))), (0, .ref (ad b 0))]) X dX0_waitingNames_23 rfl (nI_1 _) (by decide) rfl ?_
      refine j_goto (tgt := 4) X dX0_waitingNames_26 (by decide) ?_
      exact ih4 (i + 1) (r + 1) ⟨by omega, by rw [wtn]; simp_all⟩ (by omega)
set_option maxHeartbeats 4000000 in
set_option maxRecDepth 100000 in
theorem kX0_bearingCorners (l : Launch) (D : va_G) (ad : Nat → Nat → Nat) (cs : Nat → ClassId) (A : Nat → Prop) (z : Nat → Nat) {b : Nat} (hb : b < 10) (μ : Mm) (V : CV) : KI l D ad cs A z yX0_bearingCorners wsX0_bearingCorners (rm 1 23) [.ref (ad b 0)] (mb μ b V) (fun r μ1 => r = nI (12 - nb V (-6) 12) ∧ μ1 = mb μ b V) := by
  refine KI_of (cc := cX0_bearingCorners) (maxL := 1) (ret := (some .int)) (by decide) rfl (Nat.le_of_ble_eq_true rfl) ?_
  intro p e s m args below meth c hr hlk X
  show J p l e _ s m args below meth c 0 0 _ 1 D ad cs A 0 [(0, .ref (ad b 0))] [] (mb μ b V)
  refine j_bipush (v := (nI 12)) X dX0_bearingCorners_0 (by decide) ?_
  refine j_aload_n (q := 0) X dX0_bearingCorners_2 rfl rfl ?_
  refine j_bipush (v := (-6)) X dX0_bearingCorners_3 (by decide) ?_
  refine j_callVi (As := [.int (-6)]) X (kX0_bearers l D ad cs A z hb μ V (-6)) (oC hb) rfl (cwV 1 X.1.2.2.2.2 gX0_bearingCorners_X0_bearers rfl rfl rfl (by decide +kernel) ⟨Nat.le_of_ble_eq_true rfl, Nat.le_of_ble_eq_true rfl⟩) rfl rfl (Nat.le_of_ble_eq_true rfl) dX0_bearingCorners_5 (fun r5 μ5 h5 => ?_)
  obtain ⟨rfl, rfl⟩ := h5
  have hnb := nb_le V (-6) 12
  refine j_isub (v := (nI (12 - (nb V (-6) 12)))) X dX0_bearingCorners_8 (pk_sub (by omega)) ?_
  exact j_iret X hr hlk ⟨rfl, rfl⟩ dX0_bearingCorners_9
set_option maxHeartbeats 4000000 in
set_option maxRecDepth 100000 in
theorem kX0_isPun (l : Launch) (D : va_G) (ad : Nat → Nat → Nat) (cs : Nat → ClassId) (A : Nat → Prop) (z : Nat → Nat) {b : Nat} (hb : b < 10) (μ : Mm) (V : CV) (x y : Int32) : KI l D ad cs A z yX0_isPun wsX0_isPun (rm 1 21) [.ref (ad b 0), .int x, .int y] (mb μ b V) (fun r μ1 => bP r (punS V x y) ∧ μ1 = mb μ b V) := by
  refine KI_of (cc := cX0_isPun) (maxL := 3) (ret := (some .boolean)) (by decide) rfl (Nat.le_of_ble_eq_true rfl) ?_
  intro p e s m args below meth c hr hlk X
  show J p l e _ s m args below meth c 0 0 _ 3 D ad cs A 0 [(0, .ref (ad b 0)), (1, .int x), (2, .int y)] [] (mb μ b V)
  have hinX0 : ∀ w ∈ wsX00, w ∈ wsX0_isPun := by decide +kernel
  have k22 : (Cond.fieldLink RX0 22 "PunCourts$Court" "sounds" "[I").before args s = true := X.1.2.2.2.2 _ (by decide +kernel)
  refine j_iload_n (q := 1) X dX0_isPun_0 rfl rfl ?_
  refine j_iload_n (q := 2) X dX0_isPun_1 rfl rfl ?_
  refine j_icmp_eq (tgt := 40) X dX0_isPun_2 (by decide) (fun c2 => ?_) (fun c2 => ?_)
  · skip
    refine j_iconst (v := (nI 0)) X dX0_isPun_40 (by decide) ?_
    exact j_zret X hr hlk (by first | exact Or.inl rfl | exact Or.inr rfl) ⟨bP.nn (fun h => by first | exact h.1 c2 | exact h7 h.2.1 | exact h15 h.2.2.1 | exact c33 h.2.2.2), rfl⟩ dX0_isPun_41
  · skip
    refine j_aload_n (q := 0) X dX0_isPun_5 rfl rfl ?_
    refine j_iload_n (q := 1) X dX0_isPun_6 rfl rfl ?_
    refine j_callVi (As := [.int x]) X (kX0_hasName l D ad cs A z hb μ V x) (oC hb) rfl (cwV 1 X.1.2.2.2.2 gX0_isPun_X0_hasName rfl rfl rfl (by decide +kernel) ⟨Nat.le_of_ble_eq_true rfl, Nat.le_of_ble_eq_true rfl⟩) rfl rfl (Nat.le_of_ble_eq_true rfl) dX0_isPun_7 (fun r7 μ7 h7 => ?_)
    obtain ⟨h7, rfl⟩ := h7
    refine j_if_eq (tgt := 40) X dX0_isPun_10 (by decide) (fun c10 => ?_) (fun c10 => ?_)
    · skip
      have h7 := h7.f c10
      refine j_iconst (v := (nI 0)) X dX0_isPun_40 (by decide) ?_
      exact j_zret X hr hlk (by first | exact Or.inl rfl | exact Or.inr rfl) ⟨bP.nn (fun h => by first | exact h.1 c2 | exact h7 h.2.1 | exact h15 h.2.2.1 | exact c33 h.2.2.2), rfl⟩ dX0_isPun_41
    · skip
      have h7 := h7.t c10
      have hx := h7.ix
      refine j_aload_n (q := 0) X dX0_isPun_13 rfl rfl ?_
      refine j_iload_n (q := 2) X dX0_isPun_14 rfl rfl ?_
      refine j_callVi (As := [.int y]) X (kX0_hasName l D ad cs A z hb μ V y) (oC hb) rfl (cwV 1 X.1.2.2.2.2 gX0_isPun_X0_hasName rfl rfl rfl (by decide +kernel) ⟨Nat.le_of_ble_eq_true rfl, Nat.le_of_ble_eq_true rfl⟩) rfl rfl (Nat.le_of_ble_eq_true rfl) dX0_isPun_15 (fun r15 μ15 h15 => ?_)
      obtain ⟨h15, rfl⟩ := h15
      refine j_if_eq (tgt := 40) X dX0_isPun_18 (by decide) (fun c18 => ?_) (fun c18 => ?_)
      · skip
        have h15 := h15.f c18
        refine j_iconst (v := (nI 0)) X dX0_isPun_40 (by decide) ?_
        exact j_zret X hr hlk (by first | exact Or.inl rfl | exact Or.inr rfl) ⟨bP.nn (fun h => by first | exact h.1 c2 | exact h7 h.2.1 | exact h15 h.2.2.1 | exact c33 h.2.2.2), rfl⟩ dX0_isPun_41
      · skip
        have h15 := h15.t c18
        have hy := h15.ix
        refine j_aload_n (q := 0) X dX0_isPun_21 rfl rfl ?_
        refine j_getCB X (oC hb) hinX0 5 (by decide) rfl k22 dX0_isPun_22 ?_
        refine j_iload_n (q := 1) X dX0_isPun_25 rfl rfl ?_
        refine j_ialdB X (aC_6 hb) x.toNatClampNeg hx.1 hx.2 (by decide) dX0_isPun_26 ?_
        refine j_aload_n (q := 0) X dX0_isPun_27 rfl rfl ?_
        refine j_getCB X (oC hb) hinX0 5 (by decide) rfl k22 dX0_isPun_28 ?_
        refine j_iload_n (q := 2) X dX0_isPun_31 rfl rfl ?_
        refine j_ialdB X (aC_6 hb) y.toNatClampNeg hy.1 hy.2 (by decide) dX0_isPun_32 ?_
        refine j_icmp_ne (tgt := 40) X dX0_isPun_33 (by decide) (fun c33 => ?_) (fun c33 => ?_)
        · skip
          refine j_iconst (v := (nI 0)) X dX0_isPun_40 (by decide) ?_
          exact j_zret X hr hlk (by first | exact Or.inl rfl | exact Or.inr rfl) ⟨bP.nn (fun h => by first | exact h.1 c2 | exact h7 h.2.1 | exact h15 h.2.2.1 | exact c33 h.2.2.2), rfl⟩ dX0_isPun_41
        · skip
          refine j_iconst (v := (nI 1)) X dX0_isPun_36 (by decide) ?_
          refine j_goto (tgt := 41) X dX0_isPun_37 (by decide) ?_
          exact j_zret X hr hlk (by first | exact Or.inl rfl | exact Or.inr rfl) ⟨bP.yn ⟨c2, h7, h15, Classical.not_not.mp c33⟩, rfl⟩ dX0_isPun_41
set_option maxHeartbeats 4000000 in
set_option maxRecDepth 100000 in
theorem kX0_punPairs (l : Launch) (D : va_G) (ad : Nat → Nat → Nat) (cs : Nat → ClassId) (A : Nat → Prop) (z : Nat → Nat) {b : Nat} (hb : b < 10) (μ : Mm) (V : CV) : KI l D ad cs A z yX0_punPairs wsX0_punPairs (rm 2 43) [.ref (ad b 0)] (mb μ b V) (fun r μ1 => r = nI (pp V 12) ∧ μ1 = mb μ b V) := by
  refine KI_of (cc := cX0_punPairs) (maxL := 4) (ret := (some .int)) (by decide) rfl (Nat.le_of_ble_eq_true rfl) ?_
  intro p e s m args below meth c hr hlk X
  show J p l e _ s m args below meth c 0 0 _ 4 D ad cs A 0 [(0, .ref (ad b 0))] [] (mb μ b V)
  have hinX0 : ∀ w ∈ wsX00, w ∈ wsX0_punPairs := by decide +kernel
  have k35 : (Cond.fieldLink RX0 35 "PunCourts$Court" "borne" "[I").before args s = true := X.1.2.2.2.2 _ (by decide +kernel)
  refine j_iconst (v := (nI 0)) X dX0_punPairs_0 (by decide) ?_
  refine j_istore_n (lv' := [(1, .int (nI 0)), (0, .ref (ad b 0))]) X dX0_punPairs_1 rfl (by decide) rfl ?_
  refine j_iconst (v := (nI 0)) X dX0_punPairs_2 (by decide) ?_
  refine j_istore_n (lv' := [(2, .int (nI 0)), (1, .int (nI 0)), (0, .ref (ad b 0))]) X dX0_punPairs_3 rfl (by decide) rfl ?_
  refine jl2 (G := J p l e _ s m args below meth c 0 0 _ _ D ad cs A) (pc := 4) (fun (i : Nat) (r : Nat) => [(2, .int (nI i)), (1, .int (nI r)), (0, .ref (ad b 0))]) (fun (i : Nat) (r : Nat) => (mb μ b V)) (fun (i : Nat) (r : Nat) => i ≤ 12 ∧ r = pp V i) (fun (i : Nat) (r : Nat) => 12 - i) ?_ 0 0 ⟨by omega, rfl⟩
  intro i r hI4 ih4
  try dsimp only at ih4 ⊢
  obtain ⟨hi, hrr⟩ := hI4
  refine j_iload_n (q := 0) X dX0_punPairs_4 rfl rfl ?_
  refine j_bipush (v := (nI 12)) X dX0_punPairs_5 (by decide) ?_
  refine j_ncmp_ge (tgt := 54) X i 12 dX0_punPairs_7 (by decide) rfl rfl (by omega) (by omega) (fun c7 => ?_) (fun c7 => ?_)
  · skip
    refine j_iload_n (q := 1) X dX0_punPairs_54 rfl rfl ?_
    exact j_iret X hr hlk ⟨by rw [hrr, show i = 12 by omega], rfl⟩ dX0_punPairs_55
  · skip
    refine j_iload_n (q := 0) X dX0_punPairs_10 rfl rfl ?_
    refine j_iconst (v := (nI 1)) X dX0_punPairs_11 (by decide) ?_
    refine j_iadd (v := (nI (i + 1))) X dX0_punPairs_12 (nI_add _ _) ?_
    refine j_istore_n (lv' := [(3, .int (nI (i + 1))), (2, .int (nI i)), (1, .int (nI r)), (0, .ref (ad b 0))]) X dX0_punPairs_13 rfl (by decide) rfl ?_
    refine j_lv [0, 2, 3, 1] rfl ?_
    refine jl2 (G := J p l e _ s m args below meth c 0 0 _ _ D ad cs A) (pc := 14) (fun (d : Nat) (r2 : Nat) => [(3, .int (nI d)), (1, .int (nI r2)), (0, .ref (ad b 0)), (2, .int (nI i))]) (fun (d : Nat) (r2 : Nat) => (mb μ b V)) (fun (d : Nat) (r2 : Nat) => i < d ∧ d ≤ 12 ∧ r2 = pp V i + pq V i d) (fun (d : Nat) (r2 : Nat) => 12 - d) ?_ (i + 1) r ⟨by omega, by omega, by rw [pq_0 V i (i + 1) (by omega), hrr]; rfl⟩
    intro d r2 hI14 ih14
    try dsimp only at ih14 ⊢
    obtain ⟨hid, hd, hr2⟩ := hI14
    refine j_iload_n (q := 0) X dX0_punPairs_14 rfl rfl ?_
    refine j_bipush (v := (nI 12)) X dX0_punPairs_15 (by decide) ?_
    refine j_ncmp_ge (tgt := 48) X d 12 dX0_punPairs_17 (by decide) rfl rfl (by omega) (by omega) (fun c17 => ?_) (fun c17 => ?_)
    · skip
      refine j_iinc (q := 3) (v := (nI (i + 1))) (lv' := [(2, .int (nI (i + 1))), (3, .int (nI d)), (1, .int (nI r2)), (0, .ref (ad b 0))]) X dX0_punPairs_48 rfl (nI_1 _) (by decide) rfl ?_
      refine j_goto (tgt := 4) X dX0_punPairs_51 (by decide) ?_
      refine j_lv [0, 2, 3] rfl ?_
      exact ih4 (i + 1) r2 ⟨by omega, by rw [pp, hr2, show d = 12 by omega]⟩ (by omega)
    · skip
      refine j_aload_n (q := 2) X dX0_punPairs_20 rfl rfl ?_
      refine j_aload_n (q := 2) X dX0_punPairs_21 rfl rfl ?_
      refine j_getCB X (oC hb) hinX0 9 (by decide) rfl k35 dX0_punPairs_22 ?_
      refine j_iload_n (q := 3) X dX0_punPairs_25 rfl rfl ?_
      refine j_ialdB X (aC_10 hb) i rfl (by omega) (by decide) dX0_punPairs_26 ?_
      refine j_aload_n (q := 2) X dX0_punPairs_27 rfl rfl ?_
      refine j_getCB X (oC hb) hinX0 9 (by decide) rfl k35 dX0_punPairs_28 ?_
      refine j_iload_n (q := 0) X dX0_punPairs_31 rfl rfl ?_
      refine j_ialdB X (aC_10 hb) d rfl (by omega) (by decide) dX0_punPairs_32 ?_
      refine j_callVi (As := [.int (V 10 i), .int (V 10 d)]) X (kX0_isPun l D ad cs A z hb μ V (V 10 i) (V 10 d)) (oC hb) rfl (cwV 2 X.1.2.2.2.2 gX0_punPairs_X0_isPun rfl rfl rfl (by decide +kernel) ⟨Nat.le_of_ble_eq_true rfl, Nat.le_of_ble_eq_true rfl⟩) rfl rfl (Nat.le_of_ble_eq_true rfl) dX0_punPairs_33 (fun r33 μ33 h33 => ?_)
      obtain ⟨h33, rfl⟩ := h33
      refine j_if_eq (tgt := 42) X dX0_punPairs_36 (by decide) (fun c36 => ?_) (fun c36 => ?_)
      · skip
        have hw := h33.f c36
        have hw2 : ¬ (i < d ∧ punS V (V 10 i) (V 10 d)) := fun q => hw q.2
        refine j_iinc (q := 0) (v := (nI (d + 1))) (lv' := [(3, .int (nI (d + 1))), (1, .int (nI r2)), (0, .ref (ad b 0)), (2, .int (nI i))]) X dX0_punPairs_42 rfl (nI_1 _) (by decide) rfl ?_
        refine j_goto (tgt := 14) X dX0_punPairs_45 (by decide) ?_
        exact ih14 (d + 1) r2 ⟨by omega, by omega, by rw [pq]; first | rw [if_neg hw2]; exact hr2 | (rw [if_pos hw2, hr2]; omega)⟩ (by omega)
      · skip
        have hw := h33.t c36
        have hw2 : (i < d ∧ punS V (V 10 i) (V 10 d)) := ⟨hid, hw⟩
        refine j_iinc (q := 1) (v := (nI (r2 + 1))) (lv' := [(1, .int (nI (r2 + 1))), (3, .int (nI d)), (0, .ref (ad b 0)), (2, .int (nI i))]) X dX0_punPairs_39 rfl (nI_1 _) (by decide) rfl ?_
        refine j_iinc (q := 1) (v := (nI (d + 1))) (lv' := [(3, .int (nI (d + 1))), (1, .int (nI (r2 + 1))), (0, .ref (ad b 0)), (2, .int (nI i))]) X dX0_punPairs_42 rfl (nI_1 _) (by decide) rfl ?_
        refine j_goto (tgt := 14) X dX0_punPairs_45 (by decide) ?_
        exact ih14 (d + 1) (r2 + 1) ⟨by omega, by omega, by rw [pq]; first | rw [if_neg hw2]; exact hr2 | (rw [if_pos hw2, hr2]; omega)⟩ (by omega)
end
section
set_option maxHeartbeats 4000000 in
set_option maxRecDepth 100000 in
theorem kX0_around (l : Launch) (D : va_G) (ad : Nat → Nat → Nat) (cs : Nat → ClassId) (A : Nat → Prop) (z : Nat → Nat) {b : Nat} (hb : b < 10) (μ : Mm) (V : CV) (a : Nat) (ha : V 1 0 = nI a) (ha11 : a ≤ 11) (c0 : Nat) (hc : c0 < 12) : KI l D ad cs A z yX0_around wsX0_around (rm 1 21) [.ref (ad b 0), .int (nI c0)] (mb μ b V) (fun r μ1 => (∀ d, d < 12 → bt r d = decide (nearC a d c0)) ∧ μ1 = mb μ b V) := by
  refine KI_of (cc := cX0_around) (maxL := 6) (ret := (some .int)) (by decide) rfl (Nat.le_of_ble_eq_true rfl) ?_
  intro p e s m args below meth c hr hlk X
  show J p l e _ s m args below meth c 0 0 _ 6 D ad cs A 0 [(0, .ref (ad b 0)), (1, .int (nI c0))] [] (mb μ b V)
  have hinX0 : ∀ w ∈ wsX00, w ∈ wsX0_around := by decide +kernel
  have k9 : (Cond.fieldLink RX0 9 "PunCourts$Court" "settings" "[I").before args s = true := X.1.2.2.2.2 _ (by decide +kernel)
  refine j_iconst (v := (nI 0)) X dX0_around_0 (by decide) ?_
  refine j_iload_n (q := 1) X dX0_around_1 rfl rfl ?_
  refine j_aload_n (q := 0) X dX0_around_2 rfl rfl ?_
  refine j_getCB X (oC hb) hinX0 0 (by decide) rfl k9 dX0_around_3 ?_
  refine j_iconst (v := (nI 0)) X dX0_around_6 (by decide) ?_
  refine j_ialdB X (aC_1 hb) 0 rfl (by decide) (by decide) dX0_around_7 ?_
  rw [ha]
  refine j_isub (v := (nI c0 - nI a)) X dX0_around_8 rfl ?_
  refine j_mmax (v := (nI (c0 - a))) X (X.1.2.2.2.2 _ (by decide +kernel)) (X.1.2.2.2.2 _ (by decide +kernel)) (X.1.2.2.2.2 _ (by decide +kernel)) (X.1.2.2.2.2 _ (by decide +kernel)) (Nat.le_of_ble_eq_true rfl) (by decide) (mx_sub (by omega) (by omega)) dX0_around_9 ?_
  refine j_istore_n (lv' := [(2, .int (nI (c0 - a))), (0, .ref (ad b 0)), (1, .int (nI c0))]) X dX0_around_12 rfl (by decide) rfl ?_
  refine j_bipush (v := (nI 11)) X dX0_around_13 (by decide) ?_
  refine j_iload_n (q := 2) X dX0_around_15 rfl rfl ?_
  refine j_aload_n (q := 1) X dX0_around_16 rfl rfl ?_
  refine j_getCB X (oC hb) hinX0 0 (by decide) rfl k9 dX0_around_17 ?_
  refine j_iconst (v := (nI 0)) X dX0_around_20 (by decide) ?_
  refine j_ialdB X (aC_1 hb) 0 rfl (by decide) (by decide) dX0_around_21 ?_
  rw [ha]
  refine j_iadd (v := (nI (c0 + a))) X dX0_around_22 (nI_add _ _) ?_
  refine j_mmin (v := (nI (min 11 (c0 + a)))) X (X.1.2.2.2.2 _ (by decide +kernel)) (X.1.2.2.2.2 _ (by decide +kernel)) (X.1.2.2.2.2 _ (by decide +kernel)) (X.1.2.2.2.2 _ (by decide +kernel)) (Nat.le_of_ble_eq_true rfl) (by decide) (mn_add (by omega)) dX0_around_23 ?_
  refine j_istore_n (lv' := [(3, .int (nI (min 11 (c0 + a)))), (2, .int (nI (c0 - a))), (0, .ref (ad b 0)), (1, .int (nI c0))]) X dX0_around_26 rfl (by decide) rfl ?_
  refine j_iconst (v := (nI 0)) X dX0_around_27 (by decide) ?_
  refine j_istore (lv' := [(4, .int (nI 0)), (3, .int (nI (min 11 (c0 + a)))), (2, .int (nI (c0 - a))), (0, .ref (ad b 0)), (1, .int (nI c0))]) X dX0_around_28 (by decide) rfl ?_
  refine j_iload_n (q := 2) X dX0_around_30 rfl rfl ?_
  refine j_istore (lv' := [(5, .int (nI (c0 - a))), (4, .int (nI 0)), (3, .int (nI (min 11 (c0 + a)))), (2, .int (nI (c0 - a))), (0, .ref (ad b 0)), (1, .int (nI c0))]) X dX0_around_31 (by decide) rfl ?_
  refine j_lv [0, 1, 4, 5, 3, 2] rfl ?_
  refine jl2 (G := J p l e _ s m args below meth c 0 0 _ _ D ad cs A) (pc := 33) (fun (i : Nat) (m1 : Int32) => [(5, .int (nI i)), (4, .int m1), (0, .ref (ad b 0)), (1, .int (nI c0)), (2, .int (nI (c0 - a))), (3, .int (nI (min 11 (c0 + a))))]) (fun (i : Nat) (m1 : Int32) => (mb μ b V)) (fun (i : Nat) (m1 : Int32) => c0 - a ≤ i ∧ i ≤ min 11 (c0 + a) + 1 ∧ ∀ d, d < 12 → bt m1 d = decide (nearC a d c0 ∧ d < i)) (fun (i : Nat) (m1 : Int32) => 12 - i) ?_ (c0 - a) (nI 0) ⟨by omega, by omega, fun d hd => by rw [b_n0]; exact (decide_eq_false (by simp only [nearC]; omega)).symm⟩
  intro i m1 hI33 ih33
  try dsimp only at ih33 ⊢
  obtain ⟨hi, hi2, hm⟩ := hI33
  refine j_iload (q := 0) X dX0_around_33 rfl ?_
  refine j_iload_n (q := 5) X dX0_around_35 rfl rfl ?_
  refine j_ncmp_gt (tgt := 60) X i (min 11 (c0 + a)) dX0_around_36 (by decide) rfl rfl (by omega) (by omega) (fun c36 => ?_) (fun c36 => ?_)
  · skip
    refine j_iload (q := 1) X dX0_around_60 rfl ?_
    exact j_iret X hr hlk ⟨fun d hd => by rw [hm d hd]; exact Bool.eq_iff_iff.mpr (by simp only [decide_eq_true_eq, nearC]; omega), rfl⟩ dX0_around_62
  · skip
    refine j_iload (q := 0) X dX0_around_39 rfl ?_
    refine j_iload_n (q := 3) X dX0_around_41 rfl rfl ?_
    refine j_ncmp_eq (tgt := 54) X i c0 dX0_around_42 (by decide) rfl rfl (by omega) (by omega) (fun c42 => ?_) (fun c42 => ?_)
    · skip
      refine j_iinc (q := 0) (v := (nI (i + 1))) (lv' := [(5, .int (nI (i + 1))), (4, .int m1), (0, .ref (ad b 0)), (1, .int (nI c0)), (2, .int (nI (c0 - a))), (3, .int (nI (min 11 (c0 + a))))]) X dX0_around_54 rfl (nI_1 _) (by decide) rfl ?_
      refine j_goto (tgt := 33) X dX0_around_57 (by decide) ?_
      exact ih33 (i + 1) m1 ⟨by omega, by omega, fun d hd => by rw [hm d hd]; exact Bool.eq_iff_iff.mpr (by simp only [Bool.or_eq_true, decide_eq_true_eq, nearC]; omega)⟩ (by omega)
    · skip
      refine j_iload (q := 1) X dX0_around_45 rfl ?_
      refine j_iconst (v := (nI 1)) X dX0_around_47 (by decide) ?_
      refine j_iload (q := 0) X dX0_around_48 rfl ?_
      refine j_ishl (v := ((nI 1) <<< ((nI i) &&& 31))) X dX0_around_50 rfl ?_
      refine j_ior (v := (m1 ||| ((nI 1) <<< ((nI i) &&& 31)))) X dX0_around_51 rfl ?_
      refine j_istore (lv' := [(4, .int (m1 ||| ((nI 1) <<< ((nI i) &&& 31)))), (5, .int (nI i)), (0, .ref (ad b 0)), (1, .int (nI c0)), (2, .int (nI (c0 - a))), (3, .int (nI (min 11 (c0 + a))))]) X dX0_around_52 (by decide) rfl ?_
      refine j_iinc (q := 1) (v := (nI (i + 1))) (lv' := [(5, .int (nI (i + 1))), (4, .int (m1 ||| ((nI 1) <<< ((nI i) &&& 31)))), (0, .ref (ad b 0)), (1, .int (nI c0)), (2, .int (nI (c0 - a))), (3, .int (nI (min 11 (c0 + a))))]) X dX0_around_54 rfl (nI_1 _) (by decide) rfl ?_
      refine j_goto (tgt := 33) X dX0_around_57 (by decide) ?_
      exact ih33 (i + 1) (m1 ||| ((nI 1) <<< ((nI i) &&& 31))) ⟨by omega, by omega, fun d hd => by rw [b_or, b_tw i d (by omega), hm d hd]; exact Bool.eq_iff_iff.mpr (by simp only [Bool.or_eq_true, decide_eq_true_eq, nearC]; omega)⟩ (by omega)
set_option maxHeartbeats 4000000 in
set_option maxRecDepth 100000 in
theorem kX0_nearPuns (l : Launch) (D : va_G) (ad : Nat → Nat → Nat) (cs : Nat → ClassId) (A : Nat → Prop) (z : Nat → Nat) {b : Nat} (hb : b < 10) (μ : Mm) (V : CV) (a : Nat) (ha : V 1 0 = nI a) (ha11 : a ≤ 11) (n : Nat) (hn : n < 20) : KI l D ad cs A z yX0_nearPuns wsX0_nearPuns (rm 2 46) [.ref (ad b 0), .int (nI n)] (mb μ b V) (fun r μ1 => (∀ c, c < 12 → bt r c = nearB V a n c 12) ∧ μ1 = mb μ b V) := by
  refine KI_of (cc := cX0_nearPuns) (maxL := 4) (ret := (some .int)) (by decide) rfl (Nat.le_of_ble_eq_true rfl) ?_
  intro p e s m args below meth c hr hlk X
  show J p l e _ s m args below meth c 0 0 _ 4 D ad cs A 0 [(0, .ref (ad b 0)), (1, .int (nI n))] [] (mb μ b V)
  have hinX0 : ∀ w ∈ wsX00, w ∈ wsX0_nearPuns := by decide +kernel
  have k35 : (Cond.fieldLink RX0 35 "PunCourts$Court" "borne" "[I").before args s = true := X.1.2.2.2.2 _ (by decide +kernel)
  refine j_iconst (v := (nI 0)) X dX0_nearPuns_0 (by decide) ?_
  refine j_istore_n (lv' := [(2, .int (nI 0)), (0, .ref (ad b 0)), (1, .int (nI n))]) X dX0_nearPuns_1 rfl (by decide) rfl ?_
  refine j_iconst (v := (nI 0)) X dX0_nearPuns_2 (by decide) ?_
  refine j_istore_n (lv' := [(3, .int (nI 0)), (2, .int (nI 0)), (0, .ref (ad b 0)), (1, .int (nI n))]) X dX0_nearPuns_3 rfl (by decide) rfl ?_
  refine jl2 (G := J p l e _ s m args below meth c 0 0 _ _ D ad cs A) (pc := 4) (fun (i : Nat) (m1 : Int32) => [(3, .int (nI i)), (2, .int m1), (0, .ref (ad b 0)), (1, .int (nI n))]) (fun (i : Nat) (m1 : Int32) => (mb μ b V)) (fun (i : Nat) (m1 : Int32) => i ≤ 12 ∧ ∀ c, c < 12 → bt m1 c = nearB V a n c i) (fun (i : Nat) (m1 : Int32) => 12 - i) ?_ 0 (nI 0) ⟨by omega, fun c hc => b_n0 c⟩
  intro i m1 hI4 ih4
  try dsimp only at ih4 ⊢
  obtain ⟨hi, hm⟩ := hI4
  refine j_iload_n (q := 0) X dX0_nearPuns_4 rfl rfl ?_
  refine j_bipush (v := (nI 12)) X dX0_nearPuns_5 (by decide) ?_
  refine j_ncmp_ge (tgt := 38) X i 12 dX0_nearPuns_7 (by decide) rfl rfl (by omega) (by omega) (fun c7 => ?_) (fun c7 => ?_)
  · skip
    refine j_iload_n (q := 1) X dX0_nearPuns_38 rfl rfl ?_
    exact j_iret X hr hlk ⟨fun c hc => by rw [hm c hc, show i = 12 by omega], rfl⟩ dX0_nearPuns_39
  · skip
    refine j_aload_n (q := 2) X dX0_nearPuns_10 rfl rfl ?_
    refine j_iload_n (q := 3) X dX0_nearPuns_11 rfl rfl ?_
    refine j_aload_n (q := 2) X dX0_nearPuns_12 rfl rfl ?_
    refine j_getCB X (oC hb) hinX0 9 (by decide) rfl k35 dX0_nearPuns_13 ?_
    refine j_iload_n (q := 0) X dX0_nearPuns_16 rfl rfl ?_
    refine j_ialdB X (aC_10 hb) i rfl (by omega) (by decide) dX0_nearPuns_17 ?_
    refine j_callVi (As := [.int (nI n), .int (V 10 i)]) X (kX0_isPun l D ad cs A z hb μ V (nI n) (V 10 i)) (oC hb) rfl (cwV 2 X.1.2.2.2.2 gX0_nearPuns_X0_isPun rfl rfl rfl (by decide +kernel) ⟨Nat.le_of_ble_eq_true rfl, Nat.le_of_ble_eq_true rfl⟩) rfl rfl (Nat.le_of_ble_eq_true rfl) dX0_nearPuns_18 (fun r18 μ18 h18 => ?_)
    obtain ⟨h18, rfl⟩ := h18
    refine j_if_eq (tgt := 32) X dX0_nearPuns_21 (by decide) (fun c21 => ?_) (fun c21 => ?_)
    · skip
      have hw := h18.f c21
      refine j_iinc (q := 0) (v := (nI (i + 1))) (lv' := [(3, .int (nI (i + 1))), (2, .int m1), (0, .ref (ad b 0)), (1, .int (nI n))]) X dX0_nearPuns_32 rfl (nI_1 _) (by decide) rfl ?_
      refine j_goto (tgt := 4) X dX0_nearPuns_35 (by decide) ?_
      exact ih4 (i + 1) m1 ⟨by omega, fun c hc => by rw [hm c hc, nearB]; simp [hw]⟩ (by omega)
    · skip
      have hw := h18.t c21
      refine j_iload_n (q := 1) X dX0_nearPuns_24 rfl rfl ?_
      refine j_aload_n (q := 2) X dX0_nearPuns_25 rfl rfl ?_
      refine j_iload_n (q := 0) X dX0_nearPuns_26 rfl rfl ?_
      refine j_callVi (As := [.int (nI i)]) X (kX0_around l D ad cs A z hb μ V a ha ha11 i (by omega)) (oC hb) rfl (cwV 1 X.1.2.2.2.2 gX0_nearPuns_X0_around rfl rfl rfl (by decide +kernel) ⟨Nat.le_of_ble_eq_true rfl, Nat.le_of_ble_eq_true rfl⟩) rfl rfl (Nat.le_of_ble_eq_true rfl) dX0_nearPuns_27 (fun r27 μ27 h27 => ?_)
      obtain ⟨h27, rfl⟩ := h27
      refine j_ior (v := (m1 ||| r27)) X dX0_nearPuns_30 rfl ?_
      refine j_istore_n (lv' := [(2, .int (m1 ||| r27)), (3, .int (nI i)), (0, .ref (ad b 0)), (1, .int (nI n))]) X dX0_nearPuns_31 rfl (by decide) rfl ?_
      refine j_iinc (q := 1) (v := (nI (i + 1))) (lv' := [(3, .int (nI (i + 1))), (2, .int (m1 ||| r27)), (0, .ref (ad b 0)), (1, .int (nI n))]) X dX0_nearPuns_32 rfl (nI_1 _) (by decide) rfl ?_
      refine j_goto (tgt := 4) X dX0_nearPuns_35 (by decide) ?_
      exact ih4 (i + 1) (m1 ||| r27) ⟨by omega, fun c hc => by rw [b_or, hm c hc, h27 c hc, nearB]; simp [hw]⟩ (by omega)
set_option maxHeartbeats 4000000 in
set_option maxRecDepth 100000 in
theorem kX0_reason (l : Launch) (D : va_G) (ad : Nat → Nat → Nat) (cs : Nat → ClassId) (A : Nat → Prop) (z : Nat → Nat) {b : Nat} (hb : b < 10) (μ : Mm) (V : CV) (n : Nat) (hn : n < 20) (c0 : Nat) (hc : c0 < 12) (k : Nat) (np : Int32) : KI l D ad cs A z yX0_reason wsX0_reason (rm 1 21) [.ref (ad b 0), .int (nI n), .int (nI c0), .int (nI k), .int np] (mb μ b V) (fun r μ1 => r = rsnq V n c0 k (bt np c0) ∧ μ1 = mb μ b V) := by
  refine KI_of (cc := cX0_reason) (maxL := 6) (ret := (some .int)) (by decide) rfl (Nat.le_of_ble_eq_true rfl) ?_
  intro p e s m args below meth c hr hlk X
  show J p l e _ s m args below meth c 0 0 _ 6 D ad cs A 0 [(0, .ref (ad b 0)), (1, .int (nI n)), (2, .int (nI c0)), (3, .int (nI k)), (4, .int np)] [] (mb μ b V)
  have hinX0 : ∀ w ∈ wsX00, w ∈ wsX0_reason := by decide +kernel
  have k35 : (Cond.fieldLink RX0 35 "PunCourts$Court" "borne" "[I").before args s = true := X.1.2.2.2.2 _ (by decide +kernel)
  have k28 : (Cond.fieldLink RX0 28 "PunCourts$Court" "withdrawn" "[Z").before args s = true := X.1.2.2.2.2 _ (by decide +kernel)
  have k9 : (Cond.fieldLink RX0 9 "PunCourts$Court" "settings" "[I").before args s = true := X.1.2.2.2.2 _ (by decide +kernel)
  have k104 : (Cond.fieldLink RX0 104 "PunCourts$Court" "days" "I").before args s = true := X.1.2.2.2.2 _ (by decide +kernel)
  have k44 : (Cond.fieldLink RX0 44 "PunCourts$Court" "gotDay" "[I").before args s = true := X.1.2.2.2.2 _ (by decide +kernel)
  have k25 : (Cond.fieldLink RX0 25 "PunCourts$Court" "honours" "[I").before args s = true := X.1.2.2.2.2 _ (by decide +kernel)
  refine j_aload_n (q := 0) X dX0_reason_0 rfl rfl ?_
  refine j_getCB X (oC hb) hinX0 9 (by decide) rfl k35 dX0_reason_1 ?_
  refine j_iload_n (q := 2) X dX0_reason_4 rfl rfl ?_
  refine j_ialdB X (aC_10 hb) c0 rfl (by omega) (by decide) dX0_reason_5 ?_
  refine j_istore (lv' := [(5, .int (V 10 c0)), (0, .ref (ad b 0)), (1, .int (nI n)), (2, .int (nI c0)), (3, .int (nI k)), (4, .int np)]) X dX0_reason_6 (by decide) rfl ?_
  refine j_aload_n (q := 1) X dX0_reason_8 rfl rfl ?_
  refine j_getCB X (oC hb) hinX0 7 (by decide) rfl k28 dX0_reason_9 ?_
  refine j_iload_n (q := 2) X dX0_reason_12 rfl rfl ?_
  refine j_zaldB X (aC_8 hb) n rfl (by omega) (by decide) dX0_reason_13 ?_
  refine j_if_eq (tgt := 19) X dX0_reason_14 (by decide) (fun c14 => ?_) (fun c14 => ?_)
  · skip
    refine j_iload (q := 0) X dX0_reason_19 rfl ?_
    refine j_iload_n (q := 2) X dX0_reason_21 rfl rfl ?_
    refine j_icmp_ne (tgt := 27) X dX0_reason_22 (by decide) (fun c22 => ?_) (fun c22 => ?_)
    · skip
      refine j_iload_n (q := 4) X dX0_reason_27 rfl rfl ?_
      refine j_aload_n (q := 1) X dX0_reason_28 rfl rfl ?_
      refine j_getCB X (oC hb) hinX0 0 (by decide) rfl k9 dX0_reason_29 ?_
      refine j_iconst (v := (nI 1)) X dX0_reason_32 (by decide) ?_
      refine j_ialdB X (aC_1 hb) 1 rfl (by decide) (by decide) dX0_reason_33 ?_
      refine j_icmp_lt (tgt := 39) X dX0_reason_34 (by decide) (fun c34 => ?_) (fun c34 => ?_)
      · skip
        refine j_iload (q := 5) X dX0_reason_39 rfl ?_
        refine j_iconst (v := (nI 1)) X dX0_reason_41 (by decide) ?_
        refine j_iload_n (q := 3) X dX0_reason_42 rfl rfl ?_
        refine j_ishl (v := ((nI 1) <<< ((nI c0) &&& 31))) X dX0_reason_43 rfl ?_
        refine j_iand (v := (np &&& ((nI 1) <<< ((nI c0) &&& 31)))) X dX0_reason_44 rfl ?_
        refine j_if_eq (tgt := 50) X dX0_reason_45 (by decide) (fun c45 => ?_) (fun c45 => ?_)
        · skip
          have hq : ¬ bt np c0 = true := by rw [(b_in np c0 (by omega)).mp c45]; decide
          refine j_aload_n (q := 1) X dX0_reason_50 rfl rfl ?_
          refine j_iload (q := 0) X dX0_reason_51 rfl ?_
          refine j_callVi (As := [.int (V 10 c0)]) X (kX0_hasName l D ad cs A z hb μ V (V 10 c0)) (oC hb) rfl (cwV 1 X.1.2.2.2.2 gX0_reason_X0_hasName rfl rfl rfl (by decide +kernel) ⟨Nat.le_of_ble_eq_true rfl, Nat.le_of_ble_eq_true rfl⟩) rfl rfl (Nat.le_of_ble_eq_true rfl) dX0_reason_53 (fun r53 μ53 h53 => ?_)
          obtain ⟨h53, rfl⟩ := h53
          refine j_if_eq (tgt := 77) X dX0_reason_56 (by decide) (fun c56 => ?_) (fun c56 => ?_)
          · skip
            have h5 : ¬ (hasN V (V 10 c0) ∧ V 7 n < V 7 (V 10 c0).toNatClampNeg) := fun q => h53.f c56 q.1
            refine j_aload_n (q := 1) X dX0_reason_77 rfl rfl ?_
            refine j_iload (q := 0) X dX0_reason_78 rfl ?_
            refine j_callVi (As := [.int (V 10 c0)]) X (kX0_hasName l D ad cs A z hb μ V (V 10 c0)) (oC hb) rfl (cwV 1 X.1.2.2.2.2 gX0_reason_X0_hasName rfl rfl rfl (by decide +kernel) ⟨Nat.le_of_ble_eq_true rfl, Nat.le_of_ble_eq_true rfl⟩) rfl rfl (Nat.le_of_ble_eq_true rfl) dX0_reason_80 (fun r80 μ80 h80 => ?_)
            obtain ⟨h80, rfl⟩ := h80
            refine j_if_eq (tgt := 109) X dX0_reason_83 (by decide) (fun c83 => ?_) (fun c83 => ?_)
            · skip
              have h6 : ¬ (hasN V (V 10 c0) ∧ V 0 1 - V 13 c0 < V 1 3) := fun q => h80.f c83 q.1
              refine j_iconst (v := (nI 0)) X dX0_reason_109 (by decide) ?_
              exact j_iret X hr hlk ⟨by rw [rsnq, if_neg (Classical.not_not.mpr c14), if_neg c22, if_neg (Classical.not_not.mpr c34), if_neg hq, if_neg h5, if_neg h6]; rfl, rfl⟩ dX0_reason_110
            · skip
              refine j_aload_n (q := 1) X dX0_reason_86 rfl rfl ?_
              refine j_getCB X (oC hb) hinX0 1 (by decide) rfl k104 dX0_reason_87 ?_
              refine j_aload_n (q := 1) X dX0_reason_90 rfl rfl ?_
              refine j_getCB X (oC hb) hinX0 12 (by decide) rfl k44 dX0_reason_91 ?_
              refine j_iload_n (q := 3) X dX0_reason_94 rfl rfl ?_
              refine j_ialdB X (aC_13 hb) c0 rfl (by omega) (by decide) dX0_reason_95 ?_
              refine j_isub (v := ((V 0 1) - (V 13 c0))) X dX0_reason_96 rfl ?_
              refine j_aload_n (q := 1) X dX0_reason_97 rfl rfl ?_
              refine j_getCB X (oC hb) hinX0 0 (by decide) rfl k9 dX0_reason_98 ?_
              refine j_iconst (v := (nI 3)) X dX0_reason_101 (by decide) ?_
              refine j_ialdB X (aC_1 hb) 3 rfl (by decide) (by decide) dX0_reason_102 ?_
              refine j_icmp_ge (tgt := 109) X dX0_reason_103 (by decide) (fun c103 => ?_) (fun c103 => ?_)
              · skip
                have h6 : ¬ (hasN V (V 10 c0) ∧ V 0 1 - V 13 c0 < V 1 3) := fun q => absurd q.2 (Int32.not_lt.mpr c103)
                refine j_iconst (v := (nI 0)) X dX0_reason_109 (by decide) ?_
                exact j_iret X hr hlk ⟨by rw [rsnq, if_neg (Classical.not_not.mpr c14), if_neg c22, if_neg (Classical.not_not.mpr c34), if_neg hq, if_neg h5, if_neg h6]; rfl, rfl⟩ dX0_reason_110
              · skip
                have h6 : (hasN V (V 10 c0) ∧ V 0 1 - V 13 c0 < V 1 3) := ⟨h80.t c83, Int32.not_le.mp c103⟩
                refine j_bipush (v := (nI 6)) X dX0_reason_106 (by decide) ?_
                exact j_iret X hr hlk ⟨by rw [rsnq, if_neg (Classical.not_not.mpr c14), if_neg c22, if_neg (Classical.not_not.mpr c34), if_neg hq, if_neg h5, if_pos h6]; rfl, rfl⟩ dX0_reason_108
          · skip
            have h53 := h53.t c56
            have hx := h53.ix
            refine j_aload_n (q := 1) X dX0_reason_59 rfl rfl ?_
            refine j_getCB X (oC hb) hinX0 6 (by decide) rfl k25 dX0_reason_60 ?_
            refine j_iload (q := 0) X dX0_reason_63 rfl ?_
            refine j_ialdB X (aC_7 hb) ((V 10 c0).toNatClampNeg) hx.1 hx.2 (by decide) dX0_reason_65 ?_
            refine j_aload_n (q := 1) X dX0_reason_66 rfl rfl ?_
            refine j_getCB X (oC hb) hinX0 6 (by decide) rfl k25 dX0_reason_67 ?_
            refine j_iload_n (q := 2) X dX0_reason_70 rfl rfl ?_
            refine j_ialdB X (aC_7 hb) n rfl (by omega) (by decide) dX0_reason_71 ?_
            refine j_icmp_le (tgt := 77) X dX0_reason_72 (by decide) (fun c72 => ?_) (fun c72 => ?_)
            · skip
              have h5 : ¬ (hasN V (V 10 c0) ∧ V 7 n < V 7 (V 10 c0).toNatClampNeg) := fun q => absurd q.2 (Int32.not_lt.mpr c72)
              refine j_aload_n (q := 1) X dX0_reason_77 rfl rfl ?_
              refine j_iload (q := 0) X dX0_reason_78 rfl ?_
              refine j_callVi (As := [.int (V 10 c0)]) X (kX0_hasName l D ad cs A z hb μ V (V 10 c0)) (oC hb) rfl (cwV 1 X.1.2.2.2.2 gX0_reason_X0_hasName rfl rfl rfl (by decide +kernel) ⟨Nat.le_of_ble_eq_true rfl, Nat.le_of_ble_eq_true rfl⟩) rfl rfl (Nat.le_of_ble_eq_true rfl) dX0_reason_80 (fun r80 μ80 h80 => ?_)
              obtain ⟨h80, rfl⟩ := h80
              refine j_if_eq (tgt := 109) X dX0_reason_83 (by decide) (fun c83 => ?_) (fun c83 => ?_)
              · skip
                have h6 : ¬ (hasN V (V 10 c0) ∧ V 0 1 - V 13 c0 < V 1 3) := fun q => h80.f c83 q.1
                refine j_iconst (v := (nI 0)) X dX0_reason_109 (by decide) ?_
                exact j_iret X hr hlk ⟨by rw [rsnq, if_neg (Classical.not_not.mpr c14), if_neg c22, if_neg (Classical.not_not.mpr c34), if_neg hq, if_neg h5, if_neg h6]; rfl, rfl⟩ dX0_reason_110
              · skip
                refine j_aload_n (q := 1) X dX0_reason_86 rfl rfl ?_
                refine j_getCB X (oC hb) hinX0 1 (by decide) rfl k104 dX0_reason_87 ?_
                refine j_aload_n (q := 1) X dX0_reason_90 rfl rfl ?_
                refine j_getCB X (oC hb) hinX0 12 (by decide) rfl k44 dX0_reason_91 ?_
                refine j_iload_n (q := 3) X dX0_reason_94 rfl rfl ?_
                refine j_ialdB X (aC_13 hb) c0 rfl (by omega) (by decide) dX0_reason_95 ?_
                refine j_isub (v := ((V 0 1) - (V 13 c0))) X dX0_reason_96 rfl ?_
                refine j_aload_n (q := 1) X dX0_reason_97 rfl rfl ?_
                refine j_getCB X (oC hb) hinX0 0 (by decide) rfl k9 dX0_reason_98 ?_
                refine j_iconst (v := (nI 3)) X dX0_reason_101 (by decide) ?_
                refine j_ialdB X (aC_1 hb) 3 rfl (by decide) (by decide) dX0_reason_102 ?_
                refine j_icmp_ge (tgt := 109) X dX0_reason_103 (by decide) (fun c103 => ?_) (fun c103 => ?_)
                · skip
                  have h6 : ¬ (hasN V (V 10 c0) ∧ V 0 1 - V 13 c0 < V 1 3) := fun q => absurd q.2 (Int32.not_lt.mpr c103)
                  refine j_iconst (v := (nI 0)) X dX0_reason_109 (by decide) ?_
                  exact j_iret X hr hlk ⟨by rw [rsnq, if_neg (Classical.not_not.mpr c14), if_neg c22, if_neg (Classical.not_not.mpr c34), if_neg hq, if_neg h5, if_neg h6]; rfl, rfl⟩ dX0_reason_110
                · skip
                  have h6 : (hasN V (V 10 c0) ∧ V 0 1 - V 13 c0 < V 1 3) := ⟨h80.t c83, Int32.not_le.mp c103⟩
                  refine j_bipush (v := (nI 6)) X dX0_reason_106 (by decide) ?_
                  exact j_iret X hr hlk ⟨by rw [rsnq, if_neg (Classical.not_not.mpr c14), if_neg c22, if_neg (Classical.not_not.mpr c34), if_neg hq, if_neg h5, if_pos h6]; rfl, rfl⟩ dX0_reason_108
            · skip
              refine j_iconst (v := (nI 5)) X dX0_reason_75 (by decide) ?_
              exact j_iret X hr hlk ⟨by rw [rsnq, if_neg (Classical.not_not.mpr c14), if_neg c22, if_neg (Classical.not_not.mpr c34), if_neg hq, if_pos ⟨h53, Int32.not_le.mp c72⟩]; rfl, rfl⟩ dX0_reason_76
        · skip
          have hq : bt np c0 = true := by rw [b_in np c0 (by omega)] at c45; simpa using c45
          refine j_iconst (v := (nI 4)) X dX0_reason_48 (by decide) ?_
          exact j_iret X hr hlk ⟨by rw [rsnq, if_neg (Classical.not_not.mpr c14), if_neg c22, if_neg (Classical.not_not.mpr c34), if_pos hq]; rfl, rfl⟩ dX0_reason_49
      · skip
        refine j_iconst (v := (nI 3)) X dX0_reason_37 (by decide) ?_
        exact j_iret X hr hlk ⟨by rw [rsnq, if_neg (Classical.not_not.mpr c14), if_neg c22, if_pos c34]; rfl, rfl⟩ dX0_reason_38
    · skip
      refine j_iconst (v := (nI 2)) X dX0_reason_25 (by decide) ?_
      exact j_iret X hr hlk ⟨by rw [rsnq, if_neg (Classical.not_not.mpr c14), if_pos (Classical.not_not.mp c22)]; rfl, rfl⟩ dX0_reason_26
  · skip
    refine j_iconst (v := (nI 1)) X dX0_reason_17 (by decide) ?_
    exact j_iret X hr hlk ⟨by rw [rsnq, if_pos c14]; rfl, rfl⟩ dX0_reason_18
set_option maxHeartbeats 4000000 in
set_option maxRecDepth 100000 in
theorem kX0_refusal (l : Launch) (D : va_G) (ad : Nat → Nat → Nat) (cs : Nat → ClassId) (A : Nat → Prop) (z : Nat → Nat) {b : Nat} (hb : b < 10) (μ : Mm) (V : CV) (a : Nat) (ha : V 1 0 = nI a) (ha11 : a ≤ 11) (n : Nat) (hn : n < 20) (c0 : Nat) (hc : c0 < 12) : KI l D ad cs A z yX0_refusal wsX0_refusal (rm 3 69) [.ref (ad b 0), .int (nI n), .int (nI c0)] (mb μ b V) (fun r μ1 => r = rsn V a n c0 ∧ μ1 = mb μ b V) := by
  refine KI_of (cc := cX0_refusal) (maxL := 3) (ret := (some .int)) (by decide) rfl (Nat.le_of_ble_eq_true rfl) ?_
  intro p e s m args below meth c hr hlk X
  show J p l e _ s m args below meth c 0 0 _ 3 D ad cs A 0 [(0, .ref (ad b 0)), (1, .int (nI n)), (2, .int (nI c0))] [] (mb μ b V)
  refine j_aload_n (q := 0) X dX0_refusal_0 rfl rfl ?_
  refine j_iload_n (q := 1) X dX0_refusal_1 rfl rfl ?_
  refine j_iload_n (q := 2) X dX0_refusal_2 rfl rfl ?_
  refine j_aload_n (q := 0) X dX0_refusal_3 rfl rfl ?_
  refine j_iload_n (q := 1) X dX0_refusal_4 rfl rfl ?_
  refine j_callVi (As := [.int (nI n)]) X (kX0_bearers l D ad cs A z hb μ V (nI n)) (oC hb) rfl (cwV 1 X.1.2.2.2.2 gX0_refusal_X0_bearers rfl rfl rfl (by decide +kernel) ⟨Nat.le_of_ble_eq_true rfl, Nat.le_of_ble_eq_true rfl⟩) rfl rfl (Nat.le_of_ble_eq_true rfl) dX0_refusal_5 (fun r5 μ5 h5 => ?_)
  obtain ⟨rfl, rfl⟩ := h5
  have hnb := nb_le V (nI n) 12
  refine j_aload_n (q := 0) X dX0_refusal_8 rfl rfl ?_
  refine j_iload_n (q := 1) X dX0_refusal_9 rfl rfl ?_
  refine j_callVi (As := [.int (nI n)]) X (kX0_nearPuns l D ad cs A z hb μ V a ha ha11 n hn) (oC hb) rfl (cwV 1 X.1.2.2.2.2 gX0_refusal_X0_nearPuns rfl rfl rfl (by decide +kernel) ⟨Nat.le_of_ble_eq_true rfl, Nat.le_of_ble_eq_true rfl⟩) rfl rfl (Nat.le_of_ble_eq_true rfl) dX0_refusal_10 (fun r10 μ10 h10 => ?_)
  obtain ⟨h10, rfl⟩ := h10
  refine j_callVi (As := [.int (nI n), .int (nI c0), .int (nI (nb V (nI n) 12)), .int r10]) X (kX0_reason l D ad cs A z hb μ V n hn c0 hc (nb V (nI n) 12) r10) (oC hb) rfl (cwV 4 X.1.2.2.2.2 gX0_refusal_X0_reason rfl rfl rfl (by decide +kernel) ⟨Nat.le_of_ble_eq_true rfl, Nat.le_of_ble_eq_true rfl⟩) rfl rfl (Nat.le_of_ble_eq_true rfl) dX0_refusal_13 (fun r13 μ13 h13 => ?_)
  obtain ⟨h13, rfl⟩ := h13
  exact j_iret X hr hlk ⟨by rw [h13, h10 c0 hc]; rfl, rfl⟩ dX0_refusal_16
set_option maxHeartbeats 4000000 in
set_option maxRecDepth 100000 in
theorem kX0_lowestFree (l : Launch) (D : va_G) (ad : Nat → Nat → Nat) (cs : Nat → ClassId) (A : Nat → Prop) (z : Nat → Nat) {b : Nat} (hb : b < 10) (μ : Mm) (V : CV) (a : Nat) (ha : V 1 0 = nI a) (ha11 : a ≤ 11) (n : Nat) (hn : n < 20) : KI l D ad cs A z yX0_lowestFree wsX0_lowestFree (rm 3 69) [.ref (ad b 0), .int (nI n)] (mb μ b V) (fun r μ1 => r = low (rsn V a n) ∧ μ1 = mb μ b V) := by
  refine KI_of (cc := cX0_lowestFree) (maxL := 5) (ret := (some .int)) (by decide) rfl (Nat.le_of_ble_eq_true rfl) ?_
  intro p e s m args below meth c hr hlk X
  show J p l e _ s m args below meth c 0 0 _ 5 D ad cs A 0 [(0, .ref (ad b 0)), (1, .int (nI n))] [] (mb μ b V)
  refine j_aload_n (q := 0) X dX0_lowestFree_0 rfl rfl ?_
  refine j_iload_n (q := 1) X dX0_lowestFree_1 rfl rfl ?_
  refine j_callVi (As := [.int (nI n)]) X (kX0_bearers l D ad cs A z hb μ V (nI n)) (oC hb) rfl (cwV 1 X.1.2.2.2.2 gX0_lowestFree_X0_bearers rfl rfl rfl (by decide +kernel) ⟨Nat.le_of_ble_eq_true rfl, Nat.le_of_ble_eq_true rfl⟩) rfl rfl (Nat.le_of_ble_eq_true rfl) dX0_lowestFree_2 (fun r2 μ2 h2 => ?_)
  obtain ⟨rfl, rfl⟩ := h2
  have hnb := nb_le V (nI n) 12
  refine j_istore_n (lv' := [(2, .int (nI (nb V (nI n) 12))), (0, .ref (ad b 0)), (1, .int (nI n))]) X dX0_lowestFree_5 rfl (by decide) rfl ?_
  refine j_aload_n (q := 1) X dX0_lowestFree_6 rfl rfl ?_
  refine j_iload_n (q := 2) X dX0_lowestFree_7 rfl rfl ?_
  refine j_callVi (As := [.int (nI n)]) X (kX0_nearPuns l D ad cs A z hb μ V a ha ha11 n hn) (oC hb) rfl (cwV 1 X.1.2.2.2.2 gX0_lowestFree_X0_nearPuns rfl rfl rfl (by decide +kernel) ⟨Nat.le_of_ble_eq_true rfl, Nat.le_of_ble_eq_true rfl⟩) rfl rfl (Nat.le_of_ble_eq_true rfl) dX0_lowestFree_8 (fun r8 μ8 h8 => ?_)
  obtain ⟨h8, rfl⟩ := h8
  refine j_istore_n (lv' := [(3, .int r8), (2, .int (nI (nb V (nI n) 12))), (0, .ref (ad b 0)), (1, .int (nI n))]) X dX0_lowestFree_11 rfl (by decide) rfl ?_
  refine j_iconst (v := (nI 0)) X dX0_lowestFree_12 (by decide) ?_
  refine j_istore (lv' := [(4, .int (nI 0)), (3, .int r8), (2, .int (nI (nb V (nI n) 12))), (0, .ref (ad b 0)), (1, .int (nI n))]) X dX0_lowestFree_13 (by decide) rfl ?_
  refine j_lv [0, 3, 4, 2, 1] rfl ?_
  refine jl1 (G := J p l e _ s m args below meth c 0 0 _ _ D ad cs A) (pc := 15) (fun (i : Nat) => [(4, .int (nI i)), (0, .ref (ad b 0)), (1, .int (nI n)), (2, .int (nI (nb V (nI n) 12))), (3, .int r8)]) (fun (i : Nat) => (mb μ b V)) (fun (i : Nat) => i ≤ 12 ∧ lw (rsn V a n) i = i) (fun (i : Nat) => 12 - i) ?_ 0 ⟨by omega, rfl⟩
  intro i hI15 ih15
  try dsimp only at ih15 ⊢
  obtain ⟨hi, hl⟩ := hI15
  refine j_iload (q := 0) X dX0_lowestFree_15 rfl ?_
  refine j_bipush (v := (nI 12)) X dX0_lowestFree_17 (by decide) ?_
  refine j_ncmp_ge (tgt := 43) X i 12 dX0_lowestFree_19 (by decide) rfl rfl (by omega) (by omega) (fun c19 => ?_) (fun c19 => ?_)
  · skip
    refine j_bipush (v := (-6)) X dX0_lowestFree_43 (by decide) ?_
    exact j_iret X hr hlk ⟨by rw [low, if_neg (by rw [show i = 12 by omega] at hl; omega)], rfl⟩ dX0_lowestFree_45
  · skip
    refine j_aload_n (q := 1) X dX0_lowestFree_22 rfl rfl ?_
    refine j_iload_n (q := 2) X dX0_lowestFree_23 rfl rfl ?_
    refine j_iload (q := 0) X dX0_lowestFree_24 rfl ?_
    refine j_iload_n (q := 3) X dX0_lowestFree_26 rfl rfl ?_
    refine j_iload_n (q := 4) X dX0_lowestFree_27 rfl rfl ?_
    refine j_callVi (As := [.int (nI n), .int (nI i), .int (nI (nb V (nI n) 12)), .int r8]) X (kX0_reason l D ad cs A z hb μ V n hn i (by omega) (nb V (nI n) 12) r8) (oC hb) rfl (cwV 4 X.1.2.2.2.2 gX0_lowestFree_X0_reason rfl rfl rfl (by decide +kernel) ⟨Nat.le_of_ble_eq_true rfl, Nat.le_of_ble_eq_true rfl⟩) rfl rfl (Nat.le_of_ble_eq_true rfl) dX0_lowestFree_28 (fun r28 μ28 h28 => ?_)
    obtain ⟨h28, rfl⟩ := h28
    have h28 : r28 = rsn V a n i := by rw [h28, h8 i (by omega)]; rfl
    rw [h28]
    refine j_if_ne (tgt := 37) X dX0_lowestFree_31 (by decide) (fun c31 => ?_) (fun c31 => ?_)
    · skip
      refine j_iinc (q := 0) (v := (nI (i + 1))) (lv' := [(4, .int (nI (i + 1))), (0, .ref (ad b 0)), (1, .int (nI n)), (2, .int (nI (nb V (nI n) 12))), (3, .int r8)]) X dX0_lowestFree_37 rfl (nI_1 _) (by decide) rfl ?_
      refine j_goto (tgt := 15) X dX0_lowestFree_40 (by decide) ?_
      exact ih15 (i + 1) ⟨by omega, lw_go hl c31⟩ (by omega)
    · skip
      refine j_iload (q := 0) X dX0_lowestFree_34 rfl ?_
      exact j_iret X hr hlk ⟨by rw [low, lw_hit hl (Classical.not_not.mp c31) 12 (by omega), if_pos (by omega)], rfl⟩ dX0_lowestFree_36
set_option maxHeartbeats 4000000 in
set_option maxRecDepth 100000 in
theorem kX0_signAt (l : Launch) (D : va_G) (ad : Nat → Nat → Nat) (cs : Nat → ClassId) (A : Nat → Prop) (z : Nat → Nat) {b : Nat} (hb : b < 10) (μ : Mm) (V : CV) (n : Nat) (hn : n < 20) (i : Nat) (hi : i < 9) : KI l D ad cs A z yX0_signAt wsX0_signAt (rm 0 0) [.ref (ad b 0), .int (nI n), .int (nI i)] (mb μ b V) (fun r μ1 => r = sga V n i ∧ μ1 = mb μ b V) := by
  refine KI_of (cc := cX0_signAt) (maxL := 4) (ret := (some .int)) (by decide) rfl (Nat.le_of_ble_eq_true rfl) ?_
  intro p e s m args below meth c hr hlk X
  show J p l e _ s m args below meth c 0 0 _ 4 D ad cs A 0 [(0, .ref (ad b 0)), (1, .int (nI n)), (2, .int (nI i))] [] (mb μ b V)
  have hinX0 : ∀ w ∈ wsX00, w ∈ wsX0_signAt := by decide +kernel
  have k15 : (Cond.fieldLink RX0 15 "PunCourts$Court" "letters" "[C").before args s = true := X.1.2.2.2.2 _ (by decide +kernel)
  refine j_iload_n (q := 2) X dX0_signAt_0 rfl rfl ?_
  refine j_if_lt (tgt := 10) X dX0_signAt_1 (by decide) (fun c1 => absurd c1 (nI_pos (by omega))) (fun c1 => ?_)
  refine j_iload_n (q := 2) X dX0_signAt_4 rfl rfl ?_
  refine j_bipush (v := (nI 9)) X dX0_signAt_5 (by decide) ?_
  refine j_ncmp_lt (tgt := 12) X i 9 dX0_signAt_7 (by decide) rfl rfl (by omega) (by omega) (fun c7 => ?_) (fun c7 => absurd hi c7)
  refine j_aload_n (q := 0) X dX0_signAt_12 rfl rfl ?_
  refine j_getCB X (oC hb) hinX0 3 (by decide) rfl k15 dX0_signAt_13 ?_
  refine j_iload_n (q := 1) X dX0_signAt_16 rfl rfl ?_
  refine j_bipush (v := (nI 9)) X dX0_signAt_17 (by decide) ?_
  refine j_imul (v := (nI (n * 9))) X dX0_signAt_19 (pk_mul _ _) ?_
  refine j_iload_n (q := 2) X dX0_signAt_20 rfl rfl ?_
  refine j_iadd (v := (nI ((n * 9) + i))) X dX0_signAt_21 (nI_add _ _) ?_
  refine j_caldB X (aC_4 hb) ((n * 9) + i) rfl (by omega) (by decide) dX0_signAt_22 ?_
  refine j_bipush (v := (nI 97)) X dX0_signAt_23 (by decide) ?_
  refine j_isub (v := ((V 4 ((n * 9) + i)) - (nI 97))) X dX0_signAt_25 rfl ?_
  refine j_istore_n (lv' := [(3, .int ((V 4 ((n * 9) + i)) - (nI 97))), (0, .ref (ad b 0)), (1, .int (nI n)), (2, .int (nI i))]) X dX0_signAt_26 rfl (by decide) rfl ?_
  refine j_iload_n (q := 0) X dX0_signAt_27 rfl rfl ?_
  refine j_if_lt (tgt := 47) X dX0_signAt_28 (by decide) (fun c28 => ?_) (fun c28 => ?_)
  · skip
    refine j_iconst (v := (nI 0)) X dX0_signAt_47 (by decide) ?_
    exact j_iret X hr hlk ⟨by rw [sga, sgn, if_neg (fun q => by first | exact q.1 c28 | exact q.2 c36)]; rfl, rfl⟩ dX0_signAt_48
  · skip
    refine j_iload_n (q := 0) X dX0_signAt_31 rfl rfl ?_
    refine j_sgs X rfl dX0_signAt_32 ?_
    refine j_sgl X dX0_signAt_35 ?_
    refine j_icmp_ge (tgt := 47) X dX0_signAt_36 (by decide) (fun c36 => ?_) (fun c36 => ?_)
    · skip
      refine j_iconst (v := (nI 0)) X dX0_signAt_47 (by decide) ?_
      exact j_iret X hr hlk ⟨by rw [sga, sgn, if_neg (fun q => by first | exact q.1 c28 | exact q.2 c36)]; rfl, rfl⟩ dX0_signAt_48
    · skip
      refine j_sgs X rfl dX0_signAt_39 ?_
      refine j_iload_n (q := 0) X dX0_signAt_42 rfl rfl ?_
      refine j_sga X ((V 4 (n * 9 + i) - nI 97).toNatClampNeg) (ixx c28 c36 (by decide)).1 (ixx c28 c36 (by decide)).2 dX0_signAt_43 ?_
      refine j_goto (tgt := 48) X dX0_signAt_44 (by decide) ?_
      exact j_iret X hr hlk ⟨by rw [sga, sgn, if_pos ⟨c28, c36⟩], rfl⟩ dX0_signAt_48
set_option maxHeartbeats 4000000 in
set_option maxRecDepth 100000 in
theorem kX0_soundOf (l : Launch) (D : va_G) (ad : Nat → Nat → Nat) (cs : Nat → ClassId) (A : Nat → Prop) (z : Nat → Nat) {b : Nat} (hb : b < 10) (μ : Mm) (V : CV) (n : Nat) (hn : n < 20) (L : Nat) (hL : V 5 n = nI L) (hL9 : L ≤ 9) : KI l D ad cs A z yX0_soundOf wsX0_soundOf (rm 1 23) [.ref (ad b 0), .int (nI n)] (mb μ b V) (fun r μ1 => r = sdS (sga V n) L ∧ μ1 = mb μ b V) := by
  refine KI_of (cc := cX0_soundOf) (maxL := 6) (ret := (some .int)) (by decide) rfl (Nat.le_of_ble_eq_true rfl) ?_
  intro p e s m args below meth c hr hlk X
  show J p l e _ s m args below meth c 0 0 _ 6 D ad cs A 0 [(0, .ref (ad b 0)), (1, .int (nI n))] [] (mb μ b V)
  have hinX0 : ∀ w ∈ wsX00, w ∈ wsX0_soundOf := by decide +kernel
  have k19 : (Cond.fieldLink RX0 19 "PunCourts$Court" "lengths" "[I").before args s = true := X.1.2.2.2.2 _ (by decide +kernel)
  refine j_iconst (v := (nI 0)) X dX0_soundOf_0 (by decide) ?_
  refine j_istore_n (lv' := [(2, .int (nI 0)), (0, .ref (ad b 0)), (1, .int (nI n))]) X dX0_soundOf_1 rfl (by decide) rfl ?_
  refine j_iconst (v := (nI 0)) X dX0_soundOf_2 (by decide) ?_
  refine j_istore_n (lv' := [(3, .int (nI 0)), (2, .int (nI 0)), (0, .ref (ad b 0)), (1, .int (nI n))]) X dX0_soundOf_3 rfl (by decide) rfl ?_
  refine j_iconst (v := (nI 0)) X dX0_soundOf_4 (by decide) ?_
  refine j_istore (lv' := [(4, .int (nI 0)), (3, .int (nI 0)), (2, .int (nI 0)), (0, .ref (ad b 0)), (1, .int (nI n))]) X dX0_soundOf_5 (by decide) rfl ?_
  refine j_lv [0, 2, 1, 3, 4] rfl ?_
  refine jl3 (G := J p l e _ s m args below meth c 0 0 _ _ D ad cs A) (pc := 7) (fun (i : Nat) (so : Int32) (pr : Int32) => [(4, .int (nI i)), (2, .int so), (3, .int pr), (0, .ref (ad b 0)), (1, .int (nI n))]) (fun (i : Nat) (so : Int32) (pr : Int32) => (mb μ b V)) (fun (i : Nat) (so : Int32) (pr : Int32) => i ≤ L ∧ so = sdS (sga V n) i ∧ pr = sdP (sga V n) i) (fun (i : Nat) (so : Int32) (pr : Int32) => L - i) ?_ 0 (nI 0) (nI 0) ⟨by omega, rfl, rfl⟩
  intro i so pr hI7 ih7
  try dsimp only at ih7 ⊢
  obtain ⟨hi, hso, hpr⟩ := hI7
  refine j_iload (q := 0) X dX0_soundOf_7 rfl ?_
  refine j_aload_n (q := 3) X dX0_soundOf_9 rfl rfl ?_
  refine j_getCB X (oC hb) hinX0 4 (by decide) rfl k19 dX0_soundOf_10 ?_
  refine j_iload_n (q := 4) X dX0_soundOf_13 rfl rfl ?_
  refine j_ialdB X (aC_5 hb) n rfl (by omega) (by decide) dX0_soundOf_14 ?_
  rw [hL]
  refine j_ncmp_ge (tgt := 66) X i L dX0_soundOf_15 (by decide) rfl rfl (by omega) (by omega) (fun c15 => ?_) (fun c15 => ?_)
  · skip
    refine j_iload_n (q := 1) X dX0_soundOf_66 rfl rfl ?_
    exact j_iret X hr hlk ⟨by rw [hso, show i = L by omega], rfl⟩ dX0_soundOf_67
  · skip
    refine j_aload_n (q := 3) X dX0_soundOf_18 rfl rfl ?_
    refine j_iload_n (q := 4) X dX0_soundOf_19 rfl rfl ?_
    refine j_iload (q := 0) X dX0_soundOf_20 rfl ?_
    refine j_callVi (As := [.int (nI n), .int (nI i)]) X (kX0_signAt l D ad cs A z hb μ V n hn i (by omega)) (oC hb) rfl (cwV 2 X.1.2.2.2.2 gX0_soundOf_X0_signAt rfl rfl rfl (by decide +kernel) ⟨Nat.le_of_ble_eq_true rfl, Nat.le_of_ble_eq_true rfl⟩) rfl rfl (Nat.le_of_ble_eq_true rfl) dX0_soundOf_22 (fun r22 μ22 h22 => ?_)
    obtain ⟨h22, rfl⟩ := h22
    rw [h22]
    refine j_istore (lv' := [(5, .int (sga V n i)), (4, .int (nI i)), (2, .int so), (3, .int pr), (0, .ref (ad b 0)), (1, .int (nI n))]) X dX0_soundOf_25 (by decide) rfl ?_
    refine j_iload (q := 0) X dX0_soundOf_27 rfl ?_
    refine j_if_eq (tgt := 60) X dX0_soundOf_29 (by decide) (fun c29 => ?_) (fun c29 => ?_)
    · skip
      have hh : ¬ hrd (sga V n) i := fun q => q.1 c29
      have hp : sdP (sga V n) (i + 1) = sdP (sga V n) i := by rw [sdP, if_pos c29]
      refine j_iinc (q := 1) (v := (nI (i + 1))) (lv' := [(4, .int (nI (i + 1))), (5, .int (sga V n i)), (2, .int so), (3, .int pr), (0, .ref (ad b 0)), (1, .int (nI n))]) X dX0_soundOf_60 rfl (nI_1 _) (by decide) rfl ?_
      refine j_goto (tgt := 7) X dX0_soundOf_63 (by decide) ?_
      refine j_lv [0, 2, 3, 4, 5] rfl ?_
      exact ih7 (i + 1) so pr ⟨by omega, by first | rw [sdS, if_pos hh, hso] | rw [sdS, if_neg hh, hso], by first | exact hp.symm | (rw [hp]; exact hpr)⟩ (by omega)
    · skip
      refine j_iload (q := 0) X dX0_soundOf_32 rfl ?_
      refine j_iload_n (q := 3) X dX0_soundOf_34 rfl rfl ?_
      refine j_icmp_eq (tgt := 60) X dX0_soundOf_35 (by decide) (fun c35 => ?_) (fun c35 => ?_)
      · skip
        have hh : ¬ hrd (sga V n) i := fun q => q.2.1 (by rw [← hpr]; exact c35)
        have hp : sdP (sga V n) (i + 1) = sdP (sga V n) i := by rw [sdP, if_neg c29, ← hpr]; exact c35
        refine j_iinc (q := 1) (v := (nI (i + 1))) (lv' := [(4, .int (nI (i + 1))), (5, .int (sga V n i)), (2, .int so), (3, .int pr), (0, .ref (ad b 0)), (1, .int (nI n))]) X dX0_soundOf_60 rfl (nI_1 _) (by decide) rfl ?_
        refine j_goto (tgt := 7) X dX0_soundOf_63 (by decide) ?_
        refine j_lv [0, 2, 3, 4, 5] rfl ?_
        exact ih7 (i + 1) so pr ⟨by omega, by first | rw [sdS, if_pos hh, hso] | rw [sdS, if_neg hh, hso], by first | exact hp.symm | (rw [hp]; exact hpr)⟩ (by omega)
      · skip
        have hp : sdP (sga V n) (i + 1) = sga V n i := by rw [sdP, if_neg c29]
        refine j_iload (q := 0) X dX0_soundOf_38 rfl ?_
        refine j_bipush (v := (nI 7)) X dX0_soundOf_40 (by decide) ?_
        refine j_icmp_ne (tgt := 49) X dX0_soundOf_42 (by decide) (fun c42 => ?_) (fun c42 => ?_)
        · skip
          have hh : hrd (sga V n) i := ⟨c29, by rw [← hpr]; exact c35, Or.inl c42⟩
          refine j_iload_n (q := 2) X dX0_soundOf_49 rfl rfl ?_
          refine j_bipush (v := (nI 10)) X dX0_soundOf_50 (by decide) ?_
          refine j_imul (v := (so * (nI 10))) X dX0_soundOf_52 rfl ?_
          refine j_iload (q := 0) X dX0_soundOf_53 rfl ?_
          refine j_iadd (v := ((so * (nI 10)) + (sga V n i))) X dX0_soundOf_55 rfl ?_
          refine j_istore_n (lv' := [(2, .int ((so * (nI 10)) + (sga V n i))), (5, .int (sga V n i)), (4, .int (nI i)), (3, .int pr), (0, .ref (ad b 0)), (1, .int (nI n))]) X dX0_soundOf_56 rfl (by decide) rfl ?_
          refine j_iload (q := 1) X dX0_soundOf_57 rfl ?_
          refine j_istore_n (lv' := [(3, .int (sga V n i)), (2, .int ((so * (nI 10)) + (sga V n i))), (5, .int (sga V n i)), (4, .int (nI i)), (0, .ref (ad b 0)), (1, .int (nI n))]) X dX0_soundOf_59 rfl (by decide) rfl ?_
          refine j_iinc (q := 3) (v := (nI (i + 1))) (lv' := [(4, .int (nI (i + 1))), (3, .int (sga V n i)), (2, .int ((so * (nI 10)) + (sga V n i))), (5, .int (sga V n i)), (0, .ref (ad b 0)), (1, .int (nI n))]) X dX0_soundOf_60 rfl (nI_1 _) (by decide) rfl ?_
          refine j_goto (tgt := 7) X dX0_soundOf_63 (by decide) ?_
          refine j_lv [0, 2, 1, 4, 5] rfl ?_
          exact ih7 (i + 1) ((so * (nI 10)) + (sga V n i)) (sga V n i) ⟨by omega, by first | rw [sdS, if_pos hh, hso] | rw [sdS, if_neg hh, hso], by first | exact hp.symm | (rw [hp]; exact hpr)⟩ (by omega)
        · skip
          refine j_iload_n (q := 3) X dX0_soundOf_45 rfl rfl ?_
          refine j_if_ne (tgt := 57) X dX0_soundOf_46 (by decide) (fun c46 => ?_) (fun c46 => ?_)
          · skip
            have hh : ¬ hrd (sga V n) i := fun q => q.2.2.elim (fun w => c42 w) (fun w => c46 (by rw [hpr]; exact w))
            refine j_iload (q := 0) X dX0_soundOf_57 rfl ?_
            refine j_istore_n (lv' := [(3, .int (sga V n i)), (5, .int (sga V n i)), (4, .int (nI i)), (2, .int so), (0, .ref (ad b 0)), (1, .int (nI n))]) X dX0_soundOf_59 rfl (by decide) rfl ?_
            refine j_iinc (q := 2) (v := (nI (i + 1))) (lv' := [(4, .int (nI (i + 1))), (3, .int (sga V n i)), (5, .int (sga V n i)), (2, .int so), (0, .ref (ad b 0)), (1, .int (nI n))]) X dX0_soundOf_60 rfl (nI_1 _) (by decide) rfl ?_
            refine j_goto (tgt := 7) X dX0_soundOf_63 (by decide) ?_
            refine j_lv [0, 3, 1, 4, 5] rfl ?_
            exact ih7 (i + 1) so (sga V n i) ⟨by omega, by first | rw [sdS, if_pos hh, hso] | rw [sdS, if_neg hh, hso], by first | exact hp.symm | (rw [hp]; exact hpr)⟩ (by omega)
          · skip
            have hh : hrd (sga V n) i := ⟨c29, by rw [← hpr]; exact c35, Or.inr (by rw [← hpr]; exact Classical.not_not.mp c46)⟩
            refine j_iload_n (q := 2) X dX0_soundOf_49 rfl rfl ?_
            refine j_bipush (v := (nI 10)) X dX0_soundOf_50 (by decide) ?_
            refine j_imul (v := (so * (nI 10))) X dX0_soundOf_52 rfl ?_
            refine j_iload (q := 0) X dX0_soundOf_53 rfl ?_
            refine j_iadd (v := ((so * (nI 10)) + (sga V n i))) X dX0_soundOf_55 rfl ?_
            refine j_istore_n (lv' := [(2, .int ((so * (nI 10)) + (sga V n i))), (5, .int (sga V n i)), (4, .int (nI i)), (3, .int pr), (0, .ref (ad b 0)), (1, .int (nI n))]) X dX0_soundOf_56 rfl (by decide) rfl ?_
            refine j_iload (q := 1) X dX0_soundOf_57 rfl ?_
            refine j_istore_n (lv' := [(3, .int (sga V n i)), (2, .int ((so * (nI 10)) + (sga V n i))), (5, .int (sga V n i)), (4, .int (nI i)), (0, .ref (ad b 0)), (1, .int (nI n))]) X dX0_soundOf_59 rfl (by decide) rfl ?_
            refine j_iinc (q := 3) (v := (nI (i + 1))) (lv' := [(4, .int (nI (i + 1))), (3, .int (sga V n i)), (2, .int ((so * (nI 10)) + (sga V n i))), (5, .int (sga V n i)), (0, .ref (ad b 0)), (1, .int (nI n))]) X dX0_soundOf_60 rfl (nI_1 _) (by decide) rfl ?_
            refine j_goto (tgt := 7) X dX0_soundOf_63 (by decide) ?_
            refine j_lv [0, 2, 1, 4, 5] rfl ?_
            exact ih7 (i + 1) ((so * (nI 10)) + (sga V n i)) (sga V n i) ⟨by omega, by first | rw [sdS, if_pos hh, hso] | rw [sdS, if_neg hh, hso], by first | exact hp.symm | (rw [hp]; exact hpr)⟩ (by omega)
set_option maxHeartbeats 4000000 in
set_option maxRecDepth 100000 in
theorem kX0_isHeard (l : Launch) (D : va_G) (ad : Nat → Nat → Nat) (cs : Nat → ClassId) (A : Nat → Prop) (z : Nat → Nat) {b : Nat} (hb : b < 10) (μ : Mm) (V : CV) (n : Nat) (hn : n < 20) (i : Nat) (hi : i < 9) : KI l D ad cs A z yX0_isHeard wsX0_isHeard (rm 1 23) [.ref (ad b 0), .int (nI n), .int (nI i)] (mb μ b V) (fun r μ1 => bP r (hrd (sga V n) i) ∧ μ1 = mb μ b V) := by
  refine KI_of (cc := cX0_isHeard) (maxL := 6) (ret := (some .boolean)) (by decide) rfl (Nat.le_of_ble_eq_true rfl) ?_
  intro p e s m args below meth c hr hlk X
  show J p l e _ s m args below meth c 0 0 _ 6 D ad cs A 0 [(0, .ref (ad b 0)), (1, .int (nI n)), (2, .int (nI i))] [] (mb μ b V)
  refine j_aload_n (q := 0) X dX0_isHeard_0 rfl rfl ?_
  refine j_iload_n (q := 1) X dX0_isHeard_1 rfl rfl ?_
  refine j_iload_n (q := 2) X dX0_isHeard_2 rfl rfl ?_
  refine j_callVi (As := [.int (nI n), .int (nI i)]) X (kX0_signAt l D ad cs A z hb μ V n hn i (by omega)) (oC hb) rfl (cwV 2 X.1.2.2.2.2 gX0_isHeard_X0_signAt rfl rfl rfl (by decide +kernel) ⟨Nat.le_of_ble_eq_true rfl, Nat.le_of_ble_eq_true rfl⟩) rfl rfl (Nat.le_of_ble_eq_true rfl) dX0_isHeard_3 (fun r3 μ3 h3 => ?_)
  obtain ⟨h3, rfl⟩ := h3
  rw [h3]
  refine j_istore_n (lv' := [(3, .int (sga V n i)), (0, .ref (ad b 0)), (1, .int (nI n)), (2, .int (nI i))]) X dX0_isHeard_6 rfl (by decide) rfl ?_
  refine j_iconst (v := (nI 0)) X dX0_isHeard_7 (by decide) ?_
  refine j_istore (lv' := [(4, .int (nI 0)), (3, .int (sga V n i)), (0, .ref (ad b 0)), (1, .int (nI n)), (2, .int (nI i))]) X dX0_isHeard_8 (by decide) rfl ?_
  refine j_iload_n (q := 4) X dX0_isHeard_10 rfl rfl ?_
  refine j_iconst (v := (nI 1)) X dX0_isHeard_11 (by decide) ?_
  refine j_isub (v := (nI i - nI 1)) X dX0_isHeard_12 rfl ?_
  refine j_istore (lv' := [(5, .int (nI i - nI 1)), (4, .int (nI 0)), (3, .int (sga V n i)), (0, .ref (ad b 0)), (1, .int (nI n)), (2, .int (nI i))]) X dX0_isHeard_13 (by decide) rfl ?_
  refine j_lv [0, 1, 3, 4, 5, 2] rfl ?_
  refine jl2 (G := J p l e _ s m args below meth c 0 0 _ _ D ad cs A) (pc := 15) (fun (j : Nat) (pr : Int32) => [(5, .int (nI j - nI 1)), (4, .int pr), (0, .ref (ad b 0)), (1, .int (nI n)), (2, .int (nI i)), (3, .int (sga V n i))]) (fun (j : Nat) (pr : Int32) => (mb μ b V)) (fun (j : Nat) (pr : Int32) => j ≤ i ∧ sdP (sga V n) i = (if pr = 0 then sdP (sga V n) j else pr)) (fun (j : Nat) (pr : Int32) => j) ?_ i (nI 0) ⟨by omega, (if_pos (rfl : nI 0 = 0)).symm⟩
  intro j pr hI15 ih15
  try dsimp only at ih15 ⊢
  obtain ⟨hj, hps⟩ := hI15
  refine j_iload (q := 0) X dX0_isHeard_15 rfl ?_
  refine j_if_lt (tgt := 40) X dX0_isHeard_17 (by decide) (fun c17 => ?_) (fun c17 => ?_)
  · skip
    have hj0 := sub1_t (by omega) c17
    have hp : sdP (sga V n) i = pr := by rw [hps, hj0]; by_cases q : pr = 0; (rw [if_pos q, q]; rfl); rw [if_neg q]
    refine j_iload_n (q := 5) X dX0_isHeard_40 rfl rfl ?_
    refine j_if_eq (tgt := 65) X dX0_isHeard_41 (by decide) (fun c41 => ?_) (fun c41 => ?_)
    · skip
      refine j_iconst (v := (nI 0)) X dX0_isHeard_65 (by decide) ?_
      exact j_zret X hr hlk (by first | exact Or.inl rfl | exact Or.inr rfl) ⟨bP.nn (fun q => by first | exact q.1 c41 | exact q.2.1 (by rw [hp]; exact c47) | exact q.2.2.elim (fun w => c53 w) (fun w => c58 (by rw [← hp]; exact w))), rfl⟩ dX0_isHeard_66
    · skip
      refine j_iload_n (q := 5) X dX0_isHeard_44 rfl rfl ?_
      refine j_iload (q := 1) X dX0_isHeard_45 rfl ?_
      refine j_icmp_eq (tgt := 65) X dX0_isHeard_47 (by decide) (fun c47 => ?_) (fun c47 => ?_)
      · skip
        refine j_iconst (v := (nI 0)) X dX0_isHeard_65 (by decide) ?_
        exact j_zret X hr hlk (by first | exact Or.inl rfl | exact Or.inr rfl) ⟨bP.nn (fun q => by first | exact q.1 c41 | exact q.2.1 (by rw [hp]; exact c47) | exact q.2.2.elim (fun w => c53 w) (fun w => c58 (by rw [← hp]; exact w))), rfl⟩ dX0_isHeard_66
      · skip
        refine j_iload_n (q := 5) X dX0_isHeard_50 rfl rfl ?_
        refine j_bipush (v := (nI 7)) X dX0_isHeard_51 (by decide) ?_
        refine j_icmp_ne (tgt := 61) X dX0_isHeard_53 (by decide) (fun c53 => ?_) (fun c53 => ?_)
        · skip
          refine j_iconst (v := (nI 1)) X dX0_isHeard_61 (by decide) ?_
          refine j_goto (tgt := 66) X dX0_isHeard_62 (by decide) ?_
          exact j_zret X hr hlk (by first | exact Or.inl rfl | exact Or.inr rfl) ⟨bP.yn ⟨c41, by rw [hp]; exact c47, by first | exact Or.inl c53 | exact Or.inr (by rw [hp]; exact Classical.not_not.mp c58)⟩, rfl⟩ dX0_isHeard_66
        · skip
          refine j_iload (q := 1) X dX0_isHeard_56 rfl ?_
          refine j_if_ne (tgt := 65) X dX0_isHeard_58 (by decide) (fun c58 => ?_) (fun c58 => ?_)
          · skip
            refine j_iconst (v := (nI 0)) X dX0_isHeard_65 (by decide) ?_
            exact j_zret X hr hlk (by first | exact Or.inl rfl | exact Or.inr rfl) ⟨bP.nn (fun q => by first | exact q.1 c41 | exact q.2.1 (by rw [hp]; exact c47) | exact q.2.2.elim (fun w => c53 w) (fun w => c58 (by rw [← hp]; exact w))), rfl⟩ dX0_isHeard_66
          · skip
            refine j_iconst (v := (nI 1)) X dX0_isHeard_61 (by decide) ?_
            refine j_goto (tgt := 66) X dX0_isHeard_62 (by decide) ?_
            exact j_zret X hr hlk (by first | exact Or.inl rfl | exact Or.inr rfl) ⟨bP.yn ⟨c41, by rw [hp]; exact c47, by first | exact Or.inl c53 | exact Or.inr (by rw [hp]; exact Classical.not_not.mp c58)⟩, rfl⟩ dX0_isHeard_66
  · skip
    have hj1 := sub1_f c17
    rw [pk_sub hj1]
    refine j_iload (q := 1) X dX0_isHeard_20 rfl ?_
    refine j_if_ne (tgt := 40) X dX0_isHeard_22 (by decide) (fun c22 => ?_) (fun c22 => ?_)
    · skip
      have hp : sdP (sga V n) i = pr := by rw [hps, if_neg c22]
      refine j_iload_n (q := 5) X dX0_isHeard_40 rfl rfl ?_
      refine j_if_eq (tgt := 65) X dX0_isHeard_41 (by decide) (fun c41 => ?_) (fun c41 => ?_)
      · skip
        refine j_iconst (v := (nI 0)) X dX0_isHeard_65 (by decide) ?_
        exact j_zret X hr hlk (by first | exact Or.inl rfl | exact Or.inr rfl) ⟨bP.nn (fun q => by first | exact q.1 c41 | exact q.2.1 (by rw [hp]; exact c47) | exact q.2.2.elim (fun w => c53 w) (fun w => c58 (by rw [← hp]; exact w))), rfl⟩ dX0_isHeard_66
      · skip
        refine j_iload_n (q := 5) X dX0_isHeard_44 rfl rfl ?_
        refine j_iload (q := 1) X dX0_isHeard_45 rfl ?_
        refine j_icmp_eq (tgt := 65) X dX0_isHeard_47 (by decide) (fun c47 => ?_) (fun c47 => ?_)
        · skip
          refine j_iconst (v := (nI 0)) X dX0_isHeard_65 (by decide) ?_
          exact j_zret X hr hlk (by first | exact Or.inl rfl | exact Or.inr rfl) ⟨bP.nn (fun q => by first | exact q.1 c41 | exact q.2.1 (by rw [hp]; exact c47) | exact q.2.2.elim (fun w => c53 w) (fun w => c58 (by rw [← hp]; exact w))), rfl⟩ dX0_isHeard_66
        · skip
          refine j_iload_n (q := 5) X dX0_isHeard_50 rfl rfl ?_
          refine j_bipush (v := (nI 7)) X dX0_isHeard_51 (by decide) ?_
          refine j_icmp_ne (tgt := 61) X dX0_isHeard_53 (by decide) (fun c53 => ?_) (fun c53 => ?_)
          · skip
            refine j_iconst (v := (nI 1)) X dX0_isHeard_61 (by decide) ?_
            refine j_goto (tgt := 66) X dX0_isHeard_62 (by decide) ?_
            exact j_zret X hr hlk (by first | exact Or.inl rfl | exact Or.inr rfl) ⟨bP.yn ⟨c41, by rw [hp]; exact c47, by first | exact Or.inl c53 | exact Or.inr (by rw [hp]; exact Classical.not_not.mp c58)⟩, rfl⟩ dX0_isHeard_66
          · skip
            refine j_iload (q := 1) X dX0_isHeard_56 rfl ?_
            refine j_if_ne (tgt := 65) X dX0_isHeard_58 (by decide) (fun c58 => ?_) (fun c58 => ?_)
            · skip
              refine j_iconst (v := (nI 0)) X dX0_isHeard_65 (by decide) ?_
              exact j_zret X hr hlk (by first | exact Or.inl rfl | exact Or.inr rfl) ⟨bP.nn (fun q => by first | exact q.1 c41 | exact q.2.1 (by rw [hp]; exact c47) | exact q.2.2.elim (fun w => c53 w) (fun w => c58 (by rw [← hp]; exact w))), rfl⟩ dX0_isHeard_66
            · skip
              refine j_iconst (v := (nI 1)) X dX0_isHeard_61 (by decide) ?_
              refine j_goto (tgt := 66) X dX0_isHeard_62 (by decide) ?_
              exact j_zret X hr hlk (by first | exact Or.inl rfl | exact Or.inr rfl) ⟨bP.yn ⟨c41, by rw [hp]; exact c47, by first | exact Or.inl c53 | exact Or.inr (by rw [hp]; exact Classical.not_not.mp c58)⟩, rfl⟩ dX0_isHeard_66
    · skip
      refine j_aload_n (q := 2) X dX0_isHeard_25 rfl rfl ?_
      refine j_iload_n (q := 3) X dX0_isHeard_26 rfl rfl ?_
      refine j_iload (q := 0) X dX0_isHeard_27 rfl ?_
      refine j_callVi (As := [.int (nI n), .int (nI (j - 1))]) X (kX0_signAt l D ad cs A z hb μ V n hn (j - 1) (by omega)) (oC hb) rfl (cwV 2 X.1.2.2.2.2 gX0_isHeard_X0_signAt rfl rfl rfl (by decide +kernel) ⟨Nat.le_of_ble_eq_true rfl, Nat.le_of_ble_eq_true rfl⟩) rfl rfl (Nat.le_of_ble_eq_true rfl) dX0_isHeard_29 (fun r29 μ29 h29 => ?_)
      obtain ⟨h29, rfl⟩ := h29
      rw [h29]
      refine j_istore (lv' := [(4, .int (sga V n (j - 1))), (5, .int (nI (j - 1))), (0, .ref (ad b 0)), (1, .int (nI n)), (2, .int (nI i)), (3, .int (sga V n i))]) X dX0_isHeard_32 (by decide) rfl ?_
      refine j_iinc (q := 1) (v := (nI (j - 1) - nI 1)) (lv' := [(5, .int (nI (j - 1) - nI 1)), (4, .int (sga V n (j - 1))), (0, .ref (ad b 0)), (1, .int (nI n)), (2, .int (nI i)), (3, .int (sga V n i))]) X dX0_isHeard_34 rfl (iinc_m1 _) (by decide) rfl ?_
      refine j_goto (tgt := 15) X dX0_isHeard_37 (by decide) ?_
      exact ih15 (j - 1) (sga V n (j - 1)) ⟨by omega, by rw [hps, if_pos (Classical.not_not.mp c22), sdP_pred hj1]⟩ (by omega)
set_option maxHeartbeats 4000000 in
set_option maxRecDepth 100000 in
theorem kX0_nextHeard (l : Launch) (D : va_G) (ad : Nat → Nat → Nat) (cs : Nat → ClassId) (A : Nat → Prop) (z : Nat → Nat) {b : Nat} (hb : b < 10) (μ : Mm) (V : CV) (n : Nat) (hn : n < 20) (L : Nat) (hL : V 5 n = nI L) (hL9 : L ≤ 9) (i0 : Nat) (hi0 : i0 ≤ L) : KI l D ad cs A z yX0_nextHeard wsX0_nextHeard (rm 2 48) [.ref (ad b 0), .int (nI n), .int (nI i0)] (mb μ b V) (fun r μ1 => (∃ k, r = nI k ∧ i0 ≤ k ∧ k ≤ L ∧ (∀ t, i0 ≤ t → t < k → ¬ hrd (sga V n) t) ∧ (k < L → hrd (sga V n) k)) ∧ μ1 = mb μ b V) := by
  refine KI_of (cc := cX0_nextHeard) (maxL := 4) (ret := (some .int)) (by decide) rfl (Nat.le_of_ble_eq_true rfl) ?_
  intro p e s m args below meth c hr hlk X
  show J p l e _ s m args below meth c 0 0 _ 4 D ad cs A 0 [(0, .ref (ad b 0)), (1, .int (nI n)), (2, .int (nI i0))] [] (mb μ b V)
  have hinX0 : ∀ w ∈ wsX00, w ∈ wsX0_nextHeard := by decide +kernel
  have k19 : (Cond.fieldLink RX0 19 "PunCourts$Court" "lengths" "[I").before args s = true := X.1.2.2.2.2 _ (by decide +kernel)
  refine j_iload_n (q := 2) X dX0_nextHeard_0 rfl rfl ?_
  refine j_istore_n (lv' := [(3, .int (nI i0)), (0, .ref (ad b 0)), (1, .int (nI n)), (2, .int (nI i0))]) X dX0_nextHeard_1 rfl (by decide) rfl ?_
  refine jl1 (G := J p l e _ s m args below meth c 0 0 _ _ D ad cs A) (pc := 2) (fun (k : Nat) => [(3, .int (nI k)), (0, .ref (ad b 0)), (1, .int (nI n)), (2, .int (nI i0))]) (fun (k : Nat) => (mb μ b V)) (fun (k : Nat) => i0 ≤ k ∧ k ≤ L ∧ ∀ t, i0 ≤ t → t < k → ¬ hrd (sga V n) t) (fun (k : Nat) => L - k) ?_ i0 ⟨by omega, by omega, fun t _ _ => by omega⟩
  intro k hI2 ih2
  try dsimp only at ih2 ⊢
  obtain ⟨hk, hk2, hk3⟩ := hI2
  refine j_iload_n (q := 0) X dX0_nextHeard_2 rfl rfl ?_
  refine j_aload_n (q := 1) X dX0_nextHeard_3 rfl rfl ?_
  refine j_getCB X (oC hb) hinX0 4 (by decide) rfl k19 dX0_nextHeard_4 ?_
  refine j_iload_n (q := 2) X dX0_nextHeard_7 rfl rfl ?_
  refine j_ialdB X (aC_5 hb) n rfl (by omega) (by decide) dX0_nextHeard_8 ?_
  rw [hL]
  refine j_ncmp_ge (tgt := 27) X k L dX0_nextHeard_9 (by decide) rfl rfl (by omega) (by omega) (fun c9 => ?_) (fun c9 => ?_)
  · skip
    refine j_iload_n (q := 0) X dX0_nextHeard_27 rfl rfl ?_
    exact j_iret X hr hlk ⟨⟨k, rfl, hk, hk2, hk3, fun q => by first | omega | exact h15.nt c18⟩, rfl⟩ dX0_nextHeard_28
  · skip
    refine j_aload_n (q := 1) X dX0_nextHeard_12 rfl rfl ?_
    refine j_iload_n (q := 2) X dX0_nextHeard_13 rfl rfl ?_
    refine j_iload_n (q := 0) X dX0_nextHeard_14 rfl rfl ?_
    refine j_callVi (As := [.int (nI n), .int (nI k)]) X (kX0_isHeard l D ad cs A z hb μ V n hn k (by omega)) (oC hb) rfl (cwV 2 X.1.2.2.2.2 gX0_nextHeard_X0_isHeard rfl rfl rfl (by decide +kernel) ⟨Nat.le_of_ble_eq_true rfl, Nat.le_of_ble_eq_true rfl⟩) rfl rfl (Nat.le_of_ble_eq_true rfl) dX0_nextHeard_15 (fun r15 μ15 h15 => ?_)
    obtain ⟨h15, rfl⟩ := h15
    refine j_if_ne (tgt := 27) X dX0_nextHeard_18 (by decide) (fun c18 => ?_) (fun c18 => ?_)
    · skip
      refine j_iload_n (q := 0) X dX0_nextHeard_27 rfl rfl ?_
      exact j_iret X hr hlk ⟨⟨k, rfl, hk, hk2, hk3, fun q => by first | omega | exact h15.nt c18⟩, rfl⟩ dX0_nextHeard_28
    · skip
      refine j_iinc (q := 0) (v := (nI (k + 1))) (lv' := [(3, .int (nI (k + 1))), (0, .ref (ad b 0)), (1, .int (nI n)), (2, .int (nI i0))]) X dX0_nextHeard_21 rfl (nI_1 _) (by decide) rfl ?_
      refine j_goto (tgt := 2) X dX0_nextHeard_24 (by decide) ?_
      exact ih2 (k + 1) ⟨by omega, by omega, fun t h1 h2 => by rcases Nat.lt_or_ge t k with q | q; exact hk3 t h1 q; rw [show t = k by omega]; exact h15.nf c18⟩ (by omega)
end
section
set_option maxHeartbeats 4000000 in
set_option maxRecDepth 100000 in
theorem kX0_alikeByLetters (l : Launch) (D : va_G) (ad : Nat → Nat → Nat) (cs : Nat → ClassId) (A : Nat → Prop) (z : Nat → Nat) {b : Nat} (hb : b < 10) (μ : Mm) (V : CV) (n1 : Nat) (hn1 : n1 < 20) (L1 : Nat) (hL1 : V 5 n1 = nI L1) (hL91 : L1 ≤ 9) (n2 : Nat) (hn2 : n2 < 20) (L2 : Nat) (hL2 : V 5 n2 = nI L2) (hL92 : L2 ≤ 9) : KI l D ad cs A z yX0_alikeByLetters wsX0_alikeByLetters (rm 3 71) [.ref (ad b 0), .int (nI n1), .int (nI n2)] (mb μ b V) (fun r μ1 => bP r (hls (sga V n1) L1 = hls (sga V n2) L2) ∧ μ1 = mb μ b V) := by
  refine KI_of (cc := cX0_alikeByLetters) (maxL := 6) (ret := (some .boolean)) (by decide) rfl (Nat.le_of_ble_eq_true rfl) ?_
  intro p e s m args below meth c hr hlk X
  show J p l e _ s m args below meth c 0 0 _ 6 D ad cs A 0 [(0, .ref (ad b 0)), (1, .int (nI n1)), (2, .int (nI n2))] [] (mb μ b V)
  have hinX0 : ∀ w ∈ wsX00, w ∈ wsX0_alikeByLetters := by decide +kernel
  have k19 : (Cond.fieldLink RX0 19 "PunCourts$Court" "lengths" "[I").before args s = true := X.1.2.2.2.2 _ (by decide +kernel)
  refine j_aload_n (q := 0) X dX0_alikeByLetters_0 rfl rfl ?_
  refine j_iload_n (q := 1) X dX0_alikeByLetters_1 rfl rfl ?_
  refine j_iconst (v := (nI 0)) X dX0_alikeByLetters_2 (by decide) ?_
  refine j_callVi (As := [.int (nI n1), .int (nI 0)]) X (kX0_nextHeard l D ad cs A z hb μ V n1 hn1 L1 hL1 hL91 0 (by omega)) (oC hb) rfl (cwV 2 X.1.2.2.2.2 gX0_alikeByLetters_X0_nextHeard rfl rfl rfl (by decide +kernel) ⟨Nat.le_of_ble_eq_true rfl, Nat.le_of_ble_eq_true rfl⟩) rfl rfl (Nat.le_of_ble_eq_true rfl) dX0_alikeByLetters_3 (fun r3 μ3 h3 => ?_)
  obtain ⟨⟨k3, h3, k3a, k3b, k3c, k3d⟩, rfl⟩ := h3
  rw [h3]
  refine j_istore_n (lv' := [(3, .int (nI k3)), (0, .ref (ad b 0)), (1, .int (nI n1)), (2, .int (nI n2))]) X dX0_alikeByLetters_6 rfl (by decide) rfl ?_
  refine j_aload_n (q := 1) X dX0_alikeByLetters_7 rfl rfl ?_
  refine j_iload_n (q := 3) X dX0_alikeByLetters_8 rfl rfl ?_
  refine j_iconst (v := (nI 0)) X dX0_alikeByLetters_9 (by decide) ?_
  refine j_callVi (As := [.int (nI n2), .int (nI 0)]) X (kX0_nextHeard l D ad cs A z hb μ V n2 hn2 L2 hL2 hL92 0 (by omega)) (oC hb) rfl (cwV 2 X.1.2.2.2.2 gX0_alikeByLetters_X0_nextHeard rfl rfl rfl (by decide +kernel) ⟨Nat.le_of_ble_eq_true rfl, Nat.le_of_ble_eq_true rfl⟩) rfl rfl (Nat.le_of_ble_eq_true rfl) dX0_alikeByLetters_10 (fun r10 μ10 h10 => ?_)
  obtain ⟨⟨k10, h10, k10a, k10b, k10c, k10d⟩, rfl⟩ := h10
  rw [h10]
  refine j_istore (lv' := [(4, .int (nI k10)), (3, .int (nI k3)), (0, .ref (ad b 0)), (1, .int (nI n1)), (2, .int (nI n2))]) X dX0_alikeByLetters_13 (by decide) rfl ?_
  refine j_iconst (v := (nI 0)) X dX0_alikeByLetters_15 (by decide) ?_
  refine j_istore (lv' := [(5, .int (nI 0)), (4, .int (nI k10)), (3, .int (nI k3)), (0, .ref (ad b 0)), (1, .int (nI n1)), (2, .int (nI n2))]) X dX0_alikeByLetters_16 (by decide) rfl ?_
  refine j_lv [0, 2, 1, 3, 4, 5] rfl ?_
  refine jl3 (G := J p l e _ s m args below meth c 0 0 _ _ D ad cs A) (pc := 18) (fun (h0 : Nat) (i : Nat) (j : Nat) => [(5, .int (nI h0)), (3, .int (nI i)), (4, .int (nI j)), (0, .ref (ad b 0)), (1, .int (nI n1)), (2, .int (nI n2))]) (fun (h0 : Nat) (i : Nat) (j : Nat) => (mb μ b V)) (fun (h0 : Nat) (i : Nat) (j : Nat) => i ≤ L1 ∧ j ≤ L2 ∧ (i < L1 → hrd (sga V n1) i) ∧ (j < L2 → hrd (sga V n2) j) ∧ hls (sga V n1) i = hls (sga V n2) j ∧ h0 = (hls (sga V n1) i).length ∧ h0 ≤ 9) (fun (h0 : Nat) (i : Nat) (j : Nat) => 9 - h0) ?_ 0 k3 k10 ⟨k3b, k10b, k3d, k10d, by rw [hls_skip k3 k3a k3c, hls_skip k10 k10a k10c, hls_0, hls_0], by rw [hls_skip k3 k3a k3c, hls_0, List.length_nil], by omega⟩
  intro h0 i j hI18 ih18
  try dsimp only at ih18 ⊢
  obtain ⟨hi, hj, hhi, hhj, hll, hh0, hh9⟩ := hI18
  have hle1 := hls_len (sga V n1) i
  have hle2 := hls_len (sga V n2) j
  refine j_iload (q := 0) X dX0_alikeByLetters_18 rfl ?_
  refine j_bipush (v := (nI 9)) X dX0_alikeByLetters_20 (by decide) ?_
  refine j_ncmp_ge (tgt := 90) X h0 9 dX0_alikeByLetters_22 (by decide) rfl rfl (by omega) (by omega) (fun c22 => ?_) (fun c22 => ?_)
  · skip
    refine j_iload_n (q := 1) X dX0_alikeByLetters_90 rfl rfl ?_
    refine j_aload_n (q := 3) X dX0_alikeByLetters_91 rfl rfl ?_
    refine j_getCB X (oC hb) hinX0 4 (by decide) rfl k19 dX0_alikeByLetters_92 ?_
    refine j_iload_n (q := 4) X dX0_alikeByLetters_95 rfl rfl ?_
    refine j_ialdB X (aC_5 hb) n1 rfl (by omega) (by decide) dX0_alikeByLetters_96 ?_
    rw [hL1]
    refine j_ncmp_lt (tgt := 115) X i L1 dX0_alikeByLetters_97 (by decide) rfl rfl (by omega) (by omega) (fun c97 => ?_) (fun c97 => ?_)
    · skip
      refine j_iconst (v := (nI 0)) X dX0_alikeByLetters_115 (by decide) ?_
      have hx : (i < L1 ∧ j = L2) ∨ (j < L2 ∧ i = L1) := by rw [hll] at hh0; omega
      exact j_zret X hr hlk (by first | exact Or.inl rfl | exact Or.inr rfl) ⟨bP.nn (hls_ne hll hx hhi hhj), rfl⟩ dX0_alikeByLetters_116
    · skip
      refine j_iload (q := 2) X dX0_alikeByLetters_100 rfl ?_
      refine j_aload_n (q := 3) X dX0_alikeByLetters_102 rfl rfl ?_
      refine j_getCB X (oC hb) hinX0 4 (by decide) rfl k19 dX0_alikeByLetters_103 ?_
      refine j_iload_n (q := 5) X dX0_alikeByLetters_106 rfl rfl ?_
      refine j_ialdB X (aC_5 hb) n2 rfl (by omega) (by decide) dX0_alikeByLetters_107 ?_
      rw [hL2]
      refine j_ncmp_lt (tgt := 115) X j L2 dX0_alikeByLetters_108 (by decide) rfl rfl (by omega) (by omega) (fun c108 => ?_) (fun c108 => ?_)
      · skip
        refine j_iconst (v := (nI 0)) X dX0_alikeByLetters_115 (by decide) ?_
        have hx : (i < L1 ∧ j = L2) ∨ (j < L2 ∧ i = L1) := by rw [hll] at hh0; omega
        exact j_zret X hr hlk (by first | exact Or.inl rfl | exact Or.inr rfl) ⟨bP.nn (hls_ne hll hx hhi hhj), rfl⟩ dX0_alikeByLetters_116
      · skip
        refine j_iconst (v := (nI 1)) X dX0_alikeByLetters_111 (by decide) ?_
        refine j_goto (tgt := 116) X dX0_alikeByLetters_112 (by decide) ?_
        exact j_zret X hr hlk (by first | exact Or.inl rfl | exact Or.inr rfl) ⟨bP.yn (by rw [show L1 = i by omega, show L2 = j by omega]; exact hll), rfl⟩ dX0_alikeByLetters_116
  · skip
    refine j_iload_n (q := 1) X dX0_alikeByLetters_25 rfl rfl ?_
    refine j_aload_n (q := 3) X dX0_alikeByLetters_26 rfl rfl ?_
    refine j_getCB X (oC hb) hinX0 4 (by decide) rfl k19 dX0_alikeByLetters_27 ?_
    refine j_iload_n (q := 4) X dX0_alikeByLetters_30 rfl rfl ?_
    refine j_ialdB X (aC_5 hb) n1 rfl (by omega) (by decide) dX0_alikeByLetters_31 ?_
    rw [hL1]
    refine j_ncmp_ge (tgt := 90) X i L1 dX0_alikeByLetters_32 (by decide) rfl rfl (by omega) (by omega) (fun c32 => ?_) (fun c32 => ?_)
    · skip
      refine j_iload_n (q := 1) X dX0_alikeByLetters_90 rfl rfl ?_
      refine j_aload_n (q := 3) X dX0_alikeByLetters_91 rfl rfl ?_
      refine j_getCB X (oC hb) hinX0 4 (by decide) rfl k19 dX0_alikeByLetters_92 ?_
      refine j_iload_n (q := 4) X dX0_alikeByLetters_95 rfl rfl ?_
      refine j_ialdB X (aC_5 hb) n1 rfl (by omega) (by decide) dX0_alikeByLetters_96 ?_
      rw [hL1]
      refine j_ncmp_lt (tgt := 115) X i L1 dX0_alikeByLetters_97 (by decide) rfl rfl (by omega) (by omega) (fun c97 => ?_) (fun c97 => ?_)
      · skip
        refine j_iconst (v := (nI 0)) X dX0_alikeByLetters_115 (by decide) ?_
        have hx : (i < L1 ∧ j = L2) ∨ (j < L2 ∧ i = L1) := by rw [hll] at hh0; omega
        exact j_zret X hr hlk (by first | exact Or.inl rfl | exact Or.inr rfl) ⟨bP.nn (hls_ne hll hx hhi hhj), rfl⟩ dX0_alikeByLetters_116
      · skip
        refine j_iload (q := 2) X dX0_alikeByLetters_100 rfl ?_
        refine j_aload_n (q := 3) X dX0_alikeByLetters_102 rfl rfl ?_
        refine j_getCB X (oC hb) hinX0 4 (by decide) rfl k19 dX0_alikeByLetters_103 ?_
        refine j_iload_n (q := 5) X dX0_alikeByLetters_106 rfl rfl ?_
        refine j_ialdB X (aC_5 hb) n2 rfl (by omega) (by decide) dX0_alikeByLetters_107 ?_
        rw [hL2]
        refine j_ncmp_lt (tgt := 115) X j L2 dX0_alikeByLetters_108 (by decide) rfl rfl (by omega) (by omega) (fun c108 => ?_) (fun c108 => ?_)
        · skip
          refine j_iconst (v := (nI 0)) X dX0_alikeByLetters_115 (by decide) ?_
          have hx : (i < L1 ∧ j = L2) ∨ (j < L2 ∧ i = L1) := by rw [hll] at hh0; omega
          exact j_zret X hr hlk (by first | exact Or.inl rfl | exact Or.inr rfl) ⟨bP.nn (hls_ne hll hx hhi hhj), rfl⟩ dX0_alikeByLetters_116
        · skip
          refine j_iconst (v := (nI 1)) X dX0_alikeByLetters_111 (by decide) ?_
          refine j_goto (tgt := 116) X dX0_alikeByLetters_112 (by decide) ?_
          exact j_zret X hr hlk (by first | exact Or.inl rfl | exact Or.inr rfl) ⟨bP.yn (by rw [show L1 = i by omega, show L2 = j by omega]; exact hll), rfl⟩ dX0_alikeByLetters_116
    · skip
      refine j_iload (q := 2) X dX0_alikeByLetters_35 rfl ?_
      refine j_aload_n (q := 3) X dX0_alikeByLetters_37 rfl rfl ?_
      refine j_getCB X (oC hb) hinX0 4 (by decide) rfl k19 dX0_alikeByLetters_38 ?_
      refine j_iload_n (q := 5) X dX0_alikeByLetters_41 rfl rfl ?_
      refine j_ialdB X (aC_5 hb) n2 rfl (by omega) (by decide) dX0_alikeByLetters_42 ?_
      rw [hL2]
      refine j_ncmp_ge (tgt := 90) X j L2 dX0_alikeByLetters_43 (by decide) rfl rfl (by omega) (by omega) (fun c43 => ?_) (fun c43 => ?_)
      · skip
        refine j_iload_n (q := 1) X dX0_alikeByLetters_90 rfl rfl ?_
        refine j_aload_n (q := 3) X dX0_alikeByLetters_91 rfl rfl ?_
        refine j_getCB X (oC hb) hinX0 4 (by decide) rfl k19 dX0_alikeByLetters_92 ?_
        refine j_iload_n (q := 4) X dX0_alikeByLetters_95 rfl rfl ?_
        refine j_ialdB X (aC_5 hb) n1 rfl (by omega) (by decide) dX0_alikeByLetters_96 ?_
        rw [hL1]
        refine j_ncmp_lt (tgt := 115) X i L1 dX0_alikeByLetters_97 (by decide) rfl rfl (by omega) (by omega) (fun c97 => ?_) (fun c97 => ?_)
        · skip
          refine j_iconst (v := (nI 0)) X dX0_alikeByLetters_115 (by decide) ?_
          have hx : (i < L1 ∧ j = L2) ∨ (j < L2 ∧ i = L1) := by rw [hll] at hh0; omega
          exact j_zret X hr hlk (by first | exact Or.inl rfl | exact Or.inr rfl) ⟨bP.nn (hls_ne hll hx hhi hhj), rfl⟩ dX0_alikeByLetters_116
        · skip
          refine j_iload (q := 2) X dX0_alikeByLetters_100 rfl ?_
          refine j_aload_n (q := 3) X dX0_alikeByLetters_102 rfl rfl ?_
          refine j_getCB X (oC hb) hinX0 4 (by decide) rfl k19 dX0_alikeByLetters_103 ?_
          refine j_iload_n (q := 5) X dX0_alikeByLetters_106 rfl rfl ?_
          refine j_ialdB X (aC_5 hb) n2 rfl (by omega) (by decide) dX0_alikeByLetters_107 ?_
          rw [hL2]
          refine j_ncmp_lt (tgt := 115) X j L2 dX0_alikeByLetters_108 (by decide) rfl rfl (by omega) (by omega) (fun c108 => ?_) (fun c108 => ?_)
          · skip
            refine j_iconst (v := (nI 0)) X dX0_alikeByLetters_115 (by decide) ?_
            have hx : (i < L1 ∧ j = L2) ∨ (j < L2 ∧ i = L1) := by rw [hll] at hh0; omega
            exact j_zret X hr hlk (by first | exact Or.inl rfl | exact Or.inr rfl) ⟨bP.nn (hls_ne hll hx hhi hhj), rfl⟩ dX0_alikeByLetters_116
          · skip
            refine j_iconst (v := (nI 1)) X dX0_alikeByLetters_111 (by decide) ?_
            refine j_goto (tgt := 116) X dX0_alikeByLetters_112 (by decide) ?_
            exact j_zret X hr hlk (by first | exact Or.inl rfl | exact Or.inr rfl) ⟨bP.yn (by rw [show L1 = i by omega, show L2 = j by omega]; exact hll), rfl⟩ dX0_alikeByLetters_116
      · skip
        refine j_aload_n (q := 3) X dX0_alikeByLetters_46 rfl rfl ?_
        refine j_iload_n (q := 4) X dX0_alikeByLetters_47 rfl rfl ?_
        refine j_iload_n (q := 1) X dX0_alikeByLetters_48 rfl rfl ?_
        refine j_callVi (As := [.int (nI n1), .int (nI i)]) X (kX0_signAt l D ad cs A z hb μ V n1 hn1 i (by omega)) (oC hb) rfl (cwV 2 X.1.2.2.2.2 gX0_alikeByLetters_X0_signAt rfl rfl rfl (by decide +kernel) ⟨Nat.le_of_ble_eq_true rfl, Nat.le_of_ble_eq_true rfl⟩) rfl rfl (Nat.le_of_ble_eq_true rfl) dX0_alikeByLetters_49 (fun r49 μ49 h49 => ?_)
        obtain ⟨h49, rfl⟩ := h49
        rw [h49]
        refine j_aload_n (q := 3) X dX0_alikeByLetters_52 rfl rfl ?_
        refine j_iload_n (q := 5) X dX0_alikeByLetters_53 rfl rfl ?_
        refine j_iload (q := 2) X dX0_alikeByLetters_54 rfl ?_
        refine j_callVi (As := [.int (nI n2), .int (nI j)]) X (kX0_signAt l D ad cs A z hb μ V n2 hn2 j (by omega)) (oC hb) rfl (cwV 2 X.1.2.2.2.2 gX0_alikeByLetters_X0_signAt rfl rfl rfl (by decide +kernel) ⟨Nat.le_of_ble_eq_true rfl, Nat.le_of_ble_eq_true rfl⟩) rfl rfl (Nat.le_of_ble_eq_true rfl) dX0_alikeByLetters_56 (fun r56 μ56 h56 => ?_)
        obtain ⟨h56, rfl⟩ := h56
        rw [h56]
        refine j_icmp_eq (tgt := 64) X dX0_alikeByLetters_59 (by decide) (fun c59 => ?_) (fun c59 => ?_)
        · skip
          refine j_aload_n (q := 3) X dX0_alikeByLetters_64 rfl rfl ?_
          refine j_iload_n (q := 4) X dX0_alikeByLetters_65 rfl rfl ?_
          refine j_iload_n (q := 1) X dX0_alikeByLetters_66 rfl rfl ?_
          refine j_iconst (v := (nI 1)) X dX0_alikeByLetters_67 (by decide) ?_
          refine j_iadd (v := (nI (i + 1))) X dX0_alikeByLetters_68 (nI_add _ _) ?_
          refine j_callVi (As := [.int (nI n1), .int (nI (i + 1))]) X (kX0_nextHeard l D ad cs A z hb μ V n1 hn1 L1 hL1 hL91 (i + 1) (by omega)) (oC hb) rfl (cwV 2 X.1.2.2.2.2 gX0_alikeByLetters_X0_nextHeard rfl rfl rfl (by decide +kernel) ⟨Nat.le_of_ble_eq_true rfl, Nat.le_of_ble_eq_true rfl⟩) rfl rfl (Nat.le_of_ble_eq_true rfl) dX0_alikeByLetters_69 (fun r69 μ69 h69 => ?_)
          obtain ⟨⟨k69, h69, k69a, k69b, k69c, k69d⟩, rfl⟩ := h69
          rw [h69]
          refine j_istore_n (lv' := [(3, .int (nI k69)), (5, .int (nI h0)), (4, .int (nI j)), (0, .ref (ad b 0)), (1, .int (nI n1)), (2, .int (nI n2))]) X dX0_alikeByLetters_72 rfl (by decide) rfl ?_
          refine j_aload_n (q := 3) X dX0_alikeByLetters_73 rfl rfl ?_
          refine j_iload_n (q := 5) X dX0_alikeByLetters_74 rfl rfl ?_
          refine j_iload (q := 2) X dX0_alikeByLetters_75 rfl ?_
          refine j_iconst (v := (nI 1)) X dX0_alikeByLetters_77 (by decide) ?_
          refine j_iadd (v := (nI (j + 1))) X dX0_alikeByLetters_78 (nI_add _ _) ?_
          refine j_callVi (As := [.int (nI n2), .int (nI (j + 1))]) X (kX0_nextHeard l D ad cs A z hb μ V n2 hn2 L2 hL2 hL92 (j + 1) (by omega)) (oC hb) rfl (cwV 2 X.1.2.2.2.2 gX0_alikeByLetters_X0_nextHeard rfl rfl rfl (by decide +kernel) ⟨Nat.le_of_ble_eq_true rfl, Nat.le_of_ble_eq_true rfl⟩) rfl rfl (Nat.le_of_ble_eq_true rfl) dX0_alikeByLetters_79 (fun r79 μ79 h79 => ?_)
          obtain ⟨⟨k79, h79, k79a, k79b, k79c, k79d⟩, rfl⟩ := h79
          rw [h79]
          refine j_istore (lv' := [(4, .int (nI k79)), (3, .int (nI k69)), (5, .int (nI h0)), (0, .ref (ad b 0)), (1, .int (nI n1)), (2, .int (nI n2))]) X dX0_alikeByLetters_82 (by decide) rfl ?_
          refine j_iinc (q := 2) (v := (nI (h0 + 1))) (lv' := [(5, .int (nI (h0 + 1))), (4, .int (nI k79)), (3, .int (nI k69)), (0, .ref (ad b 0)), (1, .int (nI n1)), (2, .int (nI n2))]) X dX0_alikeByLetters_84 rfl (nI_1 _) (by decide) rfl ?_
          refine j_goto (tgt := 18) X dX0_alikeByLetters_87 (by decide) ?_
          refine j_lv [0, 2, 1, 3, 4, 5] rfl ?_
          exact ih18 (h0 + 1) k69 k79 ⟨k69b, k79b, k69d, k79d, by rw [hls_skip k69 k69a k69c, hls_skip k79 k79a k79c, hls, if_pos (hhi (by omega)), hls, if_pos (hhj (by omega)), hll, c59], by rw [hls_skip k69 k69a k69c, hls, if_pos (hhi (by omega)), List.length_append, ← hh0, List.length_singleton], by omega⟩ (by omega)
        · skip
          refine j_iconst (v := (nI 0)) X dX0_alikeByLetters_62 (by decide) ?_
          exact j_zret X hr hlk (by first | exact Or.inl rfl | exact Or.inr rfl) ⟨bP.nn (fun q => by obtain ⟨u, hu⟩ := hls_at (k := L1) (by omega) (hhi (by omega)); obtain ⟨w, hw⟩ := hls_at (k := L2) (by omega) (hhj (by omega)); rw [hu, hw, hll] at q; exact c59 (List.cons.inj (List.append_cancel_left q)).1), rfl⟩ dX0_alikeByLetters_63
end
section
set_option maxHeartbeats 4000000 in
set_option maxRecDepth 100000 in
theorem kX0_place (l : Launch) (D : va_G) (ad : Nat → Nat → Nat) (cs : Nat → ClassId) (A : Nat → Prop) (z : Nat → Nat) {b : Nat} (hb : b < 10) (μ : Mm) (V : CV) (n : Nat) (hn : n < 20) (c0 : Nat) (hc : c0 < 12) : KV l D ad cs A z yX0_place wsX0_place (rm 0 0) [.ref (ad b 0), .int (nI n), .int (nI c0)] (mb μ b V) (fun μ1 => μ1 = mb μ b (placeS V n c0)) := by
  refine KV_of (cc := cX0_place) (maxL := 3) (ret := none) (by decide) rfl (Nat.le_of_ble_eq_true rfl) ?_
  intro p e s m args below meth c hr hlk X
  show J p l e _ s m args below meth c 0 0 _ 3 D ad cs A 0 [(0, .ref (ad b 0)), (1, .int (nI n)), (2, .int (nI c0))] [] (mb μ b V)
  have hinX0 : ∀ w ∈ wsX00, w ∈ wsX0_place := by decide +kernel
  have k35 : (Cond.fieldLink RX0 35 "PunCourts$Court" "borne" "[I").before args s = true := X.1.2.2.2.2 _ (by decide +kernel)
  have k44 : (Cond.fieldLink RX0 44 "PunCourts$Court" "gotDay" "[I").before args s = true := X.1.2.2.2.2 _ (by decide +kernel)
  have k104 : (Cond.fieldLink RX0 104 "PunCourts$Court" "days" "I").before args s = true := X.1.2.2.2.2 _ (by decide +kernel)
  have k47 : (Cond.fieldLink RX0 47 "PunCourts$Court" "cornerGiven" "[I").before args s = true := X.1.2.2.2.2 _ (by decide +kernel)
  have k32 : (Cond.fieldLink RX0 32 "PunCourts$Court" "nameGiven" "[I").before args s = true := X.1.2.2.2.2 _ (by decide +kernel)
  have k38 : (Cond.fieldLink RX0 38 "PunCourts$Court" "owed" "[I").before args s = true := X.1.2.2.2.2 _ (by decide +kernel)
  refine j_aload_n (q := 0) X dX0_place_0 rfl rfl ?_
  refine j_getCB X (oC hb) hinX0 9 (by decide) rfl k35 dX0_place_1 ?_
  refine j_iload_n (q := 2) X dX0_place_4 rfl rfl ?_
  refine j_iload_n (q := 1) X dX0_place_5 rfl rfl ?_
  refine j_iastB X (aC_10 hb) c0 rfl (by omega) (by decide) (by omega) dX0_place_6 ?_
  refine j_nm (fun W6 eW6 => ?_)
  refine j_aload_n (q := 0) X dX0_place_7 rfl rfl ?_
  refine j_getCB X (oC hb) hinX0 12 (by decide) rfl k44 dX0_place_8 ?_
  refine j_iload_n (q := 2) X dX0_place_11 rfl rfl ?_
  refine j_aload_n (q := 0) X dX0_place_12 rfl rfl ?_
  refine j_getCB X (oC hb) hinX0 1 (by decide) rfl k104 dX0_place_13 ?_
  refine j_iastB X (aC_13 hb) c0 rfl (by omega) (by decide) (by omega) dX0_place_16 ?_
  refine j_nm (fun W16 eW16 => ?_)
  refine j_aload_n (q := 0) X dX0_place_17 rfl rfl ?_
  refine j_getCB X (oC hb) hinX0 13 (by decide) rfl k47 dX0_place_18 ?_
  refine j_iload_n (q := 2) X dX0_place_21 rfl rfl ?_
  refine j_dup2 X dX0_place_22 rfl rfl ?_
  refine j_ialdB X (aC_14 hb) c0 rfl (by omega) (by decide) dX0_place_23 ?_
  refine j_iconst (v := (nI 1)) X dX0_place_24 (by decide) ?_
  refine j_iadd (v := ((W16 14 c0) + (nI 1))) X dX0_place_25 rfl ?_
  refine j_iastB X (aC_14 hb) c0 rfl (by omega) (by decide) (by omega) dX0_place_26 ?_
  refine j_nm (fun W26 eW26 => ?_)
  refine j_aload_n (q := 0) X dX0_place_27 rfl rfl ?_
  refine j_getCB X (oC hb) hinX0 8 (by decide) rfl k32 dX0_place_28 ?_
  refine j_iload_n (q := 1) X dX0_place_31 rfl rfl ?_
  refine j_dup2 X dX0_place_32 rfl rfl ?_
  refine j_ialdB X (aC_9 hb) n rfl (by omega) (by decide) dX0_place_33 ?_
  refine j_iconst (v := (nI 1)) X dX0_place_34 (by decide) ?_
  refine j_iadd (v := ((W26 9 n) + (nI 1))) X dX0_place_35 rfl ?_
  refine j_iastB X (aC_9 hb) n rfl (by omega) (by decide) (by omega) dX0_place_36 ?_
  refine j_nm (fun W36 eW36 => ?_)
  refine j_aload_n (q := 0) X dX0_place_37 rfl rfl ?_
  refine j_getCB X (oC hb) hinX0 10 (by decide) rfl k38 dX0_place_38 ?_
  refine j_iload_n (q := 2) X dX0_place_41 rfl rfl ?_
  refine j_dup2 X dX0_place_42 rfl rfl ?_
  refine j_ialdB X (aC_11 hb) c0 rfl (by omega) (by decide) dX0_place_43 ?_
  refine j_iconst (v := (nI 2)) X dX0_place_44 (by decide) ?_
  refine j_iadd (v := ((W36 11 c0) + (nI 2))) X dX0_place_45 rfl ?_
  refine j_iastB X (aC_11 hb) c0 rfl (by omega) (by decide) (by omega) dX0_place_46 ?_
  refine j_nm (fun W46 eW46 => ?_)
  refine j_iload_n (q := 2) X dX0_place_47 rfl rfl ?_
  refine j_if_le (tgt := 63) X dX0_place_48 (by decide) (fun c48 => ?_) (fun c48 => ?_)
  · skip
    have h48 : ¬ 0 < c0 := fun q => absurd c48 (nI_nle q (by omega))
    refine j_iload_n (q := 2) X dX0_place_63 rfl rfl ?_
    refine j_bipush (v := (nI 11)) X dX0_place_64 (by decide) ?_
    refine j_ncmp_ge (tgt := 81) X c0 11 dX0_place_66 (by decide) rfl rfl (by omega) (by omega) (fun c66 => ?_) (fun c66 => ?_)
    · skip
      have h66 : ¬ c0 < 11 := by omega
      exact j_vret X hr hlk (congrArg (mb μ b) (by rw [placeS, upL, if_neg h48, upR, if_neg h66, pl5]; subst_vars; rfl)) dX0_place_81
    · skip
      have h66 : c0 < 11 := by omega
      refine j_aload_n (q := 0) X dX0_place_69 rfl rfl ?_
      refine j_getCB X (oC hb) hinX0 10 (by decide) rfl k38 dX0_place_70 ?_
      refine j_iload_n (q := 2) X dX0_place_73 rfl rfl ?_
      refine j_iconst (v := (nI 1)) X dX0_place_74 (by decide) ?_
      refine j_iadd (v := (nI (c0 + 1))) X dX0_place_75 (nI_add _ _) ?_
      refine j_dup2 X dX0_place_76 rfl rfl ?_
      refine j_ialdB X (aC_11 hb) (c0 + 1) rfl (by omega) (by decide) dX0_place_77 ?_
      refine j_iconst (v := (nI 1)) X dX0_place_78 (by decide) ?_
      refine j_iadd (v := ((W46 11 (c0 + 1)) + (nI 1))) X dX0_place_79 rfl ?_
      refine j_iastB X (aC_11 hb) (c0 + 1) rfl (by omega) (by decide) (by omega) dX0_place_80 ?_
      refine j_nm (fun W80 eW80 => ?_)
      exact j_vret X hr hlk (congrArg (mb μ b) (by rw [placeS, upL, if_neg h48, upR, if_pos h66, pl5]; subst_vars; rfl)) dX0_place_81
  · skip
    have h48 : 0 < c0 := by rcases Nat.eq_zero_or_pos c0 with q | q; (subst q; exact absurd (by decide) c48); exact q
    refine j_aload_n (q := 0) X dX0_place_51 rfl rfl ?_
    refine j_getCB X (oC hb) hinX0 10 (by decide) rfl k38 dX0_place_52 ?_
    refine j_iload_n (q := 2) X dX0_place_55 rfl rfl ?_
    refine j_iconst (v := (nI 1)) X dX0_place_56 (by decide) ?_
    refine j_isub (v := (nI (c0 - 1))) X dX0_place_57 (pk_sub (by omega)) ?_
    refine j_dup2 X dX0_place_58 rfl rfl ?_
    refine j_ialdB X (aC_11 hb) (c0 - 1) rfl (by omega) (by decide) dX0_place_59 ?_
    refine j_iconst (v := (nI 1)) X dX0_place_60 (by decide) ?_
    refine j_iadd (v := ((W46 11 (c0 - 1)) + (nI 1))) X dX0_place_61 rfl ?_
    refine j_iastB X (aC_11 hb) (c0 - 1) rfl (by omega) (by decide) (by omega) dX0_place_62 ?_
    refine j_nm (fun W62 eW62 => ?_)
    refine j_iload_n (q := 2) X dX0_place_63 rfl rfl ?_
    refine j_bipush (v := (nI 11)) X dX0_place_64 (by decide) ?_
    refine j_ncmp_ge (tgt := 81) X c0 11 dX0_place_66 (by decide) rfl rfl (by omega) (by omega) (fun c66 => ?_) (fun c66 => ?_)
    · skip
      have h66 : ¬ c0 < 11 := by omega
      exact j_vret X hr hlk (congrArg (mb μ b) (by rw [placeS, upL, if_pos h48, upR, if_neg h66, pl5]; subst_vars; rfl)) dX0_place_81
    · skip
      have h66 : c0 < 11 := by omega
      refine j_aload_n (q := 0) X dX0_place_69 rfl rfl ?_
      refine j_getCB X (oC hb) hinX0 10 (by decide) rfl k38 dX0_place_70 ?_
      refine j_iload_n (q := 2) X dX0_place_73 rfl rfl ?_
      refine j_iconst (v := (nI 1)) X dX0_place_74 (by decide) ?_
      refine j_iadd (v := (nI (c0 + 1))) X dX0_place_75 (nI_add _ _) ?_
      refine j_dup2 X dX0_place_76 rfl rfl ?_
      refine j_ialdB X (aC_11 hb) (c0 + 1) rfl (by omega) (by decide) dX0_place_77 ?_
      refine j_iconst (v := (nI 1)) X dX0_place_78 (by decide) ?_
      refine j_iadd (v := ((W62 11 (c0 + 1)) + (nI 1))) X dX0_place_79 rfl ?_
      refine j_iastB X (aC_11 hb) (c0 + 1) rfl (by omega) (by decide) (by omega) dX0_place_80 ?_
      refine j_nm (fun W80 eW80 => ?_)
      exact j_vret X hr hlk (congrArg (mb μ b) (by rw [placeS, upL, if_pos h48, upR, if_pos h66, pl5]; subst_vars; rfl)) dX0_place_81
set_option maxHeartbeats 4000000 in
set_option maxRecDepth 100000 in
theorem kX0_bare (l : Launch) (D : va_G) (ad : Nat → Nat → Nat) (cs : Nat → ClassId) (A : Nat → Prop) (z : Nat → Nat) {b : Nat} (hb : b < 10) (μ : Mm) (V : CV) (c0 : Nat) (hc : c0 < 12) : KV l D ad cs A z yX0_bare wsX0_bare (rm 0 0) [.ref (ad b 0), .int (nI c0)] (mb μ b V) (fun μ1 => μ1 = mb μ b (us V 10 c0 (-6))) := by
  refine KV_of (cc := cX0_bare) (maxL := 2) (ret := none) (by decide) rfl (Nat.le_of_ble_eq_true rfl) ?_
  intro p e s m args below meth c hr hlk X
  show J p l e _ s m args below meth c 0 0 _ 2 D ad cs A 0 [(0, .ref (ad b 0)), (1, .int (nI c0))] [] (mb μ b V)
  have hinX0 : ∀ w ∈ wsX00, w ∈ wsX0_bare := by decide +kernel
  have k35 : (Cond.fieldLink RX0 35 "PunCourts$Court" "borne" "[I").before args s = true := X.1.2.2.2.2 _ (by decide +kernel)
  refine j_aload_n (q := 0) X dX0_bare_0 rfl rfl ?_
  refine j_getCB X (oC hb) hinX0 9 (by decide) rfl k35 dX0_bare_1 ?_
  refine j_iload_n (q := 1) X dX0_bare_4 rfl rfl ?_
  refine j_bipush (v := (-6)) X dX0_bare_5 (by decide) ?_
  refine j_iastB X (aC_10 hb) c0 rfl (by omega) (by decide) (by omega) dX0_bare_7 ?_
  exact j_vret X hr hlk rfl dX0_bare_8
set_option maxHeartbeats 4000000 in
set_option maxRecDepth 100000 in
theorem kX0_drop (l : Launch) (D : va_G) (ad : Nat → Nat → Nat) (cs : Nat → ClassId) (A : Nat → Prop) (z : Nat → Nat) {b : Nat} (hb : b < 10) (μ : Mm) (V : CV) (n : Nat) (hn : n < 20) : KI l D ad cs A z yX0_drop wsX0_drop (rm 1 23) [.ref (ad b 0), .int (nI n)] (mb μ b V) (fun r μ1 => r = nI (nb V (nI n) 12) ∧ μ1 = mb μ b (dr (us V 8 n (nI 1)) n 12)) := by
  refine KI_of (cc := cX0_drop) (maxL := 4) (ret := (some .int)) (by decide) rfl (Nat.le_of_ble_eq_true rfl) ?_
  intro p e s m args below meth c hr hlk X
  show J p l e _ s m args below meth c 0 0 _ 4 D ad cs A 0 [(0, .ref (ad b 0)), (1, .int (nI n))] [] (mb μ b V)
  have hinX0 : ∀ w ∈ wsX00, w ∈ wsX0_drop := by decide +kernel
  have k28 : (Cond.fieldLink RX0 28 "PunCourts$Court" "withdrawn" "[Z").before args s = true := X.1.2.2.2.2 _ (by decide +kernel)
  have k35 : (Cond.fieldLink RX0 35 "PunCourts$Court" "borne" "[I").before args s = true := X.1.2.2.2.2 _ (by decide +kernel)
  refine j_aload_n (q := 0) X dX0_drop_0 rfl rfl ?_
  refine j_iload_n (q := 1) X dX0_drop_1 rfl rfl ?_
  refine j_callVi (As := [.int (nI n)]) X (kX0_bearers l D ad cs A z hb μ V (nI n)) (oC hb) rfl (cwV 1 X.1.2.2.2.2 gX0_drop_X0_bearers rfl rfl rfl (by decide +kernel) ⟨Nat.le_of_ble_eq_true rfl, Nat.le_of_ble_eq_true rfl⟩) rfl rfl (Nat.le_of_ble_eq_true rfl) dX0_drop_2 (fun r2 μ2 h2 => ?_)
  obtain ⟨rfl, rfl⟩ := h2
  have hnb := nb_le V (nI n) 12
  refine j_istore_n (lv' := [(2, .int (nI (nb V (nI n) 12))), (0, .ref (ad b 0)), (1, .int (nI n))]) X dX0_drop_5 rfl (by decide) rfl ?_
  refine j_aload_n (q := 1) X dX0_drop_6 rfl rfl ?_
  refine j_getCB X (oC hb) hinX0 7 (by decide) rfl k28 dX0_drop_7 ?_
  refine j_iload_n (q := 2) X dX0_drop_10 rfl rfl ?_
  refine j_iconst (v := (nI 1)) X dX0_drop_11 (by decide) ?_
  refine j_zastB X (aC_8 hb) n rfl (by omega) (by decide) (Or.inr rfl) (by omega) dX0_drop_12 ?_
  refine j_iconst (v := (nI 0)) X dX0_drop_13 (by decide) ?_
  refine j_istore_n (lv' := [(3, .int (nI 0)), (2, .int (nI (nb V (nI n) 12))), (0, .ref (ad b 0)), (1, .int (nI n))]) X dX0_drop_14 rfl (by decide) rfl ?_
  refine j_lv [0, 2, 3, 1] rfl ?_
  refine jl2 (G := J p l e _ s m args below meth c 0 0 _ _ D ad cs A) (pc := 15) (fun (i : Nat) (W : CV) => [(3, .int (nI i)), (0, .ref (ad b 0)), (1, .int (nI n)), (2, .int (nI (nb V (nI n) 12)))]) (fun (i : Nat) (W : CV) => (mb μ b W)) (fun (i : Nat) (W : CV) => i ≤ 12 ∧ W = dr (us V 8 n (nI 1)) n i) (fun (i : Nat) (W : CV) => 12 - i) ?_ 0 (us V 8 n (nI 1)) ⟨by omega, rfl⟩
  intro i W hI15 ih15
  try dsimp only at ih15 ⊢
  obtain ⟨hi, hW⟩ := hI15
  refine j_iload_n (q := 0) X dX0_drop_15 rfl rfl ?_
  refine j_bipush (v := (nI 12)) X dX0_drop_16 (by decide) ?_
  refine j_ncmp_ge (tgt := 42) X i 12 dX0_drop_18 (by decide) rfl rfl (by omega) (by omega) (fun c18 => ?_) (fun c18 => ?_)
  · skip
    refine j_iload_n (q := 3) X dX0_drop_42 rfl rfl ?_
    exact j_iret X hr hlk ⟨rfl, by rw [hW, show i = 12 by omega]⟩ dX0_drop_43
  · skip
    refine j_aload_n (q := 1) X dX0_drop_21 rfl rfl ?_
    refine j_getCB X (oC hb) hinX0 9 (by decide) rfl k35 dX0_drop_22 ?_
    refine j_iload_n (q := 0) X dX0_drop_25 rfl rfl ?_
    refine j_ialdB X (aC_10 hb) i rfl (by omega) (by decide) dX0_drop_26 ?_
    refine j_iload_n (q := 2) X dX0_drop_27 rfl rfl ?_
    refine j_icmp_ne (tgt := 36) X dX0_drop_28 (by decide) (fun c28 => ?_) (fun c28 => ?_)
    · skip
      refine j_iinc (q := 0) (v := (nI (i + 1))) (lv' := [(3, .int (nI (i + 1))), (0, .ref (ad b 0)), (1, .int (nI n)), (2, .int (nI (nb V (nI n) 12)))]) X dX0_drop_36 rfl (nI_1 _) (by decide) rfl ?_
      refine j_goto (tgt := 15) X dX0_drop_39 (by decide) ?_
      exact ih15 (i + 1) W ⟨by omega, by rw [dr, ← hW]; first | exact (if_neg c28).symm | exact (if_pos (Classical.not_not.mp c28)).symm⟩ (by omega)
    · skip
      refine j_aload_n (q := 1) X dX0_drop_31 rfl rfl ?_
      refine j_iload_n (q := 0) X dX0_drop_32 rfl rfl ?_
      refine j_callVv (As := [.int (nI i)]) X (kX0_bare l D ad cs A z hb μ W i (by omega)) (oC hb) rfl (cwV 1 X.1.2.2.2.2 gX0_drop_X0_bare rfl rfl rfl (by decide +kernel) ⟨Nat.le_of_ble_eq_true rfl, Nat.le_of_ble_eq_true rfl⟩) rfl rfl (Nat.le_of_ble_eq_true rfl) dX0_drop_33 (fun μ33 h33 => ?_)
      subst h33
      refine j_iinc (q := 0) (v := (nI (i + 1))) (lv' := [(3, .int (nI (i + 1))), (0, .ref (ad b 0)), (1, .int (nI n)), (2, .int (nI (nb V (nI n) 12)))]) X dX0_drop_36 rfl (nI_1 _) (by decide) rfl ?_
      refine j_goto (tgt := 15) X dX0_drop_39 (by decide) ?_
      exact ih15 (i + 1) (us W 10 i (-6)) ⟨by omega, by rw [dr, ← hW]; first | exact (if_neg c28).symm | exact (if_pos (Classical.not_not.mp c28)).symm⟩ (by omega)
set_option maxHeartbeats 4000000 in
set_option maxRecDepth 100000 in
theorem kX0_mostOwing (l : Launch) (D : va_G) (ad : Nat → Nat → Nat) (cs : Nat → ClassId) (A : Nat → Prop) (z : Nat → Nat) {b : Nat} (hb : b < 10) (μ : Mm) (V : CV) : KI l D ad cs A z yX0_mostOwing wsX0_mostOwing (rm 0 0) [.ref (ad b 0)] (mb μ b V) (fun r μ1 => r = nI (mo V 12) ∧ μ1 = mb μ b V) := by
  refine KI_of (cc := cX0_mostOwing) (maxL := 3) (ret := (some .int)) (by decide) rfl (Nat.le_of_ble_eq_true rfl) ?_
  intro p e s m args below meth c hr hlk X
  show J p l e _ s m args below meth c 0 0 _ 3 D ad cs A 0 [(0, .ref (ad b 0))] [] (mb μ b V)
  have hinX0 : ∀ w ∈ wsX00, w ∈ wsX0_mostOwing := by decide +kernel
  have k38 : (Cond.fieldLink RX0 38 "PunCourts$Court" "owed" "[I").before args s = true := X.1.2.2.2.2 _ (by decide +kernel)
  refine j_iconst (v := (nI 0)) X dX0_mostOwing_0 (by decide) ?_
  refine j_istore_n (lv' := [(1, .int (nI 0)), (0, .ref (ad b 0))]) X dX0_mostOwing_1 rfl (by decide) rfl ?_
  refine j_iconst (v := (nI 1)) X dX0_mostOwing_2 (by decide) ?_
  refine j_istore_n (lv' := [(2, .int (nI 1)), (1, .int (nI 0)), (0, .ref (ad b 0))]) X dX0_mostOwing_3 rfl (by decide) rfl ?_
  refine jl2 (G := J p l e _ s m args below meth c 0 0 _ _ D ad cs A) (pc := 4) (fun (i : Nat) (m1 : Nat) => [(2, .int (nI i)), (1, .int (nI m1)), (0, .ref (ad b 0))]) (fun (i : Nat) (m1 : Nat) => (mb μ b V)) (fun (i : Nat) (m1 : Nat) => 1 ≤ i ∧ i ≤ 12 ∧ m1 = mo V i) (fun (i : Nat) (m1 : Nat) => 12 - i) ?_ 1 0 ⟨by omega, by omega, (mo_1 V).symm⟩
  intro i m1 hI4 ih4
  try dsimp only at ih4 ⊢
  obtain ⟨hi1, hi, hm⟩ := hI4
  have hml := mo_lt V i
  refine j_iload_n (q := 0) X dX0_mostOwing_4 rfl rfl ?_
  refine j_bipush (v := (nI 12)) X dX0_mostOwing_5 (by decide) ?_
  refine j_ncmp_ge (tgt := 33) X i 12 dX0_mostOwing_7 (by decide) rfl rfl (by omega) (by omega) (fun c7 => ?_) (fun c7 => ?_)
  · skip
    refine j_iload_n (q := 1) X dX0_mostOwing_33 rfl rfl ?_
    exact j_iret X hr hlk ⟨by rw [hm, show i = 12 by omega], rfl⟩ dX0_mostOwing_34
  · skip
    refine j_aload_n (q := 2) X dX0_mostOwing_10 rfl rfl ?_
    refine j_getCB X (oC hb) hinX0 10 (by decide) rfl k38 dX0_mostOwing_11 ?_
    refine j_iload_n (q := 0) X dX0_mostOwing_14 rfl rfl ?_
    refine j_ialdB X (aC_11 hb) i rfl (by omega) (by decide) dX0_mostOwing_15 ?_
    refine j_aload_n (q := 2) X dX0_mostOwing_16 rfl rfl ?_
    refine j_getCB X (oC hb) hinX0 10 (by decide) rfl k38 dX0_mostOwing_17 ?_
    refine j_iload_n (q := 1) X dX0_mostOwing_20 rfl rfl ?_
    refine j_ialdB X (aC_11 hb) m1 rfl (by omega) (by decide) dX0_mostOwing_21 ?_
    refine j_icmp_le (tgt := 27) X dX0_mostOwing_22 (by decide) (fun c22 => ?_) (fun c22 => ?_)
    · skip
      refine j_iinc (q := 0) (v := (nI (i + 1))) (lv' := [(2, .int (nI (i + 1))), (1, .int (nI m1)), (0, .ref (ad b 0))]) X dX0_mostOwing_27 rfl (nI_1 _) (by decide) rfl ?_
      refine j_goto (tgt := 4) X dX0_mostOwing_30 (by decide) ?_
      exact ih4 (i + 1) m1 ⟨by omega, by omega, by rw [mo, ← hm]; first | exact (if_neg (Int32.not_lt.mpr c22)).symm | exact (if_pos (Int32.not_le.mp c22)).symm⟩ (by omega)
    · skip
      refine j_iload_n (q := 0) X dX0_mostOwing_25 rfl rfl ?_
      refine j_istore_n (lv' := [(1, .int (nI i)), (2, .int (nI i)), (0, .ref (ad b 0))]) X dX0_mostOwing_26 rfl (by decide) rfl ?_
      refine j_iinc (q := 1) (v := (nI (i + 1))) (lv' := [(2, .int (nI (i + 1))), (1, .int (nI i)), (0, .ref (ad b 0))]) X dX0_mostOwing_27 rfl (nI_1 _) (by decide) rfl ?_
      refine j_goto (tgt := 4) X dX0_mostOwing_30 (by decide) ?_
      exact ih4 (i + 1) i ⟨by omega, by omega, by rw [mo, ← hm]; first | exact (if_neg (Int32.not_lt.mpr c22)).symm | exact (if_pos (Int32.not_le.mp c22)).symm⟩ (by omega)
set_option maxHeartbeats 4000000 in
set_option maxRecDepth 100000 in
theorem kX0_setUpPosts (l : Launch) (D : va_G) (ad : Nat → Nat → Nat) (cs : Nat → ClassId) (A : Nat → Prop) (z : Nat → Nat) {b : Nat} (hb : b < 10) (μ : Mm) (V : CV) (P : Nat) (hP : V 1 2 = nI P) (hP9 : P ≤ 9) : KV l D ad cs A z yX0_setUpPosts wsX0_setUpPosts (rm 1 22) [.ref (ad b 0)] (mb μ b V) (fun μ1 => μ1 = mb μ b (su V P)) := by
  refine KV_of (cc := cX0_setUpPosts) (maxL := 3) (ret := none) (by decide) rfl (Nat.le_of_ble_eq_true rfl) ?_
  intro p e s m args below meth c hr hlk X
  show J p l e _ s m args below meth c 0 0 _ 3 D ad cs A 0 [(0, .ref (ad b 0))] [] (mb μ b V)
  have hinX0 : ∀ w ∈ wsX00, w ∈ wsX0_setUpPosts := by decide +kernel
  have k9 : (Cond.fieldLink RX0 9 "PunCourts$Court" "settings" "[I").before args s = true := X.1.2.2.2.2 _ (by decide +kernel)
  have k38 : (Cond.fieldLink RX0 38 "PunCourts$Court" "owed" "[I").before args s = true := X.1.2.2.2.2 _ (by decide +kernel)
  have k41 : (Cond.fieldLink RX0 41 "PunCourts$Court" "posted" "[I").before args s = true := X.1.2.2.2.2 _ (by decide +kernel)
  refine j_iconst (v := (nI 0)) X dX0_setUpPosts_0 (by decide) ?_
  refine j_istore_n (lv' := [(1, .int (nI 0)), (0, .ref (ad b 0))]) X dX0_setUpPosts_1 rfl (by decide) rfl ?_
  refine jl2 (G := J p l e _ s m args below meth c 0 0 _ _ D ad cs A) (pc := 2) (fun (i : Nat) (W : CV) => [(1, .int (nI i)), (0, .ref (ad b 0))]) (fun (i : Nat) (W : CV) => (mb μ b W)) (fun (i : Nat) (W : CV) => i ≤ P ∧ W = su V i) (fun (i : Nat) (W : CV) => P - i) ?_ 0 V ⟨by omega, rfl⟩
  intro i W hI2 ih2
  try dsimp only at ih2 ⊢
  obtain ⟨hi, hW⟩ := hI2
  have hW12 : W 1 2 = nI P := by rw [hW, su_row (by decide) (by decide)]; exact hP
  refine j_iload_n (q := 0) X dX0_setUpPosts_2 rfl rfl ?_
  refine j_aload_n (q := 1) X dX0_setUpPosts_3 rfl rfl ?_
  refine j_getCB X (oC hb) hinX0 0 (by decide) rfl k9 dX0_setUpPosts_4 ?_
  refine j_iconst (v := (nI 2)) X dX0_setUpPosts_7 (by decide) ?_
  refine j_ialdB X (aC_1 hb) 2 rfl (by decide) (by decide) dX0_setUpPosts_8 ?_
  rw [hW12]
  refine j_ncmp_ge (tgt := 53) X i P dX0_setUpPosts_9 (by decide) rfl rfl (by omega) (by omega) (fun c9 => ?_) (fun c9 => ?_)
  · skip
    exact j_vret X hr hlk (congrArg (mb μ b) (by rw [hW, show i = P by omega])) dX0_setUpPosts_53
  · skip
    refine j_aload_n (q := 1) X dX0_setUpPosts_12 rfl rfl ?_
    refine j_callVi (As := []) X (kX0_mostOwing l D ad cs A z hb μ W) (oC hb) rfl (cwV 0 X.1.2.2.2.2 gX0_setUpPosts_X0_mostOwing rfl rfl rfl (by decide +kernel) ⟨Nat.le_of_ble_eq_true rfl, Nat.le_of_ble_eq_true rfl⟩) rfl rfl (Nat.le_of_ble_eq_true rfl) dX0_setUpPosts_13 (fun r13 μ13 h13 => ?_)
    obtain ⟨h13, rfl⟩ := h13
    rw [h13]
    have hml := mo_lt W 12
    refine j_istore_n (lv' := [(2, .int (nI (mo W 12))), (1, .int (nI i)), (0, .ref (ad b 0))]) X dX0_setUpPosts_16 rfl (by decide) rfl ?_
    refine j_aload_n (q := 2) X dX0_setUpPosts_17 rfl rfl ?_
    refine j_getCB X (oC hb) hinX0 10 (by decide) rfl k38 dX0_setUpPosts_18 ?_
    refine j_iload_n (q := 0) X dX0_setUpPosts_21 rfl rfl ?_
    refine j_ialdB X (aC_11 hb) (mo W 12) rfl (by omega) (by decide) dX0_setUpPosts_22 ?_
    refine j_if_gt (tgt := 27) X dX0_setUpPosts_23 (by decide) (fun c23 => ?_) (fun c23 => ?_)
    · skip
      refine j_aload_n (q := 2) X dX0_setUpPosts_27 rfl rfl ?_
      refine j_getCB X (oC hb) hinX0 10 (by decide) rfl k38 dX0_setUpPosts_28 ?_
      refine j_iload_n (q := 0) X dX0_setUpPosts_31 rfl rfl ?_
      refine j_dup2 X dX0_setUpPosts_32 rfl rfl ?_
      refine j_ialdB X (aC_11 hb) (mo W 12) rfl (by omega) (by decide) dX0_setUpPosts_33 ?_
      refine j_iconst (v := (nI 1)) X dX0_setUpPosts_34 (by decide) ?_
      refine j_isub (v := ((W 11 (mo W 12)) - (nI 1))) X dX0_setUpPosts_35 rfl ?_
      refine j_iastB X (aC_11 hb) (mo W 12) rfl (by omega) (by decide) (by omega) dX0_setUpPosts_36 ?_
      refine j_aload_n (q := 2) X dX0_setUpPosts_37 rfl rfl ?_
      refine j_getCB X (oC hb) hinX0 11 (by decide) rfl k41 dX0_setUpPosts_38 ?_
      refine j_iload_n (q := 0) X dX0_setUpPosts_41 rfl rfl ?_
      refine j_dup2 X dX0_setUpPosts_42 rfl rfl ?_
      refine j_ialdB X (aC_12 hb) (mo W 12) rfl (by omega) (by decide) dX0_setUpPosts_43 ?_
      refine j_iconst (v := (nI 1)) X dX0_setUpPosts_44 (by decide) ?_
      refine j_iadd (v := (((us W 11 (mo W 12) ((W 11 (mo W 12)) - (nI 1))) 12 (mo W 12)) + (nI 1))) X dX0_setUpPosts_45 rfl ?_
      refine j_iastB X (aC_12 hb) (mo W 12) rfl (by omega) (by decide) (by omega) dX0_setUpPosts_46 ?_
      refine j_iinc (q := 1) (v := (nI (i + 1))) (lv' := [(1, .int (nI (i + 1))), (2, .int (nI (mo W 12))), (0, .ref (ad b 0))]) X dX0_setUpPosts_47 rfl (nI_1 _) (by decide) rfl ?_
      refine j_goto (tgt := 2) X dX0_setUpPosts_50 (by decide) ?_
      refine j_lv [0, 2] rfl ?_
      exact ih2 (i + 1) (us (us W 11 (mo W 12) ((W 11 (mo W 12)) - (nI 1))) 12 (mo W 12) (((us W 11 (mo W 12) ((W 11 (mo W 12)) - (nI 1))) 12 (mo W 12)) + (nI 1))) ⟨by omega, by rw [su, ← hW, up1, if_pos c23]; rfl⟩ (by omega)
    · skip
      exact j_vret X hr hlk (congrArg (mb μ b) (by rw [hW]; exact (su_fix (by rw [← hW, up1, if_neg c23]) P hi).symm)) dX0_setUpPosts_26
set_option maxHeartbeats 4000000 in
set_option maxRecDepth 100000 in
theorem kX0_wrongOnMap (l : Launch) (D : va_G) (ad : Nat → Nat → Nat) (cs : Nat → ClassId) (A : Nat → Prop) (z : Nat → Nat) {b : Nat} (hb : b < 10) (μ : Mm) (V : CV) : KI l D ad cs A z yX0_wrongOnMap wsX0_wrongOnMap (rm 0 0) [.ref (ad b 0)] (mb μ b V) (fun r μ1 => r = wmS V ∧ μ1 = mb μ b V) := by
  refine KI_of (cc := cX0_wrongOnMap) (maxL := 3) (ret := (some .int)) (by decide) rfl (Nat.le_of_ble_eq_true rfl) ?_
  intro p e s m args below meth c hr hlk X
  show J p l e _ s m args below meth c 0 0 _ 3 D ad cs A 0 [(0, .ref (ad b 0))] [] (mb μ b V)
  have hinX0 : ∀ w ∈ wsX00, w ∈ wsX0_wrongOnMap := by decide +kernel
  have k140 : (Cond.fieldLink RX0 140 "PunCourts$Court" "mapIssued" "Z").before args s = true := X.1.2.2.2.2 _ (by decide +kernel)
  have k50 : (Cond.fieldLink RX0 50 "PunCourts$Court" "shown" "[I").before args s = true := X.1.2.2.2.2 _ (by decide +kernel)
  have k35 : (Cond.fieldLink RX0 35 "PunCourts$Court" "borne" "[I").before args s = true := X.1.2.2.2.2 _ (by decide +kernel)
  refine j_aload_n (q := 0) X dX0_wrongOnMap_0 rfl rfl ?_
  refine j_getCB X (oC hb) hinX0 14 (by decide) rfl k140 dX0_wrongOnMap_1 ?_
  refine j_if_ne (tgt := 10) X dX0_wrongOnMap_4 (by decide) (fun c4 => ?_) (fun c4 => ?_)
  · skip
    refine j_iconst (v := (nI 0)) X dX0_wrongOnMap_10 (by decide) ?_
    refine j_istore_n (lv' := [(1, .int (nI 0)), (0, .ref (ad b 0))]) X dX0_wrongOnMap_11 rfl (by decide) rfl ?_
    refine j_iconst (v := (nI 0)) X dX0_wrongOnMap_12 (by decide) ?_
    refine j_istore_n (lv' := [(2, .int (nI 0)), (1, .int (nI 0)), (0, .ref (ad b 0))]) X dX0_wrongOnMap_13 rfl (by decide) rfl ?_
    refine jl2 (G := J p l e _ s m args below meth c 0 0 _ _ D ad cs A) (pc := 14) (fun (i : Nat) (r : Nat) => [(2, .int (nI i)), (1, .int (nI r)), (0, .ref (ad b 0))]) (fun (i : Nat) (r : Nat) => (mb μ b V)) (fun (i : Nat) (r : Nat) => i ≤ 12 ∧ r = wm V i) (fun (i : Nat) (r : Nat) => 12 - i) ?_ 0 0 ⟨by omega, rfl⟩
    intro i r hI14 ih14
    try dsimp only at ih14 ⊢
    obtain ⟨hi, hrr⟩ := hI14
    refine j_iload_n (q := 0) X dX0_wrongOnMap_14 rfl rfl ?_
    refine j_bipush (v := (nI 12)) X dX0_wrongOnMap_15 (by decide) ?_
    refine j_ncmp_ge (tgt := 44) X i 12 dX0_wrongOnMap_17 (by decide) rfl rfl (by omega) (by omega) (fun c17 => ?_) (fun c17 => ?_)
    · skip
      refine j_iload_n (q := 1) X dX0_wrongOnMap_44 rfl rfl ?_
      exact j_iret X hr hlk ⟨by rw [wmS, if_neg c4, hrr, show i = 12 by omega], rfl⟩ dX0_wrongOnMap_45
    · skip
      refine j_aload_n (q := 2) X dX0_wrongOnMap_20 rfl rfl ?_
      refine j_getCB X (oC hb) hinX0 15 (by decide) rfl k50 dX0_wrongOnMap_21 ?_
      refine j_iload_n (q := 0) X dX0_wrongOnMap_24 rfl rfl ?_
      refine j_ialdB X (aC_16 hb) i rfl (by omega) (by decide) dX0_wrongOnMap_25 ?_
      refine j_aload_n (q := 2) X dX0_wrongOnMap_26 rfl rfl ?_
      refine j_getCB X (oC hb) hinX0 9 (by decide) rfl k35 dX0_wrongOnMap_27 ?_
      refine j_iload_n (q := 0) X dX0_wrongOnMap_30 rfl rfl ?_
      refine j_ialdB X (aC_10 hb) i rfl (by omega) (by decide) dX0_wrongOnMap_31 ?_
      refine j_icmp_eq (tgt := 38) X dX0_wrongOnMap_32 (by decide) (fun c32 => ?_) (fun c32 => ?_)
      · skip
        refine j_iinc (q := 0) (v := (nI (i + 1))) (lv' := [(2, .int (nI (i + 1))), (1, .int (nI r)), (0, .ref (ad b 0))]) X dX0_wrongOnMap_38 rfl (nI_1 _) (by decide) rfl ?_
        refine j_goto (tgt := 14) X dX0_wrongOnMap_41 (by decide) ?_
        exact ih14 (i + 1) r ⟨by omega, by rw [wm]; simp_all⟩ (by omega)
      · skip
        refine j_iinc (q := 1) (v := (nI (r + 1))) (lv' := [(1, .int (nI (r + 1))), (2, .int (nI i)), (0, .ref (ad b 0))]) X dX0_wrongOnMap_35 rfl (nI_1 _) (by decide) rfl ?_
        refine j_iinc (q := 1) (v := (nI (i + 1))) (lv' := [(2, .int (nI (i + 1))), (1, .int (nI (r + 1))), (0, .ref (ad b 0))]) X dX0_wrongOnMap_38 rfl (nI_1 _) (by decide) rfl ?_
        refine j_goto (tgt := 14) X dX0_wrongOnMap_41 (by decide) ?_
        exact ih14 (i + 1) (r + 1) ⟨by omega, by rw [wm]; simp_all⟩ (by omega)
  · skip
    refine j_bipush (v := (-6)) X dX0_wrongOnMap_7 (by decide) ?_
    exact j_iret X hr hlk ⟨by rw [wmS, if_pos (Classical.not_not.mp c4)], rfl⟩ dX0_wrongOnMap_9
set_option maxHeartbeats 4000000 in
set_option maxRecDepth 100000 in
theorem kX0_giveFromQueue (l : Launch) (D : va_G) (ad : Nat → Nat → Nat) (cs : Nat → ClassId) (A : Nat → Prop) (z : Nat → Nat) {b : Nat} (hb : b < 10) (μ : Mm) (V : CV) (a N P : Nat) (hpd : PD V a N P) : KI l D ad cs A z yX0_giveFromQueue wsX0_giveFromQueue (rm 4 93) [.ref (ad b 0)] (mb μ b V) (fun r μ1 => r = nI (gqn V a N) ∧ μ1 = mb μ b (gq V a N)) := by
  refine KI_of (cc := cX0_giveFromQueue) (maxL := 4) (ret := (some .boolean)) (by decide) rfl (Nat.le_of_ble_eq_true rfl) ?_
  intro p e s m args below meth c hr hlk X
  show J p l e _ s m args below meth c 0 0 _ 4 D ad cs A 0 [(0, .ref (ad b 0))] [] (mb μ b V)
  have hinX0 : ∀ w ∈ wsX00, w ∈ wsX0_giveFromQueue := by decide +kernel
  have k53 : (Cond.fieldLink RX0 53 "PunCourts$Court" "names" "I").before args s = true := X.1.2.2.2.2 _ (by decide +kernel)
  have k25 : (Cond.fieldLink RX0 25 "PunCourts$Court" "honours" "[I").before args s = true := X.1.2.2.2.2 _ (by decide +kernel)
  obtain ⟨ha, ha11, hN, hN20, hP, hP9, hhon⟩ := id hpd
  refine j_bipush (v := (nI 10 - nI 1)) X dX0_giveFromQueue_0 (by decide) ?_
  refine j_istore_n (lv' := [(1, .int (nI 10 - nI 1)), (0, .ref (ad b 0))]) X dX0_giveFromQueue_2 rfl (by decide) rfl ?_
  refine jl1 (G := J p l e _ s m args below meth c 0 0 _ _ D ad cs A) (pc := 3) (fun (j : Nat) => [(1, .int (nI j - nI 1)), (0, .ref (ad b 0))]) (fun (j : Nat) => (mb μ b V)) (fun (j : Nat) => j ≤ 10 ∧ ∀ m, cnd V a N m → V 7 m < nI j) (fun (j : Nat) => j) ?_ 10 ⟨by omega, fun m hm => by obtain ⟨h, h9, e⟩ := hhon m hm.1; rw [e]; exact nI_lt (by omega) (by omega)⟩
  intro j hI3 ih3
  try dsimp only at ih3 ⊢
  obtain ⟨hj, hout⟩ := hI3
  refine j_iload_n (q := 0) X dX0_giveFromQueue_3 rfl rfl ?_
  refine j_if_lt (tgt := 67) X dX0_giveFromQueue_4 (by decide) (fun c4 => ?_) (fun c4 => ?_)
  · skip
    have hj0 := sub1_t (by omega) c4
    have hpk : pkN V a N = 20 := pkN_none hN20 (fun m hm => by have h1 := hout m hm; rw [hj0] at h1; obtain ⟨h, h9, e⟩ := hhon m hm.1; rw [e] at h1; exact nI_pos (by omega) h1)
    refine j_iconst (v := (nI 0)) X dX0_giveFromQueue_67 (by decide) ?_
    exact j_zret X hr hlk (by first | exact Or.inl rfl | exact Or.inr rfl) ⟨by rw [gqn, if_pos hpk], by rw [gq, if_pos hpk]⟩ dX0_giveFromQueue_68
  · skip
    have hj1 := sub1_f c4
    rw [pk_sub hj1]
    refine j_iconst (v := (nI 0)) X dX0_giveFromQueue_7 (by decide) ?_
    refine j_istore_n (lv' := [(2, .int (nI 0)), (1, .int (nI (j - 1))), (0, .ref (ad b 0))]) X dX0_giveFromQueue_8 rfl (by decide) rfl ?_
    refine j_lv [0, 2, 1] rfl ?_
    refine jl1 (G := J p l e _ s m args below meth c 0 0 _ _ D ad cs A) (pc := 9) (fun (i : Nat) => [(2, .int (nI i)), (0, .ref (ad b 0)), (1, .int (nI (j - 1)))]) (fun (i : Nat) => (mb μ b V)) (fun (i : Nat) => i ≤ N ∧ ∀ m, m < i → cnd V a N m → V 7 m ≠ nI (j - 1)) (fun (i : Nat) => N - i) ?_ 0 ⟨by omega, fun m hm => absurd hm (Nat.not_lt_zero _)⟩
    intro i hI9 ih9
    try dsimp only at ih9 ⊢
    obtain ⟨hi, hin⟩ := hI9
    refine j_iload_n (q := 0) X dX0_giveFromQueue_9 rfl rfl ?_
    refine j_aload_n (q := 1) X dX0_giveFromQueue_10 rfl rfl ?_
    refine j_getCB X (oC hb) hinX0 2 (by decide) rfl k53 dX0_giveFromQueue_11 ?_
    rw [hN]
    refine j_ncmp_ge (tgt := 61) X i N dX0_giveFromQueue_14 (by decide) rfl rfl (by omega) (by omega) (fun c14 => ?_) (fun c14 => ?_)
    · skip
      refine j_iinc (q := 2) (v := (nI (j - 1) - nI 1)) (lv' := [(1, .int (nI (j - 1) - nI 1)), (2, .int (nI i)), (0, .ref (ad b 0))]) X dX0_giveFromQueue_61 rfl (iinc_m1 _) (by decide) rfl ?_
      refine j_goto (tgt := 3) X dX0_giveFromQueue_64 (by decide) ?_
      refine j_lv [0, 2] rfl ?_
      exact ih3 (j - 1) ⟨by omega, fun m hm => by obtain ⟨h, h9, e⟩ := hhon m hm.1; have h1 := hout m hm; have h2 := hin m (by have := hm.1; omega) hm; rw [e] at h1 h2 ⊢; have h3 := (nI_ltI (by omega) (by omega)).mp h1; have h4 : h ≠ j - 1 := fun z => h2 (by rw [z]); exact nI_lt (by omega) (by omega)⟩ (by omega)
    · skip
      refine j_aload_n (q := 1) X dX0_giveFromQueue_17 rfl rfl ?_
      refine j_getCB X (oC hb) hinX0 6 (by decide) rfl k25 dX0_giveFromQueue_18 ?_
      refine j_iload_n (q := 0) X dX0_giveFromQueue_21 rfl rfl ?_
      refine j_ialdB X (aC_7 hb) i rfl (by omega) (by decide) dX0_giveFromQueue_22 ?_
      refine j_iload_n (q := 2) X dX0_giveFromQueue_23 rfl rfl ?_
      refine j_icmp_ne (tgt := 55) X dX0_giveFromQueue_24 (by decide) (fun c24 => ?_) (fun c24 => ?_)
      · skip
        have hno : cnd V a N i → V 7 i ≠ nI (j - 1) := fun _ => c24
        refine j_iinc (q := 0) (v := (nI (i + 1))) (lv' := [(2, .int (nI (i + 1))), (0, .ref (ad b 0)), (1, .int (nI (j - 1)))]) X dX0_giveFromQueue_55 rfl (nI_1 _) (by decide) rfl ?_
        refine j_goto (tgt := 9) X dX0_giveFromQueue_58 (by decide) ?_
        exact ih9 (i + 1) ⟨by omega, fun m hm hc => by rcases Nat.lt_or_ge m i with q | q; exact hin m q hc; (have e : m = i := by omega); subst e; exact hno hc⟩ (by omega)
      · skip
        refine j_aload_n (q := 1) X dX0_giveFromQueue_27 rfl rfl ?_
        refine j_iload_n (q := 0) X dX0_giveFromQueue_28 rfl rfl ?_
        refine j_callVi (As := [.int (nI i)]) X (kX0_waits l D ad cs A z hb μ V i (by omega)) (oC hb) rfl (cwV 1 X.1.2.2.2.2 gX0_giveFromQueue_X0_waits rfl rfl rfl (by decide +kernel) ⟨Nat.le_of_ble_eq_true rfl, Nat.le_of_ble_eq_true rfl⟩) rfl rfl (Nat.le_of_ble_eq_true rfl) dX0_giveFromQueue_29 (fun r29 μ29 h29 => ?_)
        obtain ⟨h29, rfl⟩ := h29
        refine j_if_eq (tgt := 55) X dX0_giveFromQueue_32 (by decide) (fun c32 => ?_) (fun c32 => ?_)
        · skip
          have hno : cnd V a N i → V 7 i ≠ nI (j - 1) := fun q => absurd q.2.1 (h29.f c32)
          refine j_iinc (q := 0) (v := (nI (i + 1))) (lv' := [(2, .int (nI (i + 1))), (0, .ref (ad b 0)), (1, .int (nI (j - 1)))]) X dX0_giveFromQueue_55 rfl (nI_1 _) (by decide) rfl ?_
          refine j_goto (tgt := 9) X dX0_giveFromQueue_58 (by decide) ?_
          exact ih9 (i + 1) ⟨by omega, fun m hm hc => by rcases Nat.lt_or_ge m i with q | q; exact hin m q hc; (have e : m = i := by omega); subst e; exact hno hc⟩ (by omega)
        · skip
          refine j_aload_n (q := 1) X dX0_giveFromQueue_35 rfl rfl ?_
          refine j_iload_n (q := 0) X dX0_giveFromQueue_36 rfl rfl ?_
          refine j_callVi (As := [.int (nI i)]) X (kX0_lowestFree l D ad cs A z hb μ V a ha ha11 i (by omega)) (oC hb) rfl (cwV 1 X.1.2.2.2.2 gX0_giveFromQueue_X0_lowestFree rfl rfl rfl (by decide +kernel) ⟨Nat.le_of_ble_eq_true rfl, Nat.le_of_ble_eq_true rfl⟩) rfl rfl (Nat.le_of_ble_eq_true rfl) dX0_giveFromQueue_37 (fun r37 μ37 h37 => ?_)
          obtain ⟨h37, rfl⟩ := h37
          rw [h37]
          refine j_istore_n (lv' := [(3, .int (low (rsn V a i))), (2, .int (nI i)), (0, .ref (ad b 0)), (1, .int (nI (j - 1)))]) X dX0_giveFromQueue_40 rfl (by decide) rfl ?_
          refine j_iload_n (q := 0) X dX0_giveFromQueue_41 rfl rfl ?_
          refine j_bipush (v := (-6)) X dX0_giveFromQueue_42 (by decide) ?_
          refine j_icmp_eq (tgt := 55) X dX0_giveFromQueue_44 (by decide) (fun c44 => ?_) (fun c44 => ?_)
          · skip
            have hno : cnd V a N i → V 7 i ≠ nI (j - 1) := fun q => absurd c44 q.2.2
            refine j_iinc (q := 1) (v := (nI (i + 1))) (lv' := [(2, .int (nI (i + 1))), (3, .int (low (rsn V a i))), (0, .ref (ad b 0)), (1, .int (nI (j - 1)))]) X dX0_giveFromQueue_55 rfl (nI_1 _) (by decide) rfl ?_
            refine j_goto (tgt := 9) X dX0_giveFromQueue_58 (by decide) ?_
            refine j_lv [0, 2, 3] rfl ?_
            exact ih9 (i + 1) ⟨by omega, fun m hm hc => by rcases Nat.lt_or_ge m i with q | q; exact hin m q hc; (have e : m = i := by omega); subst e; exact hno hc⟩ (by omega)
          · skip
            obtain ⟨hlc, hlc2⟩ := low_c c44
            rw [hlc]
            have hcn : cnd V a N i := ⟨by omega, h29.t c32, c44⟩
            have hpk : pkN V a N = i := pkN_eq hN20 hcn (fun m hm hb2 => by have e24 := Classical.not_not.mp c24; rcases hb2 with q | ⟨q, w⟩; (have h1 := hout m hm; obtain ⟨h, h9, e⟩ := hhon m hm.1; rw [e] at h1 q; rw [e24] at q; have h2 := (nI_ltI (by omega) (by omega)).mp h1; have h3 := (nI_ltI (by omega) (by omega)).mp q; omega); exact hin m w hm (q.trans e24))
            refine j_aload_n (q := 2) X dX0_giveFromQueue_47 rfl rfl ?_
            refine j_iload_n (q := 1) X dX0_giveFromQueue_48 rfl rfl ?_
            refine j_iload_n (q := 0) X dX0_giveFromQueue_49 rfl rfl ?_
            refine j_callVv (As := [.int (nI i), .int (nI (lw (rsn V a i) 12))]) X (kX0_place l D ad cs A z hb μ V i (by omega) (lw (rsn V a i) 12) hlc2) (oC hb) rfl (cwV 2 X.1.2.2.2.2 gX0_giveFromQueue_X0_place rfl rfl rfl (by decide +kernel) ⟨Nat.le_of_ble_eq_true rfl, Nat.le_of_ble_eq_true rfl⟩) rfl rfl (Nat.le_of_ble_eq_true rfl) dX0_giveFromQueue_50 (fun μ50 h50 => ?_)
            subst h50
            refine j_iconst (v := (nI 1)) X dX0_giveFromQueue_53 (by decide) ?_
            exact j_zret X hr hlk (by first | exact Or.inl rfl | exact Or.inr rfl) ⟨by rw [gqn, hpk, if_neg (by omega)], by rw [gq, hpk, if_neg (by omega)]⟩ dX0_giveFromQueue_54
set_option maxHeartbeats 4000000 in
set_option maxRecDepth 100000 in
theorem kX0_live (l : Launch) (D : va_G) (ad : Nat → Nat → Nat) (cs : Nat → ClassId) (A : Nat → Prop) (z : Nat → Nat) {b : Nat} (hb : b < 10) (μ : Mm) (V : CV) (a N P : Nat) (hpd : PD V a N P) (k : Nat) (hk : k ≤ 300) : KI l D ad cs A z yX0_live wsX0_live (rm 5 116) [.ref (ad b 0), .int (nI k)] (mb μ b V) (fun r μ1 => r = nI (dayn V a N P k) ∧ μ1 = mb μ b (days V a N P k)) := by
  refine KI_of (cc := cX0_live) (maxL := 4) (ret := (some .int)) (by decide) rfl (Nat.le_of_ble_eq_true rfl) ?_
  intro p e s m args below meth c hr hlk X
  show J p l e _ s m args below meth c 0 0 _ 4 D ad cs A 0 [(0, .ref (ad b 0)), (1, .int (nI k))] [] (mb μ b V)
  have hinX0 : ∀ w ∈ wsX00, w ∈ wsX0_live := by decide +kernel
  have k104 : (Cond.fieldLink RX0 104 "PunCourts$Court" "days" "I").before args s = true := X.1.2.2.2.2 _ (by decide +kernel)
  refine j_iconst (v := (nI 0)) X dX0_live_0 (by decide) ?_
  refine j_istore_n (lv' := [(2, .int (nI 0)), (0, .ref (ad b 0)), (1, .int (nI k))]) X dX0_live_1 rfl (by decide) rfl ?_
  refine j_iconst (v := (nI 0)) X dX0_live_2 (by decide) ?_
  refine j_istore_n (lv' := [(3, .int (nI 0)), (2, .int (nI 0)), (0, .ref (ad b 0)), (1, .int (nI k))]) X dX0_live_3 rfl (by decide) rfl ?_
  refine jl3 (G := J p l e _ s m args below meth c 0 0 _ _ D ad cs A) (pc := 4) (fun (i : Nat) (r : Nat) (W : CV) => [(3, .int (nI i)), (2, .int (nI r)), (0, .ref (ad b 0)), (1, .int (nI k))]) (fun (i : Nat) (r : Nat) (W : CV) => (mb μ b W)) (fun (i : Nat) (r : Nat) (W : CV) => i ≤ k ∧ r = dayn V a N P i ∧ W = days V a N P i) (fun (i : Nat) (r : Nat) (W : CV) => k - i) ?_ 0 0 V ⟨by omega, rfl, rfl⟩
  intro i r W hI4 ih4
  try dsimp only at ih4 ⊢
  obtain ⟨hi, hrr, hW⟩ := hI4
  have hW1 : PD W a N P := by rw [hW]; exact hpd.days i
  have hP9 := hW1.2.2.2.2.2.1
  have hP2 : gq W a N 1 2 = nI P := by rw [gq_row (by decide) (by decide) (by decide) (by decide) (by decide)]; exact hW1.2.2.2.2.1
  have hrk := dayn_le V a N P i
  refine j_iload_n (q := 0) X dX0_live_4 rfl rfl ?_
  refine j_iload_n (q := 3) X dX0_live_5 rfl rfl ?_
  refine j_ncmp_ge (tgt := 39) X i k dX0_live_6 (by decide) rfl rfl (by omega) (by omega) (fun c6 => ?_) (fun c6 => ?_)
  · skip
    refine j_iload_n (q := 1) X dX0_live_39 rfl rfl ?_
    exact j_iret X hr hlk ⟨by rw [hrr, show i = k by omega], by rw [hW, show i = k by omega]⟩ dX0_live_40
  · skip
    refine j_aload_n (q := 2) X dX0_live_9 rfl rfl ?_
    refine j_callVi (As := []) X (kX0_giveFromQueue l D ad cs A z hb μ W a N P hW1) (oC hb) rfl (cwV 0 X.1.2.2.2.2 gX0_live_X0_giveFromQueue rfl rfl rfl (by decide +kernel) ⟨Nat.le_of_ble_eq_true rfl, Nat.le_of_ble_eq_true rfl⟩) rfl rfl (Nat.le_of_ble_eq_true rfl) dX0_live_10 (fun r10 μ10 h10 => ?_)
    obtain ⟨h10, rfl⟩ := h10
    rw [h10]
    refine j_if_eq (tgt := 19) X dX0_live_13 (by decide) (fun c13 => ?_) (fun c13 => ?_)
    · skip
      have h13n : gqn W a N = 0 := by rcases Nat.eq_zero_or_pos (gqn W a N) with q | q; exact q; exact absurd c13 (nI_ne0 q (by have := gqn_le W a N; omega))
      refine j_aload_n (q := 2) X dX0_live_19 rfl rfl ?_
      refine j_callVv (As := []) X (kX0_setUpPosts l D ad cs A z hb μ (gq W a N) P hP2 hP9) (oC hb) rfl (cwV 0 X.1.2.2.2.2 gX0_live_X0_setUpPosts rfl rfl rfl (by decide +kernel) ⟨Nat.le_of_ble_eq_true rfl, Nat.le_of_ble_eq_true rfl⟩) rfl rfl (Nat.le_of_ble_eq_true rfl) dX0_live_20 (fun μ20 h20 => ?_)
      subst h20
      refine j_aload_n (q := 2) X dX0_live_23 rfl rfl ?_
      refine j_dup X dX0_live_24 rfl ?_
      refine j_getCB X (oC hb) hinX0 1 (by decide) rfl k104 dX0_live_25 ?_
      refine j_iconst (v := (nI 1)) X dX0_live_28 (by decide) ?_
      refine j_iadd (v := (((su (gq W a N) P) 0 1) + (nI 1))) X dX0_live_29 rfl ?_
      refine j_putCB (ty := .int) X (oC hb) hinX0 1 (by decide) (fun _ => rfl) rfl rfl rfl rfl (Nat.le_of_ble_eq_true rfl) k104 dX0_live_30 ?_
      refine j_iinc (q := 0) (v := (nI (i + 1))) (lv' := [(3, .int (nI (i + 1))), (2, .int (nI r)), (0, .ref (ad b 0)), (1, .int (nI k))]) X dX0_live_33 rfl (nI_1 _) (by decide) rfl ?_
      refine j_goto (tgt := 4) X dX0_live_36 (by decide) ?_
      exact ih4 (i + 1) r (us (su (gq W a N) P) 0 1 (((su (gq W a N) P) 0 1) + (nI 1))) ⟨by omega, by rw [dayn, ← hW, ← hrr]; omega, by rw [days, ← hW]; rfl⟩ (by omega)
    · skip
      have h13n : gqn W a N = 1 := by have := gqn_le W a N; rcases Nat.eq_zero_or_pos (gqn W a N) with q | q; (rw [q] at c13; exact absurd (by decide) c13); omega
      refine j_iinc (q := 1) (v := (nI (r + 1))) (lv' := [(2, .int (nI (r + 1))), (3, .int (nI i)), (0, .ref (ad b 0)), (1, .int (nI k))]) X dX0_live_16 rfl (nI_1 _) (by decide) rfl ?_
      refine j_aload_n (q := 2) X dX0_live_19 rfl rfl ?_
      refine j_callVv (As := []) X (kX0_setUpPosts l D ad cs A z hb μ (gq W a N) P hP2 hP9) (oC hb) rfl (cwV 0 X.1.2.2.2.2 gX0_live_X0_setUpPosts rfl rfl rfl (by decide +kernel) ⟨Nat.le_of_ble_eq_true rfl, Nat.le_of_ble_eq_true rfl⟩) rfl rfl (Nat.le_of_ble_eq_true rfl) dX0_live_20 (fun μ20 h20 => ?_)
      subst h20
      refine j_aload_n (q := 2) X dX0_live_23 rfl rfl ?_
      refine j_dup X dX0_live_24 rfl ?_
      refine j_getCB X (oC hb) hinX0 1 (by decide) rfl k104 dX0_live_25 ?_
      refine j_iconst (v := (nI 1)) X dX0_live_28 (by decide) ?_
      refine j_iadd (v := (((su (gq W a N) P) 0 1) + (nI 1))) X dX0_live_29 rfl ?_
      refine j_putCB (ty := .int) X (oC hb) hinX0 1 (by decide) (fun _ => rfl) rfl rfl rfl rfl (Nat.le_of_ble_eq_true rfl) k104 dX0_live_30 ?_
      refine j_iinc (q := 1) (v := (nI (i + 1))) (lv' := [(3, .int (nI (i + 1))), (2, .int (nI (r + 1))), (0, .ref (ad b 0)), (1, .int (nI k))]) X dX0_live_33 rfl (nI_1 _) (by decide) rfl ?_
      refine j_goto (tgt := 4) X dX0_live_36 (by decide) ?_
      exact ih4 (i + 1) (r + 1) (us (su (gq W a N) P) 0 1 (((su (gq W a N) P) 0 1) + (nI 1))) ⟨by omega, by rw [dayn, ← hW, ← hrr]; omega, by rw [days, ← hW]; rfl⟩ (by omega)
end
