section
-- ===== PART A: goes FIRST, ahead of the names: the tables' words, and 'selects' of the private methods out of them =====
/-- a private method of a class that the tables say can be made, by its rows of tables_1 -/
def lw_okq (q : MethodName × Nat) : Prop := (q.1.cls ≠ "java/lang/invoke/MethodHandle" ∧ q.1.cls ≠ "java/lang/invoke/VarHandle") ∧ Cond.instantiable q.1.cls q.2 ∈ tables_1 ∧ Cond.privateMethod q.1 ∈ tables_1 ∧ Cond.instanceMethod q.1 ∈ tables_1
theorem lw_p0 : lw_okq (⟨"TwoFit$Column", "climb", "(III)V"⟩, 6) := ⟨⟨by decide +kernel, by decide +kernel⟩, List.mem_of_getElem? (i := 203) (by decide +kernel), List.mem_of_getElem? (i := 309) (by decide +kernel), List.mem_of_getElem? (i := 310) (by decide +kernel)⟩
theorem lw_p1 : lw_okq (⟨"TwoFit", "judgeAll", "(I)V"⟩, 13) := ⟨⟨by decide +kernel, by decide +kernel⟩, List.mem_of_getElem? (i := 14) (by decide +kernel), List.mem_of_getElem? (i := 333) (by decide +kernel), List.mem_of_getElem? (i := 334) (by decide +kernel)⟩
theorem lw_p2 : lw_okq (⟨"TwoFit", "spell", "(I)V"⟩, 13) := ⟨⟨by decide +kernel, by decide +kernel⟩, List.mem_of_getElem? (i := 14) (by decide +kernel), List.mem_of_getElem? (i := 337) (by decide +kernel), List.mem_of_getElem? (i := 338) (by decide +kernel)⟩
theorem lw_p3 : lw_okq (⟨"TwoFit", "isPerson", "(I)Z"⟩, 13) := ⟨⟨by decide +kernel, by decide +kernel⟩, List.mem_of_getElem? (i := 14) (by decide +kernel), List.mem_of_getElem? (i := 345) (by decide +kernel), List.mem_of_getElem? (i := 346) (by decide +kernel)⟩
theorem lw_p4 : lw_okq (⟨"TwoFit$Gossip", "start", "()V"⟩, 11) := ⟨⟨by decide +kernel, by decide +kernel⟩, List.mem_of_getElem? (i := 159) (by decide +kernel), List.mem_of_getElem? (i := 353) (by decide +kernel), List.mem_of_getElem? (i := 354) (by decide +kernel)⟩
theorem lw_p5 : lw_okq (⟨"TwoFit$Gossip", "anyOf", "(IZ)Z"⟩, 11) := ⟨⟨by decide +kernel, by decide +kernel⟩, List.mem_of_getElem? (i := 159) (by decide +kernel), List.mem_of_getElem? (i := 357) (by decide +kernel), List.mem_of_getElem? (i := 358) (by decide +kernel)⟩
theorem lw_p6 : lw_okq (⟨"TwoFit$Gossip", "allOf", "(IZ)Z"⟩, 11) := ⟨⟨by decide +kernel, by decide +kernel⟩, List.mem_of_getElem? (i := 159) (by decide +kernel), List.mem_of_getElem? (i := 361) (by decide +kernel), List.mem_of_getElem? (i := 362) (by decide +kernel)⟩
theorem lw_p7 : lw_okq (⟨"TwoFit$Gossip", "piece", "(IZ)Z"⟩, 11) := ⟨⟨by decide +kernel, by decide +kernel⟩, List.mem_of_getElem? (i := 159) (by decide +kernel), List.mem_of_getElem? (i := 365) (by decide +kernel), List.mem_of_getElem? (i := 366) (by decide +kernel)⟩
theorem lw_p8 : lw_okq (⟨"TwoFit$Gossip", "next", "()I"⟩, 11) := ⟨⟨by decide +kernel, by decide +kernel⟩, List.mem_of_getElem? (i := 159) (by decide +kernel), List.mem_of_getElem? (i := 369) (by decide +kernel), List.mem_of_getElem? (i := 370) (by decide +kernel)⟩
theorem lw_p9 : lw_okq (⟨"TwoFit$Gossip", "opens", "(I)Z"⟩, 11) := ⟨⟨by decide +kernel, by decide +kernel⟩, List.mem_of_getElem? (i := 159) (by decide +kernel), List.mem_of_getElem? (i := 373) (by decide +kernel), List.mem_of_getElem? (i := 374) (by decide +kernel)⟩
theorem lw_p10 : lw_okq (⟨"TwoFit$Gossip", "fail", "(I)V"⟩, 11) := ⟨⟨by decide +kernel, by decide +kernel⟩, List.mem_of_getElem? (i := 159) (by decide +kernel), List.mem_of_getElem? (i := 377) (by decide +kernel), List.mem_of_getElem? (i := 378) (by decide +kernel)⟩
theorem lw_p11 : lw_okq (⟨"TwoFit$Gossip", "expect", "(I)V"⟩, 11) := ⟨⟨by decide +kernel, by decide +kernel⟩, List.mem_of_getElem? (i := 159) (by decide +kernel), List.mem_of_getElem? (i := 381) (by decide +kernel), List.mem_of_getElem? (i := 382) (by decide +kernel)⟩
theorem lw_p12 : lw_okq (⟨"TwoFit$Gossip", "sum", "(IZ)I"⟩, 11) := ⟨⟨by decide +kernel, by decide +kernel⟩, List.mem_of_getElem? (i := 159) (by decide +kernel), List.mem_of_getElem? (i := 385) (by decide +kernel), List.mem_of_getElem? (i := 386) (by decide +kernel)⟩
theorem lw_p13 : lw_okq (⟨"TwoFit$Gossip", "product", "(IZ)I"⟩, 11) := ⟨⟨by decide +kernel, by decide +kernel⟩, List.mem_of_getElem? (i := 159) (by decide +kernel), List.mem_of_getElem? (i := 389) (by decide +kernel), List.mem_of_getElem? (i := 390) (by decide +kernel)⟩
theorem lw_p14 : lw_okq (⟨"TwoFit$Gossip", "factor", "(IZ)I"⟩, 11) := ⟨⟨by decide +kernel, by decide +kernel⟩, List.mem_of_getElem? (i := 159) (by decide +kernel), List.mem_of_getElem? (i := 393) (by decide +kernel), List.mem_of_getElem? (i := 394) (by decide +kernel)⟩
theorem lw_p15 : lw_okq (⟨"TwoFit$Gossip", "numeral", "()I"⟩, 11) := ⟨⟨by decide +kernel, by decide +kernel⟩, List.mem_of_getElem? (i := 159) (by decide +kernel), List.mem_of_getElem? (i := 400) (by decide +kernel), List.mem_of_getElem? (i := 401) (by decide +kernel)⟩
def lw_privs_1 : List (MethodName × Nat) := [(⟨"TwoFit$Column", "climb", "(III)V"⟩, 6), (⟨"TwoFit", "judgeAll", "(I)V"⟩, 13), (⟨"TwoFit", "spell", "(I)V"⟩, 13), (⟨"TwoFit", "isPerson", "(I)Z"⟩, 13), (⟨"TwoFit$Gossip", "start", "()V"⟩, 11), (⟨"TwoFit$Gossip", "anyOf", "(IZ)Z"⟩, 11), (⟨"TwoFit$Gossip", "allOf", "(IZ)Z"⟩, 11), (⟨"TwoFit$Gossip", "piece", "(IZ)Z"⟩, 11), (⟨"TwoFit$Gossip", "next", "()I"⟩, 11), (⟨"TwoFit$Gossip", "opens", "(I)Z"⟩, 11), (⟨"TwoFit$Gossip", "fail", "(I)V"⟩, 11), (⟨"TwoFit$Gossip", "expect", "(I)V"⟩, 11), (⟨"TwoFit$Gossip", "sum", "(IZ)I"⟩, 11), (⟨"TwoFit$Gossip", "product", "(IZ)I"⟩, 11), (⟨"TwoFit$Gossip", "factor", "(IZ)I"⟩, 11), (⟨"TwoFit$Gossip", "numeral", "()I"⟩, 11)]
theorem lw_r1 : ∀ q ∈ lw_privs_1, lw_okq q := List.forall_mem_cons.mpr ⟨lw_p0, List.forall_mem_cons.mpr ⟨lw_p1, List.forall_mem_cons.mpr ⟨lw_p2, List.forall_mem_cons.mpr ⟨lw_p3, List.forall_mem_cons.mpr ⟨lw_p4, List.forall_mem_cons.mpr ⟨lw_p5, List.forall_mem_cons.mpr ⟨lw_p6, List.forall_mem_cons.mpr ⟨lw_p7, List.forall_mem_cons.mpr ⟨lw_p8, List.forall_mem_cons.mpr ⟨lw_p9, List.forall_mem_cons.mpr ⟨lw_p10, List.forall_mem_cons.mpr ⟨lw_p11, List.forall_mem_cons.mpr ⟨lw_p12, List.forall_mem_cons.mpr ⟨lw_p13, List.forall_mem_cons.mpr ⟨lw_p14, List.forall_mem_cons.mpr ⟨lw_p15, fun _ h => absurd h List.not_mem_nil⟩⟩⟩⟩⟩⟩⟩⟩⟩⟩⟩⟩⟩⟩⟩⟩
theorem lw_p16 : lw_okq (⟨"TwoFit", "tellsPeople", "(I)Z"⟩, 13) := ⟨⟨by decide +kernel, by decide +kernel⟩, List.mem_of_getElem? (i := 14) (by decide +kernel), List.mem_of_getElem? (i := 442) (by decide +kernel), List.mem_of_getElem? (i := 443) (by decide +kernel)⟩
theorem lw_p17 : lw_okq (⟨"TwoFit", "fillColumn", "(LTwoFit$Book;II)V"⟩, 13) := ⟨⟨by decide +kernel, by decide +kernel⟩, List.mem_of_getElem? (i := 14) (by decide +kernel), List.mem_of_getElem? (i := 455) (by decide +kernel), List.mem_of_getElem? (i := 456) (by decide +kernel)⟩
theorem lw_p18 : lw_okq (⟨"TwoFit", "isLive", "(II)Z"⟩, 13) := ⟨⟨by decide +kernel, by decide +kernel⟩, List.mem_of_getElem? (i := 14) (by decide +kernel), List.mem_of_getElem? (i := 477) (by decide +kernel), List.mem_of_getElem? (i := 478) (by decide +kernel)⟩
theorem lw_p19 : lw_okq (⟨"TwoFit", "isLine", "(II)Z"⟩, 13) := ⟨⟨by decide +kernel, by decide +kernel⟩, List.mem_of_getElem? (i := 14) (by decide +kernel), List.mem_of_getElem? (i := 481) (by decide +kernel), List.mem_of_getElem? (i := 482) (by decide +kernel)⟩
theorem lw_p20 : lw_okq (⟨"TwoFit", "isBook", "(I)Z"⟩, 13) := ⟨⟨by decide +kernel, by decide +kernel⟩, List.mem_of_getElem? (i := 14) (by decide +kernel), List.mem_of_getElem? (i := 485) (by decide +kernel), List.mem_of_getElem? (i := 486) (by decide +kernel)⟩
theorem lw_p21 : lw_okq (⟨"TwoFit", "fit", "(II)V"⟩, 13) := ⟨⟨by decide +kernel, by decide +kernel⟩, List.mem_of_getElem? (i := 14) (by decide +kernel), List.mem_of_getElem? (i := 549) (by decide +kernel), List.mem_of_getElem? (i := 550) (by decide +kernel)⟩
theorem lw_p22 : lw_okq (⟨"TwoFit", "openFor", "(I)I"⟩, 13) := ⟨⟨by decide +kernel, by decide +kernel⟩, List.mem_of_getElem? (i := 14) (by decide +kernel), List.mem_of_getElem? (i := 553) (by decide +kernel), List.mem_of_getElem? (i := 554) (by decide +kernel)⟩
theorem lw_p23 : lw_okq (⟨"TwoFit", "shownBooks", "()I"⟩, 13) := ⟨⟨by decide +kernel, by decide +kernel⟩, List.mem_of_getElem? (i := 14) (by decide +kernel), List.mem_of_getElem? (i := 557) (by decide +kernel), List.mem_of_getElem? (i := 558) (by decide +kernel)⟩
theorem lw_p24 : lw_okq (⟨"TwoFit", "layOut", "(II)V"⟩, 13) := ⟨⟨by decide +kernel, by decide +kernel⟩, List.mem_of_getElem? (i := 14) (by decide +kernel), List.mem_of_getElem? (i := 561) (by decide +kernel), List.mem_of_getElem? (i := 562) (by decide +kernel)⟩
theorem lw_p25 : lw_okq (⟨"TwoFit", "fitLaid", "(II)V"⟩, 13) := ⟨⟨by decide +kernel, by decide +kernel⟩, List.mem_of_getElem? (i := 14) (by decide +kernel), List.mem_of_getElem? (i := 569) (by decide +kernel), List.mem_of_getElem? (i := 570) (by decide +kernel)⟩
theorem lw_p26 : lw_okq (⟨"TwoFit", "fitAll", "(II)I"⟩, 13) := ⟨⟨by decide +kernel, by decide +kernel⟩, List.mem_of_getElem? (i := 14) (by decide +kernel), List.mem_of_getElem? (i := 573) (by decide +kernel), List.mem_of_getElem? (i := 574) (by decide +kernel)⟩
theorem lw_p27 : lw_okq (⟨"TwoFit", "fitAlone", "(III)I"⟩, 13) := ⟨⟨by decide +kernel, by decide +kernel⟩, List.mem_of_getElem? (i := 14) (by decide +kernel), List.mem_of_getElem? (i := 577) (by decide +kernel), List.mem_of_getElem? (i := 578) (by decide +kernel)⟩
theorem lw_p28 : lw_okq (⟨"TwoFit$Matching", "giveTo", "(II)V"⟩, 10) := ⟨⟨by decide +kernel, by decide +kernel⟩, List.mem_of_getElem? (i := 60) (by decide +kernel), List.mem_of_getElem? (i := 598) (by decide +kernel), List.mem_of_getElem? (i := 599) (by decide +kernel)⟩
theorem lw_p29 : lw_okq (⟨"TwoFit$Matching", "weighSet", "(I)V"⟩, 10) := ⟨⟨by decide +kernel, by decide +kernel⟩, List.mem_of_getElem? (i := 60) (by decide +kernel), List.mem_of_getElem? (i := 618) (by decide +kernel), List.mem_of_getElem? (i := 619) (by decide +kernel)⟩
theorem lw_p30 : lw_okq (⟨"TwoFit$Matching", "findSome", "()Z"⟩, 10) := ⟨⟨by decide +kernel, by decide +kernel⟩, List.mem_of_getElem? (i := 60) (by decide +kernel), List.mem_of_getElem? (i := 653) (by decide +kernel), List.mem_of_getElem? (i := 654) (by decide +kernel)⟩
theorem lw_p31 : lw_okq (⟨"TwoFit", "safeLines", "(II)I"⟩, 13) := ⟨⟨by decide +kernel, by decide +kernel⟩, List.mem_of_getElem? (i := 14) (by decide +kernel), List.mem_of_getElem? (i := 669) (by decide +kernel), List.mem_of_getElem? (i := 670) (by decide +kernel)⟩
def lw_privs_2 : List (MethodName × Nat) := [(⟨"TwoFit", "tellsPeople", "(I)Z"⟩, 13), (⟨"TwoFit", "fillColumn", "(LTwoFit$Book;II)V"⟩, 13), (⟨"TwoFit", "isLive", "(II)Z"⟩, 13), (⟨"TwoFit", "isLine", "(II)Z"⟩, 13), (⟨"TwoFit", "isBook", "(I)Z"⟩, 13), (⟨"TwoFit", "fit", "(II)V"⟩, 13), (⟨"TwoFit", "openFor", "(I)I"⟩, 13), (⟨"TwoFit", "shownBooks", "()I"⟩, 13), (⟨"TwoFit", "layOut", "(II)V"⟩, 13), (⟨"TwoFit", "fitLaid", "(II)V"⟩, 13), (⟨"TwoFit", "fitAll", "(II)I"⟩, 13), (⟨"TwoFit", "fitAlone", "(III)I"⟩, 13), (⟨"TwoFit$Matching", "giveTo", "(II)V"⟩, 10), (⟨"TwoFit$Matching", "weighSet", "(I)V"⟩, 10), (⟨"TwoFit$Matching", "findSome", "()Z"⟩, 10), (⟨"TwoFit", "safeLines", "(II)I"⟩, 13)]
theorem lw_r2 : ∀ q ∈ lw_privs_2, lw_okq q := List.forall_mem_cons.mpr ⟨lw_p16, List.forall_mem_cons.mpr ⟨lw_p17, List.forall_mem_cons.mpr ⟨lw_p18, List.forall_mem_cons.mpr ⟨lw_p19, List.forall_mem_cons.mpr ⟨lw_p20, List.forall_mem_cons.mpr ⟨lw_p21, List.forall_mem_cons.mpr ⟨lw_p22, List.forall_mem_cons.mpr ⟨lw_p23, List.forall_mem_cons.mpr ⟨lw_p24, List.forall_mem_cons.mpr ⟨lw_p25, List.forall_mem_cons.mpr ⟨lw_p26, List.forall_mem_cons.mpr ⟨lw_p27, List.forall_mem_cons.mpr ⟨lw_p28, List.forall_mem_cons.mpr ⟨lw_p29, List.forall_mem_cons.mpr ⟨lw_p30, List.forall_mem_cons.mpr ⟨lw_p31, fun _ h => absurd h List.not_mem_nil⟩⟩⟩⟩⟩⟩⟩⟩⟩⟩⟩⟩⟩⟩⟩⟩
theorem lw_p32 : lw_okq (⟨"TwoFit", "fewestGossips", "(II)I"⟩, 13) := ⟨⟨by decide +kernel, by decide +kernel⟩, List.mem_of_getElem? (i := 14) (by decide +kernel), List.mem_of_getElem? (i := 680) (by decide +kernel), List.mem_of_getElem? (i := 681) (by decide +kernel)⟩
theorem lw_p33 : lw_okq (⟨"TwoFit", "mayLaid", "(III)I"⟩, 13) := ⟨⟨by decide +kernel, by decide +kernel⟩, List.mem_of_getElem? (i := 14) (by decide +kernel), List.mem_of_getElem? (i := 684) (by decide +kernel), List.mem_of_getElem? (i := 685) (by decide +kernel)⟩
theorem lw_p34 : lw_okq (⟨"TwoFit", "someAlike", "(I)Z"⟩, 13) := ⟨⟨by decide +kernel, by decide +kernel⟩, List.mem_of_getElem? (i := 14) (by decide +kernel), List.mem_of_getElem? (i := 693) (by decide +kernel), List.mem_of_getElem? (i := 694) (by decide +kernel)⟩
theorem lw_p35 : lw_okq (⟨"TwoFit$Asking", "makeRoom", "(I)V"⟩, 5) := ⟨⟨by decide +kernel, by decide +kernel⟩, List.mem_of_getElem? (i := 105) (by decide +kernel), List.mem_of_getElem? (i := 701) (by decide +kernel), List.mem_of_getElem? (i := 702) (by decide +kernel)⟩
theorem lw_p36 : lw_okq (⟨"TwoFit$Asking", "addSplit", "(II)V"⟩, 5) := ⟨⟨by decide +kernel, by decide +kernel⟩, List.mem_of_getElem? (i := 105) (by decide +kernel), List.mem_of_getElem? (i := 708) (by decide +kernel), List.mem_of_getElem? (i := 709) (by decide +kernel)⟩
theorem lw_p37 : lw_okq (⟨"TwoFit$Asking", "areEnough", "(II)Z"⟩, 5) := ⟨⟨by decide +kernel, by decide +kernel⟩, List.mem_of_getElem? (i := 105) (by decide +kernel), List.mem_of_getElem? (i := 716) (by decide +kernel), List.mem_of_getElem? (i := 717) (by decide +kernel)⟩
theorem lw_p38 : lw_okq (⟨"TwoFit$Asking", "atLeast", "(I)I"⟩, 5) := ⟨⟨by decide +kernel, by decide +kernel⟩, List.mem_of_getElem? (i := 105) (by decide +kernel), List.mem_of_getElem? (i := 722) (by decide +kernel), List.mem_of_getElem? (i := 723) (by decide +kernel)⟩
theorem lw_p39 : lw_okq (⟨"TwoFit$Asking", "keep", "(III)V"⟩, 5) := ⟨⟨by decide +kernel, by decide +kernel⟩, List.mem_of_getElem? (i := 105) (by decide +kernel), List.mem_of_getElem? (i := 727) (by decide +kernel), List.mem_of_getElem? (i := 728) (by decide +kernel)⟩
theorem lw_p40 : lw_okq (⟨"TwoFit$Asking", "areEnoughBy", "(III)Z"⟩, 5) := ⟨⟨by decide +kernel, by decide +kernel⟩, List.mem_of_getElem? (i := 105) (by decide +kernel), List.mem_of_getElem? (i := 731) (by decide +kernel), List.mem_of_getElem? (i := 732) (by decide +kernel)⟩
theorem lw_p41 : lw_okq (⟨"TwoFit", "firstQuestion", "(III)I"⟩, 13) := ⟨⟨by decide +kernel, by decide +kernel⟩, List.mem_of_getElem? (i := 14) (by decide +kernel), List.mem_of_getElem? (i := 735) (by decide +kernel), List.mem_of_getElem? (i := 736) (by decide +kernel)⟩
theorem lw_p42 : lw_okq (⟨"TwoFit", "prepareBlurs", "(I)V"⟩, 13) := ⟨⟨by decide +kernel, by decide +kernel⟩, List.mem_of_getElem? (i := 14) (by decide +kernel), List.mem_of_getElem? (i := 747) (by decide +kernel), List.mem_of_getElem? (i := 748) (by decide +kernel)⟩
theorem lw_p43 : lw_okq (⟨"TwoFit", "prepareBlursOf", "(III)V"⟩, 13) := ⟨⟨by decide +kernel, by decide +kernel⟩, List.mem_of_getElem? (i := 14) (by decide +kernel), List.mem_of_getElem? (i := 755) (by decide +kernel), List.mem_of_getElem? (i := 756) (by decide +kernel)⟩
theorem lw_p44 : lw_okq (⟨"TwoFit$Blurs", "tryRow", "(IIII)V"⟩, 7) := ⟨⟨by decide +kernel, by decide +kernel⟩, List.mem_of_getElem? (i := 127) (by decide +kernel), List.mem_of_getElem? (i := 785) (by decide +kernel), List.mem_of_getElem? (i := 786) (by decide +kernel)⟩
theorem lw_p45 : lw_okq (⟨"TwoFit$Blurs", "whoFits", "(I)I"⟩, 7) := ⟨⟨by decide +kernel, by decide +kernel⟩, List.mem_of_getElem? (i := 127) (by decide +kernel), List.mem_of_getElem? (i := 789) (by decide +kernel), List.mem_of_getElem? (i := 790) (by decide +kernel)⟩
theorem lw_p46 : lw_okq (⟨"TwoFit$Blurs", "lossOf", "(I)I"⟩, 7) := ⟨⟨by decide +kernel, by decide +kernel⟩, List.mem_of_getElem? (i := 127) (by decide +kernel), List.mem_of_getElem? (i := 794) (by decide +kernel), List.mem_of_getElem? (i := 795) (by decide +kernel)⟩
theorem lw_p47 : lw_okq (⟨"TwoFit", "safeIfSwapped", "(IIIII)I"⟩, 13) := ⟨⟨by decide +kernel, by decide +kernel⟩, List.mem_of_getElem? (i := 14) (by decide +kernel), List.mem_of_getElem? (i := 803) (by decide +kernel), List.mem_of_getElem? (i := 804) (by decide +kernel)⟩
def lw_privs_3 : List (MethodName × Nat) := [(⟨"TwoFit", "fewestGossips", "(II)I"⟩, 13), (⟨"TwoFit", "mayLaid", "(III)I"⟩, 13), (⟨"TwoFit", "someAlike", "(I)Z"⟩, 13), (⟨"TwoFit$Asking", "makeRoom", "(I)V"⟩, 5), (⟨"TwoFit$Asking", "addSplit", "(II)V"⟩, 5), (⟨"TwoFit$Asking", "areEnough", "(II)Z"⟩, 5), (⟨"TwoFit$Asking", "atLeast", "(I)I"⟩, 5), (⟨"TwoFit$Asking", "keep", "(III)V"⟩, 5), (⟨"TwoFit$Asking", "areEnoughBy", "(III)Z"⟩, 5), (⟨"TwoFit", "firstQuestion", "(III)I"⟩, 13), (⟨"TwoFit", "prepareBlurs", "(I)V"⟩, 13), (⟨"TwoFit", "prepareBlursOf", "(III)V"⟩, 13), (⟨"TwoFit$Blurs", "tryRow", "(IIII)V"⟩, 7), (⟨"TwoFit$Blurs", "whoFits", "(I)I"⟩, 7), (⟨"TwoFit$Blurs", "lossOf", "(I)I"⟩, 7), (⟨"TwoFit", "safeIfSwapped", "(IIIII)I"⟩, 13)]
theorem lw_r3 : ∀ q ∈ lw_privs_3, lw_okq q := List.forall_mem_cons.mpr ⟨lw_p32, List.forall_mem_cons.mpr ⟨lw_p33, List.forall_mem_cons.mpr ⟨lw_p34, List.forall_mem_cons.mpr ⟨lw_p35, List.forall_mem_cons.mpr ⟨lw_p36, List.forall_mem_cons.mpr ⟨lw_p37, List.forall_mem_cons.mpr ⟨lw_p38, List.forall_mem_cons.mpr ⟨lw_p39, List.forall_mem_cons.mpr ⟨lw_p40, List.forall_mem_cons.mpr ⟨lw_p41, List.forall_mem_cons.mpr ⟨lw_p42, List.forall_mem_cons.mpr ⟨lw_p43, List.forall_mem_cons.mpr ⟨lw_p44, List.forall_mem_cons.mpr ⟨lw_p45, List.forall_mem_cons.mpr ⟨lw_p46, List.forall_mem_cons.mpr ⟨lw_p47, fun _ h => absurd h List.not_mem_nil⟩⟩⟩⟩⟩⟩⟩⟩⟩⟩⟩⟩⟩⟩⟩⟩
theorem lw_p48 : lw_okq (⟨"TwoFit", "firstBared", "(II)I"⟩, 13) := ⟨⟨by decide +kernel, by decide +kernel⟩, List.mem_of_getElem? (i := 14) (by decide +kernel), List.mem_of_getElem? (i := 812) (by decide +kernel), List.mem_of_getElem? (i := 813) (by decide +kernel)⟩
theorem lw_p49 : lw_okq (⟨"TwoFit", "lossOfLine", "(LTwoFit$Book;I)I"⟩, 13) := ⟨⟨by decide +kernel, by decide +kernel⟩, List.mem_of_getElem? (i := 14) (by decide +kernel), List.mem_of_getElem? (i := 820) (by decide +kernel), List.mem_of_getElem? (i := 821) (by decide +kernel)⟩
theorem lw_p50 : lw_okq (⟨"TwoFit", "toldGossips", "()I"⟩, 13) := ⟨⟨by decide +kernel, by decide +kernel⟩, List.mem_of_getElem? (i := 14) (by decide +kernel), List.mem_of_getElem? (i := 841) (by decide +kernel), List.mem_of_getElem? (i := 842) (by decide +kernel)⟩
theorem lw_p51 : lw_okq (⟨"TwoFitModel", "isPerson", "(I)Z"⟩, 47) := ⟨⟨by decide +kernel, by decide +kernel⟩, List.mem_of_getElem? (i := 845) (by decide +kernel), List.mem_of_getElem? (i := 1018) (by decide +kernel), List.mem_of_getElem? (i := 1019) (by decide +kernel)⟩
theorem lw_p52 : lw_okq (⟨"TwoFitModel", "blurs", "(III)I"⟩, 47) := ⟨⟨by decide +kernel, by decide +kernel⟩, List.mem_of_getElem? (i := 845) (by decide +kernel), List.mem_of_getElem? (i := 1026) (by decide +kernel), List.mem_of_getElem? (i := 1027) (by decide +kernel)⟩
theorem lw_p53 : lw_okq (⟨"TwoFitModel", "sizeOf", "(II)I"⟩, 47) := ⟨⟨by decide +kernel, by decide +kernel⟩, List.mem_of_getElem? (i := 845) (by decide +kernel), List.mem_of_getElem? (i := 1034) (by decide +kernel), List.mem_of_getElem? (i := 1035) (by decide +kernel)⟩
theorem lw_p54 : lw_okq (⟨"TwoFitModel", "isBelow", "(III)Z"⟩, 47) := ⟨⟨by decide +kernel, by decide +kernel⟩, List.mem_of_getElem? (i := 845) (by decide +kernel), List.mem_of_getElem? (i := 1038) (by decide +kernel), List.mem_of_getElem? (i := 1039) (by decide +kernel)⟩
theorem lw_p55 : lw_okq (⟨"TwoFitModel", "areTold", "(I)Z"⟩, 47) := ⟨⟨by decide +kernel, by decide +kernel⟩, List.mem_of_getElem? (i := 845) (by decide +kernel), List.mem_of_getElem? (i := 1049) (by decide +kernel), List.mem_of_getElem? (i := 1050) (by decide +kernel)⟩
theorem lw_p56 : lw_okq (⟨"TwoFitModel", "isThere", "(II)Z"⟩, 47) := ⟨⟨by decide +kernel, by decide +kernel⟩, List.mem_of_getElem? (i := 845) (by decide +kernel), List.mem_of_getElem? (i := 1060) (by decide +kernel), List.mem_of_getElem? (i := 1061) (by decide +kernel)⟩
theorem lw_p57 : lw_okq (⟨"TwoFitModel", "isLine", "(II)Z"⟩, 47) := ⟨⟨by decide +kernel, by decide +kernel⟩, List.mem_of_getElem? (i := 845) (by decide +kernel), List.mem_of_getElem? (i := 1064) (by decide +kernel), List.mem_of_getElem? (i := 1065) (by decide +kernel)⟩
theorem lw_p58 : lw_okq (⟨"TwoFitModel", "isBook", "(I)Z"⟩, 47) := ⟨⟨by decide +kernel, by decide +kernel⟩, List.mem_of_getElem? (i := 845) (by decide +kernel), List.mem_of_getElem? (i := 1068) (by decide +kernel), List.mem_of_getElem? (i := 1069) (by decide +kernel)⟩
theorem lw_p59 : lw_okq (⟨"TwoFitModel", "canSwap", "(IIII)Z"⟩, 47) := ⟨⟨by decide +kernel, by decide +kernel⟩, List.mem_of_getElem? (i := 845) (by decide +kernel), List.mem_of_getElem? (i := 1076) (by decide +kernel), List.mem_of_getElem? (i := 1077) (by decide +kernel)⟩
theorem lw_p60 : lw_okq (⟨"TwoFitModel", "swaps", "(IIII)V"⟩, 47) := ⟨⟨by decide +kernel, by decide +kernel⟩, List.mem_of_getElem? (i := 845) (by decide +kernel), List.mem_of_getElem? (i := 1080) (by decide +kernel), List.mem_of_getElem? (i := 1081) (by decide +kernel)⟩
theorem lw_p61 : lw_okq (⟨"TwoFitModel", "types", "(I)V"⟩, 47) := ⟨⟨by decide +kernel, by decide +kernel⟩, List.mem_of_getElem? (i := 845) (by decide +kernel), List.mem_of_getElem? (i := 1096) (by decide +kernel), List.mem_of_getElem? (i := 1097) (by decide +kernel)⟩
theorem lw_p62 : lw_okq (⟨"TwoFitModel", "readsWhole", "()Z"⟩, 47) := ⟨⟨by decide +kernel, by decide +kernel⟩, List.mem_of_getElem? (i := 845) (by decide +kernel), List.mem_of_getElem? (i := 1104) (by decide +kernel), List.mem_of_getElem? (i := 1105) (by decide +kernel)⟩
theorem lw_p63 : lw_okq (⟨"TwoFitModel", "here", "()I"⟩, 47) := ⟨⟨by decide +kernel, by decide +kernel⟩, List.mem_of_getElem? (i := 845) (by decide +kernel), List.mem_of_getElem? (i := 1109) (by decide +kernel), List.mem_of_getElem? (i := 1110) (by decide +kernel)⟩
def lw_privs_4 : List (MethodName × Nat) := [(⟨"TwoFit", "firstBared", "(II)I"⟩, 13), (⟨"TwoFit", "lossOfLine", "(LTwoFit$Book;I)I"⟩, 13), (⟨"TwoFit", "toldGossips", "()I"⟩, 13), (⟨"TwoFitModel", "isPerson", "(I)Z"⟩, 47), (⟨"TwoFitModel", "blurs", "(III)I"⟩, 47), (⟨"TwoFitModel", "sizeOf", "(II)I"⟩, 47), (⟨"TwoFitModel", "isBelow", "(III)Z"⟩, 47), (⟨"TwoFitModel", "areTold", "(I)Z"⟩, 47), (⟨"TwoFitModel", "isThere", "(II)Z"⟩, 47), (⟨"TwoFitModel", "isLine", "(II)Z"⟩, 47), (⟨"TwoFitModel", "isBook", "(I)Z"⟩, 47), (⟨"TwoFitModel", "canSwap", "(IIII)Z"⟩, 47), (⟨"TwoFitModel", "swaps", "(IIII)V"⟩, 47), (⟨"TwoFitModel", "types", "(I)V"⟩, 47), (⟨"TwoFitModel", "readsWhole", "()Z"⟩, 47), (⟨"TwoFitModel", "here", "()I"⟩, 47)]
theorem lw_r4 : ∀ q ∈ lw_privs_4, lw_okq q := List.forall_mem_cons.mpr ⟨lw_p48, List.forall_mem_cons.mpr ⟨lw_p49, List.forall_mem_cons.mpr ⟨lw_p50, List.forall_mem_cons.mpr ⟨lw_p51, List.forall_mem_cons.mpr ⟨lw_p52, List.forall_mem_cons.mpr ⟨lw_p53, List.forall_mem_cons.mpr ⟨lw_p54, List.forall_mem_cons.mpr ⟨lw_p55, List.forall_mem_cons.mpr ⟨lw_p56, List.forall_mem_cons.mpr ⟨lw_p57, List.forall_mem_cons.mpr ⟨lw_p58, List.forall_mem_cons.mpr ⟨lw_p59, List.forall_mem_cons.mpr ⟨lw_p60, List.forall_mem_cons.mpr ⟨lw_p61, List.forall_mem_cons.mpr ⟨lw_p62, List.forall_mem_cons.mpr ⟨lw_p63, fun _ h => absurd h List.not_mem_nil⟩⟩⟩⟩⟩⟩⟩⟩⟩⟩⟩⟩⟩⟩⟩⟩
theorem lw_p64 : lw_okq (⟨"TwoFitModel", "opens", "(I)Z"⟩, 47) := ⟨⟨by decide +kernel, by decide +kernel⟩, List.mem_of_getElem? (i := 845) (by decide +kernel), List.mem_of_getElem? (i := 1113) (by decide +kernel), List.mem_of_getElem? (i := 1114) (by decide +kernel)⟩
theorem lw_p65 : lw_okq (⟨"TwoFitModel", "wrongAt", "(II)Z"⟩, 47) := ⟨⟨by decide +kernel, by decide +kernel⟩, List.mem_of_getElem? (i := 845) (by decide +kernel), List.mem_of_getElem? (i := 1117) (by decide +kernel), List.mem_of_getElem? (i := 1118) (by decide +kernel)⟩
theorem lw_p66 : lw_okq (⟨"TwoFitModel", "readsCompared", "()Z"⟩, 47) := ⟨⟨by decide +kernel, by decide +kernel⟩, List.mem_of_getElem? (i := 845) (by decide +kernel), List.mem_of_getElem? (i := 1122) (by decide +kernel), List.mem_of_getElem? (i := 1123) (by decide +kernel)⟩
theorem lw_p67 : lw_okq (⟨"TwoFitModel", "readsSum", "()Z"⟩, 47) := ⟨⟨by decide +kernel, by decide +kernel⟩, List.mem_of_getElem? (i := 845) (by decide +kernel), List.mem_of_getElem? (i := 1126) (by decide +kernel), List.mem_of_getElem? (i := 1127) (by decide +kernel)⟩
theorem lw_p68 : lw_okq (⟨"TwoFitModel", "readsFactor", "()Z"⟩, 47) := ⟨⟨by decide +kernel, by decide +kernel⟩, List.mem_of_getElem? (i := 845) (by decide +kernel), List.mem_of_getElem? (i := 1130) (by decide +kernel), List.mem_of_getElem? (i := 1131) (by decide +kernel)⟩
theorem lw_p69 : lw_okq (⟨"TwoFitModel", "isDigit", "()Z"⟩, 47) := ⟨⟨by decide +kernel, by decide +kernel⟩, List.mem_of_getElem? (i := 845) (by decide +kernel), List.mem_of_getElem? (i := 1134) (by decide +kernel), List.mem_of_getElem? (i := 1135) (by decide +kernel)⟩
theorem lw_p70 : lw_okq (⟨"TwoFitModel", "readsNumber", "()Z"⟩, 47) := ⟨⟨by decide +kernel, by decide +kernel⟩, List.mem_of_getElem? (i := 845) (by decide +kernel), List.mem_of_getElem? (i := 1138) (by decide +kernel), List.mem_of_getElem? (i := 1139) (by decide +kernel)⟩
theorem lw_p71 : lw_okq (⟨"TwoFitModel", "notes", "(II)V"⟩, 47) := ⟨⟨by decide +kernel, by decide +kernel⟩, List.mem_of_getElem? (i := 845) (by decide +kernel), List.mem_of_getElem? (i := 1142) (by decide +kernel), List.mem_of_getElem? (i := 1143) (by decide +kernel)⟩
theorem lw_p72 : lw_okq (⟨"TwoFitModel", "closesSums", "(Z)V"⟩, 47) := ⟨⟨by decide +kernel, by decide +kernel⟩, List.mem_of_getElem? (i := 845) (by decide +kernel), List.mem_of_getElem? (i := 1152) (by decide +kernel), List.mem_of_getElem? (i := 1153) (by decide +kernel)⟩
theorem lw_p73 : lw_okq (⟨"TwoFitModel", "top", "()I"⟩, 47) := ⟨⟨by decide +kernel, by decide +kernel⟩, List.mem_of_getElem? (i := 845) (by decide +kernel), List.mem_of_getElem? (i := 1156) (by decide +kernel), List.mem_of_getElem? (i := 1157) (by decide +kernel)⟩
theorem lw_p74 : lw_okq (⟨"TwoFitModel", "hasOpenSum", "(I)Z"⟩, 47) := ⟨⟨by decide +kernel, by decide +kernel⟩, List.mem_of_getElem? (i := 845) (by decide +kernel), List.mem_of_getElem? (i := 1160) (by decide +kernel), List.mem_of_getElem? (i := 1161) (by decide +kernel)⟩
theorem lw_p75 : lw_okq (⟨"TwoFitModel", "endsPiece", "()V"⟩, 47) := ⟨⟨by decide +kernel, by decide +kernel⟩, List.mem_of_getElem? (i := 845) (by decide +kernel), List.mem_of_getElem? (i := 1164) (by decide +kernel), List.mem_of_getElem? (i := 1165) (by decide +kernel)⟩
theorem lw_p76 : lw_okq (⟨"TwoFitModel", "closes", "()Z"⟩, 47) := ⟨⟨by decide +kernel, by decide +kernel⟩, List.mem_of_getElem? (i := 845) (by decide +kernel), List.mem_of_getElem? (i := 1168) (by decide +kernel), List.mem_of_getElem? (i := 1169) (by decide +kernel)⟩
theorem lw_p77 : lw_okq (⟨"TwoFitModel", "lands", "(Z)V"⟩, 47) := ⟨⟨by decide +kernel, by decide +kernel⟩, List.mem_of_getElem? (i := 845) (by decide +kernel), List.mem_of_getElem? (i := 1172) (by decide +kernel), List.mem_of_getElem? (i := 1173) (by decide +kernel)⟩
theorem lw_p78 : lw_okq (⟨"TwoFitModel", "jumps", "(I)V"⟩, 47) := ⟨⟨by decide +kernel, by decide +kernel⟩, List.mem_of_getElem? (i := 845) (by decide +kernel), List.mem_of_getElem? (i := 1176) (by decide +kernel), List.mem_of_getElem? (i := 1177) (by decide +kernel)⟩
theorem lw_p79 : lw_okq (⟨"TwoFitModel", "fitsOf", "(II)I"⟩, 47) := ⟨⟨by decide +kernel, by decide +kernel⟩, List.mem_of_getElem? (i := 845) (by decide +kernel), List.mem_of_getElem? (i := 1191) (by decide +kernel), List.mem_of_getElem? (i := 1192) (by decide +kernel)⟩
def lw_privs_5 : List (MethodName × Nat) := [(⟨"TwoFitModel", "opens", "(I)Z"⟩, 47), (⟨"TwoFitModel", "wrongAt", "(II)Z"⟩, 47), (⟨"TwoFitModel", "readsCompared", "()Z"⟩, 47), (⟨"TwoFitModel", "readsSum", "()Z"⟩, 47), (⟨"TwoFitModel", "readsFactor", "()Z"⟩, 47), (⟨"TwoFitModel", "isDigit", "()Z"⟩, 47), (⟨"TwoFitModel", "readsNumber", "()Z"⟩, 47), (⟨"TwoFitModel", "notes", "(II)V"⟩, 47), (⟨"TwoFitModel", "closesSums", "(Z)V"⟩, 47), (⟨"TwoFitModel", "top", "()I"⟩, 47), (⟨"TwoFitModel", "hasOpenSum", "(I)Z"⟩, 47), (⟨"TwoFitModel", "endsPiece", "()V"⟩, 47), (⟨"TwoFitModel", "closes", "()Z"⟩, 47), (⟨"TwoFitModel", "lands", "(Z)V"⟩, 47), (⟨"TwoFitModel", "jumps", "(I)V"⟩, 47), (⟨"TwoFitModel", "fitsOf", "(II)I"⟩, 47)]
theorem lw_r5 : ∀ q ∈ lw_privs_5, lw_okq q := List.forall_mem_cons.mpr ⟨lw_p64, List.forall_mem_cons.mpr ⟨lw_p65, List.forall_mem_cons.mpr ⟨lw_p66, List.forall_mem_cons.mpr ⟨lw_p67, List.forall_mem_cons.mpr ⟨lw_p68, List.forall_mem_cons.mpr ⟨lw_p69, List.forall_mem_cons.mpr ⟨lw_p70, List.forall_mem_cons.mpr ⟨lw_p71, List.forall_mem_cons.mpr ⟨lw_p72, List.forall_mem_cons.mpr ⟨lw_p73, List.forall_mem_cons.mpr ⟨lw_p74, List.forall_mem_cons.mpr ⟨lw_p75, List.forall_mem_cons.mpr ⟨lw_p76, List.forall_mem_cons.mpr ⟨lw_p77, List.forall_mem_cons.mpr ⟨lw_p78, List.forall_mem_cons.mpr ⟨lw_p79, fun _ h => absurd h List.not_mem_nil⟩⟩⟩⟩⟩⟩⟩⟩⟩⟩⟩⟩⟩⟩⟩⟩
theorem lw_p80 : lw_okq (⟨"TwoFitModel", "mayLead", "(II)Z"⟩, 47) := ⟨⟨by decide +kernel, by decide +kernel⟩, List.mem_of_getElem? (i := 845) (by decide +kernel), List.mem_of_getElem? (i := 1195) (by decide +kernel), List.mem_of_getElem? (i := 1196) (by decide +kernel)⟩
theorem lw_p81 : lw_okq (⟨"TwoFitModel", "fitsAlone", "(II)I"⟩, 47) := ⟨⟨by decide +kernel, by decide +kernel⟩, List.mem_of_getElem? (i := 845) (by decide +kernel), List.mem_of_getElem? (i := 1199) (by decide +kernel), List.mem_of_getElem? (i := 1200) (by decide +kernel)⟩
theorem lw_p82 : lw_okq (⟨"TwoFitModel", "isAlone", "(II)Z"⟩, 47) := ⟨⟨by decide +kernel, by decide +kernel⟩, List.mem_of_getElem? (i := 845) (by decide +kernel), List.mem_of_getElem? (i := 1203) (by decide +kernel), List.mem_of_getElem? (i := 1204) (by decide +kernel)⟩
theorem lw_p83 : lw_okq (⟨"TwoFitModel", "isSaidOf", "(III)Z"⟩, 47) := ⟨⟨by decide +kernel, by decide +kernel⟩, List.mem_of_getElem? (i := 845) (by decide +kernel), List.mem_of_getElem? (i := 1207) (by decide +kernel), List.mem_of_getElem? (i := 1208) (by decide +kernel)⟩
theorem lw_p84 : lw_okq (⟨"TwoFitModel", "comesTo", "(II)I"⟩, 47) := ⟨⟨by decide +kernel, by decide +kernel⟩, List.mem_of_getElem? (i := 845) (by decide +kernel), List.mem_of_getElem? (i := 1211) (by decide +kernel), List.mem_of_getElem? (i := 1212) (by decide +kernel)⟩
theorem lw_p85 : lw_okq (⟨"TwoFitModel", "laysFitting", "(II)V"⟩, 47) := ⟨⟨by decide +kernel, by decide +kernel⟩, List.mem_of_getElem? (i := 845) (by decide +kernel), List.mem_of_getElem? (i := 1223) (by decide +kernel), List.mem_of_getElem? (i := 1224) (by decide +kernel)⟩
theorem lw_p86 : lw_okq (⟨"TwoFitModel", "counts", "(III)J"⟩, 47) := ⟨⟨by decide +kernel, by decide +kernel⟩, List.mem_of_getElem? (i := 845) (by decide +kernel), List.mem_of_getElem? (i := 1227) (by decide +kernel), List.mem_of_getElem? (i := 1228) (by decide +kernel)⟩
theorem lw_p87 : lw_okq (⟨"TwoFitModel", "spreads", "(II)V"⟩, 47) := ⟨⟨by decide +kernel, by decide +kernel⟩, List.mem_of_getElem? (i := 845) (by decide +kernel), List.mem_of_getElem? (i := 1231) (by decide +kernel), List.mem_of_getElem? (i := 1232) (by decide +kernel)⟩
theorem lw_p88 : lw_okq (⟨"TwoFitModel", "isAsked", "(IIII)Z"⟩, 47) := ⟨⟨by decide +kernel, by decide +kernel⟩, List.mem_of_getElem? (i := 845) (by decide +kernel), List.mem_of_getElem? (i := 1239) (by decide +kernel), List.mem_of_getElem? (i := 1240) (by decide +kernel)⟩
theorem lw_p89 : lw_okq (⟨"TwoFitModel", "canAll", "(III)Z"⟩, 47) := ⟨⟨by decide +kernel, by decide +kernel⟩, List.mem_of_getElem? (i := 845) (by decide +kernel), List.mem_of_getElem? (i := 1251) (by decide +kernel), List.mem_of_getElem? (i := 1252) (by decide +kernel)⟩
theorem lw_p90 : lw_okq (⟨"TwoFitModel", "findsOne", "(II)Z"⟩, 47) := ⟨⟨by decide +kernel, by decide +kernel⟩, List.mem_of_getElem? (i := 845) (by decide +kernel), List.mem_of_getElem? (i := 1255) (by decide +kernel), List.mem_of_getElem? (i := 1256) (by decide +kernel)⟩
theorem lw_p91 : lw_okq (⟨"TwoFitModel", "changesBack", "(II)V"⟩, 47) := ⟨⟨by decide +kernel, by decide +kernel⟩, List.mem_of_getElem? (i := 845) (by decide +kernel), List.mem_of_getElem? (i := 1259) (by decide +kernel), List.mem_of_getElem? (i := 1260) (by decide +kernel)⟩
theorem lw_p92 : lw_okq (⟨"TwoFitModel", "maybe", "(II)I"⟩, 47) := ⟨⟨by decide +kernel, by decide +kernel⟩, List.mem_of_getElem? (i := 845) (by decide +kernel), List.mem_of_getElem? (i := 1263) (by decide +kernel), List.mem_of_getElem? (i := 1264) (by decide +kernel)⟩
theorem lw_p93 : lw_okq (⟨"TwoFitModel", "rounds", "(I)Z"⟩, 47) := ⟨⟨by decide +kernel, by decide +kernel⟩, List.mem_of_getElem? (i := 845) (by decide +kernel), List.mem_of_getElem? (i := 1282) (by decide +kernel), List.mem_of_getElem? (i := 1283) (by decide +kernel)⟩
theorem lw_p94 : lw_okq (⟨"TwoFitModel", "isFound", "(II)Z"⟩, 47) := ⟨⟨by decide +kernel, by decide +kernel⟩, List.mem_of_getElem? (i := 845) (by decide +kernel), List.mem_of_getElem? (i := 1286) (by decide +kernel), List.mem_of_getElem? (i := 1287) (by decide +kernel)⟩
theorem lw_p95 : lw_okq (⟨"TwoFitModel", "foundNow", "(I)I"⟩, 47) := ⟨⟨by decide +kernel, by decide +kernel⟩, List.mem_of_getElem? (i := 845) (by decide +kernel), List.mem_of_getElem? (i := 1290) (by decide +kernel), List.mem_of_getElem? (i := 1291) (by decide +kernel)⟩
def lw_privs_6 : List (MethodName × Nat) := [(⟨"TwoFitModel", "mayLead", "(II)Z"⟩, 47), (⟨"TwoFitModel", "fitsAlone", "(II)I"⟩, 47), (⟨"TwoFitModel", "isAlone", "(II)Z"⟩, 47), (⟨"TwoFitModel", "isSaidOf", "(III)Z"⟩, 47), (⟨"TwoFitModel", "comesTo", "(II)I"⟩, 47), (⟨"TwoFitModel", "laysFitting", "(II)V"⟩, 47), (⟨"TwoFitModel", "counts", "(III)J"⟩, 47), (⟨"TwoFitModel", "spreads", "(II)V"⟩, 47), (⟨"TwoFitModel", "isAsked", "(IIII)Z"⟩, 47), (⟨"TwoFitModel", "canAll", "(III)Z"⟩, 47), (⟨"TwoFitModel", "findsOne", "(II)Z"⟩, 47), (⟨"TwoFitModel", "changesBack", "(II)V"⟩, 47), (⟨"TwoFitModel", "maybe", "(II)I"⟩, 47), (⟨"TwoFitModel", "rounds", "(I)Z"⟩, 47), (⟨"TwoFitModel", "isFound", "(II)Z"⟩, 47), (⟨"TwoFitModel", "foundNow", "(I)I"⟩, 47)]
theorem lw_r6 : ∀ q ∈ lw_privs_6, lw_okq q := List.forall_mem_cons.mpr ⟨lw_p80, List.forall_mem_cons.mpr ⟨lw_p81, List.forall_mem_cons.mpr ⟨lw_p82, List.forall_mem_cons.mpr ⟨lw_p83, List.forall_mem_cons.mpr ⟨lw_p84, List.forall_mem_cons.mpr ⟨lw_p85, List.forall_mem_cons.mpr ⟨lw_p86, List.forall_mem_cons.mpr ⟨lw_p87, List.forall_mem_cons.mpr ⟨lw_p88, List.forall_mem_cons.mpr ⟨lw_p89, List.forall_mem_cons.mpr ⟨lw_p90, List.forall_mem_cons.mpr ⟨lw_p91, List.forall_mem_cons.mpr ⟨lw_p92, List.forall_mem_cons.mpr ⟨lw_p93, List.forall_mem_cons.mpr ⟨lw_p94, List.forall_mem_cons.mpr ⟨lw_p95, fun _ h => absurd h List.not_mem_nil⟩⟩⟩⟩⟩⟩⟩⟩⟩⟩⟩⟩⟩⟩⟩⟩
theorem lw_p96 : lw_okq (⟨"TwoFitModel", "safeOf", "(III)I"⟩, 47) := ⟨⟨by decide +kernel, by decide +kernel⟩, List.mem_of_getElem? (i := 845) (by decide +kernel), List.mem_of_getElem? (i := 1301) (by decide +kernel), List.mem_of_getElem? (i := 1302) (by decide +kernel)⟩
theorem lw_p97 : lw_okq (⟨"TwoFitModel", "areOfBook", "(II)Z"⟩, 47) := ⟨⟨by decide +kernel, by decide +kernel⟩, List.mem_of_getElem? (i := 845) (by decide +kernel), List.mem_of_getElem? (i := 1313) (by decide +kernel), List.mem_of_getElem? (i := 1314) (by decide +kernel)⟩
theorem lw_p98 : lw_okq (⟨"TwoFitModel", "isSure", "(III)Z"⟩, 47) := ⟨⟨by decide +kernel, by decide +kernel⟩, List.mem_of_getElem? (i := 845) (by decide +kernel), List.mem_of_getElem? (i := 1317) (by decide +kernel), List.mem_of_getElem? (i := 1318) (by decide +kernel)⟩
theorem lw_p99 : lw_okq (⟨"TwoFitModel", "laysParts", "(I)V"⟩, 47) := ⟨⟨by decide +kernel, by decide +kernel⟩, List.mem_of_getElem? (i := 845) (by decide +kernel), List.mem_of_getElem? (i := 1325) (by decide +kernel), List.mem_of_getElem? (i := 1326) (by decide +kernel)⟩
theorem lw_p100 : lw_okq (⟨"TwoFitModel", "laysEnough", "()V"⟩, 47) := ⟨⟨by decide +kernel, by decide +kernel⟩, List.mem_of_getElem? (i := 845) (by decide +kernel), List.mem_of_getElem? (i := 1329) (by decide +kernel), List.mem_of_getElem? (i := 1330) (by decide +kernel)⟩
theorem lw_p101 : lw_okq (⟨"TwoFitModel", "enoughBy", "(II)I"⟩, 47) := ⟨⟨by decide +kernel, by decide +kernel⟩, List.mem_of_getElem? (i := 845) (by decide +kernel), List.mem_of_getElem? (i := 1334) (by decide +kernel), List.mem_of_getElem? (i := 1335) (by decide +kernel)⟩
theorem lw_p102 : lw_okq (⟨"TwoFitModel", "lossBy", "(IIII)I"⟩, 47) := ⟨⟨by decide +kernel, by decide +kernel⟩, List.mem_of_getElem? (i := 845) (by decide +kernel), List.mem_of_getElem? (i := 1342) (by decide +kernel), List.mem_of_getElem? (i := 1343) (by decide +kernel)⟩
theorem lw_p103 : lw_okq (⟨"TwoFitModel", "lossAt", "(II)I"⟩, 47) := ⟨⟨by decide +kernel, by decide +kernel⟩, List.mem_of_getElem? (i := 845) (by decide +kernel), List.mem_of_getElem? (i := 1346) (by decide +kernel), List.mem_of_getElem? (i := 1347) (by decide +kernel)⟩
theorem lw_p104 : lw_okq (⟨"TwoFitModel", "fitsBlurred", "()I"⟩, 47) := ⟨⟨by decide +kernel, by decide +kernel⟩, List.mem_of_getElem? (i := 845) (by decide +kernel), List.mem_of_getElem? (i := 1350) (by decide +kernel), List.mem_of_getElem? (i := 1351) (by decide +kernel)⟩
theorem lw_p105 : lw_okq (⟨"TwoFitModel", "allLines", "(I)I"⟩, 47) := ⟨⟨by decide +kernel, by decide +kernel⟩, List.mem_of_getElem? (i := 845) (by decide +kernel), List.mem_of_getElem? (i := 1362) (by decide +kernel), List.mem_of_getElem? (i := 1363) (by decide +kernel)⟩
theorem lw_p106 : lw_okq (⟨"TwoFitModel", "tapeNumber", "(I)I"⟩, 47) := ⟨⟨by decide +kernel, by decide +kernel⟩, List.mem_of_getElem? (i := 845) (by decide +kernel), List.mem_of_getElem? (i := 1374) (by decide +kernel), List.mem_of_getElem? (i := 1375) (by decide +kernel)⟩
def lw_privs_7 : List (MethodName × Nat) := [(⟨"TwoFitModel", "safeOf", "(III)I"⟩, 47), (⟨"TwoFitModel", "areOfBook", "(II)Z"⟩, 47), (⟨"TwoFitModel", "isSure", "(III)Z"⟩, 47), (⟨"TwoFitModel", "laysParts", "(I)V"⟩, 47), (⟨"TwoFitModel", "laysEnough", "()V"⟩, 47), (⟨"TwoFitModel", "enoughBy", "(II)I"⟩, 47), (⟨"TwoFitModel", "lossBy", "(IIII)I"⟩, 47), (⟨"TwoFitModel", "lossAt", "(II)I"⟩, 47), (⟨"TwoFitModel", "fitsBlurred", "()I"⟩, 47), (⟨"TwoFitModel", "allLines", "(I)I"⟩, 47), (⟨"TwoFitModel", "tapeNumber", "(I)I"⟩, 47)]
theorem lw_r7 : ∀ q ∈ lw_privs_7, lw_okq q := List.forall_mem_cons.mpr ⟨lw_p96, List.forall_mem_cons.mpr ⟨lw_p97, List.forall_mem_cons.mpr ⟨lw_p98, List.forall_mem_cons.mpr ⟨lw_p99, List.forall_mem_cons.mpr ⟨lw_p100, List.forall_mem_cons.mpr ⟨lw_p101, List.forall_mem_cons.mpr ⟨lw_p102, List.forall_mem_cons.mpr ⟨lw_p103, List.forall_mem_cons.mpr ⟨lw_p104, List.forall_mem_cons.mpr ⟨lw_p105, List.forall_mem_cons.mpr ⟨lw_p106, fun _ h => absurd h List.not_mem_nil⟩⟩⟩⟩⟩⟩⟩⟩⟩⟩⟩
def lw_privs : List (MethodName × Nat) := lw_privs_1 ++ (lw_privs_2 ++ (lw_privs_3 ++ (lw_privs_4 ++ (lw_privs_5 ++ (lw_privs_6 ++ (lw_privs_7))))))
def lw_tbl : List Cond := k2_sels lw_privs ++ tables_1
theorem lw_privs_ok : ∀ q ∈ lw_privs, lw_okq q := by
  show ∀ q ∈ lw_privs_1 ++ (lw_privs_2 ++ (lw_privs_3 ++ (lw_privs_4 ++ (lw_privs_5 ++ (lw_privs_6 ++ (lw_privs_7)))))), lw_okq q
  exact List.forall_mem_append.mpr ⟨lw_r1, List.forall_mem_append.mpr ⟨lw_r2, List.forall_mem_append.mpr ⟨lw_r3, List.forall_mem_append.mpr ⟨lw_r4, List.forall_mem_append.mpr ⟨lw_r5, List.forall_mem_append.mpr ⟨lw_r6, lw_r7⟩⟩⟩⟩⟩⟩
end
section
def RX0 : String := "TwoFit$Asking"
def TX0 : u_T := fun k => match k with
  | 0 => ("TwoFit$Asking", "splits", "[I", true)
  | 1 => ("TwoFit$Asking", "splitCount", "I", false)
  | 2 => ("TwoFit$Asking", "sizes", "[I", true)
  | 3 => ("TwoFit$Asking", "bounds", "[I", false)
  | _ => ("TwoFit$Asking", "time", "I", false)
def tyX0 : Nat → FieldType := fun k => match k with
  | 0 => .array .int
  | 1 => .int
  | 2 => .array .int
  | 3 => .array .int
  | _ => .int
abbrev wsX00 : List Cond := u_ws RX0 TX0 5
theorem nmX0 : ∀ a, a < 5 → ∀ b, b < 5 → a ≠ b → (TX0 a).2.1 ≠ (TX0 b).2.1 := by decide +kernel
theorem tyX0_ok : ∀ k, k < 5 → parseFieldDescriptor (TX0 k).2.2.1 = some (tyX0 k) := by decide +kernel
abbrev cX0_init : ByteArray := prog_2_method_1_code
def yX0_init : MethodName := ⟨RX0, "<init>", "()V"⟩
abbrev cX0_forget : ByteArray := prog_2_method_2_code
def yX0_forget : MethodName := ⟨RX0, "forget", "()V"⟩
abbrev cX0_prepare : ByteArray := prog_2_method_3_code
def yX0_prepare : MethodName := ⟨RX0, "prepare", "([LTwoFit$Column;I)V"⟩
abbrev cX0_makeRoom : ByteArray := prog_2_method_4_code
def yX0_makeRoom : MethodName := ⟨RX0, "makeRoom", "(I)V"⟩
abbrev cX0_addSplit : ByteArray := prog_2_method_5_code
def yX0_addSplit : MethodName := ⟨RX0, "addSplit", "(II)V"⟩
abbrev cX0_fewestFor : ByteArray := prog_2_method_6_code
def yX0_fewestFor : MethodName := ⟨RX0, "fewestFor", "(I)I"⟩
abbrev cX0_isFirst : ByteArray := prog_2_method_7_code
def yX0_isFirst : MethodName := ⟨RX0, "isFirst", "(III)Z"⟩
abbrev cX0_areEnoughBy : ByteArray := prog_2_method_8_code
def yX0_areEnoughBy : MethodName := ⟨RX0, "areEnoughBy", "(III)Z"⟩
abbrev cX0_areEnough : ByteArray := prog_2_method_9_code
def yX0_areEnough : MethodName := ⟨RX0, "areEnough", "(II)Z"⟩
abbrev cX0_keep : ByteArray := prog_2_method_10_code
def yX0_keep : MethodName := ⟨RX0, "keep", "(III)V"⟩
abbrev cX0_atLeast : ByteArray := prog_2_method_11_code
def yX0_atLeast : MethodName := ⟨RX0, "atLeast", "(I)I"⟩
def RX1 : String := "TwoFit$Blurs"
def TX1 : u_T := fun k => match k with
  | 0 => ("TwoFit$Blurs", "least", "I", false)
  | 1 => ("TwoFit$Blurs", "leastRow", "I", false)
  | 2 => ("TwoFit$Blurs", "leastCut", "I", false)
  | 3 => ("TwoFit$Blurs", "who", "[[I", true)
  | 4 => ("TwoFit$Blurs", "losses", "[[I", true)
  | 5 => ("TwoFit$Blurs", "tops", "[I", true)
  | _ => ("TwoFit$Blurs", "levels", "[I", true)
def tyX1 : Nat → FieldType := fun k => match k with
  | 0 => .int
  | 1 => .int
  | 2 => .int
  | 3 => .array (.array .int)
  | 4 => .array (.array .int)
  | 5 => .array .int
  | _ => .array .int
abbrev wsX10 : List Cond := u_ws RX1 TX1 7
theorem nmX1 : ∀ a, a < 7 → ∀ b, b < 7 → a ≠ b → (TX1 a).2.1 ≠ (TX1 b).2.1 := by decide +kernel
theorem tyX1_ok : ∀ k, k < 7 → parseFieldDescriptor (TX1 k).2.2.1 = some (tyX1 k) := by decide +kernel
abbrev cX1_init : ByteArray := prog_3_method_1_code
def yX1_init : MethodName := ⟨RX1, "<init>", "()V"⟩
abbrev cX1_clear : ByteArray := prog_3_method_2_code
def yX1_clear : MethodName := ⟨RX1, "clear", "()V"⟩
abbrev cX1_put : ByteArray := prog_3_method_3_code
def yX1_put : MethodName := ⟨RX1, "put", "(IIIII)V"⟩
abbrev cX1_raiseTop : ByteArray := prog_3_method_4_code
def yX1_raiseTop : MethodName := ⟨RX1, "raiseTop", "(II)V"⟩
abbrev cX1_level : ByteArray := prog_3_method_5_code
def yX1_level : MethodName := ⟨RX1, "level", "(II)I"⟩
abbrev cX1_find : ByteArray := prog_3_method_6_code
def yX1_find : MethodName := ⟨RX1, "find", "(III)V"⟩
abbrev cX1_tryRow : ByteArray := prog_3_method_7_code
def yX1_tryRow : MethodName := ⟨RX1, "tryRow", "(IIII)V"⟩
abbrev cX1_whoFits : ByteArray := prog_3_method_8_code
def yX1_whoFits : MethodName := ⟨RX1, "whoFits", "(I)I"⟩
abbrev cX1_lossOf : ByteArray := prog_3_method_9_code
def yX1_lossOf : MethodName := ⟨RX1, "lossOf", "(I)I"⟩
def RX2 : String := "TwoFit$Book"
def TX2 : u_T := fun k => match k with
  | 0 => ("TwoFit$Book", "lines", "I", false)
  | 1 => ("TwoFit$Book", "live", "I", false)
  | 2 => ("TwoFit$Book", "isShown", "Z", false)
  | 3 => ("TwoFit$Book", "owners", "[I", true)
  | _ => ("TwoFit$Book", "nodes", "[[I", true)
def tyX2 : Nat → FieldType := fun k => match k with
  | 0 => .int
  | 1 => .int
  | 2 => .boolean
  | 3 => .array .int
  | _ => .array (.array .int)
abbrev wsX20 : List Cond := u_ws RX2 TX2 5
theorem nmX2 : ∀ a, a < 5 → ∀ b, b < 5 → a ≠ b → (TX2 a).2.1 ≠ (TX2 b).2.1 := by decide +kernel
theorem tyX2_ok : ∀ k, k < 5 → parseFieldDescriptor (TX2 k).2.2.1 = some (tyX2 k) := by decide +kernel
abbrev cX2_init : ByteArray := prog_4_method_1_code
def yX2_init : MethodName := ⟨RX2, "<init>", "()V"⟩
abbrev cX2_add : ByteArray := prog_4_method_2_code
def yX2_add : MethodName := ⟨RX2, "add", "(I)V"⟩
abbrev cX2_owner : ByteArray := prog_4_method_3_code
def yX2_owner : MethodName := ⟨RX2, "owner", "(I)I"⟩
abbrev cX2_put : ByteArray := prog_4_method_4_code
def yX2_put : MethodName := ⟨RX2, "put", "(III)V"⟩
abbrev cX2_nodeAt : ByteArray := prog_4_method_5_code
def yX2_nodeAt : MethodName := ⟨RX2, "nodeAt", "(II)I"⟩
abbrev cX2_exchange : ByteArray := prog_4_method_6_code
def yX2_exchange : MethodName := ⟨RX2, "exchange", "(III)V"⟩
def RX3 : String := "TwoFit$Column"
def TX3 : u_T := fun k => match k with
  | 0 => ("TwoFit$Column", "weighs", "I", false)
  | 1 => ("TwoFit$Column", "above", "[I", true)
  | 2 => ("TwoFit$Column", "sizes", "[I", true)
  | 3 => ("TwoFit$Column", "who", "[I", true)
  | 4 => ("TwoFit$Column", "values", "[I", true)
  | _ => ("TwoFit$Column", "settled", "I", false)
def tyX3 : Nat → FieldType := fun k => match k with
  | 0 => .int
  | 1 => .array .int
  | 2 => .array .int
  | 3 => .array .int
  | 4 => .array .int
  | _ => .int
abbrev wsX30 : List Cond := u_ws RX3 TX3 6
theorem nmX3 : ∀ a, a < 6 → ∀ b, b < 6 → a ≠ b → (TX3 a).2.1 ≠ (TX3 b).2.1 := by decide +kernel
theorem tyX3_ok : ∀ k, k < 6 → parseFieldDescriptor (TX3 k).2.2.1 = some (tyX3 k) := by decide +kernel
abbrev cX3_init : ByteArray := prog_5_method_1_code
def yX3_init : MethodName := ⟨RX3, "<init>", "()V"⟩
abbrev cX3_hang : ByteArray := prog_5_method_2_code
def yX3_hang : MethodName := ⟨RX3, "hang", "(II)V"⟩
abbrev cX3_settle : ByteArray := prog_5_method_3_code
def yX3_settle : MethodName := ⟨RX3, "settle", "(II)V"⟩
abbrev cX3_climb : ByteArray := prog_5_method_4_code
def yX3_climb : MethodName := ⟨RX3, "climb", "(III)V"⟩
abbrev cX3_raised : ByteArray := prog_5_method_5_code
def yX3_raised : MethodName := ⟨RX3, "raised", "(II)I"⟩
abbrev cX3_valueOf : ByteArray := prog_5_method_6_code
def yX3_valueOf : MethodName := ⟨RX3, "valueOf", "(I)I"⟩
abbrev cX3_whoBelow : ByteArray := prog_5_method_7_code
def yX3_whoBelow : MethodName := ⟨RX3, "whoBelow", "(I)I"⟩
abbrev cX3_valuesBelow : ByteArray := prog_5_method_8_code
def yX3_valuesBelow : MethodName := ⟨RX3, "valuesBelow", "(I)I"⟩
abbrev cX3_lossOf : ByteArray := prog_5_method_9_code
def yX3_lossOf : MethodName := ⟨RX3, "lossOf", "(I)I"⟩
def RX4 : String := "TwoFit$Gossip"
def TX4 : u_T := fun k => match k with
  | 0 => ("TwoFit$Gossip", "isTold", "Z", false)
  | 1 => ("TwoFit$Gossip", "ofBook", "I", false)
  | 2 => ("TwoFit$Gossip", "holds", "I", false)
  | 3 => ("TwoFit$Gossip", "fault", "I", false)
  | 4 => ("TwoFit$Gossip", "faultAt", "I", false)
  | 5 => ("TwoFit$Gossip", "ofLine", "I", false)
  | 6 => ("TwoFit$Gossip", "letters", "[I", true)
  | 7 => ("TwoFit$Gossip", "text", "[I", true)
  | 8 => ("TwoFit$Gossip", "length", "I", false)
  | 9 => ("TwoFit$Gossip", "at", "I", false)
  | _ => ("TwoFit$Gossip", "refused", "Z", false)
def tyX4 : Nat → FieldType := fun k => match k with
  | 0 => .boolean
  | 1 => .int
  | 2 => .int
  | 3 => .int
  | 4 => .int
  | 5 => .int
  | 6 => .array .int
  | 7 => .array .int
  | 8 => .int
  | 9 => .int
  | _ => .boolean
abbrev wsX40 : List Cond := u_ws RX4 TX4 11
theorem nmX4 : ∀ a, a < 11 → ∀ b, b < 11 → a ≠ b → (TX4 a).2.1 ≠ (TX4 b).2.1 := by decide +kernel
theorem tyX4_ok : ∀ k, k < 11 → parseFieldDescriptor (TX4 k).2.2.1 = some (tyX4 k) := by decide +kernel
abbrev cX4_init : ByteArray := prog_6_method_1_code
def yX4_init : MethodName := ⟨RX4, "<init>", "()V"⟩
abbrev cX4_write : ByteArray := prog_6_method_2_code
def yX4_write : MethodName := ⟨RX4, "write", "(LTwoFit$Tape;I)V"⟩
abbrev cX4_read : ByteArray := prog_6_method_3_code
def yX4_read : MethodName := ⟨RX4, "read", "()V"⟩
abbrev cX4_tellOf : ByteArray := prog_6_method_4_code
def yX4_tellOf : MethodName := ⟨RX4, "tellOf", "(II)V"⟩
abbrev cX4_isOf : ByteArray := prog_6_method_5_code
def yX4_isOf : MethodName := ⟨RX4, "isOf", "(II)Z"⟩
abbrev cX4_judge : ByteArray := prog_6_method_6_code
def yX4_judge : MethodName := ⟨RX4, "judge", "([I)V"⟩
abbrev cX4_start : ByteArray := prog_6_method_7_code
def yX4_start : MethodName := ⟨RX4, "start", "()V"⟩
abbrev cX4_next : ByteArray := prog_6_method_8_code
def yX4_next : MethodName := ⟨RX4, "next", "()I"⟩
abbrev cX4_fail : ByteArray := prog_6_method_9_code
def yX4_fail : MethodName := ⟨RX4, "fail", "(I)V"⟩
abbrev cX4_expect : ByteArray := prog_6_method_10_code
def yX4_expect : MethodName := ⟨RX4, "expect", "(I)V"⟩
abbrev cX4_opens : ByteArray := prog_6_method_11_code
def yX4_opens : MethodName := ⟨RX4, "opens", "(I)Z"⟩
abbrev cX4_anyOf : ByteArray := prog_6_method_12_code
def yX4_anyOf : MethodName := ⟨RX4, "anyOf", "(IZ)Z"⟩
abbrev cX4_allOf : ByteArray := prog_6_method_13_code
def yX4_allOf : MethodName := ⟨RX4, "allOf", "(IZ)Z"⟩
abbrev cX4_piece : ByteArray := prog_6_method_14_code
def yX4_piece : MethodName := ⟨RX4, "piece", "(IZ)Z"⟩
abbrev cX4_sum : ByteArray := prog_6_method_15_code
def yX4_sum : MethodName := ⟨RX4, "sum", "(IZ)I"⟩
abbrev cX4_product : ByteArray := prog_6_method_16_code
def yX4_product : MethodName := ⟨RX4, "product", "(IZ)I"⟩
abbrev cX4_factor : ByteArray := prog_6_method_17_code
def yX4_factor : MethodName := ⟨RX4, "factor", "(IZ)I"⟩
abbrev cX4_numeral : ByteArray := prog_6_method_18_code
def yX4_numeral : MethodName := ⟨RX4, "numeral", "()I"⟩
abbrev cX4_isDigit : ByteArray := prog_6_method_19_code
def yX4_isDigit : MethodName := ⟨RX4, "isDigit", "(I)Z"⟩
abbrev cX4_letterOf : ByteArray := prog_6_method_20_code
def yX4_letterOf : MethodName := ⟨RX4, "letterOf", "(I)I"⟩
def RX5 : String := "TwoFit$Links"
def TX5 : u_T := fun k => match k with
  | 0 => ("TwoFit$Links", "number", "I", false)
  | 1 => ("TwoFit$Links", "from", "[I", true)
  | _ => ("TwoFit$Links", "to", "[I", true)
def tyX5 : Nat → FieldType := fun k => match k with
  | 0 => .int
  | 1 => .array .int
  | _ => .array .int
abbrev wsX50 : List Cond := u_ws RX5 TX5 3
theorem nmX5 : ∀ a, a < 3 → ∀ b, b < 3 → a ≠ b → (TX5 a).2.1 ≠ (TX5 b).2.1 := by decide +kernel
theorem tyX5_ok : ∀ k, k < 3 → parseFieldDescriptor (TX5 k).2.2.1 = some (tyX5 k) := by decide +kernel
abbrev cX5_init : ByteArray := prog_7_method_1_code
def yX5_init : MethodName := ⟨RX5, "<init>", "()V"⟩
abbrev cX5_add : ByteArray := prog_7_method_2_code
def yX5_add : MethodName := ⟨RX5, "add", "(II)V"⟩
abbrev cX5_reached : ByteArray := prog_7_method_3_code
def yX5_reached : MethodName := ⟨RX5, "reached", "(II)I"⟩
def RX6 : String := "TwoFit$Matching"
def TX6 : u_T := fun k => match k with
  | 0 => ("TwoFit$Matching", "lines", "I", false)
  | 1 => ("TwoFit$Matching", "live", "I", false)
  | 2 => ("TwoFit$Matching", "lacking", "I", false)
  | 3 => ("TwoFit$Matching", "found", "I", false)
  | 4 => ("TwoFit$Matching", "laid", "[I", true)
  | 5 => ("TwoFit$Matching", "fit", "[I", true)
  | 6 => ("TwoFit$Matching", "may", "[I", true)
  | 7 => ("TwoFit$Matching", "joint", "[I", true)
  | 8 => ("TwoFit$Matching", "ways", "[J", true)
  | _ => ("TwoFit$Matching", "left", "[I", true)
def tyX6 : Nat → FieldType := fun k => match k with
  | 0 => .int
  | 1 => .int
  | 2 => .int
  | 3 => .int
  | 4 => .array .int
  | 5 => .array .int
  | 6 => .array .int
  | 7 => .array .int
  | 8 => .array .long
  | _ => .array .int
abbrev wsX60 : List Cond := u_ws RX6 TX6 10
theorem nmX6 : ∀ a, a < 10 → ∀ b, b < 10 → a ≠ b → (TX6 a).2.1 ≠ (TX6 b).2.1 := by decide +kernel
theorem tyX6_ok : ∀ k, k < 10 → parseFieldDescriptor (TX6 k).2.2.1 = some (tyX6 k) := by decide +kernel
abbrev cX6_init : ByteArray := prog_8_method_1_code
def yX6_init : MethodName := ⟨RX6, "<init>", "()V"⟩
abbrev cX6_weigh : ByteArray := prog_8_method_2_code
def yX6_weigh : MethodName := ⟨RX6, "weigh", "()V"⟩
abbrev cX6_weighSet : ByteArray := prog_8_method_3_code
def yX6_weighSet : MethodName := ⟨RX6, "weighSet", "(I)V"⟩
abbrev cX6_number : ByteArray := prog_8_method_4_code
def yX6_number : MethodName := ⟨RX6, "number", "()J"⟩
abbrev cX6_giveTo : ByteArray := prog_8_method_5_code
def yX6_giveTo : MethodName := ⟨RX6, "giveTo", "(II)V"⟩
abbrev cX6_least : ByteArray := prog_8_method_6_code
def yX6_least : MethodName := ⟨RX6, "least", "(I)I"⟩
abbrev cX6_stepByStep : ByteArray := prog_8_method_7_code
def yX6_stepByStep : MethodName := ⟨RX6, "stepByStep", "()I"⟩
abbrev cX6_findSome : ByteArray := prog_8_method_8_code
def yX6_findSome : MethodName := ⟨RX6, "findSome", "()Z"⟩
abbrev cX6_left : ByteArray := prog_8_method_9_code
def yX6_left : MethodName := ⟨RX6, "left", "(I)I"⟩
def RX7 : String := "TwoFit$Tape"
def TX7 : u_T := fun k => match k with
  | 0 => ("TwoFit$Tape", "length", "I", false)
  | _ => ("TwoFit$Tape", "bytes", "[I", true)
def tyX7 : Nat → FieldType := fun k => match k with
  | 0 => .int
  | _ => .array .int
abbrev wsX70 : List Cond := u_ws RX7 TX7 2
theorem nmX7 : ∀ a, a < 2 → ∀ b, b < 2 → a ≠ b → (TX7 a).2.1 ≠ (TX7 b).2.1 := by decide +kernel
theorem tyX7_ok : ∀ k, k < 2 → parseFieldDescriptor (TX7 k).2.2.1 = some (tyX7 k) := by decide +kernel
abbrev cX7_init : ByteArray := prog_9_method_1_code
def yX7_init : MethodName := ⟨RX7, "<init>", "()V"⟩
abbrev cX7_append : ByteArray := prog_9_method_2_code
def yX7_append : MethodName := ⟨RX7, "append", "(I)V"⟩
abbrev cX7_byteAt : ByteArray := prog_9_method_3_code
def yX7_byteAt : MethodName := ⟨RX7, "byteAt", "(I)I"⟩
abbrev cX7_number : ByteArray := prog_9_method_4_code
def yX7_number : MethodName := ⟨RX7, "number", "(I)I"⟩
abbrev cX7_clear : ByteArray := prog_9_method_5_code
def yX7_clear : MethodName := ⟨RX7, "clear", "()V"⟩
def RX8 : String := "TwoFit"
def TX8 : u_T := fun k => match k with
  | 0 => ("TwoFit", "columns", "[LTwoFit$Column;", true)
  | 1 => ("TwoFit", "wishes", "[I", true)
  | 2 => ("TwoFit", "tape", "LTwoFit$Tape;", true)
  | 3 => ("TwoFit", "books", "[LTwoFit$Book;", true)
  | 4 => ("TwoFit", "links", "LTwoFit$Links;", true)
  | 5 => ("TwoFit", "gossips", "[LTwoFit$Gossip;", true)
  | 6 => ("TwoFit", "matching", "LTwoFit$Matching;", true)
  | 7 => ("TwoFit", "asking", "LTwoFit$Asking;", true)
  | 8 => ("TwoFit", "blurs", "LTwoFit$Blurs;", true)
  | 9 => ("TwoFit", "letters", "[I", true)
  | 10 => ("TwoFit", "draft", "LTwoFit$Gossip;", false)
  | 11 => ("TwoFit", "people", "I", false)
  | _ => ("TwoFit", "bookCount", "I", false)
def tyX8 : Nat → FieldType := fun k => match k with
  | 0 => .array (.object "TwoFit$Column")
  | 1 => .array .int
  | 2 => .object "TwoFit$Tape"
  | 3 => .array (.object "TwoFit$Book")
  | 4 => .object "TwoFit$Links"
  | 5 => .array (.object "TwoFit$Gossip")
  | 6 => .object "TwoFit$Matching"
  | 7 => .object "TwoFit$Asking"
  | 8 => .object "TwoFit$Blurs"
  | 9 => .array .int
  | 10 => .object "TwoFit$Gossip"
  | 11 => .int
  | _ => .int
abbrev wsX80 : List Cond := u_ws RX8 TX8 13
theorem nmX8 : ∀ a, a < 13 → ∀ b, b < 13 → a ≠ b → (TX8 a).2.1 ≠ (TX8 b).2.1 := by decide +kernel
theorem tyX8_ok : ∀ k, k < 13 → parseFieldDescriptor (TX8 k).2.2.1 = some (tyX8 k) := by decide +kernel
abbrev cX8_init : ByteArray := prog_1_method_1_code
def yX8_init : MethodName := ⟨RX8, "<init>", "()V"⟩
abbrev cX8_upper : ByteArray := prog_1_method_2_code
def yX8_upper : MethodName := ⟨RX8, "upper", "(III)Z"⟩
abbrev cX8_weight : ByteArray := prog_1_method_3_code
def yX8_weight : MethodName := ⟨RX8, "weight", "(II)Z"⟩
abbrev cX8_person : ByteArray := prog_1_method_4_code
def yX8_person : MethodName := ⟨RX8, "person", "(IIII)I"⟩
abbrev cX8_wish : ByteArray := prog_1_method_5_code
def yX8_wish : MethodName := ⟨RX8, "wish", "(II)Z"⟩
abbrev cX8_feed : ByteArray := prog_1_method_6_code
def yX8_feed : MethodName := ⟨RX8, "feed", "(IIIII)I"⟩
abbrev cX8_blurred : ByteArray := prog_1_method_7_code
def yX8_blurred : MethodName := ⟨RX8, "blurred", "(III)I"⟩
abbrev cX8_size : ByteArray := prog_1_method_8_code
def yX8_size : MethodName := ⟨RX8, "size", "(II)I"⟩
abbrev cX8_book : ByteArray := prog_1_method_9_code
def yX8_book : MethodName := ⟨RX8, "book", "(IIIII)I"⟩
abbrev cX8_cut : ByteArray := prog_1_method_10_code
def yX8_cut : MethodName := ⟨RX8, "cut", "(II)Z"⟩
abbrev cX8_swap : ByteArray := prog_1_method_11_code
def yX8_swap : MethodName := ⟨RX8, "swap", "(IIII)Z"⟩
abbrev cX8_show : ByteArray := prog_1_method_12_code
def yX8_show : MethodName := ⟨RX8, "show", "(IZ)Z"⟩
abbrev cX8_link : ByteArray := prog_1_method_13_code
def yX8_link : MethodName := ⟨RX8, "link", "(IIII)I"⟩
abbrev cX8_gossip : ByteArray := prog_1_method_14_code
def yX8_gossip : MethodName := ⟨RX8, "gossip", "(IIII)I"⟩
abbrev cX8_line : ByteArray := prog_1_method_15_code
def yX8_line : MethodName := ⟨RX8, "line", "(III)I"⟩
abbrev cX8_fits : ByteArray := prog_1_method_16_code
def yX8_fits : MethodName := ⟨RX8, "fits", "(III)I"⟩
abbrev cX8_givings : ByteArray := prog_1_method_17_code
def yX8_givings : MethodName := ⟨RX8, "givings", "(II)J"⟩
abbrev cX8_odds : ByteArray := prog_1_method_18_code
def yX8_odds : MethodName := ⟨RX8, "odds", "(IIIII)J"⟩
abbrev cX8_mustBe : ByteArray := prog_1_method_19_code
def yX8_mustBe : MethodName := ⟨RX8, "mustBe", "(IIII)I"⟩
abbrev cX8_giving : ByteArray := prog_1_method_20_code
def yX8_giving : MethodName := ⟨RX8, "giving", "(III)I"⟩
abbrev cX8_tooFew : ByteArray := prog_1_method_21_code
def yX8_tooFew : MethodName := ⟨RX8, "tooFew", "(II)I"⟩
abbrev cX8_steps : ByteArray := prog_1_method_22_code
def yX8_steps : MethodName := ⟨RX8, "steps", "(III)I"⟩
abbrev cX8_safe : ByteArray := prog_1_method_23_code
def yX8_safe : MethodName := ⟨RX8, "safe", "(III)I"⟩
abbrev cX8_fewest : ByteArray := prog_1_method_24_code
def yX8_fewest : MethodName := ⟨RX8, "fewest", "(III)I"⟩
abbrev cX8_questions : ByteArray := prog_1_method_25_code
def yX8_questions : MethodName := ⟨RX8, "questions", "(IIII)I"⟩
abbrev cX8_blurring : ByteArray := prog_1_method_26_code
def yX8_blurring : MethodName := ⟨RX8, "blurring", "(IIII)I"⟩
abbrev cX8_bestSwap : ByteArray := prog_1_method_27_code
def yX8_bestSwap : MethodName := ⟨RX8, "bestSwap", "(III)I"⟩
abbrev cX8_together : ByteArray := prog_1_method_28_code
def yX8_together : MethodName := ⟨RX8, "together", "(II)I"⟩
abbrev cX8_loss : ByteArray := prog_1_method_29_code
def yX8_loss : MethodName := ⟨RX8, "loss", "(I)I"⟩
abbrev cX8_linesOf : ByteArray := prog_1_method_30_code
def yX8_linesOf : MethodName := ⟨RX8, "linesOf", "(III)I"⟩
abbrev cX8_check : ByteArray := prog_1_method_31_code
def yX8_check : MethodName := ⟨RX8, "check", "(III)I"⟩
abbrev cX8_count : ByteArray := prog_1_method_32_code
def yX8_count : MethodName := ⟨RX8, "count", "(I)I"⟩
abbrev cX8_within : ByteArray := prog_1_method_33_code
def yX8_within : MethodName := ⟨RX8, "within", "(III)Z"⟩
abbrev cX8_isColumn : ByteArray := prog_1_method_34_code
def yX8_isColumn : MethodName := ⟨RX8, "isColumn", "(I)Z"⟩
abbrev cX8_isValue : ByteArray := prog_1_method_35_code
def yX8_isValue : MethodName := ⟨RX8, "isValue", "(I)Z"⟩
abbrev cX8_isLevel : ByteArray := prog_1_method_36_code
def yX8_isLevel : MethodName := ⟨RX8, "isLevel", "(I)Z"⟩
abbrev cX8_isBar : ByteArray := prog_1_method_37_code
def yX8_isBar : MethodName := ⟨RX8, "isBar", "(I)Z"⟩
abbrev cX8_areGossips : ByteArray := prog_1_method_38_code
def yX8_areGossips : MethodName := ⟨RX8, "areGossips", "(I)Z"⟩
abbrev cX8_isPerson : ByteArray := prog_1_method_39_code
def yX8_isPerson : MethodName := ⟨RX8, "isPerson", "(I)Z"⟩
abbrev cX8_isBook : ByteArray := prog_1_method_40_code
def yX8_isBook : MethodName := ⟨RX8, "isBook", "(I)Z"⟩
abbrev cX8_isLine : ByteArray := prog_1_method_41_code
def yX8_isLine : MethodName := ⟨RX8, "isLine", "(II)Z"⟩
abbrev cX8_isLive : ByteArray := prog_1_method_42_code
def yX8_isLive : MethodName := ⟨RX8, "isLive", "(II)Z"⟩
abbrev cX8_shownBooks : ByteArray := prog_1_method_43_code
def yX8_shownBooks : MethodName := ⟨RX8, "shownBooks", "()I"⟩
abbrev cX8_toldGossips : ByteArray := prog_1_method_44_code
def yX8_toldGossips : MethodName := ⟨RX8, "toldGossips", "()I"⟩
abbrev cX8_place : ByteArray := prog_1_method_45_code
def yX8_place : MethodName := ⟨RX8, "place", "(II)I"⟩
abbrev cX8_lowest : ByteArray := prog_1_method_46_code
def yX8_lowest : MethodName := ⟨RX8, "lowest", "(I)I"⟩
abbrev cX8_commonDivisor : ByteArray := prog_1_method_47_code
def yX8_commonDivisor : MethodName := ⟨RX8, "commonDivisor", "(JJ)J"⟩
abbrev cX8_tellsPeople : ByteArray := prog_1_method_48_code
def yX8_tellsPeople : MethodName := ⟨RX8, "tellsPeople", "(I)Z"⟩
abbrev cX8_fillColumn : ByteArray := prog_1_method_49_code
def yX8_fillColumn : MethodName := ⟨RX8, "fillColumn", "(LTwoFit$Book;II)V"⟩
abbrev cX8_judgeAll : ByteArray := prog_1_method_50_code
def yX8_judgeAll : MethodName := ⟨RX8, "judgeAll", "(I)V"⟩
abbrev cX8_spell : ByteArray := prog_1_method_51_code
def yX8_spell : MethodName := ⟨RX8, "spell", "(I)V"⟩
abbrev cX8_openFor : ByteArray := prog_1_method_52_code
def yX8_openFor : MethodName := ⟨RX8, "openFor", "(I)I"⟩
abbrev cX8_layOut : ByteArray := prog_1_method_53_code
def yX8_layOut : MethodName := ⟨RX8, "layOut", "(II)V"⟩
abbrev cX8_fitLaid : ByteArray := prog_1_method_54_code
def yX8_fitLaid : MethodName := ⟨RX8, "fitLaid", "(II)V"⟩
abbrev cX8_fit : ByteArray := prog_1_method_55_code
def yX8_fit : MethodName := ⟨RX8, "fit", "(II)V"⟩
abbrev cX8_fitAll : ByteArray := prog_1_method_56_code
def yX8_fitAll : MethodName := ⟨RX8, "fitAll", "(II)I"⟩
abbrev cX8_fitAlone : ByteArray := prog_1_method_57_code
def yX8_fitAlone : MethodName := ⟨RX8, "fitAlone", "(III)I"⟩
abbrev cX8_safeLines : ByteArray := prog_1_method_58_code
def yX8_safeLines : MethodName := ⟨RX8, "safeLines", "(II)I"⟩
abbrev cX8_safeIfSwapped : ByteArray := prog_1_method_59_code
def yX8_safeIfSwapped : MethodName := ⟨RX8, "safeIfSwapped", "(IIIII)I"⟩
abbrev cX8_firstBared : ByteArray := prog_1_method_60_code
def yX8_firstBared : MethodName := ⟨RX8, "firstBared", "(II)I"⟩
abbrev cX8_lossOfLine : ByteArray := prog_1_method_61_code
def yX8_lossOfLine : MethodName := ⟨RX8, "lossOfLine", "(LTwoFit$Book;I)I"⟩
abbrev cX8_fewestGossips : ByteArray := prog_1_method_62_code
def yX8_fewestGossips : MethodName := ⟨RX8, "fewestGossips", "(II)I"⟩
abbrev cX8_mayLaid : ByteArray := prog_1_method_63_code
def yX8_mayLaid : MethodName := ⟨RX8, "mayLaid", "(III)I"⟩
abbrev cX8_someAlike : ByteArray := prog_1_method_64_code
def yX8_someAlike : MethodName := ⟨RX8, "someAlike", "(I)Z"⟩
abbrev cX8_firstQuestion : ByteArray := prog_1_method_65_code
def yX8_firstQuestion : MethodName := ⟨RX8, "firstQuestion", "(III)I"⟩
abbrev cX8_prepareBlurs : ByteArray := prog_1_method_66_code
def yX8_prepareBlurs : MethodName := ⟨RX8, "prepareBlurs", "(I)V"⟩
abbrev cX8_prepareBlursOf : ByteArray := prog_1_method_67_code
def yX8_prepareBlursOf : MethodName := ⟨RX8, "prepareBlursOf", "(III)V"⟩
def RX9 : String := "TwoFitModel"
def TX9 : u_T := fun k => match k with
  | 0 => ("TwoFitModel", "people", "I", false)
  | 1 => ("TwoFitModel", "upperOf", "[I", true)
  | 2 => ("TwoFitModel", "weightOf", "[I", true)
  | 3 => ("TwoFitModel", "valueOf", "[I", true)
  | 4 => ("TwoFitModel", "wishOf", "[I", true)
  | 5 => ("TwoFitModel", "books", "I", false)
  | 6 => ("TwoFitModel", "links", "I", false)
  | 7 => ("TwoFitModel", "gossips", "I", false)
  | 8 => ("TwoFitModel", "shownSet", "I", false)
  | 9 => ("TwoFitModel", "lineMany", "[I", true)
  | 10 => ("TwoFitModel", "ownerOf", "[I", true)
  | 11 => ("TwoFitModel", "showsOf", "[I", true)
  | 12 => ("TwoFitModel", "linkA", "[I", true)
  | 13 => ("TwoFitModel", "linkB", "[I", true)
  | 14 => ("TwoFitModel", "isCut", "[Z", true)
  | 15 => ("TwoFitModel", "tape", "[B", true)
  | 16 => ("TwoFitModel", "taped", "I", false)
  | 17 => ("TwoFitModel", "place0", "I", false)
  | 18 => ("TwoFitModel", "length0", "I", false)
  | 19 => ("TwoFitModel", "fault", "I", false)
  | 20 => ("TwoFitModel", "open", "I", false)
  | 21 => ("TwoFitModel", "codeMany", "I", false)
  | 22 => ("TwoFitModel", "waiting", "I", false)
  | 23 => ("TwoFitModel", "number0", "I", false)
  | 24 => ("TwoFitModel", "said", "[I", true)
  | 25 => ("TwoFitModel", "waits", "[I", true)
  | 26 => ("TwoFitModel", "codes", "[I", true)
  | 27 => ("TwoFitModel", "codeTo", "[I", true)
  | 28 => ("TwoFitModel", "gossipOf", "[I", true)
  | 29 => ("TwoFitModel", "stack", "[I", true)
  | 30 => ("TwoFitModel", "facts", "[I", true)
  | 31 => ("TwoFitModel", "isReached", "[Z", true)
  | 32 => ("TwoFitModel", "fitting", "[I", true)
  | 33 => ("TwoFitModel", "ways", "[J", true)
  | 34 => ("TwoFitModel", "ones", "[I", true)
  | 35 => ("TwoFitModel", "hasOf", "[I", true)
  | 36 => ("TwoFitModel", "givenTo", "[I", true)
  | 37 => ("TwoFitModel", "askedBy", "[I", true)
  | 38 => ("TwoFitModel", "waitingLine", "[I", true)
  | 39 => ("TwoFitModel", "before", "[I", true)
  | 40 => ("TwoFitModel", "must0", "I", false)
  | 41 => ("TwoFitModel", "suspects", "I", false)
  | 42 => ("TwoFitModel", "suspect", "[I", true)
  | 43 => ("TwoFitModel", "parts", "[I", true)
  | 44 => ("TwoFitModel", "enough", "[I", true)
  | 45 => ("TwoFitModel", "blurShows", "[I", true)
  | _ => ("TwoFitModel", "cuts0", "I", false)
def tyX9 : Nat → FieldType := fun k => match k with
  | 0 => .int
  | 1 => .array .int
  | 2 => .array .int
  | 3 => .array .int
  | 4 => .array .int
  | 5 => .int
  | 6 => .int
  | 7 => .int
  | 8 => .int
  | 9 => .array .int
  | 10 => .array .int
  | 11 => .array .int
  | 12 => .array .int
  | 13 => .array .int
  | 14 => .array .boolean
  | 15 => .array .byte
  | 16 => .int
  | 17 => .int
  | 18 => .int
  | 19 => .int
  | 20 => .int
  | 21 => .int
  | 22 => .int
  | 23 => .int
  | 24 => .array .int
  | 25 => .array .int
  | 26 => .array .int
  | 27 => .array .int
  | 28 => .array .int
  | 29 => .array .int
  | 30 => .array .int
  | 31 => .array .boolean
  | 32 => .array .int
  | 33 => .array .long
  | 34 => .array .int
  | 35 => .array .int
  | 36 => .array .int
  | 37 => .array .int
  | 38 => .array .int
  | 39 => .array .int
  | 40 => .int
  | 41 => .int
  | 42 => .array .int
  | 43 => .array .int
  | 44 => .array .int
  | 45 => .array .int
  | _ => .int
abbrev wsX90 : List Cond := u_ws RX9 TX9 47
theorem nmX9 : ∀ a, a < 47 → ∀ b, b < 47 → a ≠ b → (TX9 a).2.1 ≠ (TX9 b).2.1 := by decide +kernel
theorem tyX9_ok : ∀ k, k < 47 → parseFieldDescriptor (TX9 k).2.2.1 = some (tyX9 k) := by decide +kernel
abbrev cX9_init : ByteArray := prog_11_method_1_code
def yX9_init : MethodName := ⟨RX9, "<init>", "()V"⟩
abbrev cX9_in : ByteArray := prog_11_method_2_code
def yX9_in : MethodName := ⟨RX9, "in", "(III)Z"⟩
abbrev cX9_bits : ByteArray := prog_11_method_3_code
def yX9_bits : MethodName := ⟨RX9, "bits", "(I)I"⟩
abbrev cX9_isColumn : ByteArray := prog_11_method_4_code
def yX9_isColumn : MethodName := ⟨RX9, "isColumn", "(I)Z"⟩
abbrev cX9_isPerson : ByteArray := prog_11_method_5_code
def yX9_isPerson : MethodName := ⟨RX9, "isPerson", "(I)Z"⟩
abbrev cX9_upper : ByteArray := prog_11_method_6_code
def yX9_upper : MethodName := ⟨RX9, "upper", "(III)Z"⟩
abbrev cX9_weight : ByteArray := prog_11_method_7_code
def yX9_weight : MethodName := ⟨RX9, "weight", "(II)Z"⟩
abbrev cX9_person : ByteArray := prog_11_method_8_code
def yX9_person : MethodName := ⟨RX9, "person", "(IIII)I"⟩
abbrev cX9_wish : ByteArray := prog_11_method_9_code
def yX9_wish : MethodName := ⟨RX9, "wish", "(II)Z"⟩
abbrev cX9_blurs : ByteArray := prog_11_method_10_code
def yX9_blurs : MethodName := ⟨RX9, "blurs", "(III)I"⟩
abbrev cX9_blurred : ByteArray := prog_11_method_11_code
def yX9_blurred : MethodName := ⟨RX9, "blurred", "(III)I"⟩
abbrev cX9_isBelow : ByteArray := prog_11_method_12_code
def yX9_isBelow : MethodName := ⟨RX9, "isBelow", "(III)Z"⟩
abbrev cX9_sizeOf : ByteArray := prog_11_method_13_code
def yX9_sizeOf : MethodName := ⟨RX9, "sizeOf", "(II)I"⟩
abbrev cX9_size : ByteArray := prog_11_method_14_code
def yX9_size : MethodName := ⟨RX9, "size", "(II)I"⟩
abbrev cX9_isBook : ByteArray := prog_11_method_15_code
def yX9_isBook : MethodName := ⟨RX9, "isBook", "(I)Z"⟩
abbrev cX9_isLine : ByteArray := prog_11_method_16_code
def yX9_isLine : MethodName := ⟨RX9, "isLine", "(II)Z"⟩
abbrev cX9_at : ByteArray := prog_11_method_17_code
def yX9_at : MethodName := ⟨RX9, "at", "(II)I"⟩
abbrev cX9_isThere : ByteArray := prog_11_method_18_code
def yX9_isThere : MethodName := ⟨RX9, "isThere", "(II)Z"⟩
abbrev cX9_isLevel : ByteArray := prog_11_method_19_code
def yX9_isLevel : MethodName := ⟨RX9, "isLevel", "(I)Z"⟩
abbrev cX9_areTold : ByteArray := prog_11_method_20_code
def yX9_areTold : MethodName := ⟨RX9, "areTold", "(I)Z"⟩
abbrev cX9_book : ByteArray := prog_11_method_21_code
def yX9_book : MethodName := ⟨RX9, "book", "(IIIII)I"⟩
abbrev cX9_cut : ByteArray := prog_11_method_22_code
def yX9_cut : MethodName := ⟨RX9, "cut", "(II)Z"⟩
abbrev cX9_swaps : ByteArray := prog_11_method_23_code
def yX9_swaps : MethodName := ⟨RX9, "swaps", "(IIII)V"⟩
abbrev cX9_canSwap : ByteArray := prog_11_method_24_code
def yX9_canSwap : MethodName := ⟨RX9, "canSwap", "(IIII)Z"⟩
abbrev cX9_swap : ByteArray := prog_11_method_25_code
def yX9_swap : MethodName := ⟨RX9, "swap", "(IIII)Z"⟩
abbrev cX9_show : ByteArray := prog_11_method_26_code
def yX9_show : MethodName := ⟨RX9, "show", "(IZ)Z"⟩
abbrev cX9_link : ByteArray := prog_11_method_27_code
def yX9_link : MethodName := ⟨RX9, "link", "(IIII)I"⟩
abbrev cX9_types : ByteArray := prog_11_method_28_code
def yX9_types : MethodName := ⟨RX9, "types", "(I)V"⟩
abbrev cX9_feed : ByteArray := prog_11_method_29_code
def yX9_feed : MethodName := ⟨RX9, "feed", "(IIIII)I"⟩
abbrev cX9_here : ByteArray := prog_11_method_30_code
def yX9_here : MethodName := ⟨RX9, "here", "()I"⟩
abbrev cX9_isDigit : ByteArray := prog_11_method_31_code
def yX9_isDigit : MethodName := ⟨RX9, "isDigit", "()Z"⟩
abbrev cX9_wrongAt : ByteArray := prog_11_method_32_code
def yX9_wrongAt : MethodName := ⟨RX9, "wrongAt", "(II)Z"⟩
abbrev cX9_readsNumber : ByteArray := prog_11_method_34_code
def yX9_readsNumber : MethodName := ⟨RX9, "readsNumber", "()Z"⟩
abbrev cX9_notes : ByteArray := prog_11_method_35_code
def yX9_notes : MethodName := ⟨RX9, "notes", "(II)V"⟩
abbrev cX9_opens : ByteArray := prog_11_method_36_code
def yX9_opens : MethodName := ⟨RX9, "opens", "(I)Z"⟩
abbrev cX9_top : ByteArray := prog_11_method_37_code
def yX9_top : MethodName := ⟨RX9, "top", "()I"⟩
abbrev cX9_factOf : ByteArray := prog_11_method_38_code
def yX9_factOf : MethodName := ⟨RX9, "factOf", "(I)I"⟩
abbrev cX9_sumSign : ByteArray := prog_11_method_39_code
def yX9_sumSign : MethodName := ⟨RX9, "sumSign", "(I)I"⟩
abbrev cX9_closesSums : ByteArray := prog_11_method_40_code
def yX9_closesSums : MethodName := ⟨RX9, "closesSums", "(Z)V"⟩
abbrev cX9_readsFactor : ByteArray := prog_11_method_41_code
def yX9_readsFactor : MethodName := ⟨RX9, "readsFactor", "()Z"⟩
abbrev cX9_hasOpenSum : ByteArray := prog_11_method_42_code
def yX9_hasOpenSum : MethodName := ⟨RX9, "hasOpenSum", "(I)Z"⟩
abbrev cX9_readsSum : ByteArray := prog_11_method_43_code
def yX9_readsSum : MethodName := ⟨RX9, "readsSum", "()Z"⟩
abbrev cX9_endsPiece : ByteArray := prog_11_method_44_code
def yX9_endsPiece : MethodName := ⟨RX9, "endsPiece", "()V"⟩
abbrev cX9_lands : ByteArray := prog_11_method_45_code
def yX9_lands : MethodName := ⟨RX9, "lands", "(Z)V"⟩
abbrev cX9_jumps : ByteArray := prog_11_method_46_code
def yX9_jumps : MethodName := ⟨RX9, "jumps", "(I)V"⟩
abbrev cX9_readsCompared : ByteArray := prog_11_method_47_code
def yX9_readsCompared : MethodName := ⟨RX9, "readsCompared", "()Z"⟩
abbrev cX9_closes : ByteArray := prog_11_method_48_code
def yX9_closes : MethodName := ⟨RX9, "closes", "()Z"⟩
abbrev cX9_readsWhole : ByteArray := prog_11_method_49_code
def yX9_readsWhole : MethodName := ⟨RX9, "readsWhole", "()Z"⟩
abbrev cX9_gossip : ByteArray := prog_11_method_50_code
def yX9_gossip : MethodName := ⟨RX9, "gossip", "(IIII)I"⟩
abbrev cX9_reckon : ByteArray := prog_11_method_51_code
def yX9_reckon : MethodName := ⟨RX9, "reckon", "(III)I"⟩
abbrev cX9_comesTo : ByteArray := prog_11_method_52_code
def yX9_comesTo : MethodName := ⟨RX9, "comesTo", "(II)I"⟩
abbrev cX9_isSaidOf : ByteArray := prog_11_method_53_code
def yX9_isSaidOf : MethodName := ⟨RX9, "isSaidOf", "(III)Z"⟩
abbrev cX9_isAlone : ByteArray := prog_11_method_54_code
def yX9_isAlone : MethodName := ⟨RX9, "isAlone", "(II)Z"⟩
abbrev cX9_fitsAlone : ByteArray := prog_11_method_55_code
def yX9_fitsAlone : MethodName := ⟨RX9, "fitsAlone", "(II)I"⟩
abbrev cX9_mayLead : ByteArray := prog_11_method_56_code
def yX9_mayLead : MethodName := ⟨RX9, "mayLead", "(II)Z"⟩
abbrev cX9_fitsOf : ByteArray := prog_11_method_57_code
def yX9_fitsOf : MethodName := ⟨RX9, "fitsOf", "(II)I"⟩
abbrev cX9_isKnown : ByteArray := prog_11_method_58_code
def yX9_isKnown : MethodName := ⟨RX9, "isKnown", "(I)Z"⟩
abbrev cX9_line : ByteArray := prog_11_method_59_code
def yX9_line : MethodName := ⟨RX9, "line", "(III)I"⟩
abbrev cX9_fits : ByteArray := prog_11_method_60_code
def yX9_fits : MethodName := ⟨RX9, "fits", "(III)I"⟩
abbrev cX9_laysFitting : ByteArray := prog_11_method_61_code
def yX9_laysFitting : MethodName := ⟨RX9, "laysFitting", "(II)V"⟩
abbrev cX9_counts : ByteArray := prog_11_method_62_code
def yX9_counts : MethodName := ⟨RX9, "counts", "(III)J"⟩
abbrev cX9_spreads : ByteArray := prog_11_method_63_code
def yX9_spreads : MethodName := ⟨RX9, "spreads", "(II)V"⟩
abbrev cX9_findsOne : ByteArray := prog_11_method_64_code
def yX9_findsOne : MethodName := ⟨RX9, "findsOne", "(II)Z"⟩
abbrev cX9_changesBack : ByteArray := prog_11_method_65_code
def yX9_changesBack : MethodName := ⟨RX9, "changesBack", "(II)V"⟩
abbrev cX9_canAll : ByteArray := prog_11_method_66_code
def yX9_canAll : MethodName := ⟨RX9, "canAll", "(III)Z"⟩
abbrev cX9_givings : ByteArray := prog_11_method_67_code
def yX9_givings : MethodName := ⟨RX9, "givings", "(II)J"⟩
abbrev cX9_gcd : ByteArray := prog_11_method_68_code
def yX9_gcd : MethodName := ⟨RX9, "gcd", "(JJ)J"⟩
abbrev cX9_isAsked : ByteArray := prog_11_method_69_code
def yX9_isAsked : MethodName := ⟨RX9, "isAsked", "(IIII)Z"⟩
abbrev cX9_odds : ByteArray := prog_11_method_70_code
def yX9_odds : MethodName := ⟨RX9, "odds", "(IIIII)J"⟩
abbrev cX9_mustBe : ByteArray := prog_11_method_71_code
def yX9_mustBe : MethodName := ⟨RX9, "mustBe", "(IIII)I"⟩
abbrev cX9_giving : ByteArray := prog_11_method_72_code
def yX9_giving : MethodName := ⟨RX9, "giving", "(III)I"⟩
abbrev cX9_tooFew : ByteArray := prog_11_method_73_code
def yX9_tooFew : MethodName := ⟨RX9, "tooFew", "(II)I"⟩
abbrev cX9_isFound : ByteArray := prog_11_method_74_code
def yX9_isFound : MethodName := ⟨RX9, "isFound", "(II)Z"⟩
abbrev cX9_foundNow : ByteArray := prog_11_method_75_code
def yX9_foundNow : MethodName := ⟨RX9, "foundNow", "(I)I"⟩
abbrev cX9_rounds : ByteArray := prog_11_method_76_code
def yX9_rounds : MethodName := ⟨RX9, "rounds", "(I)Z"⟩
abbrev cX9_steps : ByteArray := prog_11_method_77_code
def yX9_steps : MethodName := ⟨RX9, "steps", "(III)I"⟩
abbrev cX9_maybe : ByteArray := prog_11_method_78_code
def yX9_maybe : MethodName := ⟨RX9, "maybe", "(II)I"⟩
abbrev cX9_safeOf : ByteArray := prog_11_method_79_code
def yX9_safeOf : MethodName := ⟨RX9, "safeOf", "(III)I"⟩
abbrev cX9_isMany : ByteArray := prog_11_method_80_code
def yX9_isMany : MethodName := ⟨RX9, "isMany", "(I)Z"⟩
abbrev cX9_safe : ByteArray := prog_11_method_81_code
def yX9_safe : MethodName := ⟨RX9, "safe", "(III)I"⟩
abbrev cX9_linesOf : ByteArray := prog_11_method_82_code
def yX9_linesOf : MethodName := ⟨RX9, "linesOf", "(III)I"⟩
abbrev cX9_isSure : ByteArray := prog_11_method_83_code
def yX9_isSure : MethodName := ⟨RX9, "isSure", "(III)Z"⟩
abbrev cX9_fewest : ByteArray := prog_11_method_84_code
def yX9_fewest : MethodName := ⟨RX9, "fewest", "(III)I"⟩
abbrev cX9_areOfBook : ByteArray := prog_11_method_85_code
def yX9_areOfBook : MethodName := ⟨RX9, "areOfBook", "(II)Z"⟩
abbrev cX9_laysParts : ByteArray := prog_11_method_86_code
def yX9_laysParts : MethodName := ⟨RX9, "laysParts", "(I)V"⟩
abbrev cX9_enoughBy : ByteArray := prog_11_method_87_code
def yX9_enoughBy : MethodName := ⟨RX9, "enoughBy", "(II)I"⟩
abbrev cX9_laysEnough : ByteArray := prog_11_method_88_code
def yX9_laysEnough : MethodName := ⟨RX9, "laysEnough", "()V"⟩
abbrev cX9_questions : ByteArray := prog_11_method_89_code
def yX9_questions : MethodName := ⟨RX9, "questions", "(IIII)I"⟩
abbrev cX9_fitsBlurred : ByteArray := prog_11_method_90_code
def yX9_fitsBlurred : MethodName := ⟨RX9, "fitsBlurred", "()I"⟩
abbrev cX9_lossAt : ByteArray := prog_11_method_91_code
def yX9_lossAt : MethodName := ⟨RX9, "lossAt", "(II)I"⟩
abbrev cX9_lossBy : ByteArray := prog_11_method_92_code
def yX9_lossBy : MethodName := ⟨RX9, "lossBy", "(IIII)I"⟩
abbrev cX9_blurring : ByteArray := prog_11_method_93_code
def yX9_blurring : MethodName := ⟨RX9, "blurring", "(IIII)I"⟩
abbrev cX9_bestSwap : ByteArray := prog_11_method_94_code
def yX9_bestSwap : MethodName := ⟨RX9, "bestSwap", "(III)I"⟩
abbrev cX9_allLines : ByteArray := prog_11_method_95_code
def yX9_allLines : MethodName := ⟨RX9, "allLines", "(I)I"⟩
abbrev cX9_together : ByteArray := prog_11_method_96_code
def yX9_together : MethodName := ⟨RX9, "together", "(II)I"⟩
abbrev cX9_loss : ByteArray := prog_11_method_97_code
def yX9_loss : MethodName := ⟨RX9, "loss", "(I)I"⟩
abbrev cX9_tapeNumber : ByteArray := prog_11_method_98_code
def yX9_tapeNumber : MethodName := ⟨RX9, "tapeNumber", "(I)I"⟩
abbrev cX9_check : ByteArray := prog_11_method_99_code
def yX9_check : MethodName := ⟨RX9, "check", "(III)I"⟩
abbrev cX9_count : ByteArray := prog_11_method_100_code
def yX9_count : MethodName := ⟨RX9, "count", "(I)I"⟩
def RJ6 : String := "java/lang/Integer"
def TJ6 : u_T := fun k => match k with
  | _ => ("", "", "", false)
def tyJ6 : Nat → FieldType := fun k => match k with
  | _ => .int
abbrev wsJ60 : List Cond := u_ws RJ6 TJ6 0
theorem nmJ6 : ∀ a, a < 0 → ∀ b, b < 0 → a ≠ b → (TJ6 a).2.1 ≠ (TJ6 b).2.1 := by decide +kernel
theorem tyJ6_ok : ∀ k, k < 0 → parseFieldDescriptor (TJ6 k).2.2.1 = some (tyJ6 k) := by decide +kernel
abbrev cJ6_bitCount_0f7a4 : ByteArray := prog_12_method_49_code
def yJ6_bitCount_0f7a4 : MethodName := ⟨RJ6, "bitCount", "(I)I"⟩
def RJ9 : String := "java/lang/Math"
def TJ9 : u_T := fun k => match k with
  | _ => ("", "", "", false)
def tyJ9 : Nat → FieldType := fun k => match k with
  | _ => .int
abbrev wsJ90 : List Cond := u_ws RJ9 TJ9 0
theorem nmJ9 : ∀ a, a < 0 → ∀ b, b < 0 → a ≠ b → (TJ9 a).2.1 ≠ (TJ9 b).2.1 := by decide +kernel
theorem tyJ9_ok : ∀ k, k < 0 → parseFieldDescriptor (TJ9 k).2.2.1 = some (tyJ9 k) := by decide +kernel
abbrev cJ9_max_7cf53 : ByteArray := prog_13_method_65_code
def yJ9_max_7cf53 : MethodName := ⟨RJ9, "max", "(II)I"⟩
abbrev cJ9_min_7cf53 : ByteArray := prog_13_method_69_code
def yJ9_min_7cf53 : MethodName := ⟨RJ9, "min", "(II)I"⟩
def RL : String := "TwoFitLaw"
abbrev cL_law : ByteArray := code
def yL_law : MethodName := ⟨RL, "law", "([I)Z"⟩
abbrev vwCl : List vw_C := [(RX0, TX0, 5), (RX1, TX1, 7), (RX2, TX2, 5), (RX3, TX3, 6), (RX4, TX4, 11), (RX5, TX5, 3), (RX6, TX6, 10), (RX7, TX7, 2), (RX8, TX8, 13), (RX9, TX9, 47)]
end
section
/-! names of the array types, nest words; derived rows. g.1: the classes' numbers, g.2: the array classes' -/
abbrev zG : Type := va_G × (Nat → ClassId)
abbrev zT (g : zG) : List (ClassId × FieldType) := [(g.2 0, .int), (g.2 1, .long), (g.2 2, .byte), (g.2 3, .boolean), (g.2 4, .object "TwoFit$Column"), (g.2 5, .object "TwoFit$Book"), (g.2 6, .object "TwoFit$Gossip"), (g.2 7, .array .int)]
abbrev zP (g : zG) (ws : va_W) (H : Heap) : Prop := va_P g.1 vwCl ws H
abbrev zK (g : zG) (U : State) : Prop := va_K g.1 vwCl (zT g) U
def zNW : List (String × Nat × MethodName × String) := [("TwoFit", 21, yX7_init, "TwoFit"), ("TwoFit", 34, yX5_init, "TwoFit"), ("TwoFit", 47, yX6_init, "TwoFit"), ("TwoFit", 54, yX0_init, "TwoFit"), ("TwoFit", 61, yX1_init, "TwoFit"), ("TwoFit", 69, yX4_init, "TwoFit"), ("TwoFit", 82, yX2_init, "TwoFit"), ("TwoFit$Column", 31, yX8_within, "TwoFit"), ("TwoFit$Column", 39, yX8_isValue, "TwoFit"), ("TwoFit$Tape", 19, yX8_within, "TwoFit"), ("TwoFit$Book", 31, yX8_within, "TwoFit"), ("TwoFit$Book", 35, yX8_isColumn, "TwoFit"), ("TwoFit$Matching", 61, yX8_lowest, "TwoFit"), ("TwoFit$Matching", 68, yX8_within, "TwoFit"), ("TwoFit$Asking", 32, yX8_lowest, "TwoFit"), ("TwoFit$Asking", 64, yX8_within, "TwoFit"), ("TwoFit$Blurs", 36, yX8_isColumn, "TwoFit"), ("TwoFit$Blurs", 40, yX8_isLevel, "TwoFit"), ("TwoFit$Blurs", 43, yX8_within, "TwoFit")]
def zAOA (ty : FieldType) (U : State) : Prop := (Cond.arrayOver (.array ty)).before #[] U = true
theorem zAOA.use {ty : FieldType} {A : Array Value} {U : State} (h : zAOA ty U) : (Cond.arrayOver (.array ty)).before A U = true := h
theorem zAOA.of {ty : FieldType} {A : Array Value} {U : State} (h : (Cond.arrayOver (.array ty)).before A U = true) : zAOA ty U := h
theorem zAOA.moved {u U : State} (hvm : u.vm.Alike U.vm) {t : FieldType} (h : zAOA t u) : zAOA t U := by
  obtain ⟨comp, c, k, h1, h2, h3, h4, h5⟩ := Jvm.Stand.arrayOver_specB h
  obtain ⟨k', hk', he⟩ := hvm.2.2 _ _ h3
  have hi : (U.vm.classes.findIdx? fun (x : Class) => match x.kind with | .array component _ => component == comp | _ => false) = some c := by
    refine (va_idx_bare U.vm comp).symm.trans ?_
    first | rw [hvm.bare_eq] | rw [← hvm.bare_eq]
    exact (va_idx_bare u.vm comp).trans h2
  have hkind : k'.kind = .array comp (.array t) := by rw [he]; exact h4
  have f1 : U.vm.findClass (FieldType.array t).toString = some comp := by rw [hvm.findClass]; exact h1
  have f2 : U.vm.findClass ("[" ++ (FieldType.array t).toString) = some c := by rw [hvm.findClass]; exact h5
  unfold zAOA Cond.before Cond.holds
  simp only [Cond.value]
  rw [f1, Option.bind_some]
  refine (congrArg (fun o : Option Nat => (o.bind (fun c => (U.vm.classes[c]?).map fun (k : Class) => match k.kind with | .array _ ty => decide (ty = FieldType.array t) && decide (U.vm.findClass ("[" ++ (FieldType.array t).toString) = some c) | _ => false) == some true)) hi).trans ?_
  simp [hk', hkind, f2]
def zN (U : State) : Prop := (∀ q ∈ zNW, va_Nw (.methodLinkNest q.1 q.2.1 q.2.2.1 q.2.2.2) U) ∧ va_AO "TwoFit$Column" U ∧ va_AO "TwoFit$Book" U ∧ va_AO "TwoFit$Gossip" U ∧ zAOA .int U
theorem zN.warm {s U : State} (hW : s.WarmedH U.vm) (h : zN s) : zN U := ⟨fun q hq => va_Nw.warmM hW (h.1 q hq), h.2.1.moved hW.alike, h.2.2.1.moved hW.alike, h.2.2.2.1.moved hW.alike, h.2.2.2.2.moved hW.alike⟩
theorem zN.same {u U : State} (e : u.vm = U.vm) (h : zN u) : zN U := ⟨fun q hq => va_Nw.same rfl e (h.1 q hq), h.2.1.moved (e ▸ Vm.Alike.refl u.vm), h.2.2.1.moved (e ▸ Vm.Alike.refl u.vm), h.2.2.2.1.moved (e ▸ Vm.Alike.refl u.vm), h.2.2.2.2.moved (e ▸ Vm.Alike.refl u.vm)⟩
theorem zN.at {U : State} (h : zN U) (k : Nat) {q : String × Nat × MethodName × String} (hk : zNW[k]? = some q) : va_Nw (.methodLinkNest q.1 q.2.1 q.2.2.1 q.2.2.2) U := h.1 q (List.mem_of_getElem? hk)
/-- a method's start: it may write -/
def zA (g : zG) (ws : va_W) (sz : Nat) (U : State) : Prop := U.heap.size = sz ∧ zP g ws U.heap ∧ zK g U ∧ va_D (fun _ => True) ws ∧ zN U
/-- a method's start: it only reads -/
def zR (g : zG) (ws : va_W) (U : State) : Prop := zP g ws U.heap ∧ zK g U ∧ zN U
theorem zA.blind (g : zG) (ws : va_W) (sz : Nat) (av : List Value) : FrameBlind (va_Pc av (zA g ws sz)) := fun a U gg mk q => by
  obtain ⟨q0, q1, q2, q3, q4, q5⟩ := q
  exact ⟨q0, q1, q2, va_K.moved (u := U) (U := U.calling gg mk a) (Vm.Alike.refl U.vm) q3, q4, zN.same (u := U) (U := U.calling gg mk a) rfl q5⟩
theorem zR.blind (g : zG) (ws : va_W) (av : List Value) : FrameBlind (va_Pc av (zR g ws)) := fun a U gg mk q => by
  obtain ⟨q0, q2, q3, q5⟩ := q
  exact ⟨q0, q2, va_K.moved (u := U) (U := U.calling gg mk a) (Vm.Alike.refl U.vm) q3, zN.same (u := U) (U := U.calling gg mk a) rfl q5⟩
theorem zA.pre {g : zG} {ws : va_W} {s : State} {H : Heap} {A : Nat → Prop} (av : List Value) (hP : zP g ws H) (hK : zK g s) (hD : va_D A ws) (hN : zN s) : FrameBlind (va_Pc av (zA g ws H.size)) ∧ ∀ U : State, U.heap = H → s.WarmedH U.vm → va_Pc av (zA g ws H.size) av.toArray U :=
  ⟨zA.blind g ws H.size av, fun U hU hW => ⟨rfl, by rw [hU], by rw [hU]; exact hP, va_K.moved hW.alike hK, hD.weaken (fun _ _ _ _ => trivial), hN.warm hW⟩⟩
theorem zR.pre {g : zG} {ws : va_W} {s : State} {H : Heap} (av : List Value) (hP : zP g ws H) (hK : zK g s) (hN : zN s) : FrameBlind (va_Pc av (zR g ws)) ∧ ∀ U : State, U.heap = H → s.WarmedH U.vm → va_Pc av (zR g ws) av.toArray U :=
  ⟨zR.blind g ws av, fun U hU hW => ⟨rfl, by rw [hU]; exact hP, va_K.moved hW.alike hK, hN.warm hW⟩⟩
section ZC
variable {p : Program} {l : Launch} {e : Env} {R : Room} {s : State} {m : MethodId} {args : Array Value} {below : List Frame} {meth : Method} {c : Code} {H : Heap} {locs : List Loc} {cells slots : Nat} {Q : State → Prop}
variable {pc : Nat} {ls : Array Slot} {rest st0 : List Value} {a : Array Value}
/-- a call that only reads: an int, a long, nothing comes back -/
theorem zc_i {post : Int32 → Prop} (hr : va_Run p l e R s m args below meth c H locs cells slots 0 0 (F0 m pc ls st0) rest (vp_Si post a) (fun _ => False))
    (kk : ∀ r : Int32, post r → W p l e R s m args below meth c H locs cells slots Q (F0 m (pc + 3) ls (.int r :: rest))) : W p l e R s m args below meth c H locs cells slots Q (F0 m pc ls st0) := by
  intro T hT X
  obtain ⟨v, st₀, t, T', L, h0, X', hL, e1, -, ⟨r, hv, hp, hh⟩, st⟩ := hr T hT X
  cases hv
  obtain ⟨t2, a1, b1⟩ := kk r hp T' (by rw [e1, hh, h0]) (Stand.forget X' (fun q h => (hL q h).elim))
  exact ⟨t2, st t2 a1, b1⟩
theorem zc_l {post : Int64 → Prop} (hr : va_Run p l e R s m args below meth c H locs cells slots 0 0 (F0 m pc ls st0) rest (vp_Sl post a) (fun _ => False))
    (kk : ∀ r : Int64, post r → W p l e R s m args below meth c H locs cells slots Q (F0 m (pc + 3) ls (.long r :: rest))) : W p l e R s m args below meth c H locs cells slots Q (F0 m pc ls st0) := by
  intro T hT X
  obtain ⟨v, st₀, t, T', L, h0, X', hL, e1, -, ⟨r, hv, hp, hh⟩, st⟩ := hr T hT X
  cases hv
  obtain ⟨t2, a1, b1⟩ := kk r hp T' (by rw [e1, hh, h0]) (Stand.forget X' (fun q h => (hL q h).elim))
  exact ⟨t2, st t2 a1, b1⟩
end ZC
-- arrays of references by a list of what they hold
def zS (l : List (Option Nat)) : Nat → Option Nat := fun i => (l[i]?).getD none
theorem zS_up (l : List (Option Nat)) (k : Nat) (v : Option Nat) (h : k < l.length) : va_up (zS l) k v = zS (l.set k v) := by
  funext i
  unfold zS va_up
  by_cases e : i = k
  · subst e
    simp [h]
  · rw [if_neg e, List.getElem?_set_ne (fun q => e q.symm)]
theorem zS_none (n : Nat) : (fun _ => none : Nat → Option Nat) = zS (List.replicate n none) := by
  funext i
  unfold zS
  rw [List.getElem?_replicate]
  split <;> rfl
-- numbers by toInt
theorem z_lt {x y : Int32} {a b : Int} (hx : x.toInt = a) (hy : y.toInt = b) : x < y ↔ a < b := by rw [Int32.lt_iff_toInt_lt, hx, hy]
theorem z_le {x y : Int32} {a b : Int} (hx : x.toInt = a) (hy : y.toInt = b) : x ≤ y ↔ a ≤ b := by rw [Int32.le_iff_toInt_le, hx, hy]
theorem z_eq {x y : Int32} {a b : Int} (hx : x.toInt = a) (hy : y.toInt = b) : x = y ↔ a = b := by rw [← Int32.toInt_inj, hx, hy]
theorem z_add {x y : Int32} {a b : Int} (hx : x.toInt = a) (hy : y.toInt = b) (h1 : -2147483648 ≤ a + b) (h2 : a + b ≤ 2147483647) : (x + y).toInt = a + b := by
  rw [Int32.toInt_add, hx, hy]
  exact Int.bmod_eq_of_le (by omega) (by omega)
theorem z_sub {x y : Int32} {a b : Int} (hx : x.toInt = a) (hy : y.toInt = b) (h1 : -2147483648 ≤ a - b) (h2 : a - b ≤ 2147483647) : (x - y).toInt = a - b := by
  rw [Int32.toInt_sub, hx, hy]
  exact Int.bmod_eq_of_le (by omega) (by omega)
theorem z_mul {x y : Int32} {a b : Int} (hx : x.toInt = a) (hy : y.toInt = b) (h1 : -2147483648 ≤ a * b) (h2 : a * b ≤ 2147483647) : (x * y).toInt = a * b := by
  rw [Int32.toInt_mul, hx, hy]
  exact Int.bmod_eq_of_le (by omega) (by omega)
theorem z_in {x : Int32} {a : Int} {n : Nat} (hx : x.toInt = a) (h1 : 0 ≤ a) (h2 : a < n) : vp_in x n := vp_in_iff.mpr ⟨by rw [hx]; exact h1, by rw [hx]; exact h2⟩
theorem z_cl {x : Int32} {k : Nat} (hx : x.toInt = (k : Int)) : x.toNatClampNeg = k := by
  rw [Int32.toNatClampNeg, hx]
  exact Int.toNat_natCast k
theorem z_nI {x : Int32} {k : Nat} (hx : x.toInt = (k : Int)) : x = nI k := by
  have h : x.toInt < 2147483648 := by
    have := Int32.toInt_lt x
    omega
  exact Int32.toInt_inj.mp (by rw [hx, nI_toInt (by omega)])
-- new arrays, at the classes that are known
section ZN
variable {p : Program} {l : Launch} {e : Env} {R : Room} {s : State} {m : MethodId} {args : Array Value} {below : List Frame} {meth : Method} {c : Code} {H : Heap} {locs : List Loc} {cells slots : Nat} {Q : State → Prop}
variable {cc : ByteArray} {pc : Nat} {ls : Array Slot} {rest : List Value} {g : zG} {A : Nat → Prop} {a : Nat} {ws : va_W} {H0 : Heap}
theorem z_uniq {D : va_G} {cl : List vw_C} {tys : List (ClassId × FieldType)} {U : State} (hK : va_K D cl tys U) {i j : Nat} {x y : ClassId} {ty : FieldType} (hi : tys[i]? = some (x, ty)) (hj : tys[j]? = some (y, ty)) : x = y := by
  have h1 := (hK.2 i _ hi).2
  have h2 := (hK.2 j _ hj).2
  cases ty with
  | object C =>
    obtain ⟨-, -, -, -, -, q1⟩ := h1
    obtain ⟨-, -, -, -, -, q2⟩ := h2
    exact Option.some.inj (q1.symm.trans q2)
  | _ => exact Option.some.inj (Eq.trans (Eq.symm h1) h2)
theorem z_newI (hexec : p.tables.exec = Jvm.exec) (hb : c.code = cc) (harr : (Cond.arrayClass .int).before args s = true) (hK : zK g s) (hP : zP g ws H) (hD : va_D A ws) (hS : va_S A H0 H locs) (hA : ∀ q, H0.size ≤ q → A q)
    {n : Int32} {N' : Nat} (hn : ¬ n < 0) (hN : n.toNatClampNeg = N') (hbytes : N' * 4 ≤ 536870912) (hcells : cells + 1 ≤ R.cells) (hslots : slots + N' ≤ R.slots) (hdg : decode cc pc = .ok (.newarray .int, 2))
    (kk : ∀ (q : Nat) (H1 : Heap), zP g (ws ++ [(q, .inl (g.2 0, N', .inl (fun _ => 0)))]) H1 → va_D A (ws ++ [(q, .inl (g.2 0, N', .inl (fun _ => 0)))]) → va_S A H0 H1 locs →
      W p l e R s m args below meth c H1 locs (cells + 1) (slots + N') Q (F0 m (pc + 2) ls (.ref q :: rest))) : W p l e R s m args below meth c H locs cells slots Q (F0 m pc ls (.int n :: rest)) :=
  va_newa (atype := .int) hexec hb harr rfl hK hP hD hS hA (a0 := (N', .inl (fun _ => 0))) (fun _ => rfl) hn hN hbytes hcells hslots hdg (fun q cA H1 hK1 hP1 hD1 hS1 => by
    have e1 : cA = g.2 0 := z_uniq hK1 (i := 8) (j := 0) (ty := .int) rfl rfl
    subst e1
    exact kk q H1 hP1 hD1 hS1)
theorem z_newJ (hexec : p.tables.exec = Jvm.exec) (hb : c.code = cc) (harr : (Cond.arrayClass .long).before args s = true) (hK : zK g s) (hP : zP g ws H) (hD : va_D A ws) (hS : va_S A H0 H locs) (hA : ∀ q, H0.size ≤ q → A q)
    {n : Int32} {N' : Nat} (hn : ¬ n < 0) (hN : n.toNatClampNeg = N') (hbytes : N' * 8 ≤ 536870912) (hcells : cells + 1 ≤ R.cells) (hslots : slots + N' ≤ R.slots) (hdg : decode cc pc = .ok (.newarray .long, 2))
    (kk : ∀ (q : Nat) (H1 : Heap), zP g (ws ++ [(q, .inl (g.2 1, N', .inr (.inl (fun _ => 0))))]) H1 → va_D A (ws ++ [(q, .inl (g.2 1, N', .inr (.inl (fun _ => 0))))]) → va_S A H0 H1 locs →
      W p l e R s m args below meth c H1 locs (cells + 1) (slots + N') Q (F0 m (pc + 2) ls (.ref q :: rest))) : W p l e R s m args below meth c H locs cells slots Q (F0 m pc ls (.int n :: rest)) :=
  va_newa (atype := .long) hexec hb harr rfl hK hP hD hS hA (a0 := (N', .inr (.inl (fun _ => 0)))) (fun _ => rfl) hn hN hbytes hcells hslots hdg (fun q cA H1 hK1 hP1 hD1 hS1 => by
    have e1 : cA = g.2 1 := z_uniq hK1 (i := 8) (j := 1) (ty := .long) rfl rfl
    subst e1
    exact kk q H1 hP1 hD1 hS1)
theorem z_newB (hexec : p.tables.exec = Jvm.exec) (hb : c.code = cc) (harr : (Cond.arrayClass .byte).before args s = true) (hK : zK g s) (hP : zP g ws H) (hD : va_D A ws) (hS : va_S A H0 H locs) (hA : ∀ q, H0.size ≤ q → A q)
    {n : Int32} {N' : Nat} (hn : ¬ n < 0) (hN : n.toNatClampNeg = N') (hbytes : N' * 1 ≤ 536870912) (hcells : cells + 1 ≤ R.cells) (hslots : slots + N' ≤ R.slots) (hdg : decode cc pc = .ok (.newarray .byte, 2))
    (kk : ∀ (q : Nat) (H1 : Heap), zP g (ws ++ [(q, .inl (g.2 2, N', .inl (fun _ => 0)))]) H1 → va_D A (ws ++ [(q, .inl (g.2 2, N', .inl (fun _ => 0)))]) → va_S A H0 H1 locs →
      W p l e R s m args below meth c H1 locs (cells + 1) (slots + N') Q (F0 m (pc + 2) ls (.ref q :: rest))) : W p l e R s m args below meth c H locs cells slots Q (F0 m pc ls (.int n :: rest)) :=
  va_newa (atype := .byte) hexec hb harr rfl hK hP hD hS hA (a0 := (N', .inl (fun _ => 0))) (fun _ => rfl) hn hN hbytes hcells hslots hdg (fun q cA H1 hK1 hP1 hD1 hS1 => by
    have e1 : cA = g.2 2 := z_uniq hK1 (i := 8) (j := 2) (ty := .byte) rfl rfl
    subst e1
    exact kk q H1 hP1 hD1 hS1)
theorem z_newZ (hexec : p.tables.exec = Jvm.exec) (hb : c.code = cc) (harr : (Cond.arrayClass .boolean).before args s = true) (hK : zK g s) (hP : zP g ws H) (hD : va_D A ws) (hS : va_S A H0 H locs) (hA : ∀ q, H0.size ≤ q → A q)
    {n : Int32} {N' : Nat} (hn : ¬ n < 0) (hN : n.toNatClampNeg = N') (hbytes : N' * 1 ≤ 536870912) (hcells : cells + 1 ≤ R.cells) (hslots : slots + N' ≤ R.slots) (hdg : decode cc pc = .ok (.newarray .boolean, 2))
    (kk : ∀ (q : Nat) (H1 : Heap), zP g (ws ++ [(q, .inl (g.2 3, N', .inl (fun _ => 0)))]) H1 → va_D A (ws ++ [(q, .inl (g.2 3, N', .inl (fun _ => 0)))]) → va_S A H0 H1 locs →
      W p l e R s m args below meth c H1 locs (cells + 1) (slots + N') Q (F0 m (pc + 2) ls (.ref q :: rest))) : W p l e R s m args below meth c H locs cells slots Q (F0 m pc ls (.int n :: rest)) :=
  va_newa (atype := .boolean) hexec hb harr rfl hK hP hD hS hA (a0 := (N', .inl (fun _ => 0))) (fun _ => rfl) hn hN hbytes hcells hslots hdg (fun q cA H1 hK1 hP1 hD1 hS1 => by
    have e1 : cA = g.2 3 := z_uniq hK1 (i := 8) (j := 3) (ty := .boolean) rfl rfl
    subst e1
    exact kk q H1 hP1 hD1 hS1)
/-- an array of references to objects of a class C, the k-th of the array types -/
theorem z_newQ (hexec : p.tables.exec = Jvm.exec) (hb : c.code = cc) {own C : String} {index : Nat} (k : Nat) (hown : s.vm.findClass own = some m.cls) (hclink : (Cond.classLink own index C).before args s = true) (hover : va_AO C s) (hK : zK g s) (hkt : (zT g)[k]? = some (g.2 k, .object C)) (hP : zP g ws H) (hD : va_D A ws) (hS : va_S A H0 H locs) (hA : ∀ q, H0.size ≤ q → A q)
    {n : Int32} {N' : Nat} (hn : ¬ n < 0) (hN : n.toNatClampNeg = N') (hbytes : N' * 4 ≤ 536870912) (hcells : cells + 1 ≤ R.cells) (hslots : slots + N' ≤ R.slots) (hdg : decode cc pc = .ok (.anewarray index, 3))
    (kk : ∀ (q : Nat) (H1 : Heap), zP g (ws ++ [(q, .inl (g.2 k, N', .inr (.inr (.inr (.inr (zS (List.replicate N' none)))))))]) H1 → va_D A (ws ++ [(q, .inl (g.2 k, N', .inr (.inr (.inr (.inr (zS (List.replicate N' none)))))))]) → va_S A H0 H1 locs →
      W p l e R s m args below meth c H1 locs (cells + 1) (slots + N') Q (F0 m (pc + 3) ls (.ref q :: rest))) : W p l e R s m args below meth c H locs cells slots Q (F0 m pc ls (.int n :: rest)) :=
  va_newq hexec hb hown hclink hover hK hP hD hS hA hn hN hbytes hcells hslots hdg (fun q cA H1 hK1 hP1 hD1 hS1 => by
    have e1 : cA = g.2 k := z_uniq hK1 (i := 8) (j := k) (ty := .object C) rfl (by
      rw [List.getElem?_append_left (List.getElem?_eq_some_iff.mp hkt).1]
      exact hkt)
    subst e1
    rw [zS_none N'] at hP1 hD1
    exact kk q H1 hP1 hD1 hS1)
end ZN
/-! new int[n][k]: the outer array, then its rows -/
theorem z_outer (c : ClassId) (N h0 : Nat) : ∀ i : Nat, Jvm.Free.Multi.outerC c N h0 i = arrV c N (fun j => va_rf (if j < i then some (h0 + 1 + j) else none))
  | 0 => by
    show ({ cls := c, slots := Array.replicate N .null, vm := .none } : Cell) = _
    rw [arrV_new]
    refine congrArg (arrV c N) (funext fun j => ?_)
    simp [va_rf]
  | i + 1 => by
    show (Jvm.Free.Multi.outerC c N h0 i).setSlot i (.ref (h0 + 1 + i)) = _
    rw [z_outer c N h0 i, arrV_store]
    refine congrArg (arrV c N) (funext fun j => ?_)
    by_cases e : j = i
    · subst e
      simp [updV, va_rf]
    · by_cases h : j < i
      · simp [updV, e, h, Nat.lt_succ_of_lt h]
      · simp [updV, e, h, show ¬ j < i + 1 by omega]
theorem z_outS (N q : Nat) : (fun j => if j < N then some (q + 1 + j) else none : Nat → Option Nat) = zS ((List.range N).map (fun i => some (q + 1 + i))) := by
  funext j
  unfold zS
  rw [List.getElem?_map]
  by_cases h : j < N
  · rw [if_pos h, List.getElem?_range h]
    rfl
  · rw [if_neg h, List.getElem?_eq_none (by rw [List.length_range]; omega)]
    rfl
section ZM
variable {p : Program} {l : Launch} {e : Env} {R : Room} {s : State} {m : MethodId} {args : Array Value} {below : List Frame} {meth : Method} {c : Code} {H : Heap} {locs : List Loc} {cells slots : Nat} {Q : State → Prop}
variable {cc : ByteArray} {pc : Nat} {ls : Array Slot} {rest : List Value} {g : zG} {A : Nat → Prop} {a : Nat} {ws : va_W} {H0 : Heap}
theorem z_mna (hexec : p.tables.exec = Jvm.exec) (hb : c.code = cc) {own : String} {index : Nat} (hown : s.vm.findClass own = some m.cls) (hclink : (Cond.classLink own index "[[I").before args s = true) (hN2 : zN s) (harr : (Cond.arrayClass .int).before args s = true)
    (hK : zK g s) (hP : zP g ws H) (hD : va_D A ws) (hS : va_S A H0 H locs) (hA : ∀ q, H0.size ≤ q → A q) {n k : Int32} {N' K' : Nat} (hn : ¬ n < 0) (hk : ¬ k < 0) (hN : n.toNatClampNeg = N') (hM : k.toNatClampNeg = K')
    (hb1 : N' * 4 ≤ 536870912) (hb2 : K' * 4 ≤ 536870912) (hb3 : K' ≤ 536870912) (hcells : cells + (1 + N') ≤ R.cells) (hslots : slots + (N' + N' * K') ≤ R.slots) (hdg : decode cc pc = .ok (.multianewarray index 2, 4))
    (kk : ∀ (q : Nat) (H1 : Heap), zP g (ws ++ ((q, .inl (g.2 7, N', .inr (.inr (.inr (.inr (zS ((List.range N').map (fun i => some (q + 1 + i))))))))) :: (List.range N').map (fun i => (q + 1 + i, .inl (g.2 0, K', .inl (fun _ => 0)))))) H1 →
      va_D A (ws ++ ((q, .inl (g.2 7, N', .inr (.inr (.inr (.inr (zS ((List.range N').map (fun i => some (q + 1 + i))))))))) :: (List.range N').map (fun i => (q + 1 + i, .inl (g.2 0, K', .inl (fun _ => 0)))))) → va_S A H0 H1 locs →
      W p l e R s m args below meth c H1 locs (cells + 1 + N') (slots + N' + N' * K') Q (F0 m (pc + 4) ls (.ref q :: rest))) : W p l e R s m args below meth c H locs cells slots Q (F0 m pc ls (.int k :: .int n :: rest)) := by
  subst hN
  subst hM
  intro T hT Xs
  have hstr : ("[" ++ (FieldType.array FieldType.int).toString) = "[[I" := by decide +kernel
  have hcy : s.vm.findClass (FieldType.array FieldType.int).toString = some (g.2 0) := (hK.2 0 _ rfl).2
  have hcz : s.vm.findClass ("[" ++ (FieldType.array FieldType.int).toString) = some (g.2 7) := (hK.2 7 _ rfl).2
  obtain ⟨vm₁, cA, comp, -, fA, fC, hO, -, X', step⟩ := Xs.multianewarray2F (ty := .int) hexec hown (by rw [hstr]; exact hclink) (zAOA.use hN2.2.2.2.2) harr (g := F0 m pc ls (.int k :: .int n :: rest)) rfl (by rw [hb]; exact hdg) rfl hn hk hb1 hb2 hb3 rfl rfl hcells hslots
  have ec : some (g.2 0) = some comp := hcy.symm.trans fC
  have ez : some (g.2 7) = some cA := hcz.symm.trans fA
  have ec := Option.some.inj ec
  have ez := Option.some.inj ez
  subst ec
  subst ez
  generalize hF : Jvm.Free.Multi.fill (T.setVm vm₁) (g.2 7) (g.2 0) n.toNatClampNeg k.toNatClampNeg (defaultValue .int) n.toNatClampNeg = F at X' step
  have hTh : (T.setVm vm₁).heap = H := hT
  obtain ⟨f1, f2, -, -⟩ := Jvm.Free.Multi.fill_facts (T.setVm vm₁) (g.2 7) (g.2 0) n.toNatClampNeg k.toNatClampNeg (defaultValue .int) n.toNatClampNeg
  rw [hF, hTh] at f1 f2
  have hold : ∀ x : Nat, x < H.size → F.heap[x]? = H[x]? := fun x hx => by
    have := Jvm.Free.Multi.fill_old (T.setVm vm₁) (g.2 7) (g.2 0) n.toNatClampNeg k.toNatClampNeg (defaultValue .int) (a := x) (by rw [hTh]; exact hx) n.toNatClampNeg
    rw [hF, hTh] at this
    exact this
  have hin : Jvm.Free.Multi.innerC (g.2 0) k.toNatClampNeg (defaultValue .int) = vp_cell (g.2 0) (k.toNatClampNeg, .inl (fun _ => 0)) := arrV_new (g.2 0) k.toNatClampNeg (.int 0)
  have hrow : ∀ j : Nat, j < n.toNatClampNeg → F.heap[H.size + 1 + j]? = some (vp_cell (g.2 0) (k.toNatClampNeg, .inl (fun _ => 0))) := fun j hj => by
    have := Jvm.Free.Multi.fill_inner (T.setVm vm₁) (g.2 7) (g.2 0) n.toNatClampNeg k.toNatClampNeg (defaultValue .int) n.toNatClampNeg j hj
    rw [hF, hTh, hin] at this
    exact this
  have hout : Jvm.Free.Multi.outerC (g.2 7) n.toNatClampNeg H.size n.toNatClampNeg = vp_cell (g.2 7) (n.toNatClampNeg, .inr (.inr (.inr (.inr (zS ((List.range n.toNatClampNeg).map (fun i => some (H.size + 1 + i)))))))) := by
    rw [vp_cell_q, ← z_outS]
    exact z_outer (g.2 7) n.toNatClampNeg H.size n.toNatClampNeg
  rw [hout] at f2
  have hP0 : zP g ws F.heap := hP.kept (fun k9 x hx => hold x.1 ((hP k9 x hx).lt))
  generalize hNW : ((H.size, .inl (g.2 7, n.toNatClampNeg, .inr (.inr (.inr (.inr (zS ((List.range n.toNatClampNeg).map (fun i => some (H.size + 1 + i))))))))) :: (List.range n.toNatClampNeg).map (fun i => ((H.size + 1 + i, .inl (g.2 0, k.toNatClampNeg, .inl (fun _ => 0))) : Nat × va_E)) : va_W) = nw
  have hnw : ∀ (k9 : Nat) (x : Nat × va_E), nw[k9]? = some x → x.1 = H.size + k9 ∧ va_at g.1 vwCl x F.heap := fun k9 x hx => by
    subst hNW
    cases k9 with
    | zero =>
      rw [List.getElem?_cons_zero] at hx
      cases hx
      exact ⟨rfl, f2⟩
    | succ k9 =>
      rw [List.getElem?_cons_succ, List.getElem?_map] at hx
      by_cases h9 : k9 < n.toNatClampNeg
      · rw [List.getElem?_range h9] at hx
        cases hx
        exact ⟨by show H.size + 1 + k9 = H.size + (k9 + 1); omega, hrow k9 h9⟩
      · have hn0 : (List.range n.toNatClampNeg)[k9]? = none := List.getElem?_eq_none (by rw [List.length_range]; omega)
        rw [hn0] at hx
        cases hx
  have hP1 : zP g (ws ++ nw) F.heap := hP0.app (fun k9 x hx => (hnw k9 x hx).2)
  have hD1 : va_D A (ws ++ nw) := by
    refine va_D.app hD ⟨fun i j x y hi hj hxy => ?_, fun k9 x hx => ?_⟩ (fun i j x y hi hj hxy => ?_)
    · have h1 := (hnw i x hi).1
      have h2 := (hnw j y hj).1
      omega
    · have h1 := (hnw k9 x hx).1
      have h2 := hS.1
      exact hA _ (by omega)
    · have h1 := (hP i x hi).lt
      have h2 := (hnw j y hj).1
      omega
  subst hNW
  obtain ⟨t, a1, b1⟩ := kk H.size F.heap hP1 hD1 ⟨by rw [f1]; have := hS.1; omega, fun x h1 h2 => (hold x (Nat.lt_of_lt_of_le h1 hS.1)).trans (hS.2.1 x h1 h2), hS.2.2⟩ F rfl X'
  refine ⟨t, step t ?_, b1⟩
  have e : T.heap.size = H.size := by rw [hT]
  rw [e]
  exact a1
end ZM
-- words: one list for all methods
def zGW : List Cond := lw_tbl.filter goodWord
abbrev zW (y : MethodName) (c : ByteArray) (n : Nat) (r : Option FieldType) : List Cond := Cond.code y c n r :: zGW
theorem zW.law {y : MethodName} {c : ByteArray} {n : Nat} {r : Option FieldType} {args : Array Value} {s : State} (h : ∀ w ∈ zW y c n r, w.before args s = true) : ∀ w ∈ zGW, w.before args s = true := fun w hw => h w (List.mem_cons_of_mem _ hw)
theorem z_good {w : Cond} (h : w ∈ zGW) : w ∈ zGW ∧ ((w.onTables && w.keeps) = true ∨ ∃ ty, w = .arrayClass ty) := ⟨h, good_of_word (List.mem_filter.mp h).2⟩
theorem z_gN {y : MethodName} {c : ByteArray} {n : Nat} {r : Option FieldType} (h : Cond.code y c n r ∈ zGW) : GoodIn zGW (zW y c n r) := fun w hw => by
  rcases List.mem_cons.mp hw with rfl | hw
  · exact z_good h
  · exact z_good hw
theorem z_gV {own C : String} {idx : Nat} {y : MethodName} {c : ByteArray} {n : Nat} {r : Option FieldType} (h1 : Cond.methodLink own idx y ∈ zGW) (h2 : Cond.instanceMethod y ∈ zGW) (h3 : Cond.selects C y y ∈ zGW) (h4 : Cond.initialized C ∈ zGW) (h : Cond.code y c n r ∈ zGW) : GoodIn zGW (wsV own idx C y (zW y c n r)) := fun w hw => by
  unfold wsV at hw
  rcases List.mem_append.mp hw with hw | hw
  · rcases List.mem_cons.mp hw with rfl | hw
    · exact z_good h1
    rcases List.mem_cons.mp hw with rfl | hw
    · exact z_good h2
    rcases List.mem_cons.mp hw with rfl | hw
    · exact z_good h3
    rcases List.mem_cons.mp hw with rfl | hw
    · exact z_good h4
    · exact absurd hw List.not_mem_nil
  · exact z_gN h w hw
theorem z_gS {own : String} {idx : Nat} {y : MethodName} {c : ByteArray} {n : Nat} {r : Option FieldType} (h1 : Cond.methodLink own idx y ∈ zGW) (h2 : Cond.static y ∈ zGW) (h4 : Cond.initialized y.cls ∈ zGW) (h : Cond.code y c n r ∈ zGW) : GoodIn zGW (va_wsS own idx y (zW y c n r)) := fun w hw => by
  unfold va_wsS at hw
  rcases List.mem_append.mp hw with hw | hw
  · rcases List.mem_cons.mp hw with rfl | hw
    · exact z_good h1
    rcases List.mem_cons.mp hw with rfl | hw
    · exact z_good h2
    rcases List.mem_cons.mp hw with rfl | hw
    · exact z_good h4
    · exact absurd hw List.not_mem_nil
  · exact z_gN h w hw
-- cases, places
theorem z_ofI {x y : Int32} {a : Int} (hx : x.toInt = a) (hy : y.toInt = a) : x = y := Int32.toInt_inj.mp (hx.trans hy.symm)
theorem z_c4 (x : Int32) (h1 : 0 ≤ x.toInt) (h2 : x.toInt < 4) : x = 0 ∨ x = 1 ∨ x = 2 ∨ x = 3 := by
  have h : x.toInt = 0 ∨ x.toInt = 1 ∨ x.toInt = 2 ∨ x.toInt = 3 := by omega
  rcases h with h | h | h | h
  · exact Or.inl (z_ofI h (by decide))
  · exact Or.inr (Or.inl (z_ofI h (by decide)))
  · exact Or.inr (Or.inr (Or.inl (z_ofI h (by decide))))
  · exact Or.inr (Or.inr (Or.inr (z_ofI h (by decide))))
theorem z_clt {x : Int32} {a : Int} {n : Nat} (hx : x.toInt = a) (h1 : 0 ≤ a) (h2 : a < n) : x.toNatClampNeg < n := by
  rw [z_cl (k := a.toNat) (by rw [hx]; omega)]
  omega
theorem z_clg {x : Int32} {a : Int} {n : Nat} (hx : x.toInt = a) (h2 : (n : Int) ≤ a) : n ≤ x.toNatClampNeg := by
  rw [z_cl (k := a.toNat) (by rw [hx]; omega)]
  omega
theorem z_rng (x : Int32) : -2147483648 ≤ x.toInt ∧ x.toInt ≤ 2147483647 := by
  have h1 := Int32.le_toInt x
  have h2 := Int32.toInt_lt x
  omega
theorem z_subw (x y : Int32) : (x - y).toInt = x.toInt - y.toInt ∨ (x - y).toInt = x.toInt - y.toInt + 4294967296 ∨ (x - y).toInt = x.toInt - y.toInt - 4294967296 := by
  rw [Int32.toInt_sub]
  have h1 := z_rng x
  have h2 := z_rng y
  unfold Int.bmod
  dsimp only
  split <;> omega
theorem z_w6 (x : Int32) : x = 0 ∨ x = 1 ∨ x = 2 ∨ x = 3 ∨ x = 4 ∨ x = 5 ∨ (x.toInt < 0 ∨ 5 < x.toInt) := by
  have h : x.toInt = 0 ∨ x.toInt = 1 ∨ x.toInt = 2 ∨ x.toInt = 3 ∨ x.toInt = 4 ∨ x.toInt = 5 ∨ (x.toInt < 0 ∨ 5 < x.toInt) := by omega
  rcases h with h | h | h | h | h | h | h
  · exact Or.inl (z_ofI h (by decide))
  · exact Or.inr (Or.inl (z_ofI h (by decide)))
  · exact Or.inr (Or.inr (Or.inl (z_ofI h (by decide))))
  · exact Or.inr (Or.inr (Or.inr (Or.inl (z_ofI h (by decide)))))
  · exact Or.inr (Or.inr (Or.inr (Or.inr (Or.inl (z_ofI h (by decide))))))
  · exact Or.inr (Or.inr (Or.inr (Or.inr (Or.inr (Or.inl (z_ofI h (by decide)))))))
  · exact Or.inr (Or.inr (Or.inr (Or.inr (Or.inr (Or.inr h)))))
end
section
theorem dX0_init_0 : decode cX0_init 0 = .ok (.aload_n 0, 1) := by decide +kernel
theorem dX0_init_1 : decode cX0_init 1 = .ok (.invokespecial 3, 3) := by decide +kernel
theorem dX0_init_4 : decode cX0_init 4 = .ok (.aload_n 0, 1) := by decide +kernel
theorem dX0_init_5 : decode cX0_init 5 = .ok (.sipush 128, 3) := by decide +kernel
theorem dX0_init_8 : decode cX0_init 8 = .ok (.newarray .int, 2) := by decide +kernel
theorem dX0_init_10 : decode cX0_init 10 = .ok (.putfield 9, 3) := by decide +kernel
theorem dX0_init_13 : decode cX0_init 13 = .ok (.aload_n 0, 1) := by decide +kernel
theorem dX0_init_14 : decode cX0_init 14 = .ok (.iconst 0, 1) := by decide +kernel
theorem dX0_init_15 : decode cX0_init 15 = .ok (.putfield 15, 3) := by decide +kernel
theorem dX0_init_18 : decode cX0_init 18 = .ok (.aload_n 0, 1) := by decide +kernel
theorem dX0_init_19 : decode cX0_init 19 = .ok (.bipush 17, 2) := by decide +kernel
theorem dX0_init_21 : decode cX0_init 21 = .ok (.newarray .int, 2) := by decide +kernel
theorem dX0_init_23 : decode cX0_init 23 = .ok (.putfield 19, 3) := by decide +kernel
theorem dX0_init_26 : decode cX0_init 26 = .ok (.aload_n 0, 1) := by decide +kernel
theorem dX0_init_27 : decode cX0_init 27 = .ok (.iconst 1, 1) := by decide +kernel
theorem dX0_init_28 : decode cX0_init 28 = .ok (.newarray .int, 2) := by decide +kernel
theorem dX0_init_30 : decode cX0_init 30 = .ok (.putfield 22, 3) := by decide +kernel
theorem dX0_init_33 : decode cX0_init 33 = .ok (.aload_n 0, 1) := by decide +kernel
theorem dX0_init_34 : decode cX0_init 34 = .ok (.iconst 1, 1) := by decide +kernel
theorem dX0_init_35 : decode cX0_init 35 = .ok (.putfield 25, 3) := by decide +kernel
theorem dX0_init_38 : decode cX0_init 38 = .ok (.return_, 1) := by decide +kernel
theorem dX0_forget_0 : decode cX0_forget 0 = .ok (.aload_n 0, 1) := by decide +kernel
theorem dX0_forget_1 : decode cX0_forget 1 = .ok (.dup, 1) := by decide +kernel
theorem dX0_forget_2 : decode cX0_forget 2 = .ok (.getfield 25, 3) := by decide +kernel
theorem dX0_forget_5 : decode cX0_forget 5 = .ok (.iconst 1, 1) := by decide +kernel
theorem dX0_forget_6 : decode cX0_forget 6 = .ok (.iadd, 1) := by decide +kernel
theorem dX0_forget_7 : decode cX0_forget 7 = .ok (.putfield 25, 3) := by decide +kernel
theorem dX0_forget_10 : decode cX0_forget 10 = .ok (.return_, 1) := by decide +kernel
theorem dX1_init_0 : decode cX1_init 0 = .ok (.aload_n 0, 1) := by decide +kernel
theorem dX1_init_1 : decode cX1_init 1 = .ok (.invokespecial 3, 3) := by decide +kernel
theorem dX1_init_4 : decode cX1_init 4 = .ok (.aload_n 0, 1) := by decide +kernel
theorem dX1_init_5 : decode cX1_init 5 = .ok (.iconst (-1), 1) := by decide +kernel
theorem dX1_init_6 : decode cX1_init 6 = .ok (.putfield 9, 3) := by decide +kernel
theorem dX1_init_9 : decode cX1_init 9 = .ok (.aload_n 0, 1) := by decide +kernel
theorem dX1_init_10 : decode cX1_init 10 = .ok (.iconst 0, 1) := by decide +kernel
theorem dX1_init_11 : decode cX1_init 11 = .ok (.putfield 15, 3) := by decide +kernel
theorem dX1_init_14 : decode cX1_init 14 = .ok (.aload_n 0, 1) := by decide +kernel
theorem dX1_init_15 : decode cX1_init 15 = .ok (.iconst 0, 1) := by decide +kernel
theorem dX1_init_16 : decode cX1_init 16 = .ok (.putfield 18, 3) := by decide +kernel
theorem dX1_init_19 : decode cX1_init 19 = .ok (.aload_n 0, 1) := by decide +kernel
theorem dX1_init_20 : decode cX1_init 20 = .ok (.iconst 4, 1) := by decide +kernel
theorem dX1_init_21 : decode cX1_init 21 = .ok (.bipush 40, 2) := by decide +kernel
theorem dX1_init_23 : decode cX1_init 23 = .ok (.multianewarray 21 2, 4) := by decide +kernel
theorem dX1_init_27 : decode cX1_init 27 = .ok (.putfield 23, 3) := by decide +kernel
theorem dX1_init_30 : decode cX1_init 30 = .ok (.aload_n 0, 1) := by decide +kernel
theorem dX1_init_31 : decode cX1_init 31 = .ok (.iconst 4, 1) := by decide +kernel
theorem dX1_init_32 : decode cX1_init 32 = .ok (.bipush 40, 2) := by decide +kernel
theorem dX1_init_34 : decode cX1_init 34 = .ok (.multianewarray 21 2, 4) := by decide +kernel
theorem dX1_init_38 : decode cX1_init 38 = .ok (.putfield 26, 3) := by decide +kernel
theorem dX1_init_41 : decode cX1_init 41 = .ok (.aload_n 0, 1) := by decide +kernel
theorem dX1_init_42 : decode cX1_init 42 = .ok (.iconst 4, 1) := by decide +kernel
theorem dX1_init_43 : decode cX1_init 43 = .ok (.newarray .int, 2) := by decide +kernel
theorem dX1_init_45 : decode cX1_init 45 = .ok (.putfield 29, 3) := by decide +kernel
theorem dX1_init_48 : decode cX1_init 48 = .ok (.aload_n 0, 1) := by decide +kernel
theorem dX1_init_49 : decode cX1_init 49 = .ok (.iconst 4, 1) := by decide +kernel
theorem dX1_init_50 : decode cX1_init 50 = .ok (.newarray .int, 2) := by decide +kernel
theorem dX1_init_52 : decode cX1_init 52 = .ok (.putfield 33, 3) := by decide +kernel
theorem dX1_init_55 : decode cX1_init 55 = .ok (.return_, 1) := by decide +kernel
theorem dX2_init_0 : decode cX2_init 0 = .ok (.aload_n 0, 1) := by decide +kernel
theorem dX2_init_1 : decode cX2_init 1 = .ok (.invokespecial 3, 3) := by decide +kernel
theorem dX2_init_4 : decode cX2_init 4 = .ok (.aload_n 0, 1) := by decide +kernel
theorem dX2_init_5 : decode cX2_init 5 = .ok (.iconst 0, 1) := by decide +kernel
theorem dX2_init_6 : decode cX2_init 6 = .ok (.putfield 9, 3) := by decide +kernel
theorem dX2_init_9 : decode cX2_init 9 = .ok (.aload_n 0, 1) := by decide +kernel
theorem dX2_init_10 : decode cX2_init 10 = .ok (.iconst 0, 1) := by decide +kernel
theorem dX2_init_11 : decode cX2_init 11 = .ok (.putfield 15, 3) := by decide +kernel
theorem dX2_init_14 : decode cX2_init 14 = .ok (.aload_n 0, 1) := by decide +kernel
theorem dX2_init_15 : decode cX2_init 15 = .ok (.iconst 1, 1) := by decide +kernel
theorem dX2_init_16 : decode cX2_init 16 = .ok (.putfield 18, 3) := by decide +kernel
theorem dX2_init_19 : decode cX2_init 19 = .ok (.aload_n 0, 1) := by decide +kernel
theorem dX2_init_20 : decode cX2_init 20 = .ok (.bipush 8, 2) := by decide +kernel
theorem dX2_init_22 : decode cX2_init 22 = .ok (.newarray .int, 2) := by decide +kernel
theorem dX2_init_24 : decode cX2_init 24 = .ok (.putfield 22, 3) := by decide +kernel
theorem dX2_init_27 : decode cX2_init 27 = .ok (.aload_n 0, 1) := by decide +kernel
theorem dX2_init_28 : decode cX2_init 28 = .ok (.bipush 8, 2) := by decide +kernel
theorem dX2_init_30 : decode cX2_init 30 = .ok (.iconst 4, 1) := by decide +kernel
theorem dX2_init_31 : decode cX2_init 31 = .ok (.multianewarray 26 2, 4) := by decide +kernel
theorem dX2_init_35 : decode cX2_init 35 = .ok (.putfield 28, 3) := by decide +kernel
theorem dX2_init_38 : decode cX2_init 38 = .ok (.return_, 1) := by decide +kernel
theorem dX3_init_0 : decode cX3_init 0 = .ok (.aload_n 0, 1) := by decide +kernel
theorem dX3_init_1 : decode cX3_init 1 = .ok (.invokespecial 3, 3) := by decide +kernel
theorem dX3_init_4 : decode cX3_init 4 = .ok (.aload_n 0, 1) := by decide +kernel
theorem dX3_init_5 : decode cX3_init 5 = .ok (.iconst 1, 1) := by decide +kernel
theorem dX3_init_6 : decode cX3_init 6 = .ok (.putfield 9, 3) := by decide +kernel
theorem dX3_init_9 : decode cX3_init 9 = .ok (.aload_n 0, 1) := by decide +kernel
theorem dX3_init_10 : decode cX3_init 10 = .ok (.bipush 32, 2) := by decide +kernel
theorem dX3_init_12 : decode cX3_init 12 = .ok (.newarray .int, 2) := by decide +kernel
theorem dX3_init_14 : decode cX3_init 14 = .ok (.putfield 15, 3) := by decide +kernel
theorem dX3_init_17 : decode cX3_init 17 = .ok (.aload_n 0, 1) := by decide +kernel
theorem dX3_init_18 : decode cX3_init 18 = .ok (.bipush 33, 2) := by decide +kernel
theorem dX3_init_20 : decode cX3_init 20 = .ok (.newarray .int, 2) := by decide +kernel
theorem dX3_init_22 : decode cX3_init 22 = .ok (.putfield 19, 3) := by decide +kernel
theorem dX3_init_25 : decode cX3_init 25 = .ok (.aload_n 0, 1) := by decide +kernel
theorem dX3_init_26 : decode cX3_init 26 = .ok (.bipush 33, 2) := by decide +kernel
theorem dX3_init_28 : decode cX3_init 28 = .ok (.newarray .int, 2) := by decide +kernel
theorem dX3_init_30 : decode cX3_init 30 = .ok (.putfield 22, 3) := by decide +kernel
theorem dX3_init_33 : decode cX3_init 33 = .ok (.aload_n 0, 1) := by decide +kernel
theorem dX3_init_34 : decode cX3_init 34 = .ok (.bipush 16, 2) := by decide +kernel
theorem dX3_init_36 : decode cX3_init 36 = .ok (.newarray .int, 2) := by decide +kernel
theorem dX3_init_38 : decode cX3_init 38 = .ok (.putfield 25, 3) := by decide +kernel
theorem dX3_init_41 : decode cX3_init 41 = .ok (.aload_n 0, 1) := by decide +kernel
theorem dX3_init_42 : decode cX3_init 42 = .ok (.iconst 0, 1) := by decide +kernel
theorem dX3_init_43 : decode cX3_init 43 = .ok (.putfield 28, 3) := by decide +kernel
theorem dX3_init_46 : decode cX3_init 46 = .ok (.iconst 0, 1) := by decide +kernel
theorem dX3_init_47 : decode cX3_init 47 = .ok (.istore_n 1, 1) := by decide +kernel
theorem dX3_init_48 : decode cX3_init 48 = .ok (.iload_n 1, 1) := by decide +kernel
theorem dX3_init_49 : decode cX3_init 49 = .ok (.bipush 32, 2) := by decide +kernel
theorem dX3_init_51 : decode cX3_init 51 = .ok (.if_icmp .ge 33, 3) := by decide +kernel
theorem dX3_init_54 : decode cX3_init 54 = .ok (.aload_n 0, 1) := by decide +kernel
theorem dX3_init_55 : decode cX3_init 55 = .ok (.getfield 15, 3) := by decide +kernel
theorem dX3_init_58 : decode cX3_init 58 = .ok (.iload_n 1, 1) := by decide +kernel
theorem dX3_init_59 : decode cX3_init 59 = .ok (.iconst (-1), 1) := by decide +kernel
theorem dX3_init_60 : decode cX3_init 60 = .ok (.iastore, 1) := by decide +kernel
theorem dX3_init_61 : decode cX3_init 61 = .ok (.aload_n 0, 1) := by decide +kernel
theorem dX3_init_62 : decode cX3_init 62 = .ok (.getfield 19, 3) := by decide +kernel
theorem dX3_init_65 : decode cX3_init 65 = .ok (.iload_n 1, 1) := by decide +kernel
theorem dX3_init_66 : decode cX3_init 66 = .ok (.iload_n 1, 1) := by decide +kernel
theorem dX3_init_67 : decode cX3_init 67 = .ok (.bipush 16, 2) := by decide +kernel
theorem dX3_init_69 : decode cX3_init 69 = .ok (.if_icmp .ge 7, 3) := by decide +kernel
theorem dX3_init_72 : decode cX3_init 72 = .ok (.iconst 1, 1) := by decide +kernel
theorem dX3_init_73 : decode cX3_init 73 = .ok (.goto 4, 3) := by decide +kernel
theorem dX3_init_76 : decode cX3_init 76 = .ok (.iconst 0, 1) := by decide +kernel
theorem dX3_init_77 : decode cX3_init 77 = .ok (.iastore, 1) := by decide +kernel
theorem dX3_init_78 : decode cX3_init 78 = .ok (.iinc 1 1, 3) := by decide +kernel
theorem dX3_init_81 : decode cX3_init 81 = .ok (.goto (-33), 3) := by decide +kernel
theorem dX3_init_84 : decode cX3_init 84 = .ok (.aload_n 0, 1) := by decide +kernel
theorem dX3_init_85 : decode cX3_init 85 = .ok (.getfield 19, 3) := by decide +kernel
theorem dX3_init_88 : decode cX3_init 88 = .ok (.bipush 32, 2) := by decide +kernel
theorem dX3_init_90 : decode cX3_init 90 = .ok (.bipush 16, 2) := by decide +kernel
theorem dX3_init_92 : decode cX3_init 92 = .ok (.iastore, 1) := by decide +kernel
theorem dX3_init_93 : decode cX3_init 93 = .ok (.return_, 1) := by decide +kernel
theorem dX3_hang_0 : decode cX3_hang 0 = .ok (.iload_n 1, 1) := by decide +kernel
theorem dX3_hang_1 : decode cX3_hang 1 = .ok (.iconst 0, 1) := by decide +kernel
theorem dX3_hang_2 : decode cX3_hang 2 = .ok (.bipush 31, 2) := by decide +kernel
theorem dX3_hang_4 : decode cX3_hang 4 = .ok (.invokestatic 31, 3) := by decide +kernel
theorem dX3_hang_7 : decode cX3_hang 7 = .ok (.ifCond .ne 4, 3) := by decide +kernel
theorem dX3_hang_10 : decode cX3_hang 10 = .ok (.return_, 1) := by decide +kernel
theorem dX3_hang_11 : decode cX3_hang 11 = .ok (.aload_n 0, 1) := by decide +kernel
theorem dX3_hang_12 : decode cX3_hang 12 = .ok (.getfield 15, 3) := by decide +kernel
theorem dX3_hang_15 : decode cX3_hang 15 = .ok (.iload_n 1, 1) := by decide +kernel
theorem dX3_hang_16 : decode cX3_hang 16 = .ok (.iload_n 2, 1) := by decide +kernel
theorem dX3_hang_17 : decode cX3_hang 17 = .ok (.iastore, 1) := by decide +kernel
theorem dX3_hang_18 : decode cX3_hang 18 = .ok (.iconst 0, 1) := by decide +kernel
theorem dX3_hang_19 : decode cX3_hang 19 = .ok (.istore_n 3, 1) := by decide +kernel
theorem dX3_hang_20 : decode cX3_hang 20 = .ok (.iload_n 3, 1) := by decide +kernel
theorem dX3_hang_21 : decode cX3_hang 21 = .ok (.bipush 32, 2) := by decide +kernel
theorem dX3_hang_23 : decode cX3_hang 23 = .ok (.if_icmp .ge 23, 3) := by decide +kernel
theorem dX3_hang_26 : decode cX3_hang 26 = .ok (.aload_n 0, 1) := by decide +kernel
theorem dX3_hang_27 : decode cX3_hang 27 = .ok (.getfield 19, 3) := by decide +kernel
theorem dX3_hang_30 : decode cX3_hang 30 = .ok (.iload_n 3, 1) := by decide +kernel
theorem dX3_hang_31 : decode cX3_hang 31 = .ok (.iconst 0, 1) := by decide +kernel
theorem dX3_hang_32 : decode cX3_hang 32 = .ok (.iastore, 1) := by decide +kernel
theorem dX3_hang_33 : decode cX3_hang 33 = .ok (.aload_n 0, 1) := by decide +kernel
theorem dX3_hang_34 : decode cX3_hang 34 = .ok (.getfield 22, 3) := by decide +kernel
theorem dX3_hang_37 : decode cX3_hang 37 = .ok (.iload_n 3, 1) := by decide +kernel
theorem dX3_hang_38 : decode cX3_hang 38 = .ok (.iconst 0, 1) := by decide +kernel
theorem dX3_hang_39 : decode cX3_hang 39 = .ok (.iastore, 1) := by decide +kernel
theorem dX3_hang_40 : decode cX3_hang 40 = .ok (.iinc 3 1, 3) := by decide +kernel
theorem dX3_hang_43 : decode cX3_hang 43 = .ok (.goto (-23), 3) := by decide +kernel
theorem dX3_hang_46 : decode cX3_hang 46 = .ok (.iconst 0, 1) := by decide +kernel
theorem dX3_hang_47 : decode cX3_hang 47 = .ok (.istore_n 3, 1) := by decide +kernel
theorem dX3_hang_48 : decode cX3_hang 48 = .ok (.iload_n 3, 1) := by decide +kernel
theorem dX3_hang_49 : decode cX3_hang 49 = .ok (.bipush 16, 2) := by decide +kernel
theorem dX3_hang_51 : decode cX3_hang 51 = .ok (.if_icmp .ge 16, 3) := by decide +kernel
theorem dX3_hang_54 : decode cX3_hang 54 = .ok (.aload_n 0, 1) := by decide +kernel
theorem dX3_hang_55 : decode cX3_hang 55 = .ok (.iload_n 3, 1) := by decide +kernel
theorem dX3_hang_56 : decode cX3_hang 56 = .ok (.iconst 1, 1) := by decide +kernel
theorem dX3_hang_57 : decode cX3_hang 57 = .ok (.iconst 0, 1) := by decide +kernel
theorem dX3_hang_58 : decode cX3_hang 58 = .ok (.invokevirtual 35, 3) := by decide +kernel
theorem dX3_hang_61 : decode cX3_hang 61 = .ok (.iinc 3 1, 3) := by decide +kernel
theorem dX3_hang_64 : decode cX3_hang 64 = .ok (.goto (-16), 3) := by decide +kernel
theorem dX3_hang_67 : decode cX3_hang 67 = .ok (.iconst 0, 1) := by decide +kernel
theorem dX3_hang_68 : decode cX3_hang 68 = .ok (.istore_n 3, 1) := by decide +kernel
theorem dX3_hang_69 : decode cX3_hang 69 = .ok (.iload_n 3, 1) := by decide +kernel
theorem dX3_hang_70 : decode cX3_hang 70 = .ok (.aload_n 0, 1) := by decide +kernel
theorem dX3_hang_71 : decode cX3_hang 71 = .ok (.getfield 28, 3) := by decide +kernel
theorem dX3_hang_74 : decode cX3_hang 74 = .ok (.if_icmp .ge 23, 3) := by decide +kernel
theorem dX3_hang_77 : decode cX3_hang 77 = .ok (.aload_n 0, 1) := by decide +kernel
theorem dX3_hang_78 : decode cX3_hang 78 = .ok (.aload_n 0, 1) := by decide +kernel
theorem dX3_hang_79 : decode cX3_hang 79 = .ok (.getfield 25, 3) := by decide +kernel
theorem dX3_hang_82 : decode cX3_hang 82 = .ok (.iload_n 3, 1) := by decide +kernel
theorem dX3_hang_83 : decode cX3_hang 83 = .ok (.iaload, 1) := by decide +kernel
theorem dX3_hang_84 : decode cX3_hang 84 = .ok (.iconst 0, 1) := by decide +kernel
theorem dX3_hang_85 : decode cX3_hang 85 = .ok (.iconst 1, 1) := by decide +kernel
theorem dX3_hang_86 : decode cX3_hang 86 = .ok (.iload_n 3, 1) := by decide +kernel
theorem dX3_hang_87 : decode cX3_hang 87 = .ok (.ishl, 1) := by decide +kernel
theorem dX3_hang_88 : decode cX3_hang 88 = .ok (.invokevirtual 35, 3) := by decide +kernel
theorem dX3_hang_91 : decode cX3_hang 91 = .ok (.iinc 3 1, 3) := by decide +kernel
theorem dX3_hang_94 : decode cX3_hang 94 = .ok (.goto (-25), 3) := by decide +kernel
theorem dX3_hang_97 : decode cX3_hang 97 = .ok (.return_, 1) := by decide +kernel
theorem dX3_settle_0 : decode cX3_settle 0 = .ok (.iload_n 1, 1) := by decide +kernel
theorem dX3_settle_1 : decode cX3_settle 1 = .ok (.iconst 0, 1) := by decide +kernel
theorem dX3_settle_2 : decode cX3_settle 2 = .ok (.bipush 15, 2) := by decide +kernel
theorem dX3_settle_4 : decode cX3_settle 4 = .ok (.invokestatic 31, 3) := by decide +kernel
theorem dX3_settle_7 : decode cX3_settle 7 = .ok (.ifCond .eq 46, 3) := by decide +kernel
theorem dX3_settle_10 : decode cX3_settle 10 = .ok (.iload_n 2, 1) := by decide +kernel
theorem dX3_settle_11 : decode cX3_settle 11 = .ok (.invokestatic 39, 3) := by decide +kernel
theorem dX3_settle_14 : decode cX3_settle 14 = .ok (.ifCond .eq 39, 3) := by decide +kernel
theorem dX3_settle_17 : decode cX3_settle 17 = .ok (.aload_n 0, 1) := by decide +kernel
theorem dX3_settle_18 : decode cX3_settle 18 = .ok (.getfield 25, 3) := by decide +kernel
theorem dX3_settle_21 : decode cX3_settle 21 = .ok (.iload_n 1, 1) := by decide +kernel
theorem dX3_settle_22 : decode cX3_settle 22 = .ok (.iload_n 2, 1) := by decide +kernel
theorem dX3_settle_23 : decode cX3_settle 23 = .ok (.iastore, 1) := by decide +kernel
theorem dX3_settle_24 : decode cX3_settle 24 = .ok (.aload_n 0, 1) := by decide +kernel
theorem dX3_settle_25 : decode cX3_settle 25 = .ok (.iload_n 1, 1) := by decide +kernel
theorem dX3_settle_26 : decode cX3_settle 26 = .ok (.iconst 1, 1) := by decide +kernel
theorem dX3_settle_27 : decode cX3_settle 27 = .ok (.iadd, 1) := by decide +kernel
theorem dX3_settle_28 : decode cX3_settle 28 = .ok (.putfield 28, 3) := by decide +kernel
theorem dX3_settle_31 : decode cX3_settle 31 = .ok (.aload_n 0, 1) := by decide +kernel
theorem dX3_settle_32 : decode cX3_settle 32 = .ok (.iload_n 2, 1) := by decide +kernel
theorem dX3_settle_33 : decode cX3_settle 33 = .ok (.iconst 0, 1) := by decide +kernel
theorem dX3_settle_34 : decode cX3_settle 34 = .ok (.iconst 1, 1) := by decide +kernel
theorem dX3_settle_35 : decode cX3_settle 35 = .ok (.iload_n 1, 1) := by decide +kernel
theorem dX3_settle_36 : decode cX3_settle 36 = .ok (.ishl, 1) := by decide +kernel
theorem dX3_settle_37 : decode cX3_settle 37 = .ok (.invokevirtual 35, 3) := by decide +kernel
theorem dX3_settle_40 : decode cX3_settle 40 = .ok (.aload_n 0, 1) := by decide +kernel
theorem dX3_settle_41 : decode cX3_settle 41 = .ok (.getfield 22, 3) := by decide +kernel
theorem dX3_settle_44 : decode cX3_settle 44 = .ok (.bipush 32, 2) := by decide +kernel
theorem dX3_settle_46 : decode cX3_settle 46 = .ok (.dup2, 1) := by decide +kernel
theorem dX3_settle_47 : decode cX3_settle 47 = .ok (.iaload, 1) := by decide +kernel
theorem dX3_settle_48 : decode cX3_settle 48 = .ok (.iconst 1, 1) := by decide +kernel
theorem dX3_settle_49 : decode cX3_settle 49 = .ok (.iload_n 1, 1) := by decide +kernel
theorem dX3_settle_50 : decode cX3_settle 50 = .ok (.ishl, 1) := by decide +kernel
theorem dX3_settle_51 : decode cX3_settle 51 = .ok (.ior, 1) := by decide +kernel
theorem dX3_settle_52 : decode cX3_settle 52 = .ok (.iastore, 1) := by decide +kernel
theorem dX3_settle_53 : decode cX3_settle 53 = .ok (.return_, 1) := by decide +kernel
theorem dX3_climb_0 : decode cX3_climb 0 = .ok (.iload_n 1, 1) := by decide +kernel
theorem dX3_climb_1 : decode cX3_climb 1 = .ok (.istore 4, 2) := by decide +kernel
theorem dX3_climb_3 : decode cX3_climb 3 = .ok (.iconst 0, 1) := by decide +kernel
theorem dX3_climb_4 : decode cX3_climb 4 = .ok (.istore 5, 2) := by decide +kernel
theorem dX3_climb_6 : decode cX3_climb 6 = .ok (.iload 5, 2) := by decide +kernel
theorem dX3_climb_8 : decode cX3_climb 8 = .ok (.bipush 32, 2) := by decide +kernel
theorem dX3_climb_10 : decode cX3_climb 10 = .ok (.if_icmp .ge 51, 3) := by decide +kernel
theorem dX3_climb_13 : decode cX3_climb 13 = .ok (.iload 4, 2) := by decide +kernel
theorem dX3_climb_15 : decode cX3_climb 15 = .ok (.iconst 0, 1) := by decide +kernel
theorem dX3_climb_16 : decode cX3_climb 16 = .ok (.bipush 31, 2) := by decide +kernel
theorem dX3_climb_18 : decode cX3_climb 18 = .ok (.invokestatic 31, 3) := by decide +kernel
theorem dX3_climb_21 : decode cX3_climb 21 = .ok (.ifCond .eq 40, 3) := by decide +kernel
theorem dX3_climb_24 : decode cX3_climb 24 = .ok (.aload_n 0, 1) := by decide +kernel
theorem dX3_climb_25 : decode cX3_climb 25 = .ok (.getfield 19, 3) := by decide +kernel
theorem dX3_climb_28 : decode cX3_climb 28 = .ok (.iload 4, 2) := by decide +kernel
theorem dX3_climb_30 : decode cX3_climb 30 = .ok (.dup2, 1) := by decide +kernel
theorem dX3_climb_31 : decode cX3_climb 31 = .ok (.iaload, 1) := by decide +kernel
theorem dX3_climb_32 : decode cX3_climb 32 = .ok (.iload_n 2, 1) := by decide +kernel
theorem dX3_climb_33 : decode cX3_climb 33 = .ok (.iadd, 1) := by decide +kernel
theorem dX3_climb_34 : decode cX3_climb 34 = .ok (.iastore, 1) := by decide +kernel
theorem dX3_climb_35 : decode cX3_climb 35 = .ok (.aload_n 0, 1) := by decide +kernel
theorem dX3_climb_36 : decode cX3_climb 36 = .ok (.getfield 22, 3) := by decide +kernel
theorem dX3_climb_39 : decode cX3_climb 39 = .ok (.iload 4, 2) := by decide +kernel
theorem dX3_climb_41 : decode cX3_climb 41 = .ok (.dup2, 1) := by decide +kernel
theorem dX3_climb_42 : decode cX3_climb 42 = .ok (.iaload, 1) := by decide +kernel
theorem dX3_climb_43 : decode cX3_climb 43 = .ok (.iload_n 3, 1) := by decide +kernel
theorem dX3_climb_44 : decode cX3_climb 44 = .ok (.ior, 1) := by decide +kernel
theorem dX3_climb_45 : decode cX3_climb 45 = .ok (.iastore, 1) := by decide +kernel
theorem dX3_climb_46 : decode cX3_climb 46 = .ok (.aload_n 0, 1) := by decide +kernel
theorem dX3_climb_47 : decode cX3_climb 47 = .ok (.getfield 15, 3) := by decide +kernel
theorem dX3_climb_50 : decode cX3_climb 50 = .ok (.iload 4, 2) := by decide +kernel
theorem dX3_climb_52 : decode cX3_climb 52 = .ok (.iaload, 1) := by decide +kernel
theorem dX3_climb_53 : decode cX3_climb 53 = .ok (.istore 4, 2) := by decide +kernel
theorem dX3_climb_55 : decode cX3_climb 55 = .ok (.iinc 5 1, 3) := by decide +kernel
theorem dX3_climb_58 : decode cX3_climb 58 = .ok (.goto (-52), 3) := by decide +kernel
theorem dX3_climb_61 : decode cX3_climb 61 = .ok (.return_, 1) := by decide +kernel
theorem dX3_raised_0 : decode cX3_raised 0 = .ok (.iload_n 1, 1) := by decide +kernel
theorem dX3_raised_1 : decode cX3_raised 1 = .ok (.istore_n 3, 1) := by decide +kernel
theorem dX3_raised_2 : decode cX3_raised 2 = .ok (.iconst 0, 1) := by decide +kernel
theorem dX3_raised_3 : decode cX3_raised 3 = .ok (.istore 4, 2) := by decide +kernel
theorem dX3_raised_5 : decode cX3_raised 5 = .ok (.iload 4, 2) := by decide +kernel
theorem dX3_raised_7 : decode cX3_raised 7 = .ok (.iload_n 2, 1) := by decide +kernel
theorem dX3_raised_8 : decode cX3_raised 8 = .ok (.if_icmp .ge 41, 3) := by decide +kernel
theorem dX3_raised_11 : decode cX3_raised 11 = .ok (.iload_n 3, 1) := by decide +kernel
theorem dX3_raised_12 : decode cX3_raised 12 = .ok (.iconst 0, 1) := by decide +kernel
theorem dX3_raised_13 : decode cX3_raised 13 = .ok (.bipush 31, 2) := by decide +kernel
theorem dX3_raised_15 : decode cX3_raised 15 = .ok (.invokestatic 31, 3) := by decide +kernel
theorem dX3_raised_18 : decode cX3_raised 18 = .ok (.ifCond .eq 31, 3) := by decide +kernel
theorem dX3_raised_21 : decode cX3_raised 21 = .ok (.aload_n 0, 1) := by decide +kernel
theorem dX3_raised_22 : decode cX3_raised 22 = .ok (.getfield 15, 3) := by decide +kernel
theorem dX3_raised_25 : decode cX3_raised 25 = .ok (.iload_n 3, 1) := by decide +kernel
theorem dX3_raised_26 : decode cX3_raised 26 = .ok (.iaload, 1) := by decide +kernel
theorem dX3_raised_27 : decode cX3_raised 27 = .ok (.iconst (-1), 1) := by decide +kernel
theorem dX3_raised_28 : decode cX3_raised 28 = .ok (.if_icmp .ne 8, 3) := by decide +kernel
theorem dX3_raised_31 : decode cX3_raised 31 = .ok (.bipush 32, 2) := by decide +kernel
theorem dX3_raised_33 : decode cX3_raised 33 = .ok (.goto 9, 3) := by decide +kernel
theorem dX3_raised_42 : decode cX3_raised 42 = .ok (.istore_n 3, 1) := by decide +kernel
theorem dX3_raised_43 : decode cX3_raised 43 = .ok (.iinc 4 1, 3) := by decide +kernel
theorem dX3_raised_46 : decode cX3_raised 46 = .ok (.goto (-41), 3) := by decide +kernel
theorem dX3_raised_49 : decode cX3_raised 49 = .ok (.iload_n 3, 1) := by decide +kernel
theorem dX3_raised_50 : decode cX3_raised 50 = .ok (.ireturn, 1) := by decide +kernel
theorem dX3_valueOf_0 : decode cX3_valueOf 0 = .ok (.iload_n 1, 1) := by decide +kernel
theorem dX3_valueOf_1 : decode cX3_valueOf 1 = .ok (.ifCond .lt 18, 3) := by decide +kernel
theorem dX3_valueOf_4 : decode cX3_valueOf 4 = .ok (.iload_n 1, 1) := by decide +kernel
theorem dX3_valueOf_5 : decode cX3_valueOf 5 = .ok (.bipush 16, 2) := by decide +kernel
theorem dX3_valueOf_7 : decode cX3_valueOf 7 = .ok (.if_icmp .ge 12, 3) := by decide +kernel
theorem dX3_valueOf_10 : decode cX3_valueOf 10 = .ok (.aload_n 0, 1) := by decide +kernel
theorem dX3_valueOf_11 : decode cX3_valueOf 11 = .ok (.getfield 25, 3) := by decide +kernel
theorem dX3_valueOf_14 : decode cX3_valueOf 14 = .ok (.iload_n 1, 1) := by decide +kernel
theorem dX3_valueOf_15 : decode cX3_valueOf 15 = .ok (.iaload, 1) := by decide +kernel
theorem dX3_valueOf_16 : decode cX3_valueOf 16 = .ok (.goto 4, 3) := by decide +kernel
theorem dX3_valueOf_19 : decode cX3_valueOf 19 = .ok (.iconst 0, 1) := by decide +kernel
theorem dX3_valueOf_20 : decode cX3_valueOf 20 = .ok (.ireturn, 1) := by decide +kernel
theorem dX3_valuesBelow_0 : decode cX3_valuesBelow 0 = .ok (.iload_n 1, 1) := by decide +kernel
theorem dX3_valuesBelow_1 : decode cX3_valuesBelow 1 = .ok (.ifCond .lt 18, 3) := by decide +kernel
theorem dX3_valuesBelow_4 : decode cX3_valuesBelow 4 = .ok (.iload_n 1, 1) := by decide +kernel
theorem dX3_valuesBelow_5 : decode cX3_valuesBelow 5 = .ok (.bipush 32, 2) := by decide +kernel
theorem dX3_valuesBelow_7 : decode cX3_valuesBelow 7 = .ok (.if_icmp .gt 12, 3) := by decide +kernel
theorem dX3_valuesBelow_10 : decode cX3_valuesBelow 10 = .ok (.aload_n 0, 1) := by decide +kernel
theorem dX3_valuesBelow_11 : decode cX3_valuesBelow 11 = .ok (.getfield 19, 3) := by decide +kernel
theorem dX3_valuesBelow_14 : decode cX3_valuesBelow 14 = .ok (.iload_n 1, 1) := by decide +kernel
theorem dX3_valuesBelow_15 : decode cX3_valuesBelow 15 = .ok (.iaload, 1) := by decide +kernel
theorem dX3_valuesBelow_16 : decode cX3_valuesBelow 16 = .ok (.goto 4, 3) := by decide +kernel
theorem dX3_valuesBelow_20 : decode cX3_valuesBelow 20 = .ok (.ireturn, 1) := by decide +kernel
theorem dX4_init_0 : decode cX4_init 0 = .ok (.aload_n 0, 1) := by decide +kernel
theorem dX4_init_1 : decode cX4_init 1 = .ok (.invokespecial 3, 3) := by decide +kernel
theorem dX4_init_4 : decode cX4_init 4 = .ok (.aload_n 0, 1) := by decide +kernel
theorem dX4_init_5 : decode cX4_init 5 = .ok (.iconst 0, 1) := by decide +kernel
theorem dX4_init_6 : decode cX4_init 6 = .ok (.putfield 9, 3) := by decide +kernel
theorem dX4_init_9 : decode cX4_init 9 = .ok (.aload_n 0, 1) := by decide +kernel
theorem dX4_init_10 : decode cX4_init 10 = .ok (.iconst (-1), 1) := by decide +kernel
theorem dX4_init_11 : decode cX4_init 11 = .ok (.putfield 15, 3) := by decide +kernel
theorem dX4_init_14 : decode cX4_init 14 = .ok (.aload_n 0, 1) := by decide +kernel
theorem dX4_init_15 : decode cX4_init 15 = .ok (.iconst 0, 1) := by decide +kernel
theorem dX4_init_16 : decode cX4_init 16 = .ok (.putfield 19, 3) := by decide +kernel
theorem dX4_init_19 : decode cX4_init 19 = .ok (.aload_n 0, 1) := by decide +kernel
theorem dX4_init_20 : decode cX4_init 20 = .ok (.iconst 0, 1) := by decide +kernel
theorem dX4_init_21 : decode cX4_init 21 = .ok (.putfield 22, 3) := by decide +kernel
theorem dX4_init_24 : decode cX4_init 24 = .ok (.aload_n 0, 1) := by decide +kernel
theorem dX4_init_25 : decode cX4_init 25 = .ok (.iconst 0, 1) := by decide +kernel
theorem dX4_init_26 : decode cX4_init 26 = .ok (.putfield 25, 3) := by decide +kernel
theorem dX4_init_29 : decode cX4_init 29 = .ok (.aload_n 0, 1) := by decide +kernel
theorem dX4_init_30 : decode cX4_init 30 = .ok (.iconst (-1), 1) := by decide +kernel
theorem dX4_init_31 : decode cX4_init 31 = .ok (.putfield 28, 3) := by decide +kernel
theorem dX4_init_34 : decode cX4_init 34 = .ok (.aload_n 0, 1) := by decide +kernel
theorem dX4_init_35 : decode cX4_init 35 = .ok (.bipush 7, 2) := by decide +kernel
theorem dX4_init_37 : decode cX4_init 37 = .ok (.newarray .int, 2) := by decide +kernel
theorem dX4_init_39 : decode cX4_init 39 = .ok (.putfield 31, 3) := by decide +kernel
theorem dX4_init_42 : decode cX4_init 42 = .ok (.aload_n 0, 1) := by decide +kernel
theorem dX4_init_43 : decode cX4_init 43 = .ok (.bipush 100, 2) := by decide +kernel
theorem dX4_init_45 : decode cX4_init 45 = .ok (.newarray .int, 2) := by decide +kernel
theorem dX4_init_47 : decode cX4_init 47 = .ok (.putfield 35, 3) := by decide +kernel
theorem dX4_init_50 : decode cX4_init 50 = .ok (.aload_n 0, 1) := by decide +kernel
theorem dX4_init_51 : decode cX4_init 51 = .ok (.iconst 0, 1) := by decide +kernel
theorem dX4_init_52 : decode cX4_init 52 = .ok (.putfield 38, 3) := by decide +kernel
theorem dX4_init_55 : decode cX4_init 55 = .ok (.aload_n 0, 1) := by decide +kernel
theorem dX4_init_56 : decode cX4_init 56 = .ok (.iconst 0, 1) := by decide +kernel
theorem dX4_init_57 : decode cX4_init 57 = .ok (.putfield 41, 3) := by decide +kernel
theorem dX4_init_60 : decode cX4_init 60 = .ok (.aload_n 0, 1) := by decide +kernel
theorem dX4_init_61 : decode cX4_init 61 = .ok (.iconst 0, 1) := by decide +kernel
theorem dX4_init_62 : decode cX4_init 62 = .ok (.putfield 44, 3) := by decide +kernel
theorem dX4_init_65 : decode cX4_init 65 = .ok (.return_, 1) := by decide +kernel
theorem dX5_init_0 : decode cX5_init 0 = .ok (.aload_n 0, 1) := by decide +kernel
theorem dX5_init_1 : decode cX5_init 1 = .ok (.invokespecial 3, 3) := by decide +kernel
theorem dX5_init_4 : decode cX5_init 4 = .ok (.aload_n 0, 1) := by decide +kernel
theorem dX5_init_5 : decode cX5_init 5 = .ok (.iconst 0, 1) := by decide +kernel
theorem dX5_init_6 : decode cX5_init 6 = .ok (.putfield 9, 3) := by decide +kernel
theorem dX5_init_9 : decode cX5_init 9 = .ok (.aload_n 0, 1) := by decide +kernel
theorem dX5_init_10 : decode cX5_init 10 = .ok (.bipush 40, 2) := by decide +kernel
theorem dX5_init_12 : decode cX5_init 12 = .ok (.newarray .int, 2) := by decide +kernel
theorem dX5_init_14 : decode cX5_init 14 = .ok (.putfield 15, 3) := by decide +kernel
theorem dX5_init_17 : decode cX5_init 17 = .ok (.aload_n 0, 1) := by decide +kernel
theorem dX5_init_18 : decode cX5_init 18 = .ok (.bipush 40, 2) := by decide +kernel
theorem dX5_init_20 : decode cX5_init 20 = .ok (.newarray .int, 2) := by decide +kernel
theorem dX5_init_22 : decode cX5_init 22 = .ok (.putfield 19, 3) := by decide +kernel
theorem dX5_init_25 : decode cX5_init 25 = .ok (.return_, 1) := by decide +kernel
theorem dX6_init_0 : decode cX6_init 0 = .ok (.aload_n 0, 1) := by decide +kernel
theorem dX6_init_1 : decode cX6_init 1 = .ok (.invokespecial 3, 3) := by decide +kernel
theorem dX6_init_4 : decode cX6_init 4 = .ok (.aload_n 0, 1) := by decide +kernel
theorem dX6_init_5 : decode cX6_init 5 = .ok (.iconst 0, 1) := by decide +kernel
theorem dX6_init_6 : decode cX6_init 6 = .ok (.putfield 9, 3) := by decide +kernel
theorem dX6_init_9 : decode cX6_init 9 = .ok (.aload_n 0, 1) := by decide +kernel
theorem dX6_init_10 : decode cX6_init 10 = .ok (.iconst 0, 1) := by decide +kernel
theorem dX6_init_11 : decode cX6_init 11 = .ok (.putfield 15, 3) := by decide +kernel
theorem dX6_init_14 : decode cX6_init 14 = .ok (.aload_n 0, 1) := by decide +kernel
theorem dX6_init_15 : decode cX6_init 15 = .ok (.iconst 0, 1) := by decide +kernel
theorem dX6_init_16 : decode cX6_init 16 = .ok (.putfield 18, 3) := by decide +kernel
theorem dX6_init_19 : decode cX6_init 19 = .ok (.aload_n 0, 1) := by decide +kernel
theorem dX6_init_20 : decode cX6_init 20 = .ok (.iconst 0, 1) := by decide +kernel
theorem dX6_init_21 : decode cX6_init 21 = .ok (.putfield 21, 3) := by decide +kernel
theorem dX6_init_24 : decode cX6_init 24 = .ok (.aload_n 0, 1) := by decide +kernel
theorem dX6_init_25 : decode cX6_init 25 = .ok (.bipush 8, 2) := by decide +kernel
theorem dX6_init_27 : decode cX6_init 27 = .ok (.newarray .int, 2) := by decide +kernel
theorem dX6_init_29 : decode cX6_init 29 = .ok (.putfield 24, 3) := by decide +kernel
theorem dX6_init_32 : decode cX6_init 32 = .ok (.aload_n 0, 1) := by decide +kernel
theorem dX6_init_33 : decode cX6_init 33 = .ok (.bipush 8, 2) := by decide +kernel
theorem dX6_init_35 : decode cX6_init 35 = .ok (.newarray .int, 2) := by decide +kernel
theorem dX6_init_37 : decode cX6_init 37 = .ok (.putfield 28, 3) := by decide +kernel
theorem dX6_init_40 : decode cX6_init 40 = .ok (.aload_n 0, 1) := by decide +kernel
theorem dX6_init_41 : decode cX6_init 41 = .ok (.bipush 8, 2) := by decide +kernel
theorem dX6_init_43 : decode cX6_init 43 = .ok (.newarray .int, 2) := by decide +kernel
theorem dX6_init_45 : decode cX6_init 45 = .ok (.putfield 31, 3) := by decide +kernel
theorem dX6_init_48 : decode cX6_init 48 = .ok (.aload_n 0, 1) := by decide +kernel
theorem dX6_init_49 : decode cX6_init 49 = .ok (.sipush 256, 3) := by decide +kernel
theorem dX6_init_52 : decode cX6_init 52 = .ok (.newarray .int, 2) := by decide +kernel
theorem dX6_init_54 : decode cX6_init 54 = .ok (.putfield 34, 3) := by decide +kernel
theorem dX6_init_57 : decode cX6_init 57 = .ok (.aload_n 0, 1) := by decide +kernel
theorem dX6_init_58 : decode cX6_init 58 = .ok (.sipush 256, 3) := by decide +kernel
theorem dX6_init_61 : decode cX6_init 61 = .ok (.newarray .long, 2) := by decide +kernel
theorem dX6_init_63 : decode cX6_init 63 = .ok (.putfield 37, 3) := by decide +kernel
theorem dX6_init_66 : decode cX6_init 66 = .ok (.aload_n 0, 1) := by decide +kernel
theorem dX6_init_67 : decode cX6_init 67 = .ok (.bipush 8, 2) := by decide +kernel
theorem dX6_init_69 : decode cX6_init 69 = .ok (.newarray .int, 2) := by decide +kernel
theorem dX6_init_71 : decode cX6_init 71 = .ok (.putfield 41, 3) := by decide +kernel
theorem dX6_init_74 : decode cX6_init 74 = .ok (.return_, 1) := by decide +kernel
theorem dX7_init_0 : decode cX7_init 0 = .ok (.aload_n 0, 1) := by decide +kernel
theorem dX7_init_1 : decode cX7_init 1 = .ok (.invokespecial 3, 3) := by decide +kernel
theorem dX7_init_4 : decode cX7_init 4 = .ok (.aload_n 0, 1) := by decide +kernel
theorem dX7_init_5 : decode cX7_init 5 = .ok (.iconst 0, 1) := by decide +kernel
theorem dX7_init_6 : decode cX7_init 6 = .ok (.putfield 9, 3) := by decide +kernel
theorem dX7_init_9 : decode cX7_init 9 = .ok (.aload_n 0, 1) := by decide +kernel
theorem dX7_init_10 : decode cX7_init 10 = .ok (.sipush 200, 3) := by decide +kernel
theorem dX7_init_13 : decode cX7_init 13 = .ok (.newarray .int, 2) := by decide +kernel
theorem dX7_init_15 : decode cX7_init 15 = .ok (.putfield 15, 3) := by decide +kernel
theorem dX7_init_18 : decode cX7_init 18 = .ok (.return_, 1) := by decide +kernel
theorem dX7_append_0 : decode cX7_append 0 = .ok (.bipush 24, 2) := by decide +kernel
theorem dX7_append_2 : decode cX7_append 2 = .ok (.istore_n 2, 1) := by decide +kernel
theorem dX7_append_3 : decode cX7_append 3 = .ok (.iload_n 2, 1) := by decide +kernel
theorem dX7_append_4 : decode cX7_append 4 = .ok (.ifCond .lt 45, 3) := by decide +kernel
theorem dX7_append_7 : decode cX7_append 7 = .ok (.aload_n 0, 1) := by decide +kernel
theorem dX7_append_8 : decode cX7_append 8 = .ok (.getfield 9, 3) := by decide +kernel
theorem dX7_append_11 : decode cX7_append 11 = .ok (.sipush 200, 3) := by decide +kernel
theorem dX7_append_14 : decode cX7_append 14 = .ok (.if_icmp .ge 35, 3) := by decide +kernel
theorem dX7_append_17 : decode cX7_append 17 = .ok (.aload_n 0, 1) := by decide +kernel
theorem dX7_append_18 : decode cX7_append 18 = .ok (.getfield 15, 3) := by decide +kernel
theorem dX7_append_21 : decode cX7_append 21 = .ok (.aload_n 0, 1) := by decide +kernel
theorem dX7_append_22 : decode cX7_append 22 = .ok (.getfield 9, 3) := by decide +kernel
theorem dX7_append_25 : decode cX7_append 25 = .ok (.iload_n 1, 1) := by decide +kernel
theorem dX7_append_26 : decode cX7_append 26 = .ok (.iload_n 2, 1) := by decide +kernel
theorem dX7_append_27 : decode cX7_append 27 = .ok (.iushr, 1) := by decide +kernel
theorem dX7_append_28 : decode cX7_append 28 = .ok (.sipush 255, 3) := by decide +kernel
theorem dX7_append_31 : decode cX7_append 31 = .ok (.iand, 1) := by decide +kernel
theorem dX7_append_32 : decode cX7_append 32 = .ok (.iastore, 1) := by decide +kernel
theorem dX7_append_33 : decode cX7_append 33 = .ok (.aload_n 0, 1) := by decide +kernel
theorem dX7_append_34 : decode cX7_append 34 = .ok (.dup, 1) := by decide +kernel
theorem dX7_append_35 : decode cX7_append 35 = .ok (.getfield 9, 3) := by decide +kernel
theorem dX7_append_38 : decode cX7_append 38 = .ok (.iconst 1, 1) := by decide +kernel
theorem dX7_append_39 : decode cX7_append 39 = .ok (.iadd, 1) := by decide +kernel
theorem dX7_append_40 : decode cX7_append 40 = .ok (.putfield 9, 3) := by decide +kernel
theorem dX7_append_43 : decode cX7_append 43 = .ok (.iinc 2 (-8), 3) := by decide +kernel
theorem dX7_append_46 : decode cX7_append 46 = .ok (.goto (-43), 3) := by decide +kernel
theorem dX7_append_49 : decode cX7_append 49 = .ok (.return_, 1) := by decide +kernel
theorem dX8_init_0 : decode cX8_init 0 = .ok (.aload_n 0, 1) := by decide +kernel
theorem dX8_init_1 : decode cX8_init 1 = .ok (.invokespecial 1, 3) := by decide +kernel
theorem dX8_init_4 : decode cX8_init 4 = .ok (.aload_n 0, 1) := by decide +kernel
theorem dX8_init_5 : decode cX8_init 5 = .ok (.iconst 4, 1) := by decide +kernel
theorem dX8_init_6 : decode cX8_init 6 = .ok (.anewarray 9, 3) := by decide +kernel
theorem dX8_init_9 : decode cX8_init 9 = .ok (.putfield 11, 3) := by decide +kernel
theorem dX8_init_12 : decode cX8_init 12 = .ok (.aload_n 0, 1) := by decide +kernel
theorem dX8_init_13 : decode cX8_init 13 = .ok (.bipush 16, 2) := by decide +kernel
theorem dX8_init_15 : decode cX8_init 15 = .ok (.newarray .int, 2) := by decide +kernel
theorem dX8_init_17 : decode cX8_init 17 = .ok (.putfield 15, 3) := by decide +kernel
theorem dX8_init_20 : decode cX8_init 20 = .ok (.aload_n 0, 1) := by decide +kernel
theorem dX8_init_21 : decode cX8_init 21 = .ok (.new 19, 3) := by decide +kernel
theorem dX8_init_24 : decode cX8_init 24 = .ok (.dup, 1) := by decide +kernel
theorem dX8_init_25 : decode cX8_init 25 = .ok (.invokespecial 21, 3) := by decide +kernel
theorem dX8_init_28 : decode cX8_init 28 = .ok (.putfield 22, 3) := by decide +kernel
theorem dX8_init_31 : decode cX8_init 31 = .ok (.aload_n 0, 1) := by decide +kernel
theorem dX8_init_32 : decode cX8_init 32 = .ok (.iconst 4, 1) := by decide +kernel
theorem dX8_init_33 : decode cX8_init 33 = .ok (.anewarray 26, 3) := by decide +kernel
theorem dX8_init_36 : decode cX8_init 36 = .ok (.putfield 28, 3) := by decide +kernel
theorem dX8_init_39 : decode cX8_init 39 = .ok (.aload_n 0, 1) := by decide +kernel
theorem dX8_init_40 : decode cX8_init 40 = .ok (.new 32, 3) := by decide +kernel
theorem dX8_init_43 : decode cX8_init 43 = .ok (.dup, 1) := by decide +kernel
theorem dX8_init_44 : decode cX8_init 44 = .ok (.invokespecial 34, 3) := by decide +kernel
theorem dX8_init_47 : decode cX8_init 47 = .ok (.putfield 35, 3) := by decide +kernel
theorem dX8_init_50 : decode cX8_init 50 = .ok (.aload_n 0, 1) := by decide +kernel
theorem dX8_init_51 : decode cX8_init 51 = .ok (.bipush 8, 2) := by decide +kernel
theorem dX8_init_53 : decode cX8_init 53 = .ok (.anewarray 39, 3) := by decide +kernel
theorem dX8_init_56 : decode cX8_init 56 = .ok (.putfield 41, 3) := by decide +kernel
theorem dX8_init_59 : decode cX8_init 59 = .ok (.aload_n 0, 1) := by decide +kernel
theorem dX8_init_60 : decode cX8_init 60 = .ok (.new 45, 3) := by decide +kernel
theorem dX8_init_63 : decode cX8_init 63 = .ok (.dup, 1) := by decide +kernel
theorem dX8_init_64 : decode cX8_init 64 = .ok (.invokespecial 47, 3) := by decide +kernel
theorem dX8_init_67 : decode cX8_init 67 = .ok (.putfield 48, 3) := by decide +kernel
theorem dX8_init_70 : decode cX8_init 70 = .ok (.aload_n 0, 1) := by decide +kernel
theorem dX8_init_71 : decode cX8_init 71 = .ok (.new 52, 3) := by decide +kernel
theorem dX8_init_74 : decode cX8_init 74 = .ok (.dup, 1) := by decide +kernel
theorem dX8_init_75 : decode cX8_init 75 = .ok (.invokespecial 54, 3) := by decide +kernel
theorem dX8_init_78 : decode cX8_init 78 = .ok (.putfield 55, 3) := by decide +kernel
theorem dX8_init_81 : decode cX8_init 81 = .ok (.aload_n 0, 1) := by decide +kernel
theorem dX8_init_82 : decode cX8_init 82 = .ok (.new 59, 3) := by decide +kernel
theorem dX8_init_85 : decode cX8_init 85 = .ok (.dup, 1) := by decide +kernel
theorem dX8_init_86 : decode cX8_init 86 = .ok (.invokespecial 61, 3) := by decide +kernel
theorem dX8_init_89 : decode cX8_init 89 = .ok (.putfield 62, 3) := by decide +kernel
theorem dX8_init_92 : decode cX8_init 92 = .ok (.aload_n 0, 1) := by decide +kernel
theorem dX8_init_93 : decode cX8_init 93 = .ok (.bipush 7, 2) := by decide +kernel
theorem dX8_init_95 : decode cX8_init 95 = .ok (.newarray .int, 2) := by decide +kernel
theorem dX8_init_97 : decode cX8_init 97 = .ok (.putfield 66, 3) := by decide +kernel
theorem dX8_init_100 : decode cX8_init 100 = .ok (.aload_n 0, 1) := by decide +kernel
theorem dX8_init_101 : decode cX8_init 101 = .ok (.new 39, 3) := by decide +kernel
theorem dX8_init_104 : decode cX8_init 104 = .ok (.dup, 1) := by decide +kernel
theorem dX8_init_105 : decode cX8_init 105 = .ok (.invokespecial 69, 3) := by decide +kernel
theorem dX8_init_108 : decode cX8_init 108 = .ok (.putfield 70, 3) := by decide +kernel
theorem dX8_init_111 : decode cX8_init 111 = .ok (.aload_n 0, 1) := by decide +kernel
theorem dX8_init_112 : decode cX8_init 112 = .ok (.iconst 0, 1) := by decide +kernel
theorem dX8_init_113 : decode cX8_init 113 = .ok (.putfield 74, 3) := by decide +kernel
theorem dX8_init_116 : decode cX8_init 116 = .ok (.aload_n 0, 1) := by decide +kernel
theorem dX8_init_117 : decode cX8_init 117 = .ok (.iconst 0, 1) := by decide +kernel
theorem dX8_init_118 : decode cX8_init 118 = .ok (.putfield 78, 3) := by decide +kernel
theorem dX8_init_121 : decode cX8_init 121 = .ok (.iconst 0, 1) := by decide +kernel
theorem dX8_init_122 : decode cX8_init 122 = .ok (.istore_n 1, 1) := by decide +kernel
theorem dX8_init_123 : decode cX8_init 123 = .ok (.iload_n 1, 1) := by decide +kernel
theorem dX8_init_124 : decode cX8_init 124 = .ok (.iconst 4, 1) := by decide +kernel
theorem dX8_init_125 : decode cX8_init 125 = .ok (.if_icmp .ge 22, 3) := by decide +kernel
theorem dX8_init_128 : decode cX8_init 128 = .ok (.aload_n 0, 1) := by decide +kernel
theorem dX8_init_129 : decode cX8_init 129 = .ok (.getfield 11, 3) := by decide +kernel
theorem dX8_init_132 : decode cX8_init 132 = .ok (.iload_n 1, 1) := by decide +kernel
theorem dX8_init_133 : decode cX8_init 133 = .ok (.new 9, 3) := by decide +kernel
theorem dX8_init_136 : decode cX8_init 136 = .ok (.dup, 1) := by decide +kernel
theorem dX8_init_137 : decode cX8_init 137 = .ok (.invokespecial 81, 3) := by decide +kernel
theorem dX8_init_140 : decode cX8_init 140 = .ok (.aastore, 1) := by decide +kernel
theorem dX8_init_141 : decode cX8_init 141 = .ok (.iinc 1 1, 3) := by decide +kernel
theorem dX8_init_144 : decode cX8_init 144 = .ok (.goto (-21), 3) := by decide +kernel
theorem dX8_init_147 : decode cX8_init 147 = .ok (.iconst 0, 1) := by decide +kernel
theorem dX8_init_148 : decode cX8_init 148 = .ok (.istore_n 1, 1) := by decide +kernel
theorem dX8_init_149 : decode cX8_init 149 = .ok (.iload_n 1, 1) := by decide +kernel
theorem dX8_init_150 : decode cX8_init 150 = .ok (.iconst 4, 1) := by decide +kernel
theorem dX8_init_151 : decode cX8_init 151 = .ok (.if_icmp .ge 22, 3) := by decide +kernel
theorem dX8_init_154 : decode cX8_init 154 = .ok (.aload_n 0, 1) := by decide +kernel
theorem dX8_init_155 : decode cX8_init 155 = .ok (.getfield 28, 3) := by decide +kernel
theorem dX8_init_158 : decode cX8_init 158 = .ok (.iload_n 1, 1) := by decide +kernel
theorem dX8_init_159 : decode cX8_init 159 = .ok (.new 26, 3) := by decide +kernel
theorem dX8_init_162 : decode cX8_init 162 = .ok (.dup, 1) := by decide +kernel
theorem dX8_init_163 : decode cX8_init 163 = .ok (.invokespecial 82, 3) := by decide +kernel
theorem dX8_init_166 : decode cX8_init 166 = .ok (.aastore, 1) := by decide +kernel
theorem dX8_init_167 : decode cX8_init 167 = .ok (.iinc 1 1, 3) := by decide +kernel
theorem dX8_init_170 : decode cX8_init 170 = .ok (.goto (-21), 3) := by decide +kernel
theorem dX8_init_173 : decode cX8_init 173 = .ok (.iconst 0, 1) := by decide +kernel
theorem dX8_init_174 : decode cX8_init 174 = .ok (.istore_n 1, 1) := by decide +kernel
theorem dX8_init_175 : decode cX8_init 175 = .ok (.iload_n 1, 1) := by decide +kernel
theorem dX8_init_176 : decode cX8_init 176 = .ok (.bipush 8, 2) := by decide +kernel
theorem dX8_init_178 : decode cX8_init 178 = .ok (.if_icmp .ge 22, 3) := by decide +kernel
theorem dX8_init_181 : decode cX8_init 181 = .ok (.aload_n 0, 1) := by decide +kernel
theorem dX8_init_182 : decode cX8_init 182 = .ok (.getfield 41, 3) := by decide +kernel
theorem dX8_init_185 : decode cX8_init 185 = .ok (.iload_n 1, 1) := by decide +kernel
theorem dX8_init_186 : decode cX8_init 186 = .ok (.new 39, 3) := by decide +kernel
theorem dX8_init_189 : decode cX8_init 189 = .ok (.dup, 1) := by decide +kernel
theorem dX8_init_190 : decode cX8_init 190 = .ok (.invokespecial 69, 3) := by decide +kernel
theorem dX8_init_193 : decode cX8_init 193 = .ok (.aastore, 1) := by decide +kernel
theorem dX8_init_194 : decode cX8_init 194 = .ok (.iinc 1 1, 3) := by decide +kernel
theorem dX8_init_197 : decode cX8_init 197 = .ok (.goto (-22), 3) := by decide +kernel
theorem dX8_init_200 : decode cX8_init 200 = .ok (.return_, 1) := by decide +kernel
theorem dX8_upper_0 : decode cX8_upper 0 = .ok (.iload_n 1, 1) := by decide +kernel
theorem dX8_upper_1 : decode cX8_upper 1 = .ok (.invokestatic 83, 3) := by decide +kernel
theorem dX8_upper_4 : decode cX8_upper 4 = .ok (.ifCond .eq 13, 3) := by decide +kernel
theorem dX8_upper_7 : decode cX8_upper 7 = .ok (.iload_n 2, 1) := by decide +kernel
theorem dX8_upper_8 : decode cX8_upper 8 = .ok (.iconst 0, 1) := by decide +kernel
theorem dX8_upper_9 : decode cX8_upper 9 = .ok (.bipush 31, 2) := by decide +kernel
theorem dX8_upper_11 : decode cX8_upper 11 = .ok (.invokestatic 87, 3) := by decide +kernel
theorem dX8_upper_14 : decode cX8_upper 14 = .ok (.ifCond .ne 5, 3) := by decide +kernel
theorem dX8_upper_17 : decode cX8_upper 17 = .ok (.iconst 0, 1) := by decide +kernel
theorem dX8_upper_18 : decode cX8_upper 18 = .ok (.ireturn, 1) := by decide +kernel
theorem dX8_upper_19 : decode cX8_upper 19 = .ok (.iload_n 3, 1) := by decide +kernel
theorem dX8_upper_20 : decode cX8_upper 20 = .ok (.iconst (-1), 1) := by decide +kernel
theorem dX8_upper_21 : decode cX8_upper 21 = .ok (.if_icmp .eq 21, 3) := by decide +kernel
theorem dX8_upper_24 : decode cX8_upper 24 = .ok (.iload_n 3, 1) := by decide +kernel
theorem dX8_upper_25 : decode cX8_upper 25 = .ok (.bipush 16, 2) := by decide +kernel
theorem dX8_upper_27 : decode cX8_upper 27 = .ok (.bipush 31, 2) := by decide +kernel
theorem dX8_upper_29 : decode cX8_upper 29 = .ok (.invokestatic 87, 3) := by decide +kernel
theorem dX8_upper_32 : decode cX8_upper 32 = .ok (.ifCond .eq 8, 3) := by decide +kernel
theorem dX8_upper_35 : decode cX8_upper 35 = .ok (.iload_n 3, 1) := by decide +kernel
theorem dX8_upper_36 : decode cX8_upper 36 = .ok (.iload_n 2, 1) := by decide +kernel
theorem dX8_upper_37 : decode cX8_upper 37 = .ok (.if_icmp .gt 5, 3) := by decide +kernel
theorem dX8_upper_40 : decode cX8_upper 40 = .ok (.iconst 0, 1) := by decide +kernel
theorem dX8_upper_41 : decode cX8_upper 41 = .ok (.ireturn, 1) := by decide +kernel
theorem dX8_upper_42 : decode cX8_upper 42 = .ok (.aload_n 0, 1) := by decide +kernel
theorem dX8_upper_43 : decode cX8_upper 43 = .ok (.getfield 11, 3) := by decide +kernel
theorem dX8_upper_46 : decode cX8_upper 46 = .ok (.iload_n 1, 1) := by decide +kernel
theorem dX8_upper_47 : decode cX8_upper 47 = .ok (.aaload, 1) := by decide +kernel
theorem dX8_upper_48 : decode cX8_upper 48 = .ok (.iload_n 2, 1) := by decide +kernel
theorem dX8_upper_49 : decode cX8_upper 49 = .ok (.iload_n 3, 1) := by decide +kernel
theorem dX8_upper_50 : decode cX8_upper 50 = .ok (.invokevirtual 91, 3) := by decide +kernel
theorem dX8_upper_53 : decode cX8_upper 53 = .ok (.aload_n 0, 1) := by decide +kernel
theorem dX8_upper_54 : decode cX8_upper 54 = .ok (.getfield 55, 3) := by decide +kernel
theorem dX8_upper_57 : decode cX8_upper 57 = .ok (.invokevirtual 95, 3) := by decide +kernel
theorem dX8_upper_60 : decode cX8_upper 60 = .ok (.iconst 1, 1) := by decide +kernel
theorem dX8_upper_61 : decode cX8_upper 61 = .ok (.ireturn, 1) := by decide +kernel
theorem dX8_weight_0 : decode cX8_weight 0 = .ok (.iload_n 1, 1) := by decide +kernel
theorem dX8_weight_1 : decode cX8_weight 1 = .ok (.invokestatic 83, 3) := by decide +kernel
theorem dX8_weight_4 : decode cX8_weight 4 = .ok (.ifCond .eq 13, 3) := by decide +kernel
theorem dX8_weight_7 : decode cX8_weight 7 = .ok (.iload_n 2, 1) := by decide +kernel
theorem dX8_weight_8 : decode cX8_weight 8 = .ok (.iconst 0, 1) := by decide +kernel
theorem dX8_weight_9 : decode cX8_weight 9 = .ok (.bipush 99, 2) := by decide +kernel
theorem dX8_weight_11 : decode cX8_weight 11 = .ok (.invokestatic 87, 3) := by decide +kernel
theorem dX8_weight_14 : decode cX8_weight 14 = .ok (.ifCond .ne 5, 3) := by decide +kernel
theorem dX8_weight_17 : decode cX8_weight 17 = .ok (.iconst 0, 1) := by decide +kernel
theorem dX8_weight_18 : decode cX8_weight 18 = .ok (.ireturn, 1) := by decide +kernel
theorem dX8_weight_19 : decode cX8_weight 19 = .ok (.aload_n 0, 1) := by decide +kernel
theorem dX8_weight_20 : decode cX8_weight 20 = .ok (.getfield 11, 3) := by decide +kernel
theorem dX8_weight_23 : decode cX8_weight 23 = .ok (.iload_n 1, 1) := by decide +kernel
theorem dX8_weight_24 : decode cX8_weight 24 = .ok (.aaload, 1) := by decide +kernel
theorem dX8_weight_25 : decode cX8_weight 25 = .ok (.iload_n 2, 1) := by decide +kernel
theorem dX8_weight_26 : decode cX8_weight 26 = .ok (.putfield 98, 3) := by decide +kernel
theorem dX8_weight_29 : decode cX8_weight 29 = .ok (.iconst 1, 1) := by decide +kernel
theorem dX8_weight_30 : decode cX8_weight 30 = .ok (.ireturn, 1) := by decide +kernel
theorem dX8_wish_0 : decode cX8_wish 0 = .ok (.aload_n 0, 1) := by decide +kernel
theorem dX8_wish_1 : decode cX8_wish 1 = .ok (.iload_n 1, 1) := by decide +kernel
theorem dX8_wish_2 : decode cX8_wish 2 = .ok (.invokevirtual 111, 3) := by decide +kernel
theorem dX8_wish_5 : decode cX8_wish 5 = .ok (.ifCond .eq 13, 3) := by decide +kernel
theorem dX8_wish_18 : decode cX8_wish 18 = .ok (.iconst 0, 1) := by decide +kernel
theorem dX8_wish_19 : decode cX8_wish 19 = .ok (.ireturn, 1) := by decide +kernel
theorem dX8_feed_0 : decode cX8_feed 0 = .ok (.aload_n 0, 1) := by decide +kernel
theorem dX8_feed_1 : decode cX8_feed 1 = .ok (.getfield 22, 3) := by decide +kernel
theorem dX8_feed_4 : decode cX8_feed 4 = .ok (.getfield 114, 3) := by decide +kernel
theorem dX8_feed_7 : decode cX8_feed 7 = .ok (.bipush 20, 2) := by decide +kernel
theorem dX8_feed_9 : decode cX8_feed 9 = .ok (.iadd, 1) := by decide +kernel
theorem dX8_feed_10 : decode cX8_feed 10 = .ok (.sipush 200, 3) := by decide +kernel
theorem dX8_feed_13 : decode cX8_feed 13 = .ok (.if_icmp .le 5, 3) := by decide +kernel
theorem dX8_feed_18 : decode cX8_feed 18 = .ok (.aload_n 0, 1) := by decide +kernel
theorem dX8_feed_19 : decode cX8_feed 19 = .ok (.getfield 22, 3) := by decide +kernel
theorem dX8_feed_22 : decode cX8_feed 22 = .ok (.iload_n 1, 1) := by decide +kernel
theorem dX8_feed_23 : decode cX8_feed 23 = .ok (.invokevirtual 117, 3) := by decide +kernel
theorem dX8_feed_26 : decode cX8_feed 26 = .ok (.aload_n 0, 1) := by decide +kernel
theorem dX8_feed_27 : decode cX8_feed 27 = .ok (.getfield 22, 3) := by decide +kernel
theorem dX8_feed_30 : decode cX8_feed 30 = .ok (.iload_n 2, 1) := by decide +kernel
theorem dX8_feed_31 : decode cX8_feed 31 = .ok (.invokevirtual 117, 3) := by decide +kernel
theorem dX8_feed_34 : decode cX8_feed 34 = .ok (.aload_n 0, 1) := by decide +kernel
theorem dX8_feed_35 : decode cX8_feed 35 = .ok (.getfield 22, 3) := by decide +kernel
theorem dX8_feed_38 : decode cX8_feed 38 = .ok (.iload_n 3, 1) := by decide +kernel
theorem dX8_feed_39 : decode cX8_feed 39 = .ok (.invokevirtual 117, 3) := by decide +kernel
theorem dX8_feed_42 : decode cX8_feed 42 = .ok (.aload_n 0, 1) := by decide +kernel
theorem dX8_feed_43 : decode cX8_feed 43 = .ok (.getfield 22, 3) := by decide +kernel
theorem dX8_feed_46 : decode cX8_feed 46 = .ok (.iload 4, 2) := by decide +kernel
theorem dX8_feed_48 : decode cX8_feed 48 = .ok (.invokevirtual 117, 3) := by decide +kernel
theorem dX8_feed_51 : decode cX8_feed 51 = .ok (.aload_n 0, 1) := by decide +kernel
theorem dX8_feed_52 : decode cX8_feed 52 = .ok (.getfield 22, 3) := by decide +kernel
theorem dX8_feed_55 : decode cX8_feed 55 = .ok (.iload 5, 2) := by decide +kernel
theorem dX8_feed_57 : decode cX8_feed 57 = .ok (.invokevirtual 117, 3) := by decide +kernel
theorem dX8_feed_60 : decode cX8_feed 60 = .ok (.aload_n 0, 1) := by decide +kernel
theorem dX8_feed_61 : decode cX8_feed 61 = .ok (.getfield 22, 3) := by decide +kernel
theorem dX8_feed_64 : decode cX8_feed 64 = .ok (.getfield 114, 3) := by decide +kernel
theorem dX8_feed_67 : decode cX8_feed 67 = .ok (.ireturn, 1) := by decide +kernel
theorem dX8_blurred_0 : decode cX8_blurred 0 = .ok (.iload_n 1, 1) := by decide +kernel
theorem dX8_blurred_1 : decode cX8_blurred 1 = .ok (.invokestatic 83, 3) := by decide +kernel
theorem dX8_blurred_4 : decode cX8_blurred 4 = .ok (.ifCond .eq 17, 3) := by decide +kernel
theorem dX8_blurred_7 : decode cX8_blurred 7 = .ok (.iload_n 2, 1) := by decide +kernel
theorem dX8_blurred_8 : decode cX8_blurred 8 = .ok (.invokestatic 101, 3) := by decide +kernel
theorem dX8_blurred_11 : decode cX8_blurred 11 = .ok (.ifCond .eq 10, 3) := by decide +kernel
theorem dX8_blurred_14 : decode cX8_blurred 14 = .ok (.iload_n 3, 1) := by decide +kernel
theorem dX8_blurred_15 : decode cX8_blurred 15 = .ok (.invokestatic 120, 3) := by decide +kernel
theorem dX8_blurred_18 : decode cX8_blurred 18 = .ok (.ifCond .ne 5, 3) := by decide +kernel
theorem dX8_blurred_21 : decode cX8_blurred 21 = .ok (.iconst (-1), 1) := by decide +kernel
theorem dX8_blurred_22 : decode cX8_blurred 22 = .ok (.ireturn, 1) := by decide +kernel
theorem dX8_blurred_23 : decode cX8_blurred 23 = .ok (.aload_n 0, 1) := by decide +kernel
theorem dX8_blurred_24 : decode cX8_blurred 24 = .ok (.getfield 11, 3) := by decide +kernel
theorem dX8_blurred_27 : decode cX8_blurred 27 = .ok (.iload_n 1, 1) := by decide +kernel
theorem dX8_blurred_28 : decode cX8_blurred 28 = .ok (.aaload, 1) := by decide +kernel
theorem dX8_blurred_29 : decode cX8_blurred 29 = .ok (.iload_n 2, 1) := by decide +kernel
theorem dX8_blurred_30 : decode cX8_blurred 30 = .ok (.iload_n 3, 1) := by decide +kernel
theorem dX8_blurred_31 : decode cX8_blurred 31 = .ok (.invokevirtual 123, 3) := by decide +kernel
theorem dX8_blurred_34 : decode cX8_blurred 34 = .ok (.ireturn, 1) := by decide +kernel
theorem dX8_size_0 : decode cX8_size 0 = .ok (.iload_n 1, 1) := by decide +kernel
theorem dX8_size_1 : decode cX8_size 1 = .ok (.invokestatic 83, 3) := by decide +kernel
theorem dX8_size_4 : decode cX8_size 4 = .ok (.ifCond .eq 13, 3) := by decide +kernel
theorem dX8_size_7 : decode cX8_size 7 = .ok (.iload_n 2, 1) := by decide +kernel
theorem dX8_size_8 : decode cX8_size 8 = .ok (.iconst 0, 1) := by decide +kernel
theorem dX8_size_9 : decode cX8_size 9 = .ok (.bipush 32, 2) := by decide +kernel
theorem dX8_size_11 : decode cX8_size 11 = .ok (.invokestatic 87, 3) := by decide +kernel
theorem dX8_size_14 : decode cX8_size 14 = .ok (.ifCond .ne 5, 3) := by decide +kernel
theorem dX8_size_17 : decode cX8_size 17 = .ok (.iconst (-1), 1) := by decide +kernel
theorem dX8_size_18 : decode cX8_size 18 = .ok (.ireturn, 1) := by decide +kernel
theorem dX8_size_19 : decode cX8_size 19 = .ok (.aload_n 0, 1) := by decide +kernel
theorem dX8_size_20 : decode cX8_size 20 = .ok (.getfield 11, 3) := by decide +kernel
theorem dX8_size_23 : decode cX8_size 23 = .ok (.iload_n 1, 1) := by decide +kernel
theorem dX8_size_24 : decode cX8_size 24 = .ok (.aaload, 1) := by decide +kernel
theorem dX8_size_25 : decode cX8_size 25 = .ok (.iload_n 2, 1) := by decide +kernel
theorem dX8_size_26 : decode cX8_size 26 = .ok (.invokevirtual 127, 3) := by decide +kernel
theorem dX8_size_29 : decode cX8_size 29 = .ok (.ireturn, 1) := by decide +kernel
theorem dX8_book_0 : decode cX8_book 0 = .ok (.iload_n 1, 1) := by decide +kernel
theorem dX8_book_1 : decode cX8_book 1 = .ok (.iconst 1, 1) := by decide +kernel
theorem dX8_book_2 : decode cX8_book 2 = .ok (.bipush 8, 2) := by decide +kernel
theorem dX8_book_4 : decode cX8_book 4 = .ok (.invokestatic 87, 3) := by decide +kernel
theorem dX8_book_7 : decode cX8_book 7 = .ok (.ifCond .eq 22, 3) := by decide +kernel
theorem dX8_book_10 : decode cX8_book 10 = .ok (.aload_n 0, 1) := by decide +kernel
theorem dX8_book_11 : decode cX8_book 11 = .ok (.getfield 78, 3) := by decide +kernel
theorem dX8_book_14 : decode cX8_book 14 = .ok (.iconst 4, 1) := by decide +kernel
theorem dX8_book_15 : decode cX8_book 15 = .ok (.if_icmp .ge 14, 3) := by decide +kernel
theorem dX8_book_18 : decode cX8_book 18 = .ok (.aload_n 0, 1) := by decide +kernel
theorem dX8_book_19 : decode cX8_book 19 = .ok (.getfield 22, 3) := by decide +kernel
theorem dX8_book_22 : decode cX8_book 22 = .ok (.getfield 114, 3) := by decide +kernel
theorem dX8_book_25 : decode cX8_book 25 = .ok (.iload_n 1, 1) := by decide +kernel
theorem dX8_book_26 : decode cX8_book 26 = .ok (.if_icmp .ge 5, 3) := by decide +kernel
theorem dX8_book_29 : decode cX8_book 29 = .ok (.iconst (-1), 1) := by decide +kernel
theorem dX8_book_30 : decode cX8_book 30 = .ok (.ireturn, 1) := by decide +kernel
theorem dX8_cut_0 : decode cX8_cut 0 = .ok (.aload_n 0, 1) := by decide +kernel
theorem dX8_cut_1 : decode cX8_cut 1 = .ok (.iload_n 1, 1) := by decide +kernel
theorem dX8_cut_2 : decode cX8_cut 2 = .ok (.iload_n 2, 1) := by decide +kernel
theorem dX8_cut_3 : decode cX8_cut 3 = .ok (.invokevirtual 147, 3) := by decide +kernel
theorem dX8_cut_6 : decode cX8_cut 6 = .ok (.ifCond .ne 5, 3) := by decide +kernel
theorem dX8_cut_9 : decode cX8_cut 9 = .ok (.iconst 0, 1) := by decide +kernel
theorem dX8_cut_10 : decode cX8_cut 10 = .ok (.ireturn, 1) := by decide +kernel
theorem dX8_swap_0 : decode cX8_swap 0 = .ok (.aload_n 0, 1) := by decide +kernel
theorem dX8_swap_1 : decode cX8_swap 1 = .ok (.iload_n 1, 1) := by decide +kernel
theorem dX8_swap_2 : decode cX8_swap 2 = .ok (.iload_n 2, 1) := by decide +kernel
theorem dX8_swap_3 : decode cX8_swap 3 = .ok (.invokevirtual 147, 3) := by decide +kernel
theorem dX8_swap_6 : decode cX8_swap 6 = .ok (.ifCond .eq 25, 3) := by decide +kernel
theorem dX8_swap_31 : decode cX8_swap 31 = .ok (.iconst 0, 1) := by decide +kernel
theorem dX8_swap_32 : decode cX8_swap 32 = .ok (.ireturn, 1) := by decide +kernel
theorem dX8_show_0 : decode cX8_show 0 = .ok (.aload_n 0, 1) := by decide +kernel
theorem dX8_show_1 : decode cX8_show 1 = .ok (.iload_n 1, 1) := by decide +kernel
theorem dX8_show_2 : decode cX8_show 2 = .ok (.invokevirtual 161, 3) := by decide +kernel
theorem dX8_show_5 : decode cX8_show 5 = .ok (.ifCond .eq 16, 3) := by decide +kernel
theorem dX8_show_21 : decode cX8_show 21 = .ok (.iconst 0, 1) := by decide +kernel
theorem dX8_show_22 : decode cX8_show 22 = .ok (.ireturn, 1) := by decide +kernel
theorem dX8_link_0 : decode cX8_link 0 = .ok (.aload_n 0, 1) := by decide +kernel
theorem dX8_link_1 : decode cX8_link 1 = .ok (.iload_n 1, 1) := by decide +kernel
theorem dX8_link_2 : decode cX8_link 2 = .ok (.iload_n 2, 1) := by decide +kernel
theorem dX8_link_3 : decode cX8_link 3 = .ok (.invokevirtual 168, 3) := by decide +kernel
theorem dX8_link_6 : decode cX8_link 6 = .ok (.ifCond .eq 30, 3) := by decide +kernel
theorem dX8_link_36 : decode cX8_link 36 = .ok (.iconst (-1), 1) := by decide +kernel
theorem dX8_link_37 : decode cX8_link 37 = .ok (.ireturn, 1) := by decide +kernel
theorem dX8_gossip_0 : decode cX8_gossip 0 = .ok (.iload_n 1, 1) := by decide +kernel
theorem dX8_gossip_1 : decode cX8_gossip 1 = .ok (.iconst 0, 1) := by decide +kernel
theorem dX8_gossip_2 : decode cX8_gossip 2 = .ok (.bipush 7, 2) := by decide +kernel
theorem dX8_gossip_4 : decode cX8_gossip 4 = .ok (.invokestatic 87, 3) := by decide +kernel
theorem dX8_gossip_7 : decode cX8_gossip 7 = .ok (.ifCond .eq 35, 3) := by decide +kernel
theorem dX8_gossip_10 : decode cX8_gossip 10 = .ok (.aload_n 0, 1) := by decide +kernel
theorem dX8_gossip_11 : decode cX8_gossip 11 = .ok (.iload_n 2, 1) := by decide +kernel
theorem dX8_gossip_12 : decode cX8_gossip 12 = .ok (.iload_n 3, 1) := by decide +kernel
theorem dX8_gossip_13 : decode cX8_gossip 13 = .ok (.invokevirtual 147, 3) := by decide +kernel
theorem dX8_gossip_16 : decode cX8_gossip 16 = .ok (.ifCond .eq 26, 3) := by decide +kernel
theorem dX8_gossip_42 : decode cX8_gossip 42 = .ok (.iconst (-1), 1) := by decide +kernel
theorem dX8_gossip_43 : decode cX8_gossip 43 = .ok (.ireturn, 1) := by decide +kernel
theorem dX8_line_0 : decode cX8_line 0 = .ok (.aload_n 0, 1) := by decide +kernel
theorem dX8_line_1 : decode cX8_line 1 = .ok (.iload_n 1, 1) := by decide +kernel
theorem dX8_line_2 : decode cX8_line 2 = .ok (.iload_n 2, 1) := by decide +kernel
theorem dX8_line_3 : decode cX8_line 3 = .ok (.invokevirtual 168, 3) := by decide +kernel
theorem dX8_line_6 : decode cX8_line 6 = .ok (.ifCond .eq 12, 3) := by decide +kernel
theorem dX8_line_18 : decode cX8_line 18 = .ok (.iconst (-1), 1) := by decide +kernel
theorem dX8_line_19 : decode cX8_line 19 = .ok (.ireturn, 1) := by decide +kernel
theorem dX8_fits_0 : decode cX8_fits 0 = .ok (.aload_n 0, 1) := by decide +kernel
theorem dX8_fits_1 : decode cX8_fits 1 = .ok (.iload_n 1, 1) := by decide +kernel
theorem dX8_fits_2 : decode cX8_fits 2 = .ok (.iload_n 2, 1) := by decide +kernel
theorem dX8_fits_3 : decode cX8_fits 3 = .ok (.invokevirtual 168, 3) := by decide +kernel
theorem dX8_fits_6 : decode cX8_fits 6 = .ok (.ifCond .eq 10, 3) := by decide +kernel
theorem dX8_fits_16 : decode cX8_fits 16 = .ok (.iconst (-1), 1) := by decide +kernel
theorem dX8_fits_17 : decode cX8_fits 17 = .ok (.ireturn, 1) := by decide +kernel
theorem dX8_givings_0 : decode cX8_givings 0 = .ok (.aload_n 0, 1) := by decide +kernel
theorem dX8_givings_1 : decode cX8_givings 1 = .ok (.iload_n 1, 1) := by decide +kernel
theorem dX8_givings_2 : decode cX8_givings 2 = .ok (.invokevirtual 161, 3) := by decide +kernel
theorem dX8_givings_5 : decode cX8_givings 5 = .ok (.ifCond .eq 10, 3) := by decide +kernel
theorem dX8_givings_15 : decode cX8_givings 15 = .ok (.ldc2_w 213, 3) := by decide +kernel
theorem dX8_givings_18 : decode cX8_givings 18 = .ok (.lreturn, 1) := by decide +kernel
theorem dX8_odds_0 : decode cX8_odds 0 = .ok (.aload_n 0, 1) := by decide +kernel
theorem dX8_odds_1 : decode cX8_odds 1 = .ok (.iload_n 1, 1) := by decide +kernel
theorem dX8_odds_2 : decode cX8_odds 2 = .ok (.iload_n 2, 1) := by decide +kernel
theorem dX8_odds_3 : decode cX8_odds 3 = .ok (.invokevirtual 168, 3) := by decide +kernel
theorem dX8_odds_6 : decode cX8_odds 6 = .ok (.ifCond .eq 29, 3) := by decide +kernel
theorem dX8_odds_35 : decode cX8_odds 35 = .ok (.ldc2_w 213, 3) := by decide +kernel
theorem dX8_odds_38 : decode cX8_odds 38 = .ok (.lreturn, 1) := by decide +kernel
theorem dX8_mustBe_0 : decode cX8_mustBe 0 = .ok (.aload_n 0, 1) := by decide +kernel
theorem dX8_mustBe_1 : decode cX8_mustBe 1 = .ok (.iload_n 1, 1) := by decide +kernel
theorem dX8_mustBe_2 : decode cX8_mustBe 2 = .ok (.iload_n 2, 1) := by decide +kernel
theorem dX8_mustBe_3 : decode cX8_mustBe 3 = .ok (.invokevirtual 168, 3) := by decide +kernel
theorem dX8_mustBe_6 : decode cX8_mustBe 6 = .ok (.ifCond .eq 19, 3) := by decide +kernel
theorem dX8_mustBe_25 : decode cX8_mustBe 25 = .ok (.iconst (-1), 1) := by decide +kernel
theorem dX8_mustBe_26 : decode cX8_mustBe 26 = .ok (.ireturn, 1) := by decide +kernel
theorem dX8_giving_0 : decode cX8_giving 0 = .ok (.aload_n 0, 1) := by decide +kernel
theorem dX8_giving_1 : decode cX8_giving 1 = .ok (.iload_n 1, 1) := by decide +kernel
theorem dX8_giving_2 : decode cX8_giving 2 = .ok (.iload_n 2, 1) := by decide +kernel
theorem dX8_giving_3 : decode cX8_giving 3 = .ok (.invokevirtual 168, 3) := by decide +kernel
theorem dX8_giving_6 : decode cX8_giving 6 = .ok (.ifCond .eq 10, 3) := by decide +kernel
theorem dX8_giving_16 : decode cX8_giving 16 = .ok (.iconst (-1), 1) := by decide +kernel
theorem dX8_giving_17 : decode cX8_giving 17 = .ok (.ireturn, 1) := by decide +kernel
theorem dX8_tooFew_0 : decode cX8_tooFew 0 = .ok (.aload_n 0, 1) := by decide +kernel
theorem dX8_tooFew_1 : decode cX8_tooFew 1 = .ok (.iload_n 1, 1) := by decide +kernel
theorem dX8_tooFew_2 : decode cX8_tooFew 2 = .ok (.invokevirtual 161, 3) := by decide +kernel
theorem dX8_tooFew_5 : decode cX8_tooFew 5 = .ok (.ifCond .eq 10, 3) := by decide +kernel
theorem dX8_tooFew_15 : decode cX8_tooFew 15 = .ok (.iconst (-1), 1) := by decide +kernel
theorem dX8_tooFew_16 : decode cX8_tooFew 16 = .ok (.ireturn, 1) := by decide +kernel
theorem dX8_steps_0 : decode cX8_steps 0 = .ok (.aload_n 0, 1) := by decide +kernel
theorem dX8_steps_1 : decode cX8_steps 1 = .ok (.iload_n 1, 1) := by decide +kernel
theorem dX8_steps_2 : decode cX8_steps 2 = .ok (.invokevirtual 161, 3) := by decide +kernel
theorem dX8_steps_5 : decode cX8_steps 5 = .ok (.ifCond .eq 10, 3) := by decide +kernel
theorem dX8_steps_15 : decode cX8_steps 15 = .ok (.iconst (-1), 1) := by decide +kernel
theorem dX8_steps_16 : decode cX8_steps 16 = .ok (.ireturn, 1) := by decide +kernel
theorem dX8_safe_0 : decode cX8_safe 0 = .ok (.aload_n 0, 1) := by decide +kernel
theorem dX8_safe_1 : decode cX8_safe 1 = .ok (.iload_n 1, 1) := by decide +kernel
theorem dX8_safe_2 : decode cX8_safe 2 = .ok (.invokevirtual 161, 3) := by decide +kernel
theorem dX8_safe_5 : decode cX8_safe 5 = .ok (.ifCond .eq 17, 3) := by decide +kernel
theorem dX8_safe_22 : decode cX8_safe 22 = .ok (.iconst (-1), 1) := by decide +kernel
theorem dX8_safe_23 : decode cX8_safe 23 = .ok (.ireturn, 1) := by decide +kernel
theorem dX8_fewest_0 : decode cX8_fewest 0 = .ok (.aload_n 0, 1) := by decide +kernel
theorem dX8_fewest_1 : decode cX8_fewest 1 = .ok (.iload_n 1, 1) := by decide +kernel
theorem dX8_fewest_2 : decode cX8_fewest 2 = .ok (.iload_n 2, 1) := by decide +kernel
theorem dX8_fewest_3 : decode cX8_fewest 3 = .ok (.invokevirtual 168, 3) := by decide +kernel
theorem dX8_fewest_6 : decode cX8_fewest 6 = .ok (.ifCond .eq 12, 3) := by decide +kernel
theorem dX8_fewest_18 : decode cX8_fewest 18 = .ok (.iconst (-1), 1) := by decide +kernel
theorem dX8_fewest_19 : decode cX8_fewest 19 = .ok (.ireturn, 1) := by decide +kernel
theorem dX8_questions_0 : decode cX8_questions 0 = .ok (.aload_n 0, 1) := by decide +kernel
theorem dX8_questions_1 : decode cX8_questions 1 = .ok (.iload_n 1, 1) := by decide +kernel
theorem dX8_questions_2 : decode cX8_questions 2 = .ok (.iload_n 2, 1) := by decide +kernel
theorem dX8_questions_3 : decode cX8_questions 3 = .ok (.invokevirtual 168, 3) := by decide +kernel
theorem dX8_questions_6 : decode cX8_questions 6 = .ok (.ifCond .eq 20, 3) := by decide +kernel
theorem dX8_questions_26 : decode cX8_questions 26 = .ok (.iconst (-1), 1) := by decide +kernel
theorem dX8_questions_27 : decode cX8_questions 27 = .ok (.ireturn, 1) := by decide +kernel
theorem dX8_blurring_0 : decode cX8_blurring 0 = .ok (.iload_n 1, 1) := by decide +kernel
theorem dX8_blurring_1 : decode cX8_blurring 1 = .ok (.iconst 1, 1) := by decide +kernel
theorem dX8_blurring_2 : decode cX8_blurring 2 = .ok (.bipush 8, 2) := by decide +kernel
theorem dX8_blurring_4 : decode cX8_blurring 4 = .ok (.invokestatic 87, 3) := by decide +kernel
theorem dX8_blurring_7 : decode cX8_blurring 7 = .ok (.ifCond .eq 21, 3) := by decide +kernel
theorem dX8_blurring_10 : decode cX8_blurring 10 = .ok (.iload_n 2, 1) := by decide +kernel
theorem dX8_blurring_11 : decode cX8_blurring 11 = .ok (.invokestatic 251, 3) := by decide +kernel
theorem dX8_blurring_14 : decode cX8_blurring 14 = .ok (.ifCond .eq 14, 3) := by decide +kernel
theorem dX8_blurring_17 : decode cX8_blurring 17 = .ok (.iload_n 3, 1) := by decide +kernel
theorem dX8_blurring_18 : decode cX8_blurring 18 = .ok (.iconst 0, 1) := by decide +kernel
theorem dX8_blurring_19 : decode cX8_blurring 19 = .ok (.sipush 9999, 3) := by decide +kernel
theorem dX8_blurring_22 : decode cX8_blurring 22 = .ok (.invokestatic 87, 3) := by decide +kernel
theorem dX8_blurring_25 : decode cX8_blurring 25 = .ok (.ifCond .ne 6, 3) := by decide +kernel
theorem dX8_blurring_28 : decode cX8_blurring 28 = .ok (.bipush (-3), 2) := by decide +kernel
theorem dX8_blurring_30 : decode cX8_blurring 30 = .ok (.ireturn, 1) := by decide +kernel
theorem dX8_blurring_31 : decode cX8_blurring 31 = .ok (.iload 4, 2) := by decide +kernel
theorem dX8_blurring_33 : decode cX8_blurring 33 = .ok (.iconst (-1), 1) := by decide +kernel
theorem dX8_blurring_34 : decode cX8_blurring 34 = .ok (.iconst 4, 1) := by decide +kernel
theorem dX8_blurring_35 : decode cX8_blurring 35 = .ok (.invokestatic 87, 3) := by decide +kernel
theorem dX8_blurring_38 : decode cX8_blurring 38 = .ok (.ifCond .eq 14, 3) := by decide +kernel
theorem dX8_blurring_41 : decode cX8_blurring 41 = .ok (.aload_n 0, 1) := by decide +kernel
theorem dX8_blurring_42 : decode cX8_blurring 42 = .ok (.getfield 22, 3) := by decide +kernel
theorem dX8_blurring_45 : decode cX8_blurring 45 = .ok (.getfield 114, 3) := by decide +kernel
theorem dX8_blurring_48 : decode cX8_blurring 48 = .ok (.iload_n 1, 1) := by decide +kernel
theorem dX8_blurring_49 : decode cX8_blurring 49 = .ok (.if_icmp .ge 6, 3) := by decide +kernel
theorem dX8_blurring_52 : decode cX8_blurring 52 = .ok (.bipush (-3), 2) := by decide +kernel
theorem dX8_blurring_54 : decode cX8_blurring 54 = .ok (.ireturn, 1) := by decide +kernel
theorem dX8_bestSwap_0 : decode cX8_bestSwap 0 = .ok (.aload_n 0, 1) := by decide +kernel
theorem dX8_bestSwap_1 : decode cX8_bestSwap 1 = .ok (.iload_n 1, 1) := by decide +kernel
theorem dX8_bestSwap_2 : decode cX8_bestSwap 2 = .ok (.invokevirtual 161, 3) := by decide +kernel
theorem dX8_bestSwap_5 : decode cX8_bestSwap 5 = .ok (.ifCond .eq 19, 3) := by decide +kernel
theorem dX8_bestSwap_24 : decode cX8_bestSwap 24 = .ok (.iconst (-1), 1) := by decide +kernel
theorem dX8_bestSwap_25 : decode cX8_bestSwap 25 = .ok (.ireturn, 1) := by decide +kernel
theorem dX8_together_0 : decode cX8_together 0 = .ok (.iload_n 1, 1) := by decide +kernel
theorem dX8_together_1 : decode cX8_together 1 = .ok (.invokestatic 251, 3) := by decide +kernel
theorem dX8_together_4 : decode cX8_together 4 = .ok (.ifCond .eq 12, 3) := by decide +kernel
theorem dX8_together_7 : decode cX8_together 7 = .ok (.iload_n 2, 1) := by decide +kernel
theorem dX8_together_8 : decode cX8_together 8 = .ok (.iconst 0, 1) := by decide +kernel
theorem dX8_together_9 : decode cX8_together 9 = .ok (.iconst 2, 1) := by decide +kernel
theorem dX8_together_10 : decode cX8_together 10 = .ok (.invokestatic 87, 3) := by decide +kernel
theorem dX8_together_13 : decode cX8_together 13 = .ok (.ifCond .ne 5, 3) := by decide +kernel
theorem dX8_together_16 : decode cX8_together 16 = .ok (.iconst (-1), 1) := by decide +kernel
theorem dX8_together_17 : decode cX8_together 17 = .ok (.ireturn, 1) := by decide +kernel
theorem dX8_together_18 : decode cX8_together 18 = .ok (.iconst 0, 1) := by decide +kernel
theorem dX8_together_19 : decode cX8_together 19 = .ok (.istore_n 3, 1) := by decide +kernel
theorem dX8_together_20 : decode cX8_together 20 = .ok (.iload_n 3, 1) := by decide +kernel
theorem dX8_together_21 : decode cX8_together 21 = .ok (.aload_n 0, 1) := by decide +kernel
theorem dX8_together_22 : decode cX8_together 22 = .ok (.getfield 78, 3) := by decide +kernel
theorem dX8_together_25 : decode cX8_together 25 = .ok (.if_icmp .ge 68, 3) := by decide +kernel
theorem dX8_together_93 : decode cX8_together 93 = .ok (.bipush (-2), 2) := by decide +kernel
theorem dX8_together_95 : decode cX8_together 95 = .ok (.ireturn, 1) := by decide +kernel
theorem dX8_loss_0 : decode cX8_loss 0 = .ok (.aload_n 0, 1) := by decide +kernel
theorem dX8_loss_1 : decode cX8_loss 1 = .ok (.iload_n 1, 1) := by decide +kernel
theorem dX8_loss_2 : decode cX8_loss 2 = .ok (.invokevirtual 161, 3) := by decide +kernel
theorem dX8_loss_5 : decode cX8_loss 5 = .ok (.ifCond .ne 5, 3) := by decide +kernel
theorem dX8_loss_8 : decode cX8_loss 8 = .ok (.iconst (-1), 1) := by decide +kernel
theorem dX8_loss_9 : decode cX8_loss 9 = .ok (.ireturn, 1) := by decide +kernel
theorem dX8_linesOf_0 : decode cX8_linesOf 0 = .ok (.aload_n 0, 1) := by decide +kernel
theorem dX8_linesOf_1 : decode cX8_linesOf 1 = .ok (.iload_n 1, 1) := by decide +kernel
theorem dX8_linesOf_2 : decode cX8_linesOf 2 = .ok (.invokevirtual 161, 3) := by decide +kernel
theorem dX8_linesOf_5 : decode cX8_linesOf 5 = .ok (.ifCond .eq 18, 3) := by decide +kernel
theorem dX8_linesOf_23 : decode cX8_linesOf 23 = .ok (.iconst (-1), 1) := by decide +kernel
theorem dX8_linesOf_24 : decode cX8_linesOf 24 = .ok (.ireturn, 1) := by decide +kernel
theorem dX8_check_0 : decode cX8_check 0 = .ok (.aload_n 0, 1) := by decide +kernel
theorem dX8_check_1 : decode cX8_check 1 = .ok (.iload_n 1, 1) := by decide +kernel
theorem dX8_check_2 : decode cX8_check 2 = .ok (.iload_n 2, 1) := by decide +kernel
theorem dX8_check_3 : decode cX8_check 3 = .ok (.invokevirtual 147, 3) := by decide +kernel
theorem dX8_check_6 : decode cX8_check 6 = .ok (.ifCond .eq 25, 3) := by decide +kernel
theorem dX8_check_31 : decode cX8_check 31 = .ok (.bipush (-2), 2) := by decide +kernel
theorem dX8_check_33 : decode cX8_check 33 = .ok (.ireturn, 1) := by decide +kernel
theorem dX8_count_0 : decode cX8_count 0 = .ok (.iload_n 1, 1) := by decide +kernel
theorem dX8_count_1 : decode cX8_count 1 = .ok (.tableswitch 75 0 5 #[39, 44, 49, 57, 62, 70], 39) := by decide +kernel
theorem dX8_count_40 : decode cX8_count 40 = .ok (.aload_n 0, 1) := by decide +kernel
theorem dX8_count_41 : decode cX8_count 41 = .ok (.getfield 74, 3) := by decide +kernel
theorem dX8_count_44 : decode cX8_count 44 = .ok (.ireturn, 1) := by decide +kernel
theorem dX8_count_45 : decode cX8_count 45 = .ok (.aload_n 0, 1) := by decide +kernel
theorem dX8_count_46 : decode cX8_count 46 = .ok (.getfield 78, 3) := by decide +kernel
theorem dX8_count_49 : decode cX8_count 49 = .ok (.ireturn, 1) := by decide +kernel
theorem dX8_count_50 : decode cX8_count 50 = .ok (.aload_n 0, 1) := by decide +kernel
theorem dX8_count_51 : decode cX8_count 51 = .ok (.getfield 35, 3) := by decide +kernel
theorem dX8_count_54 : decode cX8_count 54 = .ok (.getfield 171, 3) := by decide +kernel
theorem dX8_count_57 : decode cX8_count 57 = .ok (.ireturn, 1) := by decide +kernel
theorem dX8_count_58 : decode cX8_count 58 = .ok (.aload_n 0, 1) := by decide +kernel
theorem dX8_count_59 : decode cX8_count 59 = .ok (.invokevirtual 316, 3) := by decide +kernel
theorem dX8_count_62 : decode cX8_count 62 = .ok (.ireturn, 1) := by decide +kernel
theorem dX8_count_63 : decode cX8_count 63 = .ok (.aload_n 0, 1) := by decide +kernel
theorem dX8_count_64 : decode cX8_count 64 = .ok (.getfield 22, 3) := by decide +kernel
theorem dX8_count_67 : decode cX8_count 67 = .ok (.getfield 114, 3) := by decide +kernel
theorem dX8_count_70 : decode cX8_count 70 = .ok (.ireturn, 1) := by decide +kernel
theorem dX8_count_71 : decode cX8_count 71 = .ok (.aload_n 0, 1) := by decide +kernel
theorem dX8_count_72 : decode cX8_count 72 = .ok (.invokevirtual 319, 3) := by decide +kernel
theorem dX8_count_75 : decode cX8_count 75 = .ok (.ireturn, 1) := by decide +kernel
theorem dX8_count_76 : decode cX8_count 76 = .ok (.aload_n 0, 1) := by decide +kernel
theorem dX8_count_77 : decode cX8_count 77 = .ok (.iload_n 1, 1) := by decide +kernel
theorem dX8_count_78 : decode cX8_count 78 = .ok (.bipush 10, 2) := by decide +kernel
theorem dX8_count_80 : decode cX8_count 80 = .ok (.isub, 1) := by decide +kernel
theorem dX8_count_81 : decode cX8_count 81 = .ok (.invokevirtual 161, 3) := by decide +kernel
theorem dX8_count_84 : decode cX8_count 84 = .ok (.ifCond .eq 16, 3) := by decide +kernel
theorem dX8_count_100 : decode cX8_count 100 = .ok (.iload_n 1, 1) := by decide +kernel
theorem dX8_count_101 : decode cX8_count 101 = .ok (.bipush 20, 2) := by decide +kernel
theorem dX8_count_103 : decode cX8_count 103 = .ok (.isub, 1) := by decide +kernel
theorem dX8_count_104 : decode cX8_count 104 = .ok (.invokestatic 83, 3) := by decide +kernel
theorem dX8_count_107 : decode cX8_count 107 = .ok (.ifCond .eq 16, 3) := by decide +kernel
theorem dX8_count_110 : decode cX8_count 110 = .ok (.aload_n 0, 1) := by decide +kernel
theorem dX8_count_111 : decode cX8_count 111 = .ok (.getfield 11, 3) := by decide +kernel
theorem dX8_count_114 : decode cX8_count 114 = .ok (.iload_n 1, 1) := by decide +kernel
theorem dX8_count_115 : decode cX8_count 115 = .ok (.bipush 20, 2) := by decide +kernel
theorem dX8_count_117 : decode cX8_count 117 = .ok (.isub, 1) := by decide +kernel
theorem dX8_count_118 : decode cX8_count 118 = .ok (.aaload, 1) := by decide +kernel
theorem dX8_count_119 : decode cX8_count 119 = .ok (.getfield 98, 3) := by decide +kernel
theorem dX8_count_122 : decode cX8_count 122 = .ok (.ireturn, 1) := by decide +kernel
theorem dX8_count_123 : decode cX8_count 123 = .ok (.aload_n 0, 1) := by decide +kernel
theorem dX8_count_124 : decode cX8_count 124 = .ok (.iload_n 1, 1) := by decide +kernel
theorem dX8_count_125 : decode cX8_count 125 = .ok (.bipush 30, 2) := by decide +kernel
theorem dX8_count_127 : decode cX8_count 127 = .ok (.isub, 1) := by decide +kernel
theorem dX8_count_128 : decode cX8_count 128 = .ok (.invokevirtual 111, 3) := by decide +kernel
theorem dX8_count_131 : decode cX8_count 131 = .ok (.ifCond .eq 15, 3) := by decide +kernel
theorem dX8_count_146 : decode cX8_count 146 = .ok (.iconst (-1), 1) := by decide +kernel
theorem dX8_count_147 : decode cX8_count 147 = .ok (.ireturn, 1) := by decide +kernel
theorem dX8_within_0 : decode cX8_within 0 = .ok (.iload_n 0, 1) := by decide +kernel
theorem dX8_within_1 : decode cX8_within 1 = .ok (.iload_n 1, 1) := by decide +kernel
theorem dX8_within_2 : decode cX8_within 2 = .ok (.if_icmp .lt 12, 3) := by decide +kernel
theorem dX8_within_5 : decode cX8_within 5 = .ok (.iload_n 0, 1) := by decide +kernel
theorem dX8_within_6 : decode cX8_within 6 = .ok (.iload_n 2, 1) := by decide +kernel
theorem dX8_within_7 : decode cX8_within 7 = .ok (.if_icmp .gt 7, 3) := by decide +kernel
theorem dX8_within_10 : decode cX8_within 10 = .ok (.iconst 1, 1) := by decide +kernel
theorem dX8_within_11 : decode cX8_within 11 = .ok (.goto 4, 3) := by decide +kernel
theorem dX8_within_14 : decode cX8_within 14 = .ok (.iconst 0, 1) := by decide +kernel
theorem dX8_within_15 : decode cX8_within 15 = .ok (.ireturn, 1) := by decide +kernel
theorem dX8_isColumn_0 : decode cX8_isColumn 0 = .ok (.iload_n 0, 1) := by decide +kernel
theorem dX8_isColumn_1 : decode cX8_isColumn 1 = .ok (.ifCond .lt 12, 3) := by decide +kernel
theorem dX8_isColumn_4 : decode cX8_isColumn 4 = .ok (.iload_n 0, 1) := by decide +kernel
theorem dX8_isColumn_5 : decode cX8_isColumn 5 = .ok (.iconst 4, 1) := by decide +kernel
theorem dX8_isColumn_6 : decode cX8_isColumn 6 = .ok (.if_icmp .ge 7, 3) := by decide +kernel
theorem dX8_isColumn_9 : decode cX8_isColumn 9 = .ok (.iconst 1, 1) := by decide +kernel
theorem dX8_isColumn_10 : decode cX8_isColumn 10 = .ok (.goto 4, 3) := by decide +kernel
theorem dX8_isColumn_13 : decode cX8_isColumn 13 = .ok (.iconst 0, 1) := by decide +kernel
theorem dX8_isColumn_14 : decode cX8_isColumn 14 = .ok (.ireturn, 1) := by decide +kernel
theorem dX8_isValue_0 : decode cX8_isValue 0 = .ok (.iload_n 0, 1) := by decide +kernel
theorem dX8_isValue_1 : decode cX8_isValue 1 = .ok (.iconst 0, 1) := by decide +kernel
theorem dX8_isValue_2 : decode cX8_isValue 2 = .ok (.bipush 15, 2) := by decide +kernel
theorem dX8_isValue_4 : decode cX8_isValue 4 = .ok (.invokestatic 87, 3) := by decide +kernel
theorem dX8_isValue_7 : decode cX8_isValue 7 = .ok (.ireturn, 1) := by decide +kernel
theorem dX8_isLevel_0 : decode cX8_isLevel 0 = .ok (.iload_n 0, 1) := by decide +kernel
theorem dX8_isLevel_1 : decode cX8_isLevel 1 = .ok (.iconst 0, 1) := by decide +kernel
theorem dX8_isLevel_2 : decode cX8_isLevel 2 = .ok (.iconst 4, 1) := by decide +kernel
theorem dX8_isLevel_3 : decode cX8_isLevel 3 = .ok (.invokestatic 87, 3) := by decide +kernel
theorem dX8_isLevel_6 : decode cX8_isLevel 6 = .ok (.ireturn, 1) := by decide +kernel
theorem dX8_isBar_0 : decode cX8_isBar 0 = .ok (.iload_n 0, 1) := by decide +kernel
theorem dX8_isBar_1 : decode cX8_isBar 1 = .ok (.iconst 1, 1) := by decide +kernel
theorem dX8_isBar_2 : decode cX8_isBar 2 = .ok (.bipush 16, 2) := by decide +kernel
theorem dX8_isBar_4 : decode cX8_isBar 4 = .ok (.invokestatic 87, 3) := by decide +kernel
theorem dX8_isBar_7 : decode cX8_isBar 7 = .ok (.ireturn, 1) := by decide +kernel
theorem dX8_areGossips_0 : decode cX8_areGossips 0 = .ok (.iload_n 0, 1) := by decide +kernel
theorem dX8_areGossips_1 : decode cX8_areGossips 1 = .ok (.iconst 0, 1) := by decide +kernel
theorem dX8_areGossips_2 : decode cX8_areGossips 2 = .ok (.sipush 255, 3) := by decide +kernel
theorem dX8_areGossips_5 : decode cX8_areGossips 5 = .ok (.invokestatic 87, 3) := by decide +kernel
theorem dX8_areGossips_8 : decode cX8_areGossips 8 = .ok (.ireturn, 1) := by decide +kernel
theorem dX8_isPerson_0 : decode cX8_isPerson 0 = .ok (.iload_n 1, 1) := by decide +kernel
theorem dX8_isPerson_1 : decode cX8_isPerson 1 = .ok (.ifCond .lt 15, 3) := by decide +kernel
theorem dX8_isPerson_4 : decode cX8_isPerson 4 = .ok (.iload_n 1, 1) := by decide +kernel
theorem dX8_isPerson_5 : decode cX8_isPerson 5 = .ok (.aload_n 0, 1) := by decide +kernel
theorem dX8_isPerson_6 : decode cX8_isPerson 6 = .ok (.getfield 74, 3) := by decide +kernel
theorem dX8_isPerson_9 : decode cX8_isPerson 9 = .ok (.if_icmp .ge 7, 3) := by decide +kernel
theorem dX8_isPerson_12 : decode cX8_isPerson 12 = .ok (.iconst 1, 1) := by decide +kernel
theorem dX8_isPerson_13 : decode cX8_isPerson 13 = .ok (.goto 4, 3) := by decide +kernel
theorem dX8_isPerson_16 : decode cX8_isPerson 16 = .ok (.iconst 0, 1) := by decide +kernel
theorem dX8_isPerson_17 : decode cX8_isPerson 17 = .ok (.ireturn, 1) := by decide +kernel
theorem dX8_isBook_0 : decode cX8_isBook 0 = .ok (.iload_n 1, 1) := by decide +kernel
theorem dX8_isBook_1 : decode cX8_isBook 1 = .ok (.ifCond .lt 15, 3) := by decide +kernel
theorem dX8_isBook_4 : decode cX8_isBook 4 = .ok (.iload_n 1, 1) := by decide +kernel
theorem dX8_isBook_5 : decode cX8_isBook 5 = .ok (.aload_n 0, 1) := by decide +kernel
theorem dX8_isBook_6 : decode cX8_isBook 6 = .ok (.getfield 78, 3) := by decide +kernel
theorem dX8_isBook_9 : decode cX8_isBook 9 = .ok (.if_icmp .ge 7, 3) := by decide +kernel
theorem dX8_isBook_16 : decode cX8_isBook 16 = .ok (.iconst 0, 1) := by decide +kernel
theorem dX8_isBook_17 : decode cX8_isBook 17 = .ok (.ireturn, 1) := by decide +kernel
theorem dX8_isLine_0 : decode cX8_isLine 0 = .ok (.aload_n 0, 1) := by decide +kernel
theorem dX8_isLine_1 : decode cX8_isLine 1 = .ok (.iload_n 1, 1) := by decide +kernel
theorem dX8_isLine_2 : decode cX8_isLine 2 = .ok (.invokevirtual 161, 3) := by decide +kernel
theorem dX8_isLine_5 : decode cX8_isLine 5 = .ok (.ifCond .eq 26, 3) := by decide +kernel
theorem dX8_isLine_31 : decode cX8_isLine 31 = .ok (.iconst 0, 1) := by decide +kernel
theorem dX8_isLine_32 : decode cX8_isLine 32 = .ok (.ireturn, 1) := by decide +kernel
theorem dX8_isLive_0 : decode cX8_isLive 0 = .ok (.aload_n 0, 1) := by decide +kernel
theorem dX8_isLive_1 : decode cX8_isLive 1 = .ok (.iload_n 1, 1) := by decide +kernel
theorem dX8_isLive_2 : decode cX8_isLive 2 = .ok (.iload_n 2, 1) := by decide +kernel
theorem dX8_isLive_3 : decode cX8_isLive 3 = .ok (.invokevirtual 168, 3) := by decide +kernel
theorem dX8_isLive_6 : decode cX8_isLive 6 = .ok (.ifCond .eq 24, 3) := by decide +kernel
theorem dX8_isLive_30 : decode cX8_isLive 30 = .ok (.iconst 0, 1) := by decide +kernel
theorem dX8_isLive_31 : decode cX8_isLive 31 = .ok (.ireturn, 1) := by decide +kernel
theorem dX8_shownBooks_0 : decode cX8_shownBooks 0 = .ok (.iconst 0, 1) := by decide +kernel
theorem dX8_shownBooks_1 : decode cX8_shownBooks 1 = .ok (.istore_n 1, 1) := by decide +kernel
theorem dX8_shownBooks_2 : decode cX8_shownBooks 2 = .ok (.iconst 0, 1) := by decide +kernel
theorem dX8_shownBooks_3 : decode cX8_shownBooks 3 = .ok (.istore_n 2, 1) := by decide +kernel
theorem dX8_shownBooks_4 : decode cX8_shownBooks 4 = .ok (.iload_n 2, 1) := by decide +kernel
theorem dX8_shownBooks_5 : decode cX8_shownBooks 5 = .ok (.aload_n 0, 1) := by decide +kernel
theorem dX8_shownBooks_6 : decode cX8_shownBooks 6 = .ok (.getfield 78, 3) := by decide +kernel
theorem dX8_shownBooks_9 : decode cX8_shownBooks 9 = .ok (.if_icmp .ge 27, 3) := by decide +kernel
theorem dX8_shownBooks_36 : decode cX8_shownBooks 36 = .ok (.iload_n 1, 1) := by decide +kernel
theorem dX8_shownBooks_37 : decode cX8_shownBooks 37 = .ok (.ireturn, 1) := by decide +kernel
theorem dX8_toldGossips_0 : decode cX8_toldGossips 0 = .ok (.iconst 0, 1) := by decide +kernel
theorem dX8_toldGossips_1 : decode cX8_toldGossips 1 = .ok (.istore_n 1, 1) := by decide +kernel
theorem dX8_toldGossips_2 : decode cX8_toldGossips 2 = .ok (.iconst 0, 1) := by decide +kernel
theorem dX8_toldGossips_3 : decode cX8_toldGossips 3 = .ok (.istore_n 2, 1) := by decide +kernel
theorem dX8_toldGossips_4 : decode cX8_toldGossips 4 = .ok (.iload_n 2, 1) := by decide +kernel
theorem dX8_toldGossips_5 : decode cX8_toldGossips 5 = .ok (.bipush 8, 2) := by decide +kernel
theorem dX8_toldGossips_7 : decode cX8_toldGossips 7 = .ok (.if_icmp .ge 27, 3) := by decide +kernel
theorem dX8_toldGossips_10 : decode cX8_toldGossips 10 = .ok (.aload_n 0, 1) := by decide +kernel
theorem dX8_toldGossips_11 : decode cX8_toldGossips 11 = .ok (.getfield 41, 3) := by decide +kernel
theorem dX8_toldGossips_14 : decode cX8_toldGossips 14 = .ok (.iload_n 2, 1) := by decide +kernel
theorem dX8_toldGossips_15 : decode cX8_toldGossips 15 = .ok (.aaload, 1) := by decide +kernel
theorem dX8_toldGossips_16 : decode cX8_toldGossips 16 = .ok (.getfield 325, 3) := by decide +kernel
theorem dX8_toldGossips_19 : decode cX8_toldGossips 19 = .ok (.ifCond .eq 9, 3) := by decide +kernel
theorem dX8_toldGossips_28 : decode cX8_toldGossips 28 = .ok (.iinc 2 1, 3) := by decide +kernel
theorem dX8_toldGossips_31 : decode cX8_toldGossips 31 = .ok (.goto (-27), 3) := by decide +kernel
theorem dX8_toldGossips_34 : decode cX8_toldGossips 34 = .ok (.iload_n 1, 1) := by decide +kernel
theorem dX8_toldGossips_35 : decode cX8_toldGossips 35 = .ok (.ireturn, 1) := by decide +kernel
theorem dX9_in_0 : decode cX9_in 0 = .ok (.iload_n 0, 1) := by decide +kernel
theorem dX9_in_1 : decode cX9_in 1 = .ok (.iload_n 1, 1) := by decide +kernel
theorem dX9_in_2 : decode cX9_in 2 = .ok (.if_icmp .lt 12, 3) := by decide +kernel
theorem dX9_in_5 : decode cX9_in 5 = .ok (.iload_n 0, 1) := by decide +kernel
theorem dX9_in_6 : decode cX9_in 6 = .ok (.iload_n 2, 1) := by decide +kernel
theorem dX9_in_7 : decode cX9_in 7 = .ok (.if_icmp .gt 7, 3) := by decide +kernel
theorem dX9_in_10 : decode cX9_in 10 = .ok (.iconst 1, 1) := by decide +kernel
theorem dX9_in_11 : decode cX9_in 11 = .ok (.goto 4, 3) := by decide +kernel
theorem dX9_in_14 : decode cX9_in 14 = .ok (.iconst 0, 1) := by decide +kernel
theorem dX9_in_15 : decode cX9_in 15 = .ok (.ireturn, 1) := by decide +kernel
theorem dX9_isColumn_0 : decode cX9_isColumn 0 = .ok (.iload_n 0, 1) := by decide +kernel
theorem dX9_isColumn_1 : decode cX9_isColumn 1 = .ok (.ifCond .lt 12, 3) := by decide +kernel
theorem dX9_isColumn_4 : decode cX9_isColumn 4 = .ok (.iload_n 0, 1) := by decide +kernel
theorem dX9_isColumn_5 : decode cX9_isColumn 5 = .ok (.iconst 4, 1) := by decide +kernel
theorem dX9_isColumn_6 : decode cX9_isColumn 6 = .ok (.if_icmp .ge 7, 3) := by decide +kernel
theorem dX9_isColumn_9 : decode cX9_isColumn 9 = .ok (.iconst 1, 1) := by decide +kernel
theorem dX9_isColumn_10 : decode cX9_isColumn 10 = .ok (.goto 4, 3) := by decide +kernel
theorem dX9_isColumn_13 : decode cX9_isColumn 13 = .ok (.iconst 0, 1) := by decide +kernel
theorem dX9_isColumn_14 : decode cX9_isColumn 14 = .ok (.ireturn, 1) := by decide +kernel
theorem dX9_isLevel_0 : decode cX9_isLevel 0 = .ok (.iload_n 0, 1) := by decide +kernel
theorem dX9_isLevel_1 : decode cX9_isLevel 1 = .ok (.ifCond .lt 12, 3) := by decide +kernel
theorem dX9_isLevel_4 : decode cX9_isLevel 4 = .ok (.iload_n 0, 1) := by decide +kernel
theorem dX9_isLevel_5 : decode cX9_isLevel 5 = .ok (.iconst 5, 1) := by decide +kernel
theorem dX9_isLevel_6 : decode cX9_isLevel 6 = .ok (.if_icmp .ge 7, 3) := by decide +kernel
theorem dX9_isLevel_9 : decode cX9_isLevel 9 = .ok (.iconst 1, 1) := by decide +kernel
theorem dX9_isLevel_10 : decode cX9_isLevel 10 = .ok (.goto 4, 3) := by decide +kernel
theorem dX9_isLevel_13 : decode cX9_isLevel 13 = .ok (.iconst 0, 1) := by decide +kernel
theorem dX9_isLevel_14 : decode cX9_isLevel 14 = .ok (.ireturn, 1) := by decide +kernel
theorem dX9_isKnown_0 : decode cX9_isKnown 0 = .ok (.iload_n 0, 1) := by decide +kernel
theorem dX9_isKnown_1 : decode cX9_isKnown 1 = .ok (.ifCond .lt 14, 3) := by decide +kernel
theorem dX9_isKnown_4 : decode cX9_isKnown 4 = .ok (.iload_n 0, 1) := by decide +kernel
theorem dX9_isKnown_5 : decode cX9_isKnown 5 = .ok (.sipush 256, 3) := by decide +kernel
theorem dX9_isKnown_8 : decode cX9_isKnown 8 = .ok (.if_icmp .ge 7, 3) := by decide +kernel
theorem dX9_isKnown_11 : decode cX9_isKnown 11 = .ok (.iconst 1, 1) := by decide +kernel
theorem dX9_isKnown_12 : decode cX9_isKnown 12 = .ok (.goto 4, 3) := by decide +kernel
theorem dX9_isKnown_15 : decode cX9_isKnown 15 = .ok (.iconst 0, 1) := by decide +kernel
theorem dX9_isKnown_16 : decode cX9_isKnown 16 = .ok (.ireturn, 1) := by decide +kernel
theorem dX9_isMany_0 : decode cX9_isMany 0 = .ok (.iload_n 0, 1) := by decide +kernel
theorem dX9_isMany_1 : decode cX9_isMany 1 = .ok (.ifCond .le 13, 3) := by decide +kernel
theorem dX9_isMany_4 : decode cX9_isMany 4 = .ok (.iload_n 0, 1) := by decide +kernel
theorem dX9_isMany_5 : decode cX9_isMany 5 = .ok (.bipush 17, 2) := by decide +kernel
theorem dX9_isMany_7 : decode cX9_isMany 7 = .ok (.if_icmp .ge 7, 3) := by decide +kernel
theorem dX9_isMany_10 : decode cX9_isMany 10 = .ok (.iconst 1, 1) := by decide +kernel
theorem dX9_isMany_11 : decode cX9_isMany 11 = .ok (.goto 4, 3) := by decide +kernel
theorem dX9_isMany_14 : decode cX9_isMany 14 = .ok (.iconst 0, 1) := by decide +kernel
theorem dX9_isMany_15 : decode cX9_isMany 15 = .ok (.ireturn, 1) := by decide +kernel
end
section
theorem mm_0 : Cond.selects RX3 yX3_climb yX3_climb ∈ zGW := List.mem_filter.mpr ⟨List.mem_of_getElem? (i := 0) (by decide +kernel), by decide +kernel⟩
theorem mm_3 : Cond.selects RX8 yX8_isPerson yX8_isPerson ∈ zGW := List.mem_filter.mpr ⟨List.mem_of_getElem? (i := 3) (by decide +kernel), by decide +kernel⟩
theorem mm_18 : Cond.selects RX8 yX8_isLive yX8_isLive ∈ zGW := List.mem_filter.mpr ⟨List.mem_of_getElem? (i := 18) (by decide +kernel), by decide +kernel⟩
theorem mm_19 : Cond.selects RX8 yX8_isLine yX8_isLine ∈ zGW := List.mem_filter.mpr ⟨List.mem_of_getElem? (i := 19) (by decide +kernel), by decide +kernel⟩
theorem mm_20 : Cond.selects RX8 yX8_isBook yX8_isBook ∈ zGW := List.mem_filter.mpr ⟨List.mem_of_getElem? (i := 20) (by decide +kernel), by decide +kernel⟩
theorem mm_23 : Cond.selects RX8 yX8_shownBooks yX8_shownBooks ∈ zGW := List.mem_filter.mpr ⟨List.mem_of_getElem? (i := 23) (by decide +kernel), by decide +kernel⟩
theorem mm_50 : Cond.selects RX8 yX8_toldGossips yX8_toldGossips ∈ zGW := List.mem_filter.mpr ⟨List.mem_of_getElem? (i := 50) (by decide +kernel), by decide +kernel⟩
theorem mm_108 : Cond.initialized RX8 ∈ zGW := List.mem_filter.mpr ⟨List.mem_of_getElem? (i := 108) (by decide +kernel), by decide +kernel⟩
theorem mm_109 : Cond.initialized RX7 ∈ zGW := List.mem_filter.mpr ⟨List.mem_of_getElem? (i := 109) (by decide +kernel), by decide +kernel⟩
theorem mm_110 : Cond.initialized RX5 ∈ zGW := List.mem_filter.mpr ⟨List.mem_of_getElem? (i := 110) (by decide +kernel), by decide +kernel⟩
theorem mm_111 : Cond.initialized RX6 ∈ zGW := List.mem_filter.mpr ⟨List.mem_of_getElem? (i := 111) (by decide +kernel), by decide +kernel⟩
theorem mm_112 : Cond.initialized RX0 ∈ zGW := List.mem_filter.mpr ⟨List.mem_of_getElem? (i := 112) (by decide +kernel), by decide +kernel⟩
theorem mm_113 : Cond.initialized RX1 ∈ zGW := List.mem_filter.mpr ⟨List.mem_of_getElem? (i := 113) (by decide +kernel), by decide +kernel⟩
theorem mm_114 : Cond.initialized RX4 ∈ zGW := List.mem_filter.mpr ⟨List.mem_of_getElem? (i := 114) (by decide +kernel), by decide +kernel⟩
theorem mm_115 : Cond.initialized RX3 ∈ zGW := List.mem_filter.mpr ⟨List.mem_of_getElem? (i := 115) (by decide +kernel), by decide +kernel⟩
theorem mm_116 : Cond.initialized RX2 ∈ zGW := List.mem_filter.mpr ⟨List.mem_of_getElem? (i := 116) (by decide +kernel), by decide +kernel⟩
theorem mm_125 : Cond.methodLink RX8 1 objectInit ∈ zGW := List.mem_filter.mpr ⟨List.mem_of_getElem? (i := 125) (by decide +kernel), by decide +kernel⟩
theorem mm_126 : Cond.instanceMethod objectInit ∈ zGW := List.mem_filter.mpr ⟨List.mem_of_getElem? (i := 126) (by decide +kernel), by decide +kernel⟩
theorem mm_127 : Cond.code objectInit ⟨#[0xb1]⟩ 1 none ∈ zGW := List.mem_filter.mpr ⟨List.mem_of_getElem? (i := 127) (by decide +kernel), by decide +kernel⟩
theorem mm_128 : Cond.classLink RX8 9 RX3 ∈ zGW := List.mem_filter.mpr ⟨List.mem_of_getElem? (i := 128) (by decide +kernel), by decide +kernel⟩
theorem mm_130 : Cond.classLink RX8 19 RX7 ∈ zGW := List.mem_filter.mpr ⟨List.mem_of_getElem? (i := 130) (by decide +kernel), by decide +kernel⟩
theorem mm_131 : Cond.instantiable RX7 2 ∈ zGW := List.mem_filter.mpr ⟨List.mem_of_getElem? (i := 131) (by decide +kernel), by decide +kernel⟩
theorem mm_133 : Cond.instanceMethod yX7_init ∈ zGW := List.mem_filter.mpr ⟨List.mem_of_getElem? (i := 133) (by decide +kernel), by decide +kernel⟩
theorem mm_134 : Cond.code yX7_init cX7_init 1 none ∈ zGW := List.mem_filter.mpr ⟨List.mem_of_getElem? (i := 134) (by decide +kernel), by decide +kernel⟩
theorem mm_135 : Cond.methodLink RX7 3 objectInit ∈ zGW := List.mem_filter.mpr ⟨List.mem_of_getElem? (i := 135) (by decide +kernel), by decide +kernel⟩
theorem mm_136 : Cond.fieldLink RX7 9 "TwoFit$Tape" "length" "I" ∈ zGW := List.mem_filter.mpr ⟨List.mem_of_getElem? (i := 136) (by decide +kernel), by decide +kernel⟩
theorem mm_137 : Cond.fieldLink RX8 114 "TwoFit$Tape" "length" "I" ∈ zGW := List.mem_filter.mpr ⟨List.mem_of_getElem? (i := 137) (by decide +kernel), by decide +kernel⟩
theorem mm_138 : Cond.fieldLink RX7 15 "TwoFit$Tape" "bytes" "[I" ∈ zGW := List.mem_filter.mpr ⟨List.mem_of_getElem? (i := 138) (by decide +kernel), by decide +kernel⟩
theorem mm_139 : Cond.lays RX7 "TwoFit$Tape" "length" "I" ∈ zGW := List.mem_filter.mpr ⟨List.mem_of_getElem? (i := 139) (by decide +kernel), by decide +kernel⟩
theorem mm_141 : Cond.laysFinal RX7 "TwoFit$Tape" "bytes" "[I" ∈ zGW := List.mem_filter.mpr ⟨List.mem_of_getElem? (i := 141) (by decide +kernel), by decide +kernel⟩
theorem mm_144 : Cond.arrayClass .int ∈ zGW := List.mem_filter.mpr ⟨List.mem_of_getElem? (i := 144) (by decide +kernel), by decide +kernel⟩
theorem mm_145 : Cond.classLink RX8 26 RX2 ∈ zGW := List.mem_filter.mpr ⟨List.mem_of_getElem? (i := 145) (by decide +kernel), by decide +kernel⟩
theorem mm_147 : Cond.classLink RX8 32 RX5 ∈ zGW := List.mem_filter.mpr ⟨List.mem_of_getElem? (i := 147) (by decide +kernel), by decide +kernel⟩
theorem mm_148 : Cond.instantiable RX5 3 ∈ zGW := List.mem_filter.mpr ⟨List.mem_of_getElem? (i := 148) (by decide +kernel), by decide +kernel⟩
theorem mm_150 : Cond.instanceMethod yX5_init ∈ zGW := List.mem_filter.mpr ⟨List.mem_of_getElem? (i := 150) (by decide +kernel), by decide +kernel⟩
theorem mm_151 : Cond.code yX5_init cX5_init 1 none ∈ zGW := List.mem_filter.mpr ⟨List.mem_of_getElem? (i := 151) (by decide +kernel), by decide +kernel⟩
theorem mm_152 : Cond.methodLink RX5 3 objectInit ∈ zGW := List.mem_filter.mpr ⟨List.mem_of_getElem? (i := 152) (by decide +kernel), by decide +kernel⟩
theorem mm_153 : Cond.fieldLink RX5 9 "TwoFit$Links" "number" "I" ∈ zGW := List.mem_filter.mpr ⟨List.mem_of_getElem? (i := 153) (by decide +kernel), by decide +kernel⟩
theorem mm_154 : Cond.fieldLink RX8 171 "TwoFit$Links" "number" "I" ∈ zGW := List.mem_filter.mpr ⟨List.mem_of_getElem? (i := 154) (by decide +kernel), by decide +kernel⟩
theorem mm_155 : Cond.fieldLink RX5 15 "TwoFit$Links" "from" "[I" ∈ zGW := List.mem_filter.mpr ⟨List.mem_of_getElem? (i := 155) (by decide +kernel), by decide +kernel⟩
theorem mm_156 : Cond.fieldLink RX5 19 "TwoFit$Links" "to" "[I" ∈ zGW := List.mem_filter.mpr ⟨List.mem_of_getElem? (i := 156) (by decide +kernel), by decide +kernel⟩
theorem mm_157 : Cond.lays RX5 "TwoFit$Links" "number" "I" ∈ zGW := List.mem_filter.mpr ⟨List.mem_of_getElem? (i := 157) (by decide +kernel), by decide +kernel⟩
theorem mm_159 : Cond.laysFinal RX5 "TwoFit$Links" "from" "[I" ∈ zGW := List.mem_filter.mpr ⟨List.mem_of_getElem? (i := 159) (by decide +kernel), by decide +kernel⟩
theorem mm_161 : Cond.laysFinal RX5 "TwoFit$Links" "to" "[I" ∈ zGW := List.mem_filter.mpr ⟨List.mem_of_getElem? (i := 161) (by decide +kernel), by decide +kernel⟩
theorem mm_164 : Cond.classLink RX8 39 RX4 ∈ zGW := List.mem_filter.mpr ⟨List.mem_of_getElem? (i := 164) (by decide +kernel), by decide +kernel⟩
theorem mm_166 : Cond.classLink RX8 45 RX6 ∈ zGW := List.mem_filter.mpr ⟨List.mem_of_getElem? (i := 166) (by decide +kernel), by decide +kernel⟩
theorem mm_167 : Cond.instantiable RX6 10 ∈ zGW := List.mem_filter.mpr ⟨List.mem_of_getElem? (i := 167) (by decide +kernel), by decide +kernel⟩
theorem mm_169 : Cond.instanceMethod yX6_init ∈ zGW := List.mem_filter.mpr ⟨List.mem_of_getElem? (i := 169) (by decide +kernel), by decide +kernel⟩
theorem mm_170 : Cond.code yX6_init cX6_init 1 none ∈ zGW := List.mem_filter.mpr ⟨List.mem_of_getElem? (i := 170) (by decide +kernel), by decide +kernel⟩
theorem mm_171 : Cond.methodLink RX6 3 objectInit ∈ zGW := List.mem_filter.mpr ⟨List.mem_of_getElem? (i := 171) (by decide +kernel), by decide +kernel⟩
theorem mm_172 : Cond.fieldLink RX6 9 "TwoFit$Matching" "lines" "I" ∈ zGW := List.mem_filter.mpr ⟨List.mem_of_getElem? (i := 172) (by decide +kernel), by decide +kernel⟩
theorem mm_174 : Cond.fieldLink RX6 15 "TwoFit$Matching" "live" "I" ∈ zGW := List.mem_filter.mpr ⟨List.mem_of_getElem? (i := 174) (by decide +kernel), by decide +kernel⟩
theorem mm_176 : Cond.fieldLink RX6 18 "TwoFit$Matching" "lacking" "I" ∈ zGW := List.mem_filter.mpr ⟨List.mem_of_getElem? (i := 176) (by decide +kernel), by decide +kernel⟩
theorem mm_178 : Cond.fieldLink RX6 21 "TwoFit$Matching" "found" "I" ∈ zGW := List.mem_filter.mpr ⟨List.mem_of_getElem? (i := 178) (by decide +kernel), by decide +kernel⟩
theorem mm_180 : Cond.fieldLink RX6 24 "TwoFit$Matching" "laid" "[I" ∈ zGW := List.mem_filter.mpr ⟨List.mem_of_getElem? (i := 180) (by decide +kernel), by decide +kernel⟩
theorem mm_182 : Cond.fieldLink RX6 28 "TwoFit$Matching" "fit" "[I" ∈ zGW := List.mem_filter.mpr ⟨List.mem_of_getElem? (i := 182) (by decide +kernel), by decide +kernel⟩
theorem mm_184 : Cond.fieldLink RX6 31 "TwoFit$Matching" "may" "[I" ∈ zGW := List.mem_filter.mpr ⟨List.mem_of_getElem? (i := 184) (by decide +kernel), by decide +kernel⟩
theorem mm_186 : Cond.fieldLink RX6 34 "TwoFit$Matching" "joint" "[I" ∈ zGW := List.mem_filter.mpr ⟨List.mem_of_getElem? (i := 186) (by decide +kernel), by decide +kernel⟩
theorem mm_187 : Cond.fieldLink RX6 37 "TwoFit$Matching" "ways" "[J" ∈ zGW := List.mem_filter.mpr ⟨List.mem_of_getElem? (i := 187) (by decide +kernel), by decide +kernel⟩
theorem mm_188 : Cond.fieldLink RX6 41 "TwoFit$Matching" "left" "[I" ∈ zGW := List.mem_filter.mpr ⟨List.mem_of_getElem? (i := 188) (by decide +kernel), by decide +kernel⟩
theorem mm_189 : Cond.lays RX6 "TwoFit$Matching" "lines" "I" ∈ zGW := List.mem_filter.mpr ⟨List.mem_of_getElem? (i := 189) (by decide +kernel), by decide +kernel⟩
theorem mm_191 : Cond.lays RX6 "TwoFit$Matching" "live" "I" ∈ zGW := List.mem_filter.mpr ⟨List.mem_of_getElem? (i := 191) (by decide +kernel), by decide +kernel⟩
theorem mm_193 : Cond.lays RX6 "TwoFit$Matching" "lacking" "I" ∈ zGW := List.mem_filter.mpr ⟨List.mem_of_getElem? (i := 193) (by decide +kernel), by decide +kernel⟩
theorem mm_195 : Cond.lays RX6 "TwoFit$Matching" "found" "I" ∈ zGW := List.mem_filter.mpr ⟨List.mem_of_getElem? (i := 195) (by decide +kernel), by decide +kernel⟩
theorem mm_197 : Cond.laysFinal RX6 "TwoFit$Matching" "laid" "[I" ∈ zGW := List.mem_filter.mpr ⟨List.mem_of_getElem? (i := 197) (by decide +kernel), by decide +kernel⟩
theorem mm_199 : Cond.laysFinal RX6 "TwoFit$Matching" "fit" "[I" ∈ zGW := List.mem_filter.mpr ⟨List.mem_of_getElem? (i := 199) (by decide +kernel), by decide +kernel⟩
theorem mm_201 : Cond.laysFinal RX6 "TwoFit$Matching" "may" "[I" ∈ zGW := List.mem_filter.mpr ⟨List.mem_of_getElem? (i := 201) (by decide +kernel), by decide +kernel⟩
theorem mm_203 : Cond.laysFinal RX6 "TwoFit$Matching" "joint" "[I" ∈ zGW := List.mem_filter.mpr ⟨List.mem_of_getElem? (i := 203) (by decide +kernel), by decide +kernel⟩
theorem mm_205 : Cond.laysFinal RX6 "TwoFit$Matching" "ways" "[J" ∈ zGW := List.mem_filter.mpr ⟨List.mem_of_getElem? (i := 205) (by decide +kernel), by decide +kernel⟩
theorem mm_207 : Cond.laysFinal RX6 "TwoFit$Matching" "left" "[I" ∈ zGW := List.mem_filter.mpr ⟨List.mem_of_getElem? (i := 207) (by decide +kernel), by decide +kernel⟩
theorem mm_210 : Cond.arrayClass .long ∈ zGW := List.mem_filter.mpr ⟨List.mem_of_getElem? (i := 210) (by decide +kernel), by decide +kernel⟩
theorem mm_211 : Cond.classLink RX8 52 RX0 ∈ zGW := List.mem_filter.mpr ⟨List.mem_of_getElem? (i := 211) (by decide +kernel), by decide +kernel⟩
theorem mm_212 : Cond.instantiable RX0 5 ∈ zGW := List.mem_filter.mpr ⟨List.mem_of_getElem? (i := 212) (by decide +kernel), by decide +kernel⟩
theorem mm_214 : Cond.instanceMethod yX0_init ∈ zGW := List.mem_filter.mpr ⟨List.mem_of_getElem? (i := 214) (by decide +kernel), by decide +kernel⟩
theorem mm_215 : Cond.code yX0_init cX0_init 1 none ∈ zGW := List.mem_filter.mpr ⟨List.mem_of_getElem? (i := 215) (by decide +kernel), by decide +kernel⟩
theorem mm_216 : Cond.methodLink RX0 3 objectInit ∈ zGW := List.mem_filter.mpr ⟨List.mem_of_getElem? (i := 216) (by decide +kernel), by decide +kernel⟩
theorem mm_217 : Cond.fieldLink RX0 9 "TwoFit$Asking" "splits" "[I" ∈ zGW := List.mem_filter.mpr ⟨List.mem_of_getElem? (i := 217) (by decide +kernel), by decide +kernel⟩
theorem mm_218 : Cond.fieldLink RX0 15 "TwoFit$Asking" "splitCount" "I" ∈ zGW := List.mem_filter.mpr ⟨List.mem_of_getElem? (i := 218) (by decide +kernel), by decide +kernel⟩
theorem mm_219 : Cond.fieldLink RX0 19 "TwoFit$Asking" "sizes" "[I" ∈ zGW := List.mem_filter.mpr ⟨List.mem_of_getElem? (i := 219) (by decide +kernel), by decide +kernel⟩
theorem mm_220 : Cond.fieldLink RX0 22 "TwoFit$Asking" "bounds" "[I" ∈ zGW := List.mem_filter.mpr ⟨List.mem_of_getElem? (i := 220) (by decide +kernel), by decide +kernel⟩
theorem mm_221 : Cond.fieldLink RX0 25 "TwoFit$Asking" "time" "I" ∈ zGW := List.mem_filter.mpr ⟨List.mem_of_getElem? (i := 221) (by decide +kernel), by decide +kernel⟩
theorem mm_222 : Cond.laysFinal RX0 "TwoFit$Asking" "splits" "[I" ∈ zGW := List.mem_filter.mpr ⟨List.mem_of_getElem? (i := 222) (by decide +kernel), by decide +kernel⟩
theorem mm_224 : Cond.lays RX0 "TwoFit$Asking" "splitCount" "I" ∈ zGW := List.mem_filter.mpr ⟨List.mem_of_getElem? (i := 224) (by decide +kernel), by decide +kernel⟩
theorem mm_226 : Cond.laysFinal RX0 "TwoFit$Asking" "sizes" "[I" ∈ zGW := List.mem_filter.mpr ⟨List.mem_of_getElem? (i := 226) (by decide +kernel), by decide +kernel⟩
theorem mm_228 : Cond.lays RX0 "TwoFit$Asking" "bounds" "[I" ∈ zGW := List.mem_filter.mpr ⟨List.mem_of_getElem? (i := 228) (by decide +kernel), by decide +kernel⟩
theorem mm_230 : Cond.lays RX0 "TwoFit$Asking" "time" "I" ∈ zGW := List.mem_filter.mpr ⟨List.mem_of_getElem? (i := 230) (by decide +kernel), by decide +kernel⟩
theorem mm_233 : Cond.classLink RX8 59 RX1 ∈ zGW := List.mem_filter.mpr ⟨List.mem_of_getElem? (i := 233) (by decide +kernel), by decide +kernel⟩
theorem mm_234 : Cond.instantiable RX1 7 ∈ zGW := List.mem_filter.mpr ⟨List.mem_of_getElem? (i := 234) (by decide +kernel), by decide +kernel⟩
theorem mm_236 : Cond.instanceMethod yX1_init ∈ zGW := List.mem_filter.mpr ⟨List.mem_of_getElem? (i := 236) (by decide +kernel), by decide +kernel⟩
theorem mm_237 : Cond.code yX1_init cX1_init 1 none ∈ zGW := List.mem_filter.mpr ⟨List.mem_of_getElem? (i := 237) (by decide +kernel), by decide +kernel⟩
theorem mm_238 : Cond.methodLink RX1 3 objectInit ∈ zGW := List.mem_filter.mpr ⟨List.mem_of_getElem? (i := 238) (by decide +kernel), by decide +kernel⟩
theorem mm_239 : Cond.classLink RX1 21 "[[I" ∈ zGW := List.mem_filter.mpr ⟨List.mem_of_getElem? (i := 239) (by decide +kernel), by decide +kernel⟩
theorem mm_241 : Cond.fieldLink RX1 9 "TwoFit$Blurs" "least" "I" ∈ zGW := List.mem_filter.mpr ⟨List.mem_of_getElem? (i := 241) (by decide +kernel), by decide +kernel⟩
theorem mm_243 : Cond.fieldLink RX1 15 "TwoFit$Blurs" "leastRow" "I" ∈ zGW := List.mem_filter.mpr ⟨List.mem_of_getElem? (i := 243) (by decide +kernel), by decide +kernel⟩
theorem mm_245 : Cond.fieldLink RX1 18 "TwoFit$Blurs" "leastCut" "I" ∈ zGW := List.mem_filter.mpr ⟨List.mem_of_getElem? (i := 245) (by decide +kernel), by decide +kernel⟩
theorem mm_247 : Cond.fieldLink RX1 23 "TwoFit$Blurs" "who" "[[I" ∈ zGW := List.mem_filter.mpr ⟨List.mem_of_getElem? (i := 247) (by decide +kernel), by decide +kernel⟩
theorem mm_248 : Cond.fieldLink RX1 26 "TwoFit$Blurs" "losses" "[[I" ∈ zGW := List.mem_filter.mpr ⟨List.mem_of_getElem? (i := 248) (by decide +kernel), by decide +kernel⟩
theorem mm_249 : Cond.fieldLink RX1 29 "TwoFit$Blurs" "tops" "[I" ∈ zGW := List.mem_filter.mpr ⟨List.mem_of_getElem? (i := 249) (by decide +kernel), by decide +kernel⟩
theorem mm_250 : Cond.fieldLink RX1 33 "TwoFit$Blurs" "levels" "[I" ∈ zGW := List.mem_filter.mpr ⟨List.mem_of_getElem? (i := 250) (by decide +kernel), by decide +kernel⟩
theorem mm_251 : Cond.lays RX1 "TwoFit$Blurs" "least" "I" ∈ zGW := List.mem_filter.mpr ⟨List.mem_of_getElem? (i := 251) (by decide +kernel), by decide +kernel⟩
theorem mm_253 : Cond.lays RX1 "TwoFit$Blurs" "leastRow" "I" ∈ zGW := List.mem_filter.mpr ⟨List.mem_of_getElem? (i := 253) (by decide +kernel), by decide +kernel⟩
theorem mm_255 : Cond.lays RX1 "TwoFit$Blurs" "leastCut" "I" ∈ zGW := List.mem_filter.mpr ⟨List.mem_of_getElem? (i := 255) (by decide +kernel), by decide +kernel⟩
theorem mm_257 : Cond.laysFinal RX1 "TwoFit$Blurs" "who" "[[I" ∈ zGW := List.mem_filter.mpr ⟨List.mem_of_getElem? (i := 257) (by decide +kernel), by decide +kernel⟩
theorem mm_259 : Cond.laysFinal RX1 "TwoFit$Blurs" "losses" "[[I" ∈ zGW := List.mem_filter.mpr ⟨List.mem_of_getElem? (i := 259) (by decide +kernel), by decide +kernel⟩
theorem mm_261 : Cond.laysFinal RX1 "TwoFit$Blurs" "tops" "[I" ∈ zGW := List.mem_filter.mpr ⟨List.mem_of_getElem? (i := 261) (by decide +kernel), by decide +kernel⟩
theorem mm_263 : Cond.laysFinal RX1 "TwoFit$Blurs" "levels" "[I" ∈ zGW := List.mem_filter.mpr ⟨List.mem_of_getElem? (i := 263) (by decide +kernel), by decide +kernel⟩
theorem mm_266 : Cond.instantiable RX4 11 ∈ zGW := List.mem_filter.mpr ⟨List.mem_of_getElem? (i := 266) (by decide +kernel), by decide +kernel⟩
theorem mm_268 : Cond.instanceMethod yX4_init ∈ zGW := List.mem_filter.mpr ⟨List.mem_of_getElem? (i := 268) (by decide +kernel), by decide +kernel⟩
theorem mm_269 : Cond.code yX4_init cX4_init 1 none ∈ zGW := List.mem_filter.mpr ⟨List.mem_of_getElem? (i := 269) (by decide +kernel), by decide +kernel⟩
theorem mm_270 : Cond.methodLink RX4 3 objectInit ∈ zGW := List.mem_filter.mpr ⟨List.mem_of_getElem? (i := 270) (by decide +kernel), by decide +kernel⟩
theorem mm_271 : Cond.fieldLink RX4 9 "TwoFit$Gossip" "isTold" "Z" ∈ zGW := List.mem_filter.mpr ⟨List.mem_of_getElem? (i := 271) (by decide +kernel), by decide +kernel⟩
theorem mm_272 : Cond.fieldLink RX8 325 "TwoFit$Gossip" "isTold" "Z" ∈ zGW := List.mem_filter.mpr ⟨List.mem_of_getElem? (i := 272) (by decide +kernel), by decide +kernel⟩
theorem mm_273 : Cond.fieldLink RX4 15 "TwoFit$Gossip" "ofBook" "I" ∈ zGW := List.mem_filter.mpr ⟨List.mem_of_getElem? (i := 273) (by decide +kernel), by decide +kernel⟩
theorem mm_275 : Cond.fieldLink RX4 19 "TwoFit$Gossip" "holds" "I" ∈ zGW := List.mem_filter.mpr ⟨List.mem_of_getElem? (i := 275) (by decide +kernel), by decide +kernel⟩
theorem mm_277 : Cond.fieldLink RX4 22 "TwoFit$Gossip" "fault" "I" ∈ zGW := List.mem_filter.mpr ⟨List.mem_of_getElem? (i := 277) (by decide +kernel), by decide +kernel⟩
theorem mm_279 : Cond.fieldLink RX4 25 "TwoFit$Gossip" "faultAt" "I" ∈ zGW := List.mem_filter.mpr ⟨List.mem_of_getElem? (i := 279) (by decide +kernel), by decide +kernel⟩
theorem mm_281 : Cond.fieldLink RX4 28 "TwoFit$Gossip" "ofLine" "I" ∈ zGW := List.mem_filter.mpr ⟨List.mem_of_getElem? (i := 281) (by decide +kernel), by decide +kernel⟩
theorem mm_282 : Cond.fieldLink RX4 31 "TwoFit$Gossip" "letters" "[I" ∈ zGW := List.mem_filter.mpr ⟨List.mem_of_getElem? (i := 282) (by decide +kernel), by decide +kernel⟩
theorem mm_283 : Cond.fieldLink RX4 35 "TwoFit$Gossip" "text" "[I" ∈ zGW := List.mem_filter.mpr ⟨List.mem_of_getElem? (i := 283) (by decide +kernel), by decide +kernel⟩
theorem mm_284 : Cond.fieldLink RX4 38 "TwoFit$Gossip" "length" "I" ∈ zGW := List.mem_filter.mpr ⟨List.mem_of_getElem? (i := 284) (by decide +kernel), by decide +kernel⟩
theorem mm_285 : Cond.fieldLink RX4 41 "TwoFit$Gossip" "at" "I" ∈ zGW := List.mem_filter.mpr ⟨List.mem_of_getElem? (i := 285) (by decide +kernel), by decide +kernel⟩
theorem mm_286 : Cond.fieldLink RX4 44 "TwoFit$Gossip" "refused" "Z" ∈ zGW := List.mem_filter.mpr ⟨List.mem_of_getElem? (i := 286) (by decide +kernel), by decide +kernel⟩
theorem mm_287 : Cond.lays RX4 "TwoFit$Gossip" "isTold" "Z" ∈ zGW := List.mem_filter.mpr ⟨List.mem_of_getElem? (i := 287) (by decide +kernel), by decide +kernel⟩
theorem mm_289 : Cond.lays RX4 "TwoFit$Gossip" "ofBook" "I" ∈ zGW := List.mem_filter.mpr ⟨List.mem_of_getElem? (i := 289) (by decide +kernel), by decide +kernel⟩
theorem mm_291 : Cond.lays RX4 "TwoFit$Gossip" "holds" "I" ∈ zGW := List.mem_filter.mpr ⟨List.mem_of_getElem? (i := 291) (by decide +kernel), by decide +kernel⟩
theorem mm_293 : Cond.lays RX4 "TwoFit$Gossip" "fault" "I" ∈ zGW := List.mem_filter.mpr ⟨List.mem_of_getElem? (i := 293) (by decide +kernel), by decide +kernel⟩
theorem mm_295 : Cond.lays RX4 "TwoFit$Gossip" "faultAt" "I" ∈ zGW := List.mem_filter.mpr ⟨List.mem_of_getElem? (i := 295) (by decide +kernel), by decide +kernel⟩
theorem mm_297 : Cond.lays RX4 "TwoFit$Gossip" "ofLine" "I" ∈ zGW := List.mem_filter.mpr ⟨List.mem_of_getElem? (i := 297) (by decide +kernel), by decide +kernel⟩
theorem mm_299 : Cond.laysFinal RX4 "TwoFit$Gossip" "letters" "[I" ∈ zGW := List.mem_filter.mpr ⟨List.mem_of_getElem? (i := 299) (by decide +kernel), by decide +kernel⟩
theorem mm_301 : Cond.laysFinal RX4 "TwoFit$Gossip" "text" "[I" ∈ zGW := List.mem_filter.mpr ⟨List.mem_of_getElem? (i := 301) (by decide +kernel), by decide +kernel⟩
theorem mm_303 : Cond.lays RX4 "TwoFit$Gossip" "length" "I" ∈ zGW := List.mem_filter.mpr ⟨List.mem_of_getElem? (i := 303) (by decide +kernel), by decide +kernel⟩
theorem mm_305 : Cond.lays RX4 "TwoFit$Gossip" "at" "I" ∈ zGW := List.mem_filter.mpr ⟨List.mem_of_getElem? (i := 305) (by decide +kernel), by decide +kernel⟩
theorem mm_307 : Cond.lays RX4 "TwoFit$Gossip" "refused" "Z" ∈ zGW := List.mem_filter.mpr ⟨List.mem_of_getElem? (i := 307) (by decide +kernel), by decide +kernel⟩
theorem mm_310 : Cond.instantiable RX3 6 ∈ zGW := List.mem_filter.mpr ⟨List.mem_of_getElem? (i := 310) (by decide +kernel), by decide +kernel⟩
theorem mm_311 : Cond.methodLink RX8 81 yX3_init ∈ zGW := List.mem_filter.mpr ⟨List.mem_of_getElem? (i := 311) (by decide +kernel), by decide +kernel⟩
theorem mm_312 : Cond.instanceMethod yX3_init ∈ zGW := List.mem_filter.mpr ⟨List.mem_of_getElem? (i := 312) (by decide +kernel), by decide +kernel⟩
theorem mm_313 : Cond.code yX3_init cX3_init 2 none ∈ zGW := List.mem_filter.mpr ⟨List.mem_of_getElem? (i := 313) (by decide +kernel), by decide +kernel⟩
theorem mm_314 : Cond.methodLink RX3 3 objectInit ∈ zGW := List.mem_filter.mpr ⟨List.mem_of_getElem? (i := 314) (by decide +kernel), by decide +kernel⟩
theorem mm_315 : Cond.fieldLink RX3 9 "TwoFit$Column" "weighs" "I" ∈ zGW := List.mem_filter.mpr ⟨List.mem_of_getElem? (i := 315) (by decide +kernel), by decide +kernel⟩
theorem mm_316 : Cond.fieldLink RX8 98 "TwoFit$Column" "weighs" "I" ∈ zGW := List.mem_filter.mpr ⟨List.mem_of_getElem? (i := 316) (by decide +kernel), by decide +kernel⟩
theorem mm_317 : Cond.fieldLink RX3 15 "TwoFit$Column" "above" "[I" ∈ zGW := List.mem_filter.mpr ⟨List.mem_of_getElem? (i := 317) (by decide +kernel), by decide +kernel⟩
theorem mm_318 : Cond.fieldLink RX3 19 "TwoFit$Column" "sizes" "[I" ∈ zGW := List.mem_filter.mpr ⟨List.mem_of_getElem? (i := 318) (by decide +kernel), by decide +kernel⟩
theorem mm_319 : Cond.fieldLink RX3 22 "TwoFit$Column" "who" "[I" ∈ zGW := List.mem_filter.mpr ⟨List.mem_of_getElem? (i := 319) (by decide +kernel), by decide +kernel⟩
theorem mm_320 : Cond.fieldLink RX3 25 "TwoFit$Column" "values" "[I" ∈ zGW := List.mem_filter.mpr ⟨List.mem_of_getElem? (i := 320) (by decide +kernel), by decide +kernel⟩
theorem mm_321 : Cond.fieldLink RX3 28 "TwoFit$Column" "settled" "I" ∈ zGW := List.mem_filter.mpr ⟨List.mem_of_getElem? (i := 321) (by decide +kernel), by decide +kernel⟩
theorem mm_322 : Cond.lays RX3 "TwoFit$Column" "weighs" "I" ∈ zGW := List.mem_filter.mpr ⟨List.mem_of_getElem? (i := 322) (by decide +kernel), by decide +kernel⟩
theorem mm_324 : Cond.laysFinal RX3 "TwoFit$Column" "above" "[I" ∈ zGW := List.mem_filter.mpr ⟨List.mem_of_getElem? (i := 324) (by decide +kernel), by decide +kernel⟩
theorem mm_326 : Cond.laysFinal RX3 "TwoFit$Column" "sizes" "[I" ∈ zGW := List.mem_filter.mpr ⟨List.mem_of_getElem? (i := 326) (by decide +kernel), by decide +kernel⟩
theorem mm_328 : Cond.laysFinal RX3 "TwoFit$Column" "who" "[I" ∈ zGW := List.mem_filter.mpr ⟨List.mem_of_getElem? (i := 328) (by decide +kernel), by decide +kernel⟩
theorem mm_330 : Cond.laysFinal RX3 "TwoFit$Column" "values" "[I" ∈ zGW := List.mem_filter.mpr ⟨List.mem_of_getElem? (i := 330) (by decide +kernel), by decide +kernel⟩
theorem mm_332 : Cond.lays RX3 "TwoFit$Column" "settled" "I" ∈ zGW := List.mem_filter.mpr ⟨List.mem_of_getElem? (i := 332) (by decide +kernel), by decide +kernel⟩
theorem mm_335 : Cond.instantiable RX2 5 ∈ zGW := List.mem_filter.mpr ⟨List.mem_of_getElem? (i := 335) (by decide +kernel), by decide +kernel⟩
theorem mm_337 : Cond.instanceMethod yX2_init ∈ zGW := List.mem_filter.mpr ⟨List.mem_of_getElem? (i := 337) (by decide +kernel), by decide +kernel⟩
theorem mm_338 : Cond.code yX2_init cX2_init 1 none ∈ zGW := List.mem_filter.mpr ⟨List.mem_of_getElem? (i := 338) (by decide +kernel), by decide +kernel⟩
theorem mm_339 : Cond.methodLink RX2 3 objectInit ∈ zGW := List.mem_filter.mpr ⟨List.mem_of_getElem? (i := 339) (by decide +kernel), by decide +kernel⟩
theorem mm_340 : Cond.classLink RX2 26 "[[I" ∈ zGW := List.mem_filter.mpr ⟨List.mem_of_getElem? (i := 340) (by decide +kernel), by decide +kernel⟩
theorem mm_341 : Cond.fieldLink RX2 9 "TwoFit$Book" "lines" "I" ∈ zGW := List.mem_filter.mpr ⟨List.mem_of_getElem? (i := 341) (by decide +kernel), by decide +kernel⟩
theorem mm_343 : Cond.fieldLink RX2 15 "TwoFit$Book" "live" "I" ∈ zGW := List.mem_filter.mpr ⟨List.mem_of_getElem? (i := 343) (by decide +kernel), by decide +kernel⟩
theorem mm_345 : Cond.fieldLink RX2 18 "TwoFit$Book" "isShown" "Z" ∈ zGW := List.mem_filter.mpr ⟨List.mem_of_getElem? (i := 345) (by decide +kernel), by decide +kernel⟩
theorem mm_347 : Cond.fieldLink RX2 22 "TwoFit$Book" "owners" "[I" ∈ zGW := List.mem_filter.mpr ⟨List.mem_of_getElem? (i := 347) (by decide +kernel), by decide +kernel⟩
theorem mm_348 : Cond.fieldLink RX2 28 "TwoFit$Book" "nodes" "[[I" ∈ zGW := List.mem_filter.mpr ⟨List.mem_of_getElem? (i := 348) (by decide +kernel), by decide +kernel⟩
theorem mm_349 : Cond.lays RX2 "TwoFit$Book" "lines" "I" ∈ zGW := List.mem_filter.mpr ⟨List.mem_of_getElem? (i := 349) (by decide +kernel), by decide +kernel⟩
theorem mm_351 : Cond.lays RX2 "TwoFit$Book" "live" "I" ∈ zGW := List.mem_filter.mpr ⟨List.mem_of_getElem? (i := 351) (by decide +kernel), by decide +kernel⟩
theorem mm_353 : Cond.lays RX2 "TwoFit$Book" "isShown" "Z" ∈ zGW := List.mem_filter.mpr ⟨List.mem_of_getElem? (i := 353) (by decide +kernel), by decide +kernel⟩
theorem mm_355 : Cond.laysFinal RX2 "TwoFit$Book" "owners" "[I" ∈ zGW := List.mem_filter.mpr ⟨List.mem_of_getElem? (i := 355) (by decide +kernel), by decide +kernel⟩
theorem mm_357 : Cond.laysFinal RX2 "TwoFit$Book" "nodes" "[[I" ∈ zGW := List.mem_filter.mpr ⟨List.mem_of_getElem? (i := 357) (by decide +kernel), by decide +kernel⟩
theorem mm_360 : Cond.fieldLink RX8 11 "TwoFit" "columns" "[LTwoFit$Column;" ∈ zGW := List.mem_filter.mpr ⟨List.mem_of_getElem? (i := 360) (by decide +kernel), by decide +kernel⟩
theorem mm_361 : Cond.fieldLink RX8 15 "TwoFit" "wishes" "[I" ∈ zGW := List.mem_filter.mpr ⟨List.mem_of_getElem? (i := 361) (by decide +kernel), by decide +kernel⟩
theorem mm_362 : Cond.fieldLink RX8 22 "TwoFit" "tape" "LTwoFit$Tape;" ∈ zGW := List.mem_filter.mpr ⟨List.mem_of_getElem? (i := 362) (by decide +kernel), by decide +kernel⟩
theorem mm_363 : Cond.fieldLink RX8 28 "TwoFit" "books" "[LTwoFit$Book;" ∈ zGW := List.mem_filter.mpr ⟨List.mem_of_getElem? (i := 363) (by decide +kernel), by decide +kernel⟩
theorem mm_364 : Cond.fieldLink RX8 35 "TwoFit" "links" "LTwoFit$Links;" ∈ zGW := List.mem_filter.mpr ⟨List.mem_of_getElem? (i := 364) (by decide +kernel), by decide +kernel⟩
theorem mm_365 : Cond.fieldLink RX8 41 "TwoFit" "gossips" "[LTwoFit$Gossip;" ∈ zGW := List.mem_filter.mpr ⟨List.mem_of_getElem? (i := 365) (by decide +kernel), by decide +kernel⟩
theorem mm_366 : Cond.fieldLink RX8 48 "TwoFit" "matching" "LTwoFit$Matching;" ∈ zGW := List.mem_filter.mpr ⟨List.mem_of_getElem? (i := 366) (by decide +kernel), by decide +kernel⟩
theorem mm_367 : Cond.fieldLink RX8 55 "TwoFit" "asking" "LTwoFit$Asking;" ∈ zGW := List.mem_filter.mpr ⟨List.mem_of_getElem? (i := 367) (by decide +kernel), by decide +kernel⟩
theorem mm_368 : Cond.fieldLink RX8 62 "TwoFit" "blurs" "LTwoFit$Blurs;" ∈ zGW := List.mem_filter.mpr ⟨List.mem_of_getElem? (i := 368) (by decide +kernel), by decide +kernel⟩
theorem mm_369 : Cond.fieldLink RX8 66 "TwoFit" "letters" "[I" ∈ zGW := List.mem_filter.mpr ⟨List.mem_of_getElem? (i := 369) (by decide +kernel), by decide +kernel⟩
theorem mm_370 : Cond.fieldLink RX8 70 "TwoFit" "draft" "LTwoFit$Gossip;" ∈ zGW := List.mem_filter.mpr ⟨List.mem_of_getElem? (i := 370) (by decide +kernel), by decide +kernel⟩
theorem mm_371 : Cond.fieldLink RX8 74 "TwoFit" "people" "I" ∈ zGW := List.mem_filter.mpr ⟨List.mem_of_getElem? (i := 371) (by decide +kernel), by decide +kernel⟩
theorem mm_372 : Cond.fieldLink RX8 78 "TwoFit" "bookCount" "I" ∈ zGW := List.mem_filter.mpr ⟨List.mem_of_getElem? (i := 372) (by decide +kernel), by decide +kernel⟩
theorem mm_373 : Cond.laysFinal RX8 "TwoFit" "columns" "[LTwoFit$Column;" ∈ zGW := List.mem_filter.mpr ⟨List.mem_of_getElem? (i := 373) (by decide +kernel), by decide +kernel⟩
theorem mm_375 : Cond.laysFinal RX8 "TwoFit" "wishes" "[I" ∈ zGW := List.mem_filter.mpr ⟨List.mem_of_getElem? (i := 375) (by decide +kernel), by decide +kernel⟩
theorem mm_377 : Cond.laysFinal RX8 "TwoFit" "tape" "LTwoFit$Tape;" ∈ zGW := List.mem_filter.mpr ⟨List.mem_of_getElem? (i := 377) (by decide +kernel), by decide +kernel⟩
theorem mm_379 : Cond.laysFinal RX8 "TwoFit" "books" "[LTwoFit$Book;" ∈ zGW := List.mem_filter.mpr ⟨List.mem_of_getElem? (i := 379) (by decide +kernel), by decide +kernel⟩
theorem mm_381 : Cond.laysFinal RX8 "TwoFit" "links" "LTwoFit$Links;" ∈ zGW := List.mem_filter.mpr ⟨List.mem_of_getElem? (i := 381) (by decide +kernel), by decide +kernel⟩
theorem mm_383 : Cond.laysFinal RX8 "TwoFit" "gossips" "[LTwoFit$Gossip;" ∈ zGW := List.mem_filter.mpr ⟨List.mem_of_getElem? (i := 383) (by decide +kernel), by decide +kernel⟩
theorem mm_385 : Cond.laysFinal RX8 "TwoFit" "matching" "LTwoFit$Matching;" ∈ zGW := List.mem_filter.mpr ⟨List.mem_of_getElem? (i := 385) (by decide +kernel), by decide +kernel⟩
theorem mm_387 : Cond.laysFinal RX8 "TwoFit" "asking" "LTwoFit$Asking;" ∈ zGW := List.mem_filter.mpr ⟨List.mem_of_getElem? (i := 387) (by decide +kernel), by decide +kernel⟩
theorem mm_389 : Cond.laysFinal RX8 "TwoFit" "blurs" "LTwoFit$Blurs;" ∈ zGW := List.mem_filter.mpr ⟨List.mem_of_getElem? (i := 389) (by decide +kernel), by decide +kernel⟩
theorem mm_391 : Cond.laysFinal RX8 "TwoFit" "letters" "[I" ∈ zGW := List.mem_filter.mpr ⟨List.mem_of_getElem? (i := 391) (by decide +kernel), by decide +kernel⟩
theorem mm_393 : Cond.lays RX8 "TwoFit" "draft" "LTwoFit$Gossip;" ∈ zGW := List.mem_filter.mpr ⟨List.mem_of_getElem? (i := 393) (by decide +kernel), by decide +kernel⟩
theorem mm_395 : Cond.lays RX8 "TwoFit" "people" "I" ∈ zGW := List.mem_filter.mpr ⟨List.mem_of_getElem? (i := 395) (by decide +kernel), by decide +kernel⟩
theorem mm_397 : Cond.lays RX8 "TwoFit" "bookCount" "I" ∈ zGW := List.mem_filter.mpr ⟨List.mem_of_getElem? (i := 397) (by decide +kernel), by decide +kernel⟩
theorem mm_404 : Cond.methodLink RX8 83 yX8_isColumn ∈ zGW := List.mem_filter.mpr ⟨List.mem_of_getElem? (i := 404) (by decide +kernel), by decide +kernel⟩
theorem mm_405 : Cond.static yX8_isColumn ∈ zGW := List.mem_filter.mpr ⟨List.mem_of_getElem? (i := 405) (by decide +kernel), by decide +kernel⟩
theorem mm_406 : Cond.code yX8_isColumn cX8_isColumn 1 (some .boolean) ∈ zGW := List.mem_filter.mpr ⟨List.mem_of_getElem? (i := 406) (by decide +kernel), by decide +kernel⟩
theorem mm_407 : Cond.methodLink RX8 87 yX8_within ∈ zGW := List.mem_filter.mpr ⟨List.mem_of_getElem? (i := 407) (by decide +kernel), by decide +kernel⟩
theorem mm_408 : Cond.static yX8_within ∈ zGW := List.mem_filter.mpr ⟨List.mem_of_getElem? (i := 408) (by decide +kernel), by decide +kernel⟩
theorem mm_409 : Cond.code yX8_within cX8_within 3 (some .boolean) ∈ zGW := List.mem_filter.mpr ⟨List.mem_of_getElem? (i := 409) (by decide +kernel), by decide +kernel⟩
theorem mm_410 : Cond.methodLink RX8 91 yX3_hang ∈ zGW := List.mem_filter.mpr ⟨List.mem_of_getElem? (i := 410) (by decide +kernel), by decide +kernel⟩
theorem mm_411 : Cond.instanceMethod yX3_hang ∈ zGW := List.mem_filter.mpr ⟨List.mem_of_getElem? (i := 411) (by decide +kernel), by decide +kernel⟩
theorem mm_412 : Cond.selects RX3 yX3_hang yX3_hang ∈ zGW := List.mem_filter.mpr ⟨List.mem_of_getElem? (i := 412) (by decide +kernel), by decide +kernel⟩
theorem mm_413 : Cond.code yX3_hang cX3_hang 4 none ∈ zGW := List.mem_filter.mpr ⟨List.mem_of_getElem? (i := 413) (by decide +kernel), by decide +kernel⟩
theorem mm_415 : Cond.methodLink RX3 35 yX3_climb ∈ zGW := List.mem_filter.mpr ⟨List.mem_of_getElem? (i := 415) (by decide +kernel), by decide +kernel⟩
theorem mm_417 : Cond.instanceMethod yX3_climb ∈ zGW := List.mem_filter.mpr ⟨List.mem_of_getElem? (i := 417) (by decide +kernel), by decide +kernel⟩
theorem mm_418 : Cond.code yX3_climb cX3_climb 6 none ∈ zGW := List.mem_filter.mpr ⟨List.mem_of_getElem? (i := 418) (by decide +kernel), by decide +kernel⟩
theorem mm_419 : Cond.methodLink RX8 95 yX0_forget ∈ zGW := List.mem_filter.mpr ⟨List.mem_of_getElem? (i := 419) (by decide +kernel), by decide +kernel⟩
theorem mm_420 : Cond.instanceMethod yX0_forget ∈ zGW := List.mem_filter.mpr ⟨List.mem_of_getElem? (i := 420) (by decide +kernel), by decide +kernel⟩
theorem mm_421 : Cond.selects RX0 yX0_forget yX0_forget ∈ zGW := List.mem_filter.mpr ⟨List.mem_of_getElem? (i := 421) (by decide +kernel), by decide +kernel⟩
theorem mm_422 : Cond.code yX0_forget cX0_forget 1 none ∈ zGW := List.mem_filter.mpr ⟨List.mem_of_getElem? (i := 422) (by decide +kernel), by decide +kernel⟩
theorem mm_431 : Cond.methodLink RX8 101 yX8_isValue ∈ zGW := List.mem_filter.mpr ⟨List.mem_of_getElem? (i := 431) (by decide +kernel), by decide +kernel⟩
theorem mm_432 : Cond.static yX8_isValue ∈ zGW := List.mem_filter.mpr ⟨List.mem_of_getElem? (i := 432) (by decide +kernel), by decide +kernel⟩
theorem mm_433 : Cond.code yX8_isValue cX8_isValue 1 (some .boolean) ∈ zGW := List.mem_filter.mpr ⟨List.mem_of_getElem? (i := 433) (by decide +kernel), by decide +kernel⟩
theorem mm_451 : Cond.methodLink RX8 111 yX8_isPerson ∈ zGW := List.mem_filter.mpr ⟨List.mem_of_getElem? (i := 451) (by decide +kernel), by decide +kernel⟩
theorem mm_453 : Cond.instanceMethod yX8_isPerson ∈ zGW := List.mem_filter.mpr ⟨List.mem_of_getElem? (i := 453) (by decide +kernel), by decide +kernel⟩
theorem mm_454 : Cond.code yX8_isPerson cX8_isPerson 2 (some .boolean) ∈ zGW := List.mem_filter.mpr ⟨List.mem_of_getElem? (i := 454) (by decide +kernel), by decide +kernel⟩
theorem mm_521 : Cond.methodLink RX8 117 yX7_append ∈ zGW := List.mem_filter.mpr ⟨List.mem_of_getElem? (i := 521) (by decide +kernel), by decide +kernel⟩
theorem mm_522 : Cond.instanceMethod yX7_append ∈ zGW := List.mem_filter.mpr ⟨List.mem_of_getElem? (i := 522) (by decide +kernel), by decide +kernel⟩
theorem mm_523 : Cond.selects RX7 yX7_append yX7_append ∈ zGW := List.mem_filter.mpr ⟨List.mem_of_getElem? (i := 523) (by decide +kernel), by decide +kernel⟩
theorem mm_524 : Cond.code yX7_append cX7_append 3 none ∈ zGW := List.mem_filter.mpr ⟨List.mem_of_getElem? (i := 524) (by decide +kernel), by decide +kernel⟩
theorem mm_529 : Cond.methodLink RX8 120 yX8_isLevel ∈ zGW := List.mem_filter.mpr ⟨List.mem_of_getElem? (i := 529) (by decide +kernel), by decide +kernel⟩
theorem mm_530 : Cond.static yX8_isLevel ∈ zGW := List.mem_filter.mpr ⟨List.mem_of_getElem? (i := 530) (by decide +kernel), by decide +kernel⟩
theorem mm_531 : Cond.code yX8_isLevel cX8_isLevel 1 (some .boolean) ∈ zGW := List.mem_filter.mpr ⟨List.mem_of_getElem? (i := 531) (by decide +kernel), by decide +kernel⟩
theorem mm_532 : Cond.methodLink RX8 123 yX3_raised ∈ zGW := List.mem_filter.mpr ⟨List.mem_of_getElem? (i := 532) (by decide +kernel), by decide +kernel⟩
theorem mm_533 : Cond.instanceMethod yX3_raised ∈ zGW := List.mem_filter.mpr ⟨List.mem_of_getElem? (i := 533) (by decide +kernel), by decide +kernel⟩
theorem mm_534 : Cond.selects RX3 yX3_raised yX3_raised ∈ zGW := List.mem_filter.mpr ⟨List.mem_of_getElem? (i := 534) (by decide +kernel), by decide +kernel⟩
theorem mm_535 : Cond.code yX3_raised cX3_raised 5 (some .int) ∈ zGW := List.mem_filter.mpr ⟨List.mem_of_getElem? (i := 535) (by decide +kernel), by decide +kernel⟩
theorem mm_540 : Cond.methodLink RX8 127 yX3_valuesBelow ∈ zGW := List.mem_filter.mpr ⟨List.mem_of_getElem? (i := 540) (by decide +kernel), by decide +kernel⟩
theorem mm_541 : Cond.instanceMethod yX3_valuesBelow ∈ zGW := List.mem_filter.mpr ⟨List.mem_of_getElem? (i := 541) (by decide +kernel), by decide +kernel⟩
theorem mm_542 : Cond.selects RX3 yX3_valuesBelow yX3_valuesBelow ∈ zGW := List.mem_filter.mpr ⟨List.mem_of_getElem? (i := 542) (by decide +kernel), by decide +kernel⟩
theorem mm_543 : Cond.code yX3_valuesBelow cX3_valuesBelow 2 (some .int) ∈ zGW := List.mem_filter.mpr ⟨List.mem_of_getElem? (i := 543) (by decide +kernel), by decide +kernel⟩
theorem mm_583 : Cond.methodLink RX8 147 yX8_isLive ∈ zGW := List.mem_filter.mpr ⟨List.mem_of_getElem? (i := 583) (by decide +kernel), by decide +kernel⟩
theorem mm_585 : Cond.instanceMethod yX8_isLive ∈ zGW := List.mem_filter.mpr ⟨List.mem_of_getElem? (i := 585) (by decide +kernel), by decide +kernel⟩
theorem mm_586 : Cond.code yX8_isLive cX8_isLive 3 (some .boolean) ∈ zGW := List.mem_filter.mpr ⟨List.mem_of_getElem? (i := 586) (by decide +kernel), by decide +kernel⟩
theorem mm_587 : Cond.methodLink RX8 168 yX8_isLine ∈ zGW := List.mem_filter.mpr ⟨List.mem_of_getElem? (i := 587) (by decide +kernel), by decide +kernel⟩
theorem mm_589 : Cond.instanceMethod yX8_isLine ∈ zGW := List.mem_filter.mpr ⟨List.mem_of_getElem? (i := 589) (by decide +kernel), by decide +kernel⟩
theorem mm_590 : Cond.code yX8_isLine cX8_isLine 3 (some .boolean) ∈ zGW := List.mem_filter.mpr ⟨List.mem_of_getElem? (i := 590) (by decide +kernel), by decide +kernel⟩
theorem mm_591 : Cond.methodLink RX8 161 yX8_isBook ∈ zGW := List.mem_filter.mpr ⟨List.mem_of_getElem? (i := 591) (by decide +kernel), by decide +kernel⟩
theorem mm_593 : Cond.instanceMethod yX8_isBook ∈ zGW := List.mem_filter.mpr ⟨List.mem_of_getElem? (i := 593) (by decide +kernel), by decide +kernel⟩
theorem mm_594 : Cond.code yX8_isBook cX8_isBook 2 (some .boolean) ∈ zGW := List.mem_filter.mpr ⟨List.mem_of_getElem? (i := 594) (by decide +kernel), by decide +kernel⟩
theorem mm_663 : Cond.methodLink RX8 319 yX8_shownBooks ∈ zGW := List.mem_filter.mpr ⟨List.mem_of_getElem? (i := 663) (by decide +kernel), by decide +kernel⟩
theorem mm_665 : Cond.instanceMethod yX8_shownBooks ∈ zGW := List.mem_filter.mpr ⟨List.mem_of_getElem? (i := 665) (by decide +kernel), by decide +kernel⟩
theorem mm_666 : Cond.code yX8_shownBooks cX8_shownBooks 3 (some .int) ∈ zGW := List.mem_filter.mpr ⟨List.mem_of_getElem? (i := 666) (by decide +kernel), by decide +kernel⟩
theorem mm_699 : Cond.constantLong RX8 213 (-1) ∈ zGW := List.mem_filter.mpr ⟨List.mem_of_getElem? (i := 699) (by decide +kernel), by decide +kernel⟩
theorem mm_772 : Cond.methodLink RX8 251 yX8_isBar ∈ zGW := List.mem_filter.mpr ⟨List.mem_of_getElem? (i := 772) (by decide +kernel), by decide +kernel⟩
theorem mm_773 : Cond.static yX8_isBar ∈ zGW := List.mem_filter.mpr ⟨List.mem_of_getElem? (i := 773) (by decide +kernel), by decide +kernel⟩
theorem mm_774 : Cond.code yX8_isBar cX8_isBar 1 (some .boolean) ∈ zGW := List.mem_filter.mpr ⟨List.mem_of_getElem? (i := 774) (by decide +kernel), by decide +kernel⟩
theorem mm_947 : Cond.methodLink RX8 316 yX8_toldGossips ∈ zGW := List.mem_filter.mpr ⟨List.mem_of_getElem? (i := 947) (by decide +kernel), by decide +kernel⟩
theorem mm_949 : Cond.instanceMethod yX8_toldGossips ∈ zGW := List.mem_filter.mpr ⟨List.mem_of_getElem? (i := 949) (by decide +kernel), by decide +kernel⟩
theorem mm_950 : Cond.code yX8_toldGossips cX8_toldGossips 3 (some .int) ∈ zGW := List.mem_filter.mpr ⟨List.mem_of_getElem? (i := 950) (by decide +kernel), by decide +kernel⟩
theorem mm_1005 : Cond.lays RX9 "TwoFitModel" "people" "I" ∈ zGW := List.mem_filter.mpr ⟨List.mem_of_getElem? (i := 1005) (by decide +kernel), by decide +kernel⟩
theorem mm_1007 : Cond.laysFinal RX9 "TwoFitModel" "upperOf" "[I" ∈ zGW := List.mem_filter.mpr ⟨List.mem_of_getElem? (i := 1007) (by decide +kernel), by decide +kernel⟩
theorem mm_1009 : Cond.laysFinal RX9 "TwoFitModel" "weightOf" "[I" ∈ zGW := List.mem_filter.mpr ⟨List.mem_of_getElem? (i := 1009) (by decide +kernel), by decide +kernel⟩
theorem mm_1011 : Cond.laysFinal RX9 "TwoFitModel" "valueOf" "[I" ∈ zGW := List.mem_filter.mpr ⟨List.mem_of_getElem? (i := 1011) (by decide +kernel), by decide +kernel⟩
theorem mm_1013 : Cond.laysFinal RX9 "TwoFitModel" "wishOf" "[I" ∈ zGW := List.mem_filter.mpr ⟨List.mem_of_getElem? (i := 1013) (by decide +kernel), by decide +kernel⟩
theorem mm_1015 : Cond.lays RX9 "TwoFitModel" "books" "I" ∈ zGW := List.mem_filter.mpr ⟨List.mem_of_getElem? (i := 1015) (by decide +kernel), by decide +kernel⟩
theorem mm_1017 : Cond.lays RX9 "TwoFitModel" "links" "I" ∈ zGW := List.mem_filter.mpr ⟨List.mem_of_getElem? (i := 1017) (by decide +kernel), by decide +kernel⟩
theorem mm_1019 : Cond.lays RX9 "TwoFitModel" "gossips" "I" ∈ zGW := List.mem_filter.mpr ⟨List.mem_of_getElem? (i := 1019) (by decide +kernel), by decide +kernel⟩
theorem mm_1021 : Cond.lays RX9 "TwoFitModel" "shownSet" "I" ∈ zGW := List.mem_filter.mpr ⟨List.mem_of_getElem? (i := 1021) (by decide +kernel), by decide +kernel⟩
theorem mm_1023 : Cond.laysFinal RX9 "TwoFitModel" "lineMany" "[I" ∈ zGW := List.mem_filter.mpr ⟨List.mem_of_getElem? (i := 1023) (by decide +kernel), by decide +kernel⟩
theorem mm_1025 : Cond.laysFinal RX9 "TwoFitModel" "ownerOf" "[I" ∈ zGW := List.mem_filter.mpr ⟨List.mem_of_getElem? (i := 1025) (by decide +kernel), by decide +kernel⟩
theorem mm_1027 : Cond.laysFinal RX9 "TwoFitModel" "showsOf" "[I" ∈ zGW := List.mem_filter.mpr ⟨List.mem_of_getElem? (i := 1027) (by decide +kernel), by decide +kernel⟩
theorem mm_1029 : Cond.laysFinal RX9 "TwoFitModel" "linkA" "[I" ∈ zGW := List.mem_filter.mpr ⟨List.mem_of_getElem? (i := 1029) (by decide +kernel), by decide +kernel⟩
theorem mm_1031 : Cond.laysFinal RX9 "TwoFitModel" "linkB" "[I" ∈ zGW := List.mem_filter.mpr ⟨List.mem_of_getElem? (i := 1031) (by decide +kernel), by decide +kernel⟩
theorem mm_1033 : Cond.laysFinal RX9 "TwoFitModel" "isCut" "[Z" ∈ zGW := List.mem_filter.mpr ⟨List.mem_of_getElem? (i := 1033) (by decide +kernel), by decide +kernel⟩
theorem mm_1035 : Cond.laysFinal RX9 "TwoFitModel" "tape" "[B" ∈ zGW := List.mem_filter.mpr ⟨List.mem_of_getElem? (i := 1035) (by decide +kernel), by decide +kernel⟩
theorem mm_1037 : Cond.lays RX9 "TwoFitModel" "taped" "I" ∈ zGW := List.mem_filter.mpr ⟨List.mem_of_getElem? (i := 1037) (by decide +kernel), by decide +kernel⟩
theorem mm_1039 : Cond.lays RX9 "TwoFitModel" "place0" "I" ∈ zGW := List.mem_filter.mpr ⟨List.mem_of_getElem? (i := 1039) (by decide +kernel), by decide +kernel⟩
theorem mm_1041 : Cond.lays RX9 "TwoFitModel" "length0" "I" ∈ zGW := List.mem_filter.mpr ⟨List.mem_of_getElem? (i := 1041) (by decide +kernel), by decide +kernel⟩
theorem mm_1043 : Cond.lays RX9 "TwoFitModel" "fault" "I" ∈ zGW := List.mem_filter.mpr ⟨List.mem_of_getElem? (i := 1043) (by decide +kernel), by decide +kernel⟩
theorem mm_1045 : Cond.lays RX9 "TwoFitModel" "open" "I" ∈ zGW := List.mem_filter.mpr ⟨List.mem_of_getElem? (i := 1045) (by decide +kernel), by decide +kernel⟩
theorem mm_1047 : Cond.lays RX9 "TwoFitModel" "codeMany" "I" ∈ zGW := List.mem_filter.mpr ⟨List.mem_of_getElem? (i := 1047) (by decide +kernel), by decide +kernel⟩
theorem mm_1049 : Cond.lays RX9 "TwoFitModel" "waiting" "I" ∈ zGW := List.mem_filter.mpr ⟨List.mem_of_getElem? (i := 1049) (by decide +kernel), by decide +kernel⟩
theorem mm_1051 : Cond.lays RX9 "TwoFitModel" "number0" "I" ∈ zGW := List.mem_filter.mpr ⟨List.mem_of_getElem? (i := 1051) (by decide +kernel), by decide +kernel⟩
theorem mm_1053 : Cond.laysFinal RX9 "TwoFitModel" "said" "[I" ∈ zGW := List.mem_filter.mpr ⟨List.mem_of_getElem? (i := 1053) (by decide +kernel), by decide +kernel⟩
theorem mm_1055 : Cond.laysFinal RX9 "TwoFitModel" "waits" "[I" ∈ zGW := List.mem_filter.mpr ⟨List.mem_of_getElem? (i := 1055) (by decide +kernel), by decide +kernel⟩
theorem mm_1057 : Cond.laysFinal RX9 "TwoFitModel" "codes" "[I" ∈ zGW := List.mem_filter.mpr ⟨List.mem_of_getElem? (i := 1057) (by decide +kernel), by decide +kernel⟩
theorem mm_1059 : Cond.laysFinal RX9 "TwoFitModel" "codeTo" "[I" ∈ zGW := List.mem_filter.mpr ⟨List.mem_of_getElem? (i := 1059) (by decide +kernel), by decide +kernel⟩
theorem mm_1061 : Cond.laysFinal RX9 "TwoFitModel" "gossipOf" "[I" ∈ zGW := List.mem_filter.mpr ⟨List.mem_of_getElem? (i := 1061) (by decide +kernel), by decide +kernel⟩
theorem mm_1063 : Cond.laysFinal RX9 "TwoFitModel" "stack" "[I" ∈ zGW := List.mem_filter.mpr ⟨List.mem_of_getElem? (i := 1063) (by decide +kernel), by decide +kernel⟩
theorem mm_1065 : Cond.laysFinal RX9 "TwoFitModel" "facts" "[I" ∈ zGW := List.mem_filter.mpr ⟨List.mem_of_getElem? (i := 1065) (by decide +kernel), by decide +kernel⟩
theorem mm_1067 : Cond.laysFinal RX9 "TwoFitModel" "isReached" "[Z" ∈ zGW := List.mem_filter.mpr ⟨List.mem_of_getElem? (i := 1067) (by decide +kernel), by decide +kernel⟩
theorem mm_1069 : Cond.laysFinal RX9 "TwoFitModel" "fitting" "[I" ∈ zGW := List.mem_filter.mpr ⟨List.mem_of_getElem? (i := 1069) (by decide +kernel), by decide +kernel⟩
theorem mm_1071 : Cond.laysFinal RX9 "TwoFitModel" "ways" "[J" ∈ zGW := List.mem_filter.mpr ⟨List.mem_of_getElem? (i := 1071) (by decide +kernel), by decide +kernel⟩
theorem mm_1073 : Cond.laysFinal RX9 "TwoFitModel" "ones" "[I" ∈ zGW := List.mem_filter.mpr ⟨List.mem_of_getElem? (i := 1073) (by decide +kernel), by decide +kernel⟩
theorem mm_1075 : Cond.laysFinal RX9 "TwoFitModel" "hasOf" "[I" ∈ zGW := List.mem_filter.mpr ⟨List.mem_of_getElem? (i := 1075) (by decide +kernel), by decide +kernel⟩
theorem mm_1077 : Cond.laysFinal RX9 "TwoFitModel" "givenTo" "[I" ∈ zGW := List.mem_filter.mpr ⟨List.mem_of_getElem? (i := 1077) (by decide +kernel), by decide +kernel⟩
theorem mm_1079 : Cond.laysFinal RX9 "TwoFitModel" "askedBy" "[I" ∈ zGW := List.mem_filter.mpr ⟨List.mem_of_getElem? (i := 1079) (by decide +kernel), by decide +kernel⟩
theorem mm_1081 : Cond.laysFinal RX9 "TwoFitModel" "waitingLine" "[I" ∈ zGW := List.mem_filter.mpr ⟨List.mem_of_getElem? (i := 1081) (by decide +kernel), by decide +kernel⟩
theorem mm_1083 : Cond.laysFinal RX9 "TwoFitModel" "before" "[I" ∈ zGW := List.mem_filter.mpr ⟨List.mem_of_getElem? (i := 1083) (by decide +kernel), by decide +kernel⟩
theorem mm_1085 : Cond.lays RX9 "TwoFitModel" "must0" "I" ∈ zGW := List.mem_filter.mpr ⟨List.mem_of_getElem? (i := 1085) (by decide +kernel), by decide +kernel⟩
theorem mm_1087 : Cond.lays RX9 "TwoFitModel" "suspects" "I" ∈ zGW := List.mem_filter.mpr ⟨List.mem_of_getElem? (i := 1087) (by decide +kernel), by decide +kernel⟩
theorem mm_1089 : Cond.laysFinal RX9 "TwoFitModel" "suspect" "[I" ∈ zGW := List.mem_filter.mpr ⟨List.mem_of_getElem? (i := 1089) (by decide +kernel), by decide +kernel⟩
theorem mm_1091 : Cond.laysFinal RX9 "TwoFitModel" "parts" "[I" ∈ zGW := List.mem_filter.mpr ⟨List.mem_of_getElem? (i := 1091) (by decide +kernel), by decide +kernel⟩
theorem mm_1093 : Cond.laysFinal RX9 "TwoFitModel" "enough" "[I" ∈ zGW := List.mem_filter.mpr ⟨List.mem_of_getElem? (i := 1093) (by decide +kernel), by decide +kernel⟩
theorem mm_1095 : Cond.laysFinal RX9 "TwoFitModel" "blurShows" "[I" ∈ zGW := List.mem_filter.mpr ⟨List.mem_of_getElem? (i := 1095) (by decide +kernel), by decide +kernel⟩
theorem mm_1097 : Cond.lays RX9 "TwoFitModel" "cuts0" "I" ∈ zGW := List.mem_filter.mpr ⟨List.mem_of_getElem? (i := 1097) (by decide +kernel), by decide +kernel⟩
set_option maxRecDepth 20000 in
theorem inG0 : ∀ w ∈ u_ws RX0 TX0 5, w ∈ zGW := List.forall_mem_cons.mpr ⟨mm_222, List.forall_mem_cons.mpr ⟨mm_224, List.forall_mem_cons.mpr ⟨mm_226, List.forall_mem_cons.mpr ⟨mm_228, List.forall_mem_cons.mpr ⟨mm_230, fun _ h => absurd h List.not_mem_nil⟩⟩⟩⟩⟩
set_option maxRecDepth 20000 in
theorem inG1 : ∀ w ∈ u_ws RX1 TX1 7, w ∈ zGW := List.forall_mem_cons.mpr ⟨mm_251, List.forall_mem_cons.mpr ⟨mm_253, List.forall_mem_cons.mpr ⟨mm_255, List.forall_mem_cons.mpr ⟨mm_257, List.forall_mem_cons.mpr ⟨mm_259, List.forall_mem_cons.mpr ⟨mm_261, List.forall_mem_cons.mpr ⟨mm_263, fun _ h => absurd h List.not_mem_nil⟩⟩⟩⟩⟩⟩⟩
set_option maxRecDepth 20000 in
theorem inG2 : ∀ w ∈ u_ws RX2 TX2 5, w ∈ zGW := List.forall_mem_cons.mpr ⟨mm_349, List.forall_mem_cons.mpr ⟨mm_351, List.forall_mem_cons.mpr ⟨mm_353, List.forall_mem_cons.mpr ⟨mm_355, List.forall_mem_cons.mpr ⟨mm_357, fun _ h => absurd h List.not_mem_nil⟩⟩⟩⟩⟩
set_option maxRecDepth 20000 in
theorem inG3 : ∀ w ∈ u_ws RX3 TX3 6, w ∈ zGW := List.forall_mem_cons.mpr ⟨mm_322, List.forall_mem_cons.mpr ⟨mm_324, List.forall_mem_cons.mpr ⟨mm_326, List.forall_mem_cons.mpr ⟨mm_328, List.forall_mem_cons.mpr ⟨mm_330, List.forall_mem_cons.mpr ⟨mm_332, fun _ h => absurd h List.not_mem_nil⟩⟩⟩⟩⟩⟩
set_option maxRecDepth 20000 in
theorem inG4 : ∀ w ∈ u_ws RX4 TX4 11, w ∈ zGW := List.forall_mem_cons.mpr ⟨mm_287, List.forall_mem_cons.mpr ⟨mm_289, List.forall_mem_cons.mpr ⟨mm_291, List.forall_mem_cons.mpr ⟨mm_293, List.forall_mem_cons.mpr ⟨mm_295, List.forall_mem_cons.mpr ⟨mm_297, List.forall_mem_cons.mpr ⟨mm_299, List.forall_mem_cons.mpr ⟨mm_301, List.forall_mem_cons.mpr ⟨mm_303, List.forall_mem_cons.mpr ⟨mm_305, List.forall_mem_cons.mpr ⟨mm_307, fun _ h => absurd h List.not_mem_nil⟩⟩⟩⟩⟩⟩⟩⟩⟩⟩⟩
set_option maxRecDepth 20000 in
theorem inG5 : ∀ w ∈ u_ws RX5 TX5 3, w ∈ zGW := List.forall_mem_cons.mpr ⟨mm_157, List.forall_mem_cons.mpr ⟨mm_159, List.forall_mem_cons.mpr ⟨mm_161, fun _ h => absurd h List.not_mem_nil⟩⟩⟩
set_option maxRecDepth 20000 in
theorem inG6 : ∀ w ∈ u_ws RX6 TX6 10, w ∈ zGW := List.forall_mem_cons.mpr ⟨mm_189, List.forall_mem_cons.mpr ⟨mm_191, List.forall_mem_cons.mpr ⟨mm_193, List.forall_mem_cons.mpr ⟨mm_195, List.forall_mem_cons.mpr ⟨mm_197, List.forall_mem_cons.mpr ⟨mm_199, List.forall_mem_cons.mpr ⟨mm_201, List.forall_mem_cons.mpr ⟨mm_203, List.forall_mem_cons.mpr ⟨mm_205, List.forall_mem_cons.mpr ⟨mm_207, fun _ h => absurd h List.not_mem_nil⟩⟩⟩⟩⟩⟩⟩⟩⟩⟩
set_option maxRecDepth 20000 in
theorem inG7 : ∀ w ∈ u_ws RX7 TX7 2, w ∈ zGW := List.forall_mem_cons.mpr ⟨mm_139, List.forall_mem_cons.mpr ⟨mm_141, fun _ h => absurd h List.not_mem_nil⟩⟩
set_option maxRecDepth 20000 in
theorem inG8 : ∀ w ∈ u_ws RX8 TX8 13, w ∈ zGW := List.forall_mem_cons.mpr ⟨mm_373, List.forall_mem_cons.mpr ⟨mm_375, List.forall_mem_cons.mpr ⟨mm_377, List.forall_mem_cons.mpr ⟨mm_379, List.forall_mem_cons.mpr ⟨mm_381, List.forall_mem_cons.mpr ⟨mm_383, List.forall_mem_cons.mpr ⟨mm_385, List.forall_mem_cons.mpr ⟨mm_387, List.forall_mem_cons.mpr ⟨mm_389, List.forall_mem_cons.mpr ⟨mm_391, List.forall_mem_cons.mpr ⟨mm_393, List.forall_mem_cons.mpr ⟨mm_395, List.forall_mem_cons.mpr ⟨mm_397, fun _ h => absurd h List.not_mem_nil⟩⟩⟩⟩⟩⟩⟩⟩⟩⟩⟩⟩⟩
set_option maxRecDepth 20000 in
theorem inG9 : ∀ w ∈ u_ws RX9 TX9 47, w ∈ zGW := List.forall_mem_cons.mpr ⟨mm_1005, List.forall_mem_cons.mpr ⟨mm_1007, List.forall_mem_cons.mpr ⟨mm_1009, List.forall_mem_cons.mpr ⟨mm_1011, List.forall_mem_cons.mpr ⟨mm_1013, List.forall_mem_cons.mpr ⟨mm_1015, List.forall_mem_cons.mpr ⟨mm_1017, List.forall_mem_cons.mpr ⟨mm_1019, List.forall_mem_cons.mpr ⟨mm_1021, List.forall_mem_cons.mpr ⟨mm_1023, List.forall_mem_cons.mpr ⟨mm_1025, List.forall_mem_cons.mpr ⟨mm_1027, List.forall_mem_cons.mpr ⟨mm_1029, List.forall_mem_cons.mpr ⟨mm_1031, List.forall_mem_cons.mpr ⟨mm_1033, List.forall_mem_cons.mpr ⟨mm_1035, List.forall_mem_cons.mpr ⟨mm_1037, List.forall_mem_cons.mpr ⟨mm_1039, List.forall_mem_cons.mpr ⟨mm_1041, List.forall_mem_cons.mpr ⟨mm_1043, List.forall_mem_cons.mpr ⟨mm_1045, List.forall_mem_cons.mpr ⟨mm_1047, List.forall_mem_cons.mpr ⟨mm_1049, List.forall_mem_cons.mpr ⟨mm_1051, List.forall_mem_cons.mpr ⟨mm_1053, List.forall_mem_cons.mpr ⟨mm_1055, List.forall_mem_cons.mpr ⟨mm_1057, List.forall_mem_cons.mpr ⟨mm_1059, List.forall_mem_cons.mpr ⟨mm_1061, List.forall_mem_cons.mpr ⟨mm_1063, List.forall_mem_cons.mpr ⟨mm_1065, List.forall_mem_cons.mpr ⟨mm_1067, List.forall_mem_cons.mpr ⟨mm_1069, List.forall_mem_cons.mpr ⟨mm_1071, List.forall_mem_cons.mpr ⟨mm_1073, List.forall_mem_cons.mpr ⟨mm_1075, List.forall_mem_cons.mpr ⟨mm_1077, List.forall_mem_cons.mpr ⟨mm_1079, List.forall_mem_cons.mpr ⟨mm_1081, List.forall_mem_cons.mpr ⟨mm_1083, List.forall_mem_cons.mpr ⟨mm_1085, List.forall_mem_cons.mpr ⟨mm_1087, List.forall_mem_cons.mpr ⟨mm_1089, List.forall_mem_cons.mpr ⟨mm_1091, List.forall_mem_cons.mpr ⟨mm_1093, List.forall_mem_cons.mpr ⟨mm_1095, List.forall_mem_cons.mpr ⟨mm_1097, fun _ h => absurd h List.not_mem_nil⟩⟩⟩⟩⟩⟩⟩⟩⟩⟩⟩⟩⟩⟩⟩⟩⟩⟩⟩⟩⟩⟩⟩⟩⟩⟩⟩⟩⟩⟩⟩⟩⟩⟩⟩⟩⟩⟩⟩⟩⟩⟩⟩⟩⟩⟩⟩
end
section
set_option maxHeartbeats 4000000 in
set_option maxRecDepth 100000 in
theorem c_X8_within (l : Launch) (g : zG) (n : Int32) (lo : Int32) (hi : Int32) : Met l yX8_within (zW yX8_within cX8_within 3 (some .boolean)) ({ frames := 0, cells := 0, slots := 0, locals := 0 }) (va_Pc [.int n, .int lo, .int hi] (zR g [])) (vp_Si (fun r : Int32 => (r = 1 ∧ (lo.toInt ≤ n.toInt) ∧ (n.toInt ≤ hi.toInt)) ∨ (r = 0 ∧ (¬ (lo.toInt ≤ n.toInt ∧ n.toInt ≤ hi.toInt))))) 0 0 (fun _ => False) := by
  refine Met.ofW (cc := cX8_within) (maxL := 3) (ret := (some .boolean)) (by decide) rfl ?_
  intro p e s m args below meth c s₁ B hml hv
  obtain ⟨rfl, hP, hK, hN⟩ := hv
  have hx := B.exec
  have hb := B.bytes
  have hr := B.returns
  have hg := zW.law (atoms_spec (ws := (zW yX8_within cX8_within 3 (some .boolean))) B.pre)
  have hown : s.vm.findClass RX8 = some m.cls := findClass_of_methodNamed B.named
  have hlocks := B.notSynchronized
  have hl := lv_entry ([.int n, .int lo, .int hi]) (n := 3) (Nat.le_of_ble_eq_true rfl)
  rw [lg_entry_eq]
  generalize (lg_sl ([.int n, .int lo, .int hi]) ++ List.replicate (3 - (lg_sl ([.int n, .int lo, .int hi])).length) Slot.unset).toArray = ls at hl ⊢
  have hl : lv_has ls 3 [(0, .int n), (1, .int lo), (2, .int hi)] := hl
  refine lv_iload_n hx hb dX8_within_0 rfl (lv_at hl 0 rfl) ?_
  refine lv_iload_n hx hb dX8_within_1 rfl (lv_at hl 1 rfl) ?_
  refine lv_icmp_lt (tgt := 14) hx hb dX8_within_2 (by decide) (fun c1 => ?_) (fun c1 => ?_)
  · skip
    have c1 : n.toInt < lo.toInt := (z_lt rfl rfl).mp c1
    refine lv_iconst (v := 0) hx hb dX8_within_14 (by decide) ?_
    exact W.zret (v := 0) hx hb hr rfl (fun t ht hW => ⟨0, rfl, by first | exact Or.inl ⟨rfl, by omega⟩ | exact Or.inr ⟨rfl, by omega⟩, ht⟩) (fun q hq => by cases hq) dX8_within_15
  · skip
    have c1 : ¬ (n.toInt < lo.toInt) := fun q => c1 ((z_lt rfl rfl).mpr q)
    refine lv_iload_n hx hb dX8_within_5 rfl (lv_at hl 0 rfl) ?_
    refine lv_iload_n hx hb dX8_within_6 rfl (lv_at hl 2 rfl) ?_
    refine lv_icmp_gt (tgt := 14) hx hb dX8_within_7 (by decide) (fun c2 => ?_) (fun c2 => ?_)
    · skip
      have c2 : hi.toInt < n.toInt := (z_lt rfl rfl).mp c2
      refine lv_iconst (v := 0) hx hb dX8_within_14 (by decide) ?_
      exact W.zret (v := 0) hx hb hr rfl (fun t ht hW => ⟨0, rfl, by first | exact Or.inl ⟨rfl, by omega⟩ | exact Or.inr ⟨rfl, by omega⟩, ht⟩) (fun q hq => by cases hq) dX8_within_15
    · skip
      have c2 : ¬ (hi.toInt < n.toInt) := fun q => c2 ((z_lt rfl rfl).mpr q)
      refine lv_iconst (v := 1) hx hb dX8_within_10 (by decide) ?_
      refine lv_goto (tgt := 15) hx hb dX8_within_11 (by decide) ?_
      exact W.zret (v := 1) hx hb hr rfl (fun t ht hW => ⟨1, rfl, by first | exact Or.inl ⟨rfl, by omega⟩ | exact Or.inr ⟨rfl, by omega⟩, ht⟩) (fun q hq => by cases hq) dX8_within_15

set_option maxHeartbeats 4000000 in
set_option maxRecDepth 100000 in
theorem c_X9_in (l : Launch) (g : zG) (n : Int32) (lo : Int32) (hi : Int32) : Met l yX9_in (zW yX9_in cX9_in 3 (some .boolean)) ({ frames := 0, cells := 0, slots := 0, locals := 0 }) (va_Pc [.int n, .int lo, .int hi] (zR g [])) (vp_Si (fun r : Int32 => (r = 1 ∧ (lo.toInt ≤ n.toInt) ∧ (n.toInt ≤ hi.toInt)) ∨ (r = 0 ∧ (¬ (lo.toInt ≤ n.toInt ∧ n.toInt ≤ hi.toInt))))) 0 0 (fun _ => False) := by
  refine Met.ofW (cc := cX9_in) (maxL := 3) (ret := (some .boolean)) (by decide) rfl ?_
  intro p e s m args below meth c s₁ B hml hv
  obtain ⟨rfl, hP, hK, hN⟩ := hv
  have hx := B.exec
  have hb := B.bytes
  have hr := B.returns
  have hg := zW.law (atoms_spec (ws := (zW yX9_in cX9_in 3 (some .boolean))) B.pre)
  have hown : s.vm.findClass RX9 = some m.cls := findClass_of_methodNamed B.named
  have hlocks := B.notSynchronized
  have hl := lv_entry ([.int n, .int lo, .int hi]) (n := 3) (Nat.le_of_ble_eq_true rfl)
  rw [lg_entry_eq]
  generalize (lg_sl ([.int n, .int lo, .int hi]) ++ List.replicate (3 - (lg_sl ([.int n, .int lo, .int hi])).length) Slot.unset).toArray = ls at hl ⊢
  have hl : lv_has ls 3 [(0, .int n), (1, .int lo), (2, .int hi)] := hl
  refine lv_iload_n hx hb dX9_in_0 rfl (lv_at hl 0 rfl) ?_
  refine lv_iload_n hx hb dX9_in_1 rfl (lv_at hl 1 rfl) ?_
  refine lv_icmp_lt (tgt := 14) hx hb dX9_in_2 (by decide) (fun c1 => ?_) (fun c1 => ?_)
  · skip
    have c1 : n.toInt < lo.toInt := (z_lt rfl rfl).mp c1
    refine lv_iconst (v := 0) hx hb dX9_in_14 (by decide) ?_
    exact W.zret (v := 0) hx hb hr rfl (fun t ht hW => ⟨0, rfl, by first | exact Or.inl ⟨rfl, by omega⟩ | exact Or.inr ⟨rfl, by omega⟩, ht⟩) (fun q hq => by cases hq) dX9_in_15
  · skip
    have c1 : ¬ (n.toInt < lo.toInt) := fun q => c1 ((z_lt rfl rfl).mpr q)
    refine lv_iload_n hx hb dX9_in_5 rfl (lv_at hl 0 rfl) ?_
    refine lv_iload_n hx hb dX9_in_6 rfl (lv_at hl 2 rfl) ?_
    refine lv_icmp_gt (tgt := 14) hx hb dX9_in_7 (by decide) (fun c2 => ?_) (fun c2 => ?_)
    · skip
      have c2 : hi.toInt < n.toInt := (z_lt rfl rfl).mp c2
      refine lv_iconst (v := 0) hx hb dX9_in_14 (by decide) ?_
      exact W.zret (v := 0) hx hb hr rfl (fun t ht hW => ⟨0, rfl, by first | exact Or.inl ⟨rfl, by omega⟩ | exact Or.inr ⟨rfl, by omega⟩, ht⟩) (fun q hq => by cases hq) dX9_in_15
    · skip
      have c2 : ¬ (hi.toInt < n.toInt) := fun q => c2 ((z_lt rfl rfl).mpr q)
      refine lv_iconst (v := 1) hx hb dX9_in_10 (by decide) ?_
      refine lv_goto (tgt := 15) hx hb dX9_in_11 (by decide) ?_
      exact W.zret (v := 1) hx hb hr rfl (fun t ht hW => ⟨1, rfl, by first | exact Or.inl ⟨rfl, by omega⟩ | exact Or.inr ⟨rfl, by omega⟩, ht⟩) (fun q hq => by cases hq) dX9_in_15

set_option maxHeartbeats 4000000 in
set_option maxRecDepth 100000 in
theorem c_X8_isColumn (l : Launch) (g : zG) (n : Int32) : Met l yX8_isColumn (zW yX8_isColumn cX8_isColumn 1 (some .boolean)) ({ frames := 0, cells := 0, slots := 0, locals := 0 }) (va_Pc [.int n] (zR g [])) (vp_Si (fun r : Int32 => (r = 1 ∧ (0 ≤ n.toInt) ∧ (n.toInt ≤ 3)) ∨ (r = 0 ∧ (¬ (0 ≤ n.toInt ∧ n.toInt ≤ 3))))) 0 0 (fun _ => False) := by
  refine Met.ofW (cc := cX8_isColumn) (maxL := 1) (ret := (some .boolean)) (by decide) rfl ?_
  intro p e s m args below meth c s₁ B hml hv
  obtain ⟨rfl, hP, hK, hN⟩ := hv
  have hx := B.exec
  have hb := B.bytes
  have hr := B.returns
  have hg := zW.law (atoms_spec (ws := (zW yX8_isColumn cX8_isColumn 1 (some .boolean))) B.pre)
  have hown : s.vm.findClass RX8 = some m.cls := findClass_of_methodNamed B.named
  have hlocks := B.notSynchronized
  have hl := lv_entry ([.int n]) (n := 1) (Nat.le_of_ble_eq_true rfl)
  rw [lg_entry_eq]
  generalize (lg_sl ([.int n]) ++ List.replicate (1 - (lg_sl ([.int n])).length) Slot.unset).toArray = ls at hl ⊢
  have hl : lv_has ls 1 [(0, .int n)] := hl
  refine lv_iload_n hx hb dX8_isColumn_0 rfl (lv_at hl 0 rfl) ?_
  refine lv_if_lt (tgt := 13) hx hb dX8_isColumn_1 (by decide) (fun c1 => ?_) (fun c1 => ?_)
  · skip
    have c1 : n.toInt < 0 := (z_lt rfl (by decide : (0 : Int32).toInt = 0)).mp c1
    refine lv_iconst (v := 0) hx hb dX8_isColumn_13 (by decide) ?_
    exact W.zret (v := 0) hx hb hr rfl (fun t ht hW => ⟨0, rfl, by first | exact Or.inl ⟨rfl, by omega⟩ | exact Or.inr ⟨rfl, by omega⟩, ht⟩) (fun q hq => by cases hq) dX8_isColumn_14
  · skip
    have c1 : ¬ (n.toInt < 0) := fun q => c1 ((z_lt rfl (by decide : (0 : Int32).toInt = 0)).mpr q)
    refine lv_iload_n hx hb dX8_isColumn_4 rfl (lv_at hl 0 rfl) ?_
    refine lv_iconst (v := 4) hx hb dX8_isColumn_5 (by decide) ?_
    refine lv_icmp_ge (tgt := 13) hx hb dX8_isColumn_6 (by decide) (fun c2 => ?_) (fun c2 => ?_)
    · skip
      have c2 : 4 ≤ n.toInt := (z_le (by decide : (4 : Int32).toInt = 4) rfl).mp c2
      refine lv_iconst (v := 0) hx hb dX8_isColumn_13 (by decide) ?_
      exact W.zret (v := 0) hx hb hr rfl (fun t ht hW => ⟨0, rfl, by first | exact Or.inl ⟨rfl, by omega⟩ | exact Or.inr ⟨rfl, by omega⟩, ht⟩) (fun q hq => by cases hq) dX8_isColumn_14
    · skip
      have c2 : ¬ (4 ≤ n.toInt) := fun q => c2 ((z_le (by decide : (4 : Int32).toInt = 4) rfl).mpr q)
      refine lv_iconst (v := 1) hx hb dX8_isColumn_9 (by decide) ?_
      refine lv_goto (tgt := 14) hx hb dX8_isColumn_10 (by decide) ?_
      exact W.zret (v := 1) hx hb hr rfl (fun t ht hW => ⟨1, rfl, by first | exact Or.inl ⟨rfl, by omega⟩ | exact Or.inr ⟨rfl, by omega⟩, ht⟩) (fun q hq => by cases hq) dX8_isColumn_14

set_option maxHeartbeats 4000000 in
set_option maxRecDepth 100000 in
theorem c_X9_isColumn (l : Launch) (g : zG) (n : Int32) : Met l yX9_isColumn (zW yX9_isColumn cX9_isColumn 1 (some .boolean)) ({ frames := 0, cells := 0, slots := 0, locals := 0 }) (va_Pc [.int n] (zR g [])) (vp_Si (fun r : Int32 => (r = 1 ∧ (0 ≤ n.toInt) ∧ (n.toInt ≤ 3)) ∨ (r = 0 ∧ (¬ (0 ≤ n.toInt ∧ n.toInt ≤ 3))))) 0 0 (fun _ => False) := by
  refine Met.ofW (cc := cX9_isColumn) (maxL := 1) (ret := (some .boolean)) (by decide) rfl ?_
  intro p e s m args below meth c s₁ B hml hv
  obtain ⟨rfl, hP, hK, hN⟩ := hv
  have hx := B.exec
  have hb := B.bytes
  have hr := B.returns
  have hg := zW.law (atoms_spec (ws := (zW yX9_isColumn cX9_isColumn 1 (some .boolean))) B.pre)
  have hown : s.vm.findClass RX9 = some m.cls := findClass_of_methodNamed B.named
  have hlocks := B.notSynchronized
  have hl := lv_entry ([.int n]) (n := 1) (Nat.le_of_ble_eq_true rfl)
  rw [lg_entry_eq]
  generalize (lg_sl ([.int n]) ++ List.replicate (1 - (lg_sl ([.int n])).length) Slot.unset).toArray = ls at hl ⊢
  have hl : lv_has ls 1 [(0, .int n)] := hl
  refine lv_iload_n hx hb dX9_isColumn_0 rfl (lv_at hl 0 rfl) ?_
  refine lv_if_lt (tgt := 13) hx hb dX9_isColumn_1 (by decide) (fun c1 => ?_) (fun c1 => ?_)
  · skip
    have c1 : n.toInt < 0 := (z_lt rfl (by decide : (0 : Int32).toInt = 0)).mp c1
    refine lv_iconst (v := 0) hx hb dX9_isColumn_13 (by decide) ?_
    exact W.zret (v := 0) hx hb hr rfl (fun t ht hW => ⟨0, rfl, by first | exact Or.inl ⟨rfl, by omega⟩ | exact Or.inr ⟨rfl, by omega⟩, ht⟩) (fun q hq => by cases hq) dX9_isColumn_14
  · skip
    have c1 : ¬ (n.toInt < 0) := fun q => c1 ((z_lt rfl (by decide : (0 : Int32).toInt = 0)).mpr q)
    refine lv_iload_n hx hb dX9_isColumn_4 rfl (lv_at hl 0 rfl) ?_
    refine lv_iconst (v := 4) hx hb dX9_isColumn_5 (by decide) ?_
    refine lv_icmp_ge (tgt := 13) hx hb dX9_isColumn_6 (by decide) (fun c2 => ?_) (fun c2 => ?_)
    · skip
      have c2 : 4 ≤ n.toInt := (z_le (by decide : (4 : Int32).toInt = 4) rfl).mp c2
      refine lv_iconst (v := 0) hx hb dX9_isColumn_13 (by decide) ?_
      exact W.zret (v := 0) hx hb hr rfl (fun t ht hW => ⟨0, rfl, by first | exact Or.inl ⟨rfl, by omega⟩ | exact Or.inr ⟨rfl, by omega⟩, ht⟩) (fun q hq => by cases hq) dX9_isColumn_14
    · skip
      have c2 : ¬ (4 ≤ n.toInt) := fun q => c2 ((z_le (by decide : (4 : Int32).toInt = 4) rfl).mpr q)
      refine lv_iconst (v := 1) hx hb dX9_isColumn_9 (by decide) ?_
      refine lv_goto (tgt := 14) hx hb dX9_isColumn_10 (by decide) ?_
      exact W.zret (v := 1) hx hb hr rfl (fun t ht hW => ⟨1, rfl, by first | exact Or.inl ⟨rfl, by omega⟩ | exact Or.inr ⟨rfl, by omega⟩, ht⟩) (fun q hq => by cases hq) dX9_isColumn_14

set_option maxHeartbeats 4000000 in
set_option maxRecDepth 100000 in
theorem c_X8_isValue (l : Launch) (g : zG) (n : Int32) : Met l yX8_isValue (zW yX8_isValue cX8_isValue 1 (some .boolean)) ({ frames := 1, cells := 0, slots := 0, locals := 22 }) (va_Pc [.int n] (zR g [])) (vp_Si (fun r : Int32 => (r = 1 ∧ (0 ≤ n.toInt) ∧ (n.toInt ≤ 15)) ∨ (r = 0 ∧ (¬ (0 ≤ n.toInt ∧ n.toInt ≤ 15))))) 0 0 (fun _ => False) := by
  refine Met.ofW (cc := cX8_isValue) (maxL := 1) (ret := (some .boolean)) (by decide) rfl ?_
  intro p e s m args below meth c s₁ B hml hv
  obtain ⟨rfl, hP, hK, hN⟩ := hv
  have hx := B.exec
  have hb := B.bytes
  have hr := B.returns
  have hg := zW.law (atoms_spec (ws := (zW yX8_isValue cX8_isValue 1 (some .boolean))) B.pre)
  have hown : s.vm.findClass RX8 = some m.cls := findClass_of_methodNamed B.named
  have hlocks := B.notSynchronized
  have hl := lv_entry ([.int n]) (n := 1) (Nat.le_of_ble_eq_true rfl)
  rw [lg_entry_eq]
  generalize (lg_sl ([.int n]) ++ List.replicate (1 - (lg_sl ([.int n])).length) Slot.unset).toArray = ls at hl ⊢
  have hl : lv_has ls 1 [(0, .int n)] := hl
  refine lv_iload_n hx hb dX8_isValue_0 rfl (lv_at hl 0 rfl) ?_
  refine lv_iconst (v := 0) hx hb dX8_isValue_1 (by decide) ?_
  refine lv_bipush (v := 15) hx hb dX8_isValue_2 (by decide) ?_
  have hPc := hP.sub (ws' := []) [] rfl
  refine zc_i (va_runS (As := [.int n, .int 0, .int 15]) (rest := []) ⟨hx, hb, hml, hown, hg⟩ (c_X8_within l g n (0 : Int32) (15 : Int32) ) (va_cwS 3 hg (z_gS mm_407 mm_408 mm_108 mm_409) rfl rfl rfl (by decide +kernel) ⟨Nat.le_of_ble_eq_true rfl, Nat.le_of_ble_eq_true rfl⟩) (zR.pre [.int n, .int 0, .int 15] hPc hK hN) rfl rfl hl.1 rfl (lv_room (Nat.le_of_ble_eq_true rfl)) dX8_isValue_4 ⟨Nat.le_of_ble_eq_true rfl, Nat.le_of_ble_eq_true rfl⟩) (fun r1 hr1 => ?_)
  rcases hr1 with hr1 | hr1
  · skip
    obtain ⟨rfl, h2, h3⟩ := hr1
    have h2 : (0 : Int) ≤ n.toInt := h2
    have h3 : n.toInt ≤ (15 : Int) := h3
    exact W.zret (v := 1) hx hb hr rfl (fun t ht hW => ⟨1, rfl, by first | exact Or.inl ⟨rfl, by omega⟩ | exact Or.inr ⟨rfl, by omega⟩, ht⟩) (fun q hq => by cases hq) dX8_isValue_7
  · skip
    obtain ⟨rfl, h4⟩ := hr1
    have h4 : ¬ ((0 : Int) ≤ n.toInt ∧ n.toInt ≤ (15 : Int)) := h4
    exact W.zret (v := 0) hx hb hr rfl (fun t ht hW => ⟨0, rfl, by first | exact Or.inl ⟨rfl, by omega⟩ | exact Or.inr ⟨rfl, by omega⟩, ht⟩) (fun q hq => by cases hq) dX8_isValue_7

set_option maxHeartbeats 4000000 in
set_option maxRecDepth 100000 in
theorem c_X8_isLevel (l : Launch) (g : zG) (n : Int32) : Met l yX8_isLevel (zW yX8_isLevel cX8_isLevel 1 (some .boolean)) ({ frames := 1, cells := 0, slots := 0, locals := 22 }) (va_Pc [.int n] (zR g [])) (vp_Si (fun r : Int32 => (r = 1 ∧ (0 ≤ n.toInt) ∧ (n.toInt ≤ 4)) ∨ (r = 0 ∧ (¬ (0 ≤ n.toInt ∧ n.toInt ≤ 4))))) 0 0 (fun _ => False) := by
  refine Met.ofW (cc := cX8_isLevel) (maxL := 1) (ret := (some .boolean)) (by decide) rfl ?_
  intro p e s m args below meth c s₁ B hml hv
  obtain ⟨rfl, hP, hK, hN⟩ := hv
  have hx := B.exec
  have hb := B.bytes
  have hr := B.returns
  have hg := zW.law (atoms_spec (ws := (zW yX8_isLevel cX8_isLevel 1 (some .boolean))) B.pre)
  have hown : s.vm.findClass RX8 = some m.cls := findClass_of_methodNamed B.named
  have hlocks := B.notSynchronized
  have hl := lv_entry ([.int n]) (n := 1) (Nat.le_of_ble_eq_true rfl)
  rw [lg_entry_eq]
  generalize (lg_sl ([.int n]) ++ List.replicate (1 - (lg_sl ([.int n])).length) Slot.unset).toArray = ls at hl ⊢
  have hl : lv_has ls 1 [(0, .int n)] := hl
  refine lv_iload_n hx hb dX8_isLevel_0 rfl (lv_at hl 0 rfl) ?_
  refine lv_iconst (v := 0) hx hb dX8_isLevel_1 (by decide) ?_
  refine lv_iconst (v := 4) hx hb dX8_isLevel_2 (by decide) ?_
  have hPc := hP.sub (ws' := []) [] rfl
  refine zc_i (va_runS (As := [.int n, .int 0, .int 4]) (rest := []) ⟨hx, hb, hml, hown, hg⟩ (c_X8_within l g n (0 : Int32) (4 : Int32) ) (va_cwS 3 hg (z_gS mm_407 mm_408 mm_108 mm_409) rfl rfl rfl (by decide +kernel) ⟨Nat.le_of_ble_eq_true rfl, Nat.le_of_ble_eq_true rfl⟩) (zR.pre [.int n, .int 0, .int 4] hPc hK hN) rfl rfl hl.1 rfl (lv_room (Nat.le_of_ble_eq_true rfl)) dX8_isLevel_3 ⟨Nat.le_of_ble_eq_true rfl, Nat.le_of_ble_eq_true rfl⟩) (fun r1 hr1 => ?_)
  rcases hr1 with hr1 | hr1
  · skip
    obtain ⟨rfl, h2, h3⟩ := hr1
    have h2 : (0 : Int) ≤ n.toInt := h2
    have h3 : n.toInt ≤ (4 : Int) := h3
    exact W.zret (v := 1) hx hb hr rfl (fun t ht hW => ⟨1, rfl, by first | exact Or.inl ⟨rfl, by omega⟩ | exact Or.inr ⟨rfl, by omega⟩, ht⟩) (fun q hq => by cases hq) dX8_isLevel_6
  · skip
    obtain ⟨rfl, h4⟩ := hr1
    have h4 : ¬ ((0 : Int) ≤ n.toInt ∧ n.toInt ≤ (4 : Int)) := h4
    exact W.zret (v := 0) hx hb hr rfl (fun t ht hW => ⟨0, rfl, by first | exact Or.inl ⟨rfl, by omega⟩ | exact Or.inr ⟨rfl, by omega⟩, ht⟩) (fun q hq => by cases hq) dX8_isLevel_6

set_option maxHeartbeats 4000000 in
set_option maxRecDepth 100000 in
theorem c_X9_isLevel (l : Launch) (g : zG) (n : Int32) : Met l yX9_isLevel (zW yX9_isLevel cX9_isLevel 1 (some .boolean)) ({ frames := 0, cells := 0, slots := 0, locals := 0 }) (va_Pc [.int n] (zR g [])) (vp_Si (fun r : Int32 => (r = 1 ∧ (0 ≤ n.toInt) ∧ (n.toInt ≤ 4)) ∨ (r = 0 ∧ (¬ (0 ≤ n.toInt ∧ n.toInt ≤ 4))))) 0 0 (fun _ => False) := by
  refine Met.ofW (cc := cX9_isLevel) (maxL := 1) (ret := (some .boolean)) (by decide) rfl ?_
  intro p e s m args below meth c s₁ B hml hv
  obtain ⟨rfl, hP, hK, hN⟩ := hv
  have hx := B.exec
  have hb := B.bytes
  have hr := B.returns
  have hg := zW.law (atoms_spec (ws := (zW yX9_isLevel cX9_isLevel 1 (some .boolean))) B.pre)
  have hown : s.vm.findClass RX9 = some m.cls := findClass_of_methodNamed B.named
  have hlocks := B.notSynchronized
  have hl := lv_entry ([.int n]) (n := 1) (Nat.le_of_ble_eq_true rfl)
  rw [lg_entry_eq]
  generalize (lg_sl ([.int n]) ++ List.replicate (1 - (lg_sl ([.int n])).length) Slot.unset).toArray = ls at hl ⊢
  have hl : lv_has ls 1 [(0, .int n)] := hl
  refine lv_iload_n hx hb dX9_isLevel_0 rfl (lv_at hl 0 rfl) ?_
  refine lv_if_lt (tgt := 13) hx hb dX9_isLevel_1 (by decide) (fun c1 => ?_) (fun c1 => ?_)
  · skip
    have c1 : n.toInt < 0 := (z_lt rfl (by decide : (0 : Int32).toInt = 0)).mp c1
    refine lv_iconst (v := 0) hx hb dX9_isLevel_13 (by decide) ?_
    exact W.zret (v := 0) hx hb hr rfl (fun t ht hW => ⟨0, rfl, by first | exact Or.inl ⟨rfl, by omega⟩ | exact Or.inr ⟨rfl, by omega⟩, ht⟩) (fun q hq => by cases hq) dX9_isLevel_14
  · skip
    have c1 : ¬ (n.toInt < 0) := fun q => c1 ((z_lt rfl (by decide : (0 : Int32).toInt = 0)).mpr q)
    refine lv_iload_n hx hb dX9_isLevel_4 rfl (lv_at hl 0 rfl) ?_
    refine lv_iconst (v := 5) hx hb dX9_isLevel_5 (by decide) ?_
    refine lv_icmp_ge (tgt := 13) hx hb dX9_isLevel_6 (by decide) (fun c2 => ?_) (fun c2 => ?_)
    · skip
      have c2 : 5 ≤ n.toInt := (z_le (by decide : (5 : Int32).toInt = 5) rfl).mp c2
      refine lv_iconst (v := 0) hx hb dX9_isLevel_13 (by decide) ?_
      exact W.zret (v := 0) hx hb hr rfl (fun t ht hW => ⟨0, rfl, by first | exact Or.inl ⟨rfl, by omega⟩ | exact Or.inr ⟨rfl, by omega⟩, ht⟩) (fun q hq => by cases hq) dX9_isLevel_14
    · skip
      have c2 : ¬ (5 ≤ n.toInt) := fun q => c2 ((z_le (by decide : (5 : Int32).toInt = 5) rfl).mpr q)
      refine lv_iconst (v := 1) hx hb dX9_isLevel_9 (by decide) ?_
      refine lv_goto (tgt := 14) hx hb dX9_isLevel_10 (by decide) ?_
      exact W.zret (v := 1) hx hb hr rfl (fun t ht hW => ⟨1, rfl, by first | exact Or.inl ⟨rfl, by omega⟩ | exact Or.inr ⟨rfl, by omega⟩, ht⟩) (fun q hq => by cases hq) dX9_isLevel_14

set_option maxHeartbeats 4000000 in
set_option maxRecDepth 100000 in
theorem c_X8_isBar (l : Launch) (g : zG) (n : Int32) : Met l yX8_isBar (zW yX8_isBar cX8_isBar 1 (some .boolean)) ({ frames := 1, cells := 0, slots := 0, locals := 22 }) (va_Pc [.int n] (zR g [])) (vp_Si (fun r : Int32 => (r = 1 ∧ (1 ≤ n.toInt) ∧ (n.toInt ≤ 16)) ∨ (r = 0 ∧ (¬ (1 ≤ n.toInt ∧ n.toInt ≤ 16))))) 0 0 (fun _ => False) := by
  refine Met.ofW (cc := cX8_isBar) (maxL := 1) (ret := (some .boolean)) (by decide) rfl ?_
  intro p e s m args below meth c s₁ B hml hv
  obtain ⟨rfl, hP, hK, hN⟩ := hv
  have hx := B.exec
  have hb := B.bytes
  have hr := B.returns
  have hg := zW.law (atoms_spec (ws := (zW yX8_isBar cX8_isBar 1 (some .boolean))) B.pre)
  have hown : s.vm.findClass RX8 = some m.cls := findClass_of_methodNamed B.named
  have hlocks := B.notSynchronized
  have hl := lv_entry ([.int n]) (n := 1) (Nat.le_of_ble_eq_true rfl)
  rw [lg_entry_eq]
  generalize (lg_sl ([.int n]) ++ List.replicate (1 - (lg_sl ([.int n])).length) Slot.unset).toArray = ls at hl ⊢
  have hl : lv_has ls 1 [(0, .int n)] := hl
  refine lv_iload_n hx hb dX8_isBar_0 rfl (lv_at hl 0 rfl) ?_
  refine lv_iconst (v := 1) hx hb dX8_isBar_1 (by decide) ?_
  refine lv_bipush (v := 16) hx hb dX8_isBar_2 (by decide) ?_
  have hPc := hP.sub (ws' := []) [] rfl
  refine zc_i (va_runS (As := [.int n, .int 1, .int 16]) (rest := []) ⟨hx, hb, hml, hown, hg⟩ (c_X8_within l g n (1 : Int32) (16 : Int32) ) (va_cwS 3 hg (z_gS mm_407 mm_408 mm_108 mm_409) rfl rfl rfl (by decide +kernel) ⟨Nat.le_of_ble_eq_true rfl, Nat.le_of_ble_eq_true rfl⟩) (zR.pre [.int n, .int 1, .int 16] hPc hK hN) rfl rfl hl.1 rfl (lv_room (Nat.le_of_ble_eq_true rfl)) dX8_isBar_4 ⟨Nat.le_of_ble_eq_true rfl, Nat.le_of_ble_eq_true rfl⟩) (fun r1 hr1 => ?_)
  rcases hr1 with hr1 | hr1
  · skip
    obtain ⟨rfl, h2, h3⟩ := hr1
    have h2 : (1 : Int) ≤ n.toInt := h2
    have h3 : n.toInt ≤ (16 : Int) := h3
    exact W.zret (v := 1) hx hb hr rfl (fun t ht hW => ⟨1, rfl, by first | exact Or.inl ⟨rfl, by omega⟩ | exact Or.inr ⟨rfl, by omega⟩, ht⟩) (fun q hq => by cases hq) dX8_isBar_7
  · skip
    obtain ⟨rfl, h4⟩ := hr1
    have h4 : ¬ ((1 : Int) ≤ n.toInt ∧ n.toInt ≤ (16 : Int)) := h4
    exact W.zret (v := 0) hx hb hr rfl (fun t ht hW => ⟨0, rfl, by first | exact Or.inl ⟨rfl, by omega⟩ | exact Or.inr ⟨rfl, by omega⟩, ht⟩) (fun q hq => by cases hq) dX8_isBar_7

set_option maxHeartbeats 4000000 in
set_option maxRecDepth 100000 in
theorem c_X9_isMany (l : Launch) (g : zG) (n : Int32) : Met l yX9_isMany (zW yX9_isMany cX9_isMany 1 (some .boolean)) ({ frames := 0, cells := 0, slots := 0, locals := 0 }) (va_Pc [.int n] (zR g [])) (vp_Si (fun r : Int32 => (r = 1 ∧ (1 ≤ n.toInt) ∧ (n.toInt ≤ 16)) ∨ (r = 0 ∧ (¬ (1 ≤ n.toInt ∧ n.toInt ≤ 16))))) 0 0 (fun _ => False) := by
  refine Met.ofW (cc := cX9_isMany) (maxL := 1) (ret := (some .boolean)) (by decide) rfl ?_
  intro p e s m args below meth c s₁ B hml hv
  obtain ⟨rfl, hP, hK, hN⟩ := hv
  have hx := B.exec
  have hb := B.bytes
  have hr := B.returns
  have hg := zW.law (atoms_spec (ws := (zW yX9_isMany cX9_isMany 1 (some .boolean))) B.pre)
  have hown : s.vm.findClass RX9 = some m.cls := findClass_of_methodNamed B.named
  have hlocks := B.notSynchronized
  have hl := lv_entry ([.int n]) (n := 1) (Nat.le_of_ble_eq_true rfl)
  rw [lg_entry_eq]
  generalize (lg_sl ([.int n]) ++ List.replicate (1 - (lg_sl ([.int n])).length) Slot.unset).toArray = ls at hl ⊢
  have hl : lv_has ls 1 [(0, .int n)] := hl
  refine lv_iload_n hx hb dX9_isMany_0 rfl (lv_at hl 0 rfl) ?_
  refine lv_if_le (tgt := 14) hx hb dX9_isMany_1 (by decide) (fun c1 => ?_) (fun c1 => ?_)
  · skip
    have c1 : n.toInt ≤ 0 := (z_le rfl (by decide : (0 : Int32).toInt = 0)).mp c1
    refine lv_iconst (v := 0) hx hb dX9_isMany_14 (by decide) ?_
    exact W.zret (v := 0) hx hb hr rfl (fun t ht hW => ⟨0, rfl, by first | exact Or.inl ⟨rfl, by omega⟩ | exact Or.inr ⟨rfl, by omega⟩, ht⟩) (fun q hq => by cases hq) dX9_isMany_15
  · skip
    have c1 : ¬ (n.toInt ≤ 0) := fun q => c1 ((z_le rfl (by decide : (0 : Int32).toInt = 0)).mpr q)
    refine lv_iload_n hx hb dX9_isMany_4 rfl (lv_at hl 0 rfl) ?_
    refine lv_bipush (v := 17) hx hb dX9_isMany_5 (by decide) ?_
    refine lv_icmp_ge (tgt := 14) hx hb dX9_isMany_7 (by decide) (fun c2 => ?_) (fun c2 => ?_)
    · skip
      have c2 : 17 ≤ n.toInt := (z_le (by decide : (17 : Int32).toInt = 17) rfl).mp c2
      refine lv_iconst (v := 0) hx hb dX9_isMany_14 (by decide) ?_
      exact W.zret (v := 0) hx hb hr rfl (fun t ht hW => ⟨0, rfl, by first | exact Or.inl ⟨rfl, by omega⟩ | exact Or.inr ⟨rfl, by omega⟩, ht⟩) (fun q hq => by cases hq) dX9_isMany_15
    · skip
      have c2 : ¬ (17 ≤ n.toInt) := fun q => c2 ((z_le (by decide : (17 : Int32).toInt = 17) rfl).mpr q)
      refine lv_iconst (v := 1) hx hb dX9_isMany_10 (by decide) ?_
      refine lv_goto (tgt := 15) hx hb dX9_isMany_11 (by decide) ?_
      exact W.zret (v := 1) hx hb hr rfl (fun t ht hW => ⟨1, rfl, by first | exact Or.inl ⟨rfl, by omega⟩ | exact Or.inr ⟨rfl, by omega⟩, ht⟩) (fun q hq => by cases hq) dX9_isMany_15

set_option maxHeartbeats 4000000 in
set_option maxRecDepth 100000 in
theorem c_X8_areGossips (l : Launch) (g : zG) (n : Int32) : Met l yX8_areGossips (zW yX8_areGossips cX8_areGossips 1 (some .boolean)) ({ frames := 1, cells := 0, slots := 0, locals := 22 }) (va_Pc [.int n] (zR g [])) (vp_Si (fun r : Int32 => (r = 1 ∧ (0 ≤ n.toInt) ∧ (n.toInt ≤ 255)) ∨ (r = 0 ∧ (¬ (0 ≤ n.toInt ∧ n.toInt ≤ 255))))) 0 0 (fun _ => False) := by
  refine Met.ofW (cc := cX8_areGossips) (maxL := 1) (ret := (some .boolean)) (by decide) rfl ?_
  intro p e s m args below meth c s₁ B hml hv
  obtain ⟨rfl, hP, hK, hN⟩ := hv
  have hx := B.exec
  have hb := B.bytes
  have hr := B.returns
  have hg := zW.law (atoms_spec (ws := (zW yX8_areGossips cX8_areGossips 1 (some .boolean))) B.pre)
  have hown : s.vm.findClass RX8 = some m.cls := findClass_of_methodNamed B.named
  have hlocks := B.notSynchronized
  have hl := lv_entry ([.int n]) (n := 1) (Nat.le_of_ble_eq_true rfl)
  rw [lg_entry_eq]
  generalize (lg_sl ([.int n]) ++ List.replicate (1 - (lg_sl ([.int n])).length) Slot.unset).toArray = ls at hl ⊢
  have hl : lv_has ls 1 [(0, .int n)] := hl
  refine lv_iload_n hx hb dX8_areGossips_0 rfl (lv_at hl 0 rfl) ?_
  refine lv_iconst (v := 0) hx hb dX8_areGossips_1 (by decide) ?_
  refine lv_sipush (v := 255) hx hb dX8_areGossips_2 (by decide) ?_
  have hPc := hP.sub (ws' := []) [] rfl
  refine zc_i (va_runS (As := [.int n, .int 0, .int 255]) (rest := []) ⟨hx, hb, hml, hown, hg⟩ (c_X8_within l g n (0 : Int32) (255 : Int32) ) (va_cwS 3 hg (z_gS mm_407 mm_408 mm_108 mm_409) rfl rfl rfl (by decide +kernel) ⟨Nat.le_of_ble_eq_true rfl, Nat.le_of_ble_eq_true rfl⟩) (zR.pre [.int n, .int 0, .int 255] hPc hK hN) rfl rfl hl.1 rfl (lv_room (Nat.le_of_ble_eq_true rfl)) dX8_areGossips_5 ⟨Nat.le_of_ble_eq_true rfl, Nat.le_of_ble_eq_true rfl⟩) (fun r1 hr1 => ?_)
  rcases hr1 with hr1 | hr1
  · skip
    obtain ⟨rfl, h2, h3⟩ := hr1
    have h2 : (0 : Int) ≤ n.toInt := h2
    have h3 : n.toInt ≤ (255 : Int) := h3
    exact W.zret (v := 1) hx hb hr rfl (fun t ht hW => ⟨1, rfl, by first | exact Or.inl ⟨rfl, by omega⟩ | exact Or.inr ⟨rfl, by omega⟩, ht⟩) (fun q hq => by cases hq) dX8_areGossips_8
  · skip
    obtain ⟨rfl, h4⟩ := hr1
    have h4 : ¬ ((0 : Int) ≤ n.toInt ∧ n.toInt ≤ (255 : Int)) := h4
    exact W.zret (v := 0) hx hb hr rfl (fun t ht hW => ⟨0, rfl, by first | exact Or.inl ⟨rfl, by omega⟩ | exact Or.inr ⟨rfl, by omega⟩, ht⟩) (fun q hq => by cases hq) dX8_areGossips_8

set_option maxHeartbeats 4000000 in
set_option maxRecDepth 100000 in
theorem c_X9_isKnown (l : Launch) (g : zG) (n : Int32) : Met l yX9_isKnown (zW yX9_isKnown cX9_isKnown 1 (some .boolean)) ({ frames := 0, cells := 0, slots := 0, locals := 0 }) (va_Pc [.int n] (zR g [])) (vp_Si (fun r : Int32 => (r = 1 ∧ (0 ≤ n.toInt) ∧ (n.toInt ≤ 255)) ∨ (r = 0 ∧ (¬ (0 ≤ n.toInt ∧ n.toInt ≤ 255))))) 0 0 (fun _ => False) := by
  refine Met.ofW (cc := cX9_isKnown) (maxL := 1) (ret := (some .boolean)) (by decide) rfl ?_
  intro p e s m args below meth c s₁ B hml hv
  obtain ⟨rfl, hP, hK, hN⟩ := hv
  have hx := B.exec
  have hb := B.bytes
  have hr := B.returns
  have hg := zW.law (atoms_spec (ws := (zW yX9_isKnown cX9_isKnown 1 (some .boolean))) B.pre)
  have hown : s.vm.findClass RX9 = some m.cls := findClass_of_methodNamed B.named
  have hlocks := B.notSynchronized
  have hl := lv_entry ([.int n]) (n := 1) (Nat.le_of_ble_eq_true rfl)
  rw [lg_entry_eq]
  generalize (lg_sl ([.int n]) ++ List.replicate (1 - (lg_sl ([.int n])).length) Slot.unset).toArray = ls at hl ⊢
  have hl : lv_has ls 1 [(0, .int n)] := hl
  refine lv_iload_n hx hb dX9_isKnown_0 rfl (lv_at hl 0 rfl) ?_
  refine lv_if_lt (tgt := 15) hx hb dX9_isKnown_1 (by decide) (fun c1 => ?_) (fun c1 => ?_)
  · skip
    have c1 : n.toInt < 0 := (z_lt rfl (by decide : (0 : Int32).toInt = 0)).mp c1
    refine lv_iconst (v := 0) hx hb dX9_isKnown_15 (by decide) ?_
    exact W.zret (v := 0) hx hb hr rfl (fun t ht hW => ⟨0, rfl, by first | exact Or.inl ⟨rfl, by omega⟩ | exact Or.inr ⟨rfl, by omega⟩, ht⟩) (fun q hq => by cases hq) dX9_isKnown_16
  · skip
    have c1 : ¬ (n.toInt < 0) := fun q => c1 ((z_lt rfl (by decide : (0 : Int32).toInt = 0)).mpr q)
    refine lv_iload_n hx hb dX9_isKnown_4 rfl (lv_at hl 0 rfl) ?_
    refine lv_sipush (v := 256) hx hb dX9_isKnown_5 (by decide) ?_
    refine lv_icmp_ge (tgt := 15) hx hb dX9_isKnown_8 (by decide) (fun c2 => ?_) (fun c2 => ?_)
    · skip
      have c2 : 256 ≤ n.toInt := (z_le (by decide : (256 : Int32).toInt = 256) rfl).mp c2
      refine lv_iconst (v := 0) hx hb dX9_isKnown_15 (by decide) ?_
      exact W.zret (v := 0) hx hb hr rfl (fun t ht hW => ⟨0, rfl, by first | exact Or.inl ⟨rfl, by omega⟩ | exact Or.inr ⟨rfl, by omega⟩, ht⟩) (fun q hq => by cases hq) dX9_isKnown_16
    · skip
      have c2 : ¬ (256 ≤ n.toInt) := fun q => c2 ((z_le (by decide : (256 : Int32).toInt = 256) rfl).mpr q)
      refine lv_iconst (v := 1) hx hb dX9_isKnown_11 (by decide) ?_
      refine lv_goto (tgt := 16) hx hb dX9_isKnown_12 (by decide) ?_
      exact W.zret (v := 1) hx hb hr rfl (fun t ht hW => ⟨1, rfl, by first | exact Or.inl ⟨rfl, by omega⟩ | exact Or.inr ⟨rfl, by omega⟩, ht⟩) (fun q hq => by cases hq) dX9_isKnown_16
end
section
set_option maxHeartbeats 4000000 in
set_option maxRecDepth 100000 in
theorem c_X8_isBook (l : Launch) (g : zG) (h0 : Nat) (w0 : Value) (w1 : Value) (w2 : Value) (w3 : Value) (w4 : Value) (w5 : Value) (w6 : Value) (w7 : Value) (w8 : Value) (w9 : Value) (w10 : Value) (b : Int32) : Met l yX8_isBook (zW yX8_isBook cX8_isBook 2 (some .boolean)) ({ frames := 0, cells := 0, slots := 0, locals := 0 }) (va_Pc [.ref h0, .int b] (zR g [(h0, .inr (8, [w0, w1, w2, w3, w4, w5, w6, w7, w8, w9, w10, .int 0, .int 0]))])) (vp_Si (fun r : Int32 => (r = 0))) 0 0 (fun _ => False) := by
  refine Met.ofW (cc := cX8_isBook) (maxL := 2) (ret := (some .boolean)) (by decide) rfl ?_
  intro p e s m args below meth c s₁ B hml hv
  obtain ⟨rfl, hP, hK, hN⟩ := hv
  have hx := B.exec
  have hb := B.bytes
  have hr := B.returns
  have hg := zW.law (atoms_spec (ws := (zW yX8_isBook cX8_isBook 2 (some .boolean))) B.pre)
  have hown : s.vm.findClass RX8 = some m.cls := findClass_of_methodNamed B.named
  have hlocks := B.notSynchronized
  have hl := lv_entry ([.ref h0, .int b]) (n := 2) (Nat.le_of_ble_eq_true rfl)
  rw [lg_entry_eq]
  generalize (lg_sl ([.ref h0, .int b]) ++ List.replicate (2 - (lg_sl ([.ref h0, .int b])).length) Slot.unset).toArray = ls at hl ⊢
  have hl : lv_has ls 2 [(0, .ref h0), (1, .int b)] := hl
  refine lv_iload_n hx hb dX8_isBook_0 rfl (lv_at hl 1 rfl) ?_
  refine lv_if_lt (tgt := 16) hx hb dX8_isBook_1 (by decide) (fun c1 => ?_) (fun c1 => ?_)
  · skip
    have c1 : b.toInt < 0 := (z_lt rfl (by decide : (0 : Int32).toInt = 0)).mp c1
    refine lv_iconst (v := 0) hx hb dX8_isBook_16 (by decide) ?_
    exact W.zret (v := 0) hx hb hr rfl (fun t ht hW => ⟨0, rfl, rfl, ht⟩) (fun q hq => by cases hq) dX8_isBook_17
  · skip
    have c1 : ¬ (b.toInt < 0) := fun q => c1 ((z_lt rfl (by decide : (0 : Int32).toInt = 0)).mpr q)
    refine lv_iload_n hx hb dX8_isBook_4 rfl (lv_at hl 1 rfl) ?_
    refine lv_aload_n hx hb dX8_isBook_5 rfl (lv_at hl 0 rfl) ?_
    refine va_get (D := g.1) (ci := 8) (v := .int 0) (C := RX8) (T := TX8) (N := 13) hx hb hg inG8 hown hK hP 0 rfl rfl 12 (by decide) (hg _ mm_372) (fun _ h9 => h9) rfl dX8_isBook_6 ?_
    refine lv_icmp_ge (tgt := 16) hx hb dX8_isBook_9 (by decide) (fun c2 => ?_) (fun c2 => ?_)
    · skip
      have c2 : 0 ≤ b.toInt := (z_le (by decide : (0 : Int32).toInt = 0) rfl).mp c2
      refine lv_iconst (v := 0) hx hb dX8_isBook_16 (by decide) ?_
      exact W.zret (v := 0) hx hb hr rfl (fun t ht hW => ⟨0, rfl, rfl, ht⟩) (fun q hq => by cases hq) dX8_isBook_17
    · skip
      have c2 : ¬ (0 ≤ b.toInt) := fun q => c2 ((z_le (by decide : (0 : Int32).toInt = 0) rfl).mpr q)
      exfalso
      omega

set_option maxHeartbeats 4000000 in
set_option maxRecDepth 100000 in
theorem c_X8_isPerson (l : Launch) (g : zG) (h0 : Nat) (w0 : Value) (w1 : Value) (w2 : Value) (w3 : Value) (w4 : Value) (w5 : Value) (w6 : Value) (w7 : Value) (w8 : Value) (w9 : Value) (w10 : Value) (p0 : Int32) : Met l yX8_isPerson (zW yX8_isPerson cX8_isPerson 2 (some .boolean)) ({ frames := 0, cells := 0, slots := 0, locals := 0 }) (va_Pc [.ref h0, .int p0] (zR g [(h0, .inr (8, [w0, w1, w2, w3, w4, w5, w6, w7, w8, w9, w10, .int 0, .int 0]))])) (vp_Si (fun r : Int32 => (r = 0))) 0 0 (fun _ => False) := by
  refine Met.ofW (cc := cX8_isPerson) (maxL := 2) (ret := (some .boolean)) (by decide) rfl ?_
  intro p e s m args below meth c s₁ B hml hv
  obtain ⟨rfl, hP, hK, hN⟩ := hv
  have hx := B.exec
  have hb := B.bytes
  have hr := B.returns
  have hg := zW.law (atoms_spec (ws := (zW yX8_isPerson cX8_isPerson 2 (some .boolean))) B.pre)
  have hown : s.vm.findClass RX8 = some m.cls := findClass_of_methodNamed B.named
  have hlocks := B.notSynchronized
  have hl := lv_entry ([.ref h0, .int p0]) (n := 2) (Nat.le_of_ble_eq_true rfl)
  rw [lg_entry_eq]
  generalize (lg_sl ([.ref h0, .int p0]) ++ List.replicate (2 - (lg_sl ([.ref h0, .int p0])).length) Slot.unset).toArray = ls at hl ⊢
  have hl : lv_has ls 2 [(0, .ref h0), (1, .int p0)] := hl
  refine lv_iload_n hx hb dX8_isPerson_0 rfl (lv_at hl 1 rfl) ?_
  refine lv_if_lt (tgt := 16) hx hb dX8_isPerson_1 (by decide) (fun c1 => ?_) (fun c1 => ?_)
  · skip
    have c1 : p0.toInt < 0 := (z_lt rfl (by decide : (0 : Int32).toInt = 0)).mp c1
    refine lv_iconst (v := 0) hx hb dX8_isPerson_16 (by decide) ?_
    exact W.zret (v := 0) hx hb hr rfl (fun t ht hW => ⟨0, rfl, rfl, ht⟩) (fun q hq => by cases hq) dX8_isPerson_17
  · skip
    have c1 : ¬ (p0.toInt < 0) := fun q => c1 ((z_lt rfl (by decide : (0 : Int32).toInt = 0)).mpr q)
    refine lv_iload_n hx hb dX8_isPerson_4 rfl (lv_at hl 1 rfl) ?_
    refine lv_aload_n hx hb dX8_isPerson_5 rfl (lv_at hl 0 rfl) ?_
    refine va_get (D := g.1) (ci := 8) (v := .int 0) (C := RX8) (T := TX8) (N := 13) hx hb hg inG8 hown hK hP 0 rfl rfl 11 (by decide) (hg _ mm_371) (fun _ h9 => h9) rfl dX8_isPerson_6 ?_
    refine lv_icmp_ge (tgt := 16) hx hb dX8_isPerson_9 (by decide) (fun c2 => ?_) (fun c2 => ?_)
    · skip
      have c2 : 0 ≤ p0.toInt := (z_le (by decide : (0 : Int32).toInt = 0) rfl).mp c2
      refine lv_iconst (v := 0) hx hb dX8_isPerson_16 (by decide) ?_
      exact W.zret (v := 0) hx hb hr rfl (fun t ht hW => ⟨0, rfl, rfl, ht⟩) (fun q hq => by cases hq) dX8_isPerson_17
    · skip
      have c2 : ¬ (0 ≤ p0.toInt) := fun q => c2 ((z_le (by decide : (0 : Int32).toInt = 0) rfl).mpr q)
      exfalso
      omega

set_option maxHeartbeats 4000000 in
set_option maxRecDepth 100000 in
theorem c_X8_isLine (l : Launch) (g : zG) (h0 : Nat) (w0 : Value) (w1 : Value) (w2 : Value) (w3 : Value) (w4 : Value) (w5 : Value) (w6 : Value) (w7 : Value) (w8 : Value) (w9 : Value) (w10 : Value) (b : Int32) (i : Int32) : Met l yX8_isLine (zW yX8_isLine cX8_isLine 3 (some .boolean)) ({ frames := 1, cells := 0, slots := 0, locals := 21 }) (va_Pc [.ref h0, .int b, .int i] (zR g [(h0, .inr (8, [w0, w1, w2, w3, w4, w5, w6, w7, w8, w9, w10, .int 0, .int 0]))])) (vp_Si (fun r : Int32 => (r = 0))) 0 0 (fun _ => False) := by
  refine Met.ofW (cc := cX8_isLine) (maxL := 3) (ret := (some .boolean)) (by decide) rfl ?_
  intro p e s m args below meth c s₁ B hml hv
  obtain ⟨rfl, hP, hK, hN⟩ := hv
  have hx := B.exec
  have hb := B.bytes
  have hr := B.returns
  have hg := zW.law (atoms_spec (ws := (zW yX8_isLine cX8_isLine 3 (some .boolean))) B.pre)
  have hown : s.vm.findClass RX8 = some m.cls := findClass_of_methodNamed B.named
  have hlocks := B.notSynchronized
  have hl := lv_entry ([.ref h0, .int b, .int i]) (n := 3) (Nat.le_of_ble_eq_true rfl)
  rw [lg_entry_eq]
  generalize (lg_sl ([.ref h0, .int b, .int i]) ++ List.replicate (3 - (lg_sl ([.ref h0, .int b, .int i])).length) Slot.unset).toArray = ls at hl ⊢
  have hl : lv_has ls 3 [(0, .ref h0), (1, .int b), (2, .int i)] := hl
  refine lv_aload_n hx hb dX8_isLine_0 rfl (lv_at hl 0 rfl) ?_
  refine lv_iload_n hx hb dX8_isLine_1 rfl (lv_at hl 1 rfl) ?_
  have hPc := hP.sub (ws' := [(h0, .inr (8, [w0, w1, w2, w3, w4, w5, w6, w7, w8, w9, w10, .int 0, .int 0]))]) [0] rfl
  refine zc_i (va_runV (As := [.int b]) (rest := []) ⟨hx, hb, hml, hown, hg⟩ (c_X8_isBook l g h0 (w0 : Value) (w1 : Value) (w2 : Value) (w3 : Value) (w4 : Value) (w5 : Value) (w6 : Value) (w7 : Value) (w8 : Value) (w9 : Value) (w10 : Value) b ) (cwV 1 hg (z_gV mm_591 mm_593 mm_20 mm_108 mm_594) rfl rfl rfl (by decide +kernel) ⟨Nat.le_of_ble_eq_true rfl, Nat.le_of_ble_eq_true rfl⟩) ⟨(zR.pre [.ref h0, .int b] hPc hK hN).1, va_recv hK hPc (ci := 8) (q0 := 0) rfl rfl, (zR.pre [.ref h0, .int b] hPc hK hN).2⟩ rfl rfl hl.1 rfl (lv_room (Nat.le_of_ble_eq_true rfl)) dX8_isLine_2 ⟨Nat.le_of_ble_eq_true rfl, Nat.le_of_ble_eq_true rfl⟩) (fun r1 hr1 => ?_)
  obtain rfl := hr1
  refine lv_if_eq (tgt := 31) hx hb dX8_isLine_5 (by decide) (fun c2 => ?_) (fun c2 => ?_)
  · skip
    refine lv_iconst (v := 0) hx hb dX8_isLine_31 (by decide) ?_
    exact W.zret (v := 0) hx hb hr rfl (fun t ht hW => ⟨0, rfl, rfl, ht⟩) (fun q hq => by cases hq) dX8_isLine_32
  · skip
    exact absurd c2 (by decide)

set_option maxHeartbeats 4000000 in
set_option maxRecDepth 100000 in
theorem c_X8_isLive (l : Launch) (g : zG) (h0 : Nat) (w0 : Value) (w1 : Value) (w2 : Value) (w3 : Value) (w4 : Value) (w5 : Value) (w6 : Value) (w7 : Value) (w8 : Value) (w9 : Value) (w10 : Value) (b : Int32) (i : Int32) : Met l yX8_isLive (zW yX8_isLive cX8_isLive 3 (some .boolean)) ({ frames := 2, cells := 0, slots := 0, locals := 43 }) (va_Pc [.ref h0, .int b, .int i] (zR g [(h0, .inr (8, [w0, w1, w2, w3, w4, w5, w6, w7, w8, w9, w10, .int 0, .int 0]))])) (vp_Si (fun r : Int32 => (r = 0))) 0 0 (fun _ => False) := by
  refine Met.ofW (cc := cX8_isLive) (maxL := 3) (ret := (some .boolean)) (by decide) rfl ?_
  intro p e s m args below meth c s₁ B hml hv
  obtain ⟨rfl, hP, hK, hN⟩ := hv
  have hx := B.exec
  have hb := B.bytes
  have hr := B.returns
  have hg := zW.law (atoms_spec (ws := (zW yX8_isLive cX8_isLive 3 (some .boolean))) B.pre)
  have hown : s.vm.findClass RX8 = some m.cls := findClass_of_methodNamed B.named
  have hlocks := B.notSynchronized
  have hl := lv_entry ([.ref h0, .int b, .int i]) (n := 3) (Nat.le_of_ble_eq_true rfl)
  rw [lg_entry_eq]
  generalize (lg_sl ([.ref h0, .int b, .int i]) ++ List.replicate (3 - (lg_sl ([.ref h0, .int b, .int i])).length) Slot.unset).toArray = ls at hl ⊢
  have hl : lv_has ls 3 [(0, .ref h0), (1, .int b), (2, .int i)] := hl
  refine lv_aload_n hx hb dX8_isLive_0 rfl (lv_at hl 0 rfl) ?_
  refine lv_iload_n hx hb dX8_isLive_1 rfl (lv_at hl 1 rfl) ?_
  refine lv_iload_n hx hb dX8_isLive_2 rfl (lv_at hl 2 rfl) ?_
  have hPc := hP.sub (ws' := [(h0, .inr (8, [w0, w1, w2, w3, w4, w5, w6, w7, w8, w9, w10, .int 0, .int 0]))]) [0] rfl
  refine zc_i (va_runV (As := [.int b, .int i]) (rest := []) ⟨hx, hb, hml, hown, hg⟩ (c_X8_isLine l g h0 (w0 : Value) (w1 : Value) (w2 : Value) (w3 : Value) (w4 : Value) (w5 : Value) (w6 : Value) (w7 : Value) (w8 : Value) (w9 : Value) (w10 : Value) b i ) (cwV 2 hg (z_gV mm_587 mm_589 mm_19 mm_108 mm_590) rfl rfl rfl (by decide +kernel) ⟨Nat.le_of_ble_eq_true rfl, Nat.le_of_ble_eq_true rfl⟩) ⟨(zR.pre [.ref h0, .int b, .int i] hPc hK hN).1, va_recv hK hPc (ci := 8) (q0 := 0) rfl rfl, (zR.pre [.ref h0, .int b, .int i] hPc hK hN).2⟩ rfl rfl hl.1 rfl (lv_room (Nat.le_of_ble_eq_true rfl)) dX8_isLive_3 ⟨Nat.le_of_ble_eq_true rfl, Nat.le_of_ble_eq_true rfl⟩) (fun r1 hr1 => ?_)
  obtain rfl := hr1
  refine lv_if_eq (tgt := 30) hx hb dX8_isLive_6 (by decide) (fun c2 => ?_) (fun c2 => ?_)
  · skip
    refine lv_iconst (v := 0) hx hb dX8_isLive_30 (by decide) ?_
    exact W.zret (v := 0) hx hb hr rfl (fun t ht hW => ⟨0, rfl, rfl, ht⟩) (fun q hq => by cases hq) dX8_isLive_31
  · skip
    exact absurd c2 (by decide)

set_option maxHeartbeats 4000000 in
set_option maxRecDepth 100000 in
theorem c_X8_cut (l : Launch) (g : zG) (h0 : Nat) (w0 : Value) (w1 : Value) (w2 : Value) (w3 : Value) (w4 : Value) (w5 : Value) (w6 : Value) (w7 : Value) (w8 : Value) (w9 : Value) (w10 : Value) (b : Int32) (i : Int32) : Met l yX8_cut (zW yX8_cut cX8_cut 3 (some .boolean)) ({ frames := 3, cells := 0, slots := 0, locals := 65 }) (va_Pc [.ref h0, .int b, .int i] (zR g [(h0, .inr (8, [w0, w1, w2, w3, w4, w5, w6, w7, w8, w9, w10, .int 0, .int 0]))])) (vp_Si (fun r : Int32 => (r = 0))) 0 0 (fun _ => False) := by
  refine Met.ofW (cc := cX8_cut) (maxL := 3) (ret := (some .boolean)) (by decide) rfl ?_
  intro p e s m args below meth c s₁ B hml hv
  obtain ⟨rfl, hP, hK, hN⟩ := hv
  have hx := B.exec
  have hb := B.bytes
  have hr := B.returns
  have hg := zW.law (atoms_spec (ws := (zW yX8_cut cX8_cut 3 (some .boolean))) B.pre)
  have hown : s.vm.findClass RX8 = some m.cls := findClass_of_methodNamed B.named
  have hlocks := B.notSynchronized
  have hl := lv_entry ([.ref h0, .int b, .int i]) (n := 3) (Nat.le_of_ble_eq_true rfl)
  rw [lg_entry_eq]
  generalize (lg_sl ([.ref h0, .int b, .int i]) ++ List.replicate (3 - (lg_sl ([.ref h0, .int b, .int i])).length) Slot.unset).toArray = ls at hl ⊢
  have hl : lv_has ls 3 [(0, .ref h0), (1, .int b), (2, .int i)] := hl
  refine lv_aload_n hx hb dX8_cut_0 rfl (lv_at hl 0 rfl) ?_
  refine lv_iload_n hx hb dX8_cut_1 rfl (lv_at hl 1 rfl) ?_
  refine lv_iload_n hx hb dX8_cut_2 rfl (lv_at hl 2 rfl) ?_
  have hPc := hP.sub (ws' := [(h0, .inr (8, [w0, w1, w2, w3, w4, w5, w6, w7, w8, w9, w10, .int 0, .int 0]))]) [0] rfl
  refine zc_i (va_runV (As := [.int b, .int i]) (rest := []) ⟨hx, hb, hml, hown, hg⟩ (c_X8_isLive l g h0 (w0 : Value) (w1 : Value) (w2 : Value) (w3 : Value) (w4 : Value) (w5 : Value) (w6 : Value) (w7 : Value) (w8 : Value) (w9 : Value) (w10 : Value) b i ) (cwV 2 hg (z_gV mm_583 mm_585 mm_18 mm_108 mm_586) rfl rfl rfl (by decide +kernel) ⟨Nat.le_of_ble_eq_true rfl, Nat.le_of_ble_eq_true rfl⟩) ⟨(zR.pre [.ref h0, .int b, .int i] hPc hK hN).1, va_recv hK hPc (ci := 8) (q0 := 0) rfl rfl, (zR.pre [.ref h0, .int b, .int i] hPc hK hN).2⟩ rfl rfl hl.1 rfl (lv_room (Nat.le_of_ble_eq_true rfl)) dX8_cut_3 ⟨Nat.le_of_ble_eq_true rfl, Nat.le_of_ble_eq_true rfl⟩) (fun r1 hr1 => ?_)
  obtain rfl := hr1
  refine lv_if_ne (tgt := 11) hx hb dX8_cut_6 (by decide) (fun c2 => ?_) (fun c2 => ?_)
  · skip
    exact absurd c2 (by decide)
  · skip
    refine lv_iconst (v := 0) hx hb dX8_cut_9 (by decide) ?_
    exact W.zret (v := 0) hx hb hr rfl (fun t ht hW => ⟨0, rfl, rfl, ht⟩) (fun q hq => by cases hq) dX8_cut_10

set_option maxHeartbeats 4000000 in
set_option maxRecDepth 100000 in
theorem c_X8_wish (l : Launch) (g : zG) (h0 : Nat) (w0 : Value) (w1 : Value) (w2 : Value) (w3 : Value) (w4 : Value) (w5 : Value) (w6 : Value) (w7 : Value) (w8 : Value) (w9 : Value) (w10 : Value) (p0 : Int32) (n : Int32) : Met l yX8_wish (zW yX8_wish cX8_wish 3 (some .boolean)) ({ frames := 1, cells := 0, slots := 0, locals := 21 }) (va_Pc [.ref h0, .int p0, .int n] (zR g [(h0, .inr (8, [w0, w1, w2, w3, w4, w5, w6, w7, w8, w9, w10, .int 0, .int 0]))])) (vp_Si (fun r : Int32 => (r = 0))) 0 0 (fun _ => False) := by
  refine Met.ofW (cc := cX8_wish) (maxL := 3) (ret := (some .boolean)) (by decide) rfl ?_
  intro p e s m args below meth c s₁ B hml hv
  obtain ⟨rfl, hP, hK, hN⟩ := hv
  have hx := B.exec
  have hb := B.bytes
  have hr := B.returns
  have hg := zW.law (atoms_spec (ws := (zW yX8_wish cX8_wish 3 (some .boolean))) B.pre)
  have hown : s.vm.findClass RX8 = some m.cls := findClass_of_methodNamed B.named
  have hlocks := B.notSynchronized
  have hl := lv_entry ([.ref h0, .int p0, .int n]) (n := 3) (Nat.le_of_ble_eq_true rfl)
  rw [lg_entry_eq]
  generalize (lg_sl ([.ref h0, .int p0, .int n]) ++ List.replicate (3 - (lg_sl ([.ref h0, .int p0, .int n])).length) Slot.unset).toArray = ls at hl ⊢
  have hl : lv_has ls 3 [(0, .ref h0), (1, .int p0), (2, .int n)] := hl
  refine lv_aload_n hx hb dX8_wish_0 rfl (lv_at hl 0 rfl) ?_
  refine lv_iload_n hx hb dX8_wish_1 rfl (lv_at hl 1 rfl) ?_
  have hPc := hP.sub (ws' := [(h0, .inr (8, [w0, w1, w2, w3, w4, w5, w6, w7, w8, w9, w10, .int 0, .int 0]))]) [0] rfl
  refine zc_i (va_runV (As := [.int p0]) (rest := []) ⟨hx, hb, hml, hown, hg⟩ (c_X8_isPerson l g h0 (w0 : Value) (w1 : Value) (w2 : Value) (w3 : Value) (w4 : Value) (w5 : Value) (w6 : Value) (w7 : Value) (w8 : Value) (w9 : Value) (w10 : Value) p0 ) (cwV 1 hg (z_gV mm_451 mm_453 mm_3 mm_108 mm_454) rfl rfl rfl (by decide +kernel) ⟨Nat.le_of_ble_eq_true rfl, Nat.le_of_ble_eq_true rfl⟩) ⟨(zR.pre [.ref h0, .int p0] hPc hK hN).1, va_recv hK hPc (ci := 8) (q0 := 0) rfl rfl, (zR.pre [.ref h0, .int p0] hPc hK hN).2⟩ rfl rfl hl.1 rfl (lv_room (Nat.le_of_ble_eq_true rfl)) dX8_wish_2 ⟨Nat.le_of_ble_eq_true rfl, Nat.le_of_ble_eq_true rfl⟩) (fun r1 hr1 => ?_)
  obtain rfl := hr1
  refine lv_if_eq (tgt := 18) hx hb dX8_wish_5 (by decide) (fun c2 => ?_) (fun c2 => ?_)
  · skip
    refine lv_iconst (v := 0) hx hb dX8_wish_18 (by decide) ?_
    exact W.zret (v := 0) hx hb hr rfl (fun t ht hW => ⟨0, rfl, rfl, ht⟩) (fun q hq => by cases hq) dX8_wish_19
  · skip
    exact absurd c2 (by decide)

set_option maxHeartbeats 4000000 in
set_option maxRecDepth 100000 in
theorem c_X8_swap (l : Launch) (g : zG) (h0 : Nat) (w0 : Value) (w1 : Value) (w2 : Value) (w3 : Value) (w4 : Value) (w5 : Value) (w6 : Value) (w7 : Value) (w8 : Value) (w9 : Value) (w10 : Value) (b : Int32) (i : Int32) (j : Int32) (c0 : Int32) : Met l yX8_swap (zW yX8_swap cX8_swap 5 (some .boolean)) ({ frames := 3, cells := 0, slots := 0, locals := 65 }) (va_Pc [.ref h0, .int b, .int i, .int j, .int c0] (zR g [(h0, .inr (8, [w0, w1, w2, w3, w4, w5, w6, w7, w8, w9, w10, .int 0, .int 0]))])) (vp_Si (fun r : Int32 => (r = 0))) 0 0 (fun _ => False) := by
  refine Met.ofW (cc := cX8_swap) (maxL := 5) (ret := (some .boolean)) (by decide) rfl ?_
  intro p e s m args below meth c s₁ B hml hv
  obtain ⟨rfl, hP, hK, hN⟩ := hv
  have hx := B.exec
  have hb := B.bytes
  have hr := B.returns
  have hg := zW.law (atoms_spec (ws := (zW yX8_swap cX8_swap 5 (some .boolean))) B.pre)
  have hown : s.vm.findClass RX8 = some m.cls := findClass_of_methodNamed B.named
  have hlocks := B.notSynchronized
  have hl := lv_entry ([.ref h0, .int b, .int i, .int j, .int c0]) (n := 5) (Nat.le_of_ble_eq_true rfl)
  rw [lg_entry_eq]
  generalize (lg_sl ([.ref h0, .int b, .int i, .int j, .int c0]) ++ List.replicate (5 - (lg_sl ([.ref h0, .int b, .int i, .int j, .int c0])).length) Slot.unset).toArray = ls at hl ⊢
  have hl : lv_has ls 5 [(0, .ref h0), (1, .int b), (2, .int i), (3, .int j), (4, .int c0)] := hl
  refine lv_aload_n hx hb dX8_swap_0 rfl (lv_at hl 0 rfl) ?_
  refine lv_iload_n hx hb dX8_swap_1 rfl (lv_at hl 1 rfl) ?_
  refine lv_iload_n hx hb dX8_swap_2 rfl (lv_at hl 2 rfl) ?_
  have hPc := hP.sub (ws' := [(h0, .inr (8, [w0, w1, w2, w3, w4, w5, w6, w7, w8, w9, w10, .int 0, .int 0]))]) [0] rfl
  refine zc_i (va_runV (As := [.int b, .int i]) (rest := []) ⟨hx, hb, hml, hown, hg⟩ (c_X8_isLive l g h0 (w0 : Value) (w1 : Value) (w2 : Value) (w3 : Value) (w4 : Value) (w5 : Value) (w6 : Value) (w7 : Value) (w8 : Value) (w9 : Value) (w10 : Value) b i ) (cwV 2 hg (z_gV mm_583 mm_585 mm_18 mm_108 mm_586) rfl rfl rfl (by decide +kernel) ⟨Nat.le_of_ble_eq_true rfl, Nat.le_of_ble_eq_true rfl⟩) ⟨(zR.pre [.ref h0, .int b, .int i] hPc hK hN).1, va_recv hK hPc (ci := 8) (q0 := 0) rfl rfl, (zR.pre [.ref h0, .int b, .int i] hPc hK hN).2⟩ rfl rfl hl.1 rfl (lv_room (Nat.le_of_ble_eq_true rfl)) dX8_swap_3 ⟨Nat.le_of_ble_eq_true rfl, Nat.le_of_ble_eq_true rfl⟩) (fun r1 hr1 => ?_)
  obtain rfl := hr1
  refine lv_if_eq (tgt := 31) hx hb dX8_swap_6 (by decide) (fun c2 => ?_) (fun c2 => ?_)
  · skip
    refine lv_iconst (v := 0) hx hb dX8_swap_31 (by decide) ?_
    exact W.zret (v := 0) hx hb hr rfl (fun t ht hW => ⟨0, rfl, rfl, ht⟩) (fun q hq => by cases hq) dX8_swap_32
  · skip
    exact absurd c2 (by decide)

set_option maxHeartbeats 4000000 in
set_option maxRecDepth 100000 in
theorem c_X8_loss (l : Launch) (g : zG) (h0 : Nat) (w0 : Value) (w1 : Value) (w2 : Value) (w3 : Value) (w4 : Value) (w5 : Value) (w6 : Value) (w7 : Value) (w8 : Value) (w9 : Value) (w10 : Value) (b : Int32) : Met l yX8_loss (zW yX8_loss cX8_loss 4 (some .int)) ({ frames := 1, cells := 0, slots := 0, locals := 21 }) (va_Pc [.ref h0, .int b] (zR g [(h0, .inr (8, [w0, w1, w2, w3, w4, w5, w6, w7, w8, w9, w10, .int 0, .int 0]))])) (vp_Si (fun r : Int32 => (r = (-1)))) 0 0 (fun _ => False) := by
  refine Met.ofW (cc := cX8_loss) (maxL := 4) (ret := (some .int)) (by decide) rfl ?_
  intro p e s m args below meth c s₁ B hml hv
  obtain ⟨rfl, hP, hK, hN⟩ := hv
  have hx := B.exec
  have hb := B.bytes
  have hr := B.returns
  have hg := zW.law (atoms_spec (ws := (zW yX8_loss cX8_loss 4 (some .int))) B.pre)
  have hown : s.vm.findClass RX8 = some m.cls := findClass_of_methodNamed B.named
  have hlocks := B.notSynchronized
  have hl := lv_entry ([.ref h0, .int b]) (n := 4) (Nat.le_of_ble_eq_true rfl)
  rw [lg_entry_eq]
  generalize (lg_sl ([.ref h0, .int b]) ++ List.replicate (4 - (lg_sl ([.ref h0, .int b])).length) Slot.unset).toArray = ls at hl ⊢
  have hl : lv_has ls 4 [(0, .ref h0), (1, .int b)] := hl
  refine lv_aload_n hx hb dX8_loss_0 rfl (lv_at hl 0 rfl) ?_
  refine lv_iload_n hx hb dX8_loss_1 rfl (lv_at hl 1 rfl) ?_
  have hPc := hP.sub (ws' := [(h0, .inr (8, [w0, w1, w2, w3, w4, w5, w6, w7, w8, w9, w10, .int 0, .int 0]))]) [0] rfl
  refine zc_i (va_runV (As := [.int b]) (rest := []) ⟨hx, hb, hml, hown, hg⟩ (c_X8_isBook l g h0 (w0 : Value) (w1 : Value) (w2 : Value) (w3 : Value) (w4 : Value) (w5 : Value) (w6 : Value) (w7 : Value) (w8 : Value) (w9 : Value) (w10 : Value) b ) (cwV 1 hg (z_gV mm_591 mm_593 mm_20 mm_108 mm_594) rfl rfl rfl (by decide +kernel) ⟨Nat.le_of_ble_eq_true rfl, Nat.le_of_ble_eq_true rfl⟩) ⟨(zR.pre [.ref h0, .int b] hPc hK hN).1, va_recv hK hPc (ci := 8) (q0 := 0) rfl rfl, (zR.pre [.ref h0, .int b] hPc hK hN).2⟩ rfl rfl hl.1 rfl (lv_room (Nat.le_of_ble_eq_true rfl)) dX8_loss_2 ⟨Nat.le_of_ble_eq_true rfl, Nat.le_of_ble_eq_true rfl⟩) (fun r1 hr1 => ?_)
  obtain rfl := hr1
  refine lv_if_ne (tgt := 10) hx hb dX8_loss_5 (by decide) (fun c2 => ?_) (fun c2 => ?_)
  · skip
    exact absurd c2 (by decide)
  · skip
    refine lv_iconst (v := (-1)) hx hb dX8_loss_8 (by decide) ?_
    exact W.iret (v := (-1)) hx hb hr (fun t ht hW => ⟨(-1), rfl, rfl, ht⟩) (fun q hq => by cases hq) dX8_loss_9

set_option maxHeartbeats 4000000 in
set_option maxRecDepth 100000 in
theorem c_X8_show (l : Launch) (g : zG) (h0 : Nat) (w0 : Value) (w1 : Value) (w2 : Value) (w3 : Value) (w4 : Value) (w5 : Value) (w6 : Value) (w7 : Value) (w8 : Value) (w9 : Value) (w10 : Value) (b : Int32) (is : Int32) : Met l yX8_show (zW yX8_show cX8_show 3 (some .boolean)) ({ frames := 1, cells := 0, slots := 0, locals := 21 }) (va_Pc [.ref h0, .int b, .int is] (zR g [(h0, .inr (8, [w0, w1, w2, w3, w4, w5, w6, w7, w8, w9, w10, .int 0, .int 0]))])) (vp_Si (fun r : Int32 => (r = 0))) 0 0 (fun _ => False) := by
  refine Met.ofW (cc := cX8_show) (maxL := 3) (ret := (some .boolean)) (by decide) rfl ?_
  intro p e s m args below meth c s₁ B hml hv
  obtain ⟨rfl, hP, hK, hN⟩ := hv
  have hx := B.exec
  have hb := B.bytes
  have hr := B.returns
  have hg := zW.law (atoms_spec (ws := (zW yX8_show cX8_show 3 (some .boolean))) B.pre)
  have hown : s.vm.findClass RX8 = some m.cls := findClass_of_methodNamed B.named
  have hlocks := B.notSynchronized
  have hl := lv_entry ([.ref h0, .int b, .int is]) (n := 3) (Nat.le_of_ble_eq_true rfl)
  rw [lg_entry_eq]
  generalize (lg_sl ([.ref h0, .int b, .int is]) ++ List.replicate (3 - (lg_sl ([.ref h0, .int b, .int is])).length) Slot.unset).toArray = ls at hl ⊢
  have hl : lv_has ls 3 [(0, .ref h0), (1, .int b), (2, .int is)] := hl
  refine lv_aload_n hx hb dX8_show_0 rfl (lv_at hl 0 rfl) ?_
  refine lv_iload_n hx hb dX8_show_1 rfl (lv_at hl 1 rfl) ?_
  have hPc := hP.sub (ws' := [(h0, .inr (8, [w0, w1, w2, w3, w4, w5, w6, w7, w8, w9, w10, .int 0, .int 0]))]) [0] rfl
  refine zc_i (va_runV (As := [.int b]) (rest := []) ⟨hx, hb, hml, hown, hg⟩ (c_X8_isBook l g h0 (w0 : Value) (w1 : Value) (w2 : Value) (w3 : Value) (w4 : Value) (w5 : Value) (w6 : Value) (w7 : Value) (w8 : Value) (w9 : Value) (w10 : Value) b ) (cwV 1 hg (z_gV mm_591 mm_593 mm_20 mm_108 mm_594) rfl rfl rfl (by decide +kernel) ⟨Nat.le_of_ble_eq_true rfl, Nat.le_of_ble_eq_true rfl⟩) ⟨(zR.pre [.ref h0, .int b] hPc hK hN).1, va_recv hK hPc (ci := 8) (q0 := 0) rfl rfl, (zR.pre [.ref h0, .int b] hPc hK hN).2⟩ rfl rfl hl.1 rfl (lv_room (Nat.le_of_ble_eq_true rfl)) dX8_show_2 ⟨Nat.le_of_ble_eq_true rfl, Nat.le_of_ble_eq_true rfl⟩) (fun r1 hr1 => ?_)
  obtain rfl := hr1
  refine lv_if_eq (tgt := 21) hx hb dX8_show_5 (by decide) (fun c2 => ?_) (fun c2 => ?_)
  · skip
    refine lv_iconst (v := 0) hx hb dX8_show_21 (by decide) ?_
    exact W.zret (v := 0) hx hb hr rfl (fun t ht hW => ⟨0, rfl, rfl, ht⟩) (fun q hq => by cases hq) dX8_show_22
  · skip
    exact absurd c2 (by decide)

set_option maxHeartbeats 4000000 in
set_option maxRecDepth 100000 in
theorem c_X8_link (l : Launch) (g : zG) (h0 : Nat) (w0 : Value) (w1 : Value) (w2 : Value) (w3 : Value) (w4 : Value) (w5 : Value) (w6 : Value) (w7 : Value) (w8 : Value) (w9 : Value) (w10 : Value) (a : Int32) (i : Int32) (b : Int32) (j : Int32) : Met l yX8_link (zW yX8_link cX8_link 5 (some .int)) ({ frames := 2, cells := 0, slots := 0, locals := 43 }) (va_Pc [.ref h0, .int a, .int i, .int b, .int j] (zR g [(h0, .inr (8, [w0, w1, w2, w3, w4, w5, w6, w7, w8, w9, w10, .int 0, .int 0]))])) (vp_Si (fun r : Int32 => (r = (-1)))) 0 0 (fun _ => False) := by
  refine Met.ofW (cc := cX8_link) (maxL := 5) (ret := (some .int)) (by decide) rfl ?_
  intro p e s m args below meth c s₁ B hml hv
  obtain ⟨rfl, hP, hK, hN⟩ := hv
  have hx := B.exec
  have hb := B.bytes
  have hr := B.returns
  have hg := zW.law (atoms_spec (ws := (zW yX8_link cX8_link 5 (some .int))) B.pre)
  have hown : s.vm.findClass RX8 = some m.cls := findClass_of_methodNamed B.named
  have hlocks := B.notSynchronized
  have hl := lv_entry ([.ref h0, .int a, .int i, .int b, .int j]) (n := 5) (Nat.le_of_ble_eq_true rfl)
  rw [lg_entry_eq]
  generalize (lg_sl ([.ref h0, .int a, .int i, .int b, .int j]) ++ List.replicate (5 - (lg_sl ([.ref h0, .int a, .int i, .int b, .int j])).length) Slot.unset).toArray = ls at hl ⊢
  have hl : lv_has ls 5 [(0, .ref h0), (1, .int a), (2, .int i), (3, .int b), (4, .int j)] := hl
  refine lv_aload_n hx hb dX8_link_0 rfl (lv_at hl 0 rfl) ?_
  refine lv_iload_n hx hb dX8_link_1 rfl (lv_at hl 1 rfl) ?_
  refine lv_iload_n hx hb dX8_link_2 rfl (lv_at hl 2 rfl) ?_
  have hPc := hP.sub (ws' := [(h0, .inr (8, [w0, w1, w2, w3, w4, w5, w6, w7, w8, w9, w10, .int 0, .int 0]))]) [0] rfl
  refine zc_i (va_runV (As := [.int a, .int i]) (rest := []) ⟨hx, hb, hml, hown, hg⟩ (c_X8_isLine l g h0 (w0 : Value) (w1 : Value) (w2 : Value) (w3 : Value) (w4 : Value) (w5 : Value) (w6 : Value) (w7 : Value) (w8 : Value) (w9 : Value) (w10 : Value) a i ) (cwV 2 hg (z_gV mm_587 mm_589 mm_19 mm_108 mm_590) rfl rfl rfl (by decide +kernel) ⟨Nat.le_of_ble_eq_true rfl, Nat.le_of_ble_eq_true rfl⟩) ⟨(zR.pre [.ref h0, .int a, .int i] hPc hK hN).1, va_recv hK hPc (ci := 8) (q0 := 0) rfl rfl, (zR.pre [.ref h0, .int a, .int i] hPc hK hN).2⟩ rfl rfl hl.1 rfl (lv_room (Nat.le_of_ble_eq_true rfl)) dX8_link_3 ⟨Nat.le_of_ble_eq_true rfl, Nat.le_of_ble_eq_true rfl⟩) (fun r1 hr1 => ?_)
  obtain rfl := hr1
  refine lv_if_eq (tgt := 36) hx hb dX8_link_6 (by decide) (fun c2 => ?_) (fun c2 => ?_)
  · skip
    refine lv_iconst (v := (-1)) hx hb dX8_link_36 (by decide) ?_
    exact W.iret (v := (-1)) hx hb hr (fun t ht hW => ⟨(-1), rfl, rfl, ht⟩) (fun q hq => by cases hq) dX8_link_37
  · skip
    exact absurd c2 (by decide)

set_option maxHeartbeats 4000000 in
set_option maxRecDepth 100000 in
theorem c_X8_line (l : Launch) (g : zG) (h0 : Nat) (w0 : Value) (w1 : Value) (w2 : Value) (w3 : Value) (w4 : Value) (w5 : Value) (w6 : Value) (w7 : Value) (w8 : Value) (w9 : Value) (w10 : Value) (b : Int32) (i : Int32) (c0 : Int32) : Met l yX8_line (zW yX8_line cX8_line 4 (some .int)) ({ frames := 2, cells := 0, slots := 0, locals := 43 }) (va_Pc [.ref h0, .int b, .int i, .int c0] (zR g [(h0, .inr (8, [w0, w1, w2, w3, w4, w5, w6, w7, w8, w9, w10, .int 0, .int 0]))])) (vp_Si (fun r : Int32 => (r = (-1)))) 0 0 (fun _ => False) := by
  refine Met.ofW (cc := cX8_line) (maxL := 4) (ret := (some .int)) (by decide) rfl ?_
  intro p e s m args below meth c s₁ B hml hv
  obtain ⟨rfl, hP, hK, hN⟩ := hv
  have hx := B.exec
  have hb := B.bytes
  have hr := B.returns
  have hg := zW.law (atoms_spec (ws := (zW yX8_line cX8_line 4 (some .int))) B.pre)
  have hown : s.vm.findClass RX8 = some m.cls := findClass_of_methodNamed B.named
  have hlocks := B.notSynchronized
  have hl := lv_entry ([.ref h0, .int b, .int i, .int c0]) (n := 4) (Nat.le_of_ble_eq_true rfl)
  rw [lg_entry_eq]
  generalize (lg_sl ([.ref h0, .int b, .int i, .int c0]) ++ List.replicate (4 - (lg_sl ([.ref h0, .int b, .int i, .int c0])).length) Slot.unset).toArray = ls at hl ⊢
  have hl : lv_has ls 4 [(0, .ref h0), (1, .int b), (2, .int i), (3, .int c0)] := hl
  refine lv_aload_n hx hb dX8_line_0 rfl (lv_at hl 0 rfl) ?_
  refine lv_iload_n hx hb dX8_line_1 rfl (lv_at hl 1 rfl) ?_
  refine lv_iload_n hx hb dX8_line_2 rfl (lv_at hl 2 rfl) ?_
  have hPc := hP.sub (ws' := [(h0, .inr (8, [w0, w1, w2, w3, w4, w5, w6, w7, w8, w9, w10, .int 0, .int 0]))]) [0] rfl
  refine zc_i (va_runV (As := [.int b, .int i]) (rest := []) ⟨hx, hb, hml, hown, hg⟩ (c_X8_isLine l g h0 (w0 : Value) (w1 : Value) (w2 : Value) (w3 : Value) (w4 : Value) (w5 : Value) (w6 : Value) (w7 : Value) (w8 : Value) (w9 : Value) (w10 : Value) b i ) (cwV 2 hg (z_gV mm_587 mm_589 mm_19 mm_108 mm_590) rfl rfl rfl (by decide +kernel) ⟨Nat.le_of_ble_eq_true rfl, Nat.le_of_ble_eq_true rfl⟩) ⟨(zR.pre [.ref h0, .int b, .int i] hPc hK hN).1, va_recv hK hPc (ci := 8) (q0 := 0) rfl rfl, (zR.pre [.ref h0, .int b, .int i] hPc hK hN).2⟩ rfl rfl hl.1 rfl (lv_room (Nat.le_of_ble_eq_true rfl)) dX8_line_3 ⟨Nat.le_of_ble_eq_true rfl, Nat.le_of_ble_eq_true rfl⟩) (fun r1 hr1 => ?_)
  obtain rfl := hr1
  refine lv_if_eq (tgt := 18) hx hb dX8_line_6 (by decide) (fun c2 => ?_) (fun c2 => ?_)
  · skip
    refine lv_iconst (v := (-1)) hx hb dX8_line_18 (by decide) ?_
    exact W.iret (v := (-1)) hx hb hr (fun t ht hW => ⟨(-1), rfl, rfl, ht⟩) (fun q hq => by cases hq) dX8_line_19
  · skip
    exact absurd c2 (by decide)

set_option maxHeartbeats 4000000 in
set_option maxRecDepth 100000 in
theorem c_X8_fits (l : Launch) (g : zG) (h0 : Nat) (w0 : Value) (w1 : Value) (w2 : Value) (w3 : Value) (w4 : Value) (w5 : Value) (w6 : Value) (w7 : Value) (w8 : Value) (w9 : Value) (w10 : Value) (b : Int32) (i : Int32) (kn : Int32) : Met l yX8_fits (zW yX8_fits cX8_fits 4 (some .int)) ({ frames := 2, cells := 0, slots := 0, locals := 43 }) (va_Pc [.ref h0, .int b, .int i, .int kn] (zR g [(h0, .inr (8, [w0, w1, w2, w3, w4, w5, w6, w7, w8, w9, w10, .int 0, .int 0]))])) (vp_Si (fun r : Int32 => (r = (-1)))) 0 0 (fun _ => False) := by
  refine Met.ofW (cc := cX8_fits) (maxL := 4) (ret := (some .int)) (by decide) rfl ?_
  intro p e s m args below meth c s₁ B hml hv
  obtain ⟨rfl, hP, hK, hN⟩ := hv
  have hx := B.exec
  have hb := B.bytes
  have hr := B.returns
  have hg := zW.law (atoms_spec (ws := (zW yX8_fits cX8_fits 4 (some .int))) B.pre)
  have hown : s.vm.findClass RX8 = some m.cls := findClass_of_methodNamed B.named
  have hlocks := B.notSynchronized
  have hl := lv_entry ([.ref h0, .int b, .int i, .int kn]) (n := 4) (Nat.le_of_ble_eq_true rfl)
  rw [lg_entry_eq]
  generalize (lg_sl ([.ref h0, .int b, .int i, .int kn]) ++ List.replicate (4 - (lg_sl ([.ref h0, .int b, .int i, .int kn])).length) Slot.unset).toArray = ls at hl ⊢
  have hl : lv_has ls 4 [(0, .ref h0), (1, .int b), (2, .int i), (3, .int kn)] := hl
  refine lv_aload_n hx hb dX8_fits_0 rfl (lv_at hl 0 rfl) ?_
  refine lv_iload_n hx hb dX8_fits_1 rfl (lv_at hl 1 rfl) ?_
  refine lv_iload_n hx hb dX8_fits_2 rfl (lv_at hl 2 rfl) ?_
  have hPc := hP.sub (ws' := [(h0, .inr (8, [w0, w1, w2, w3, w4, w5, w6, w7, w8, w9, w10, .int 0, .int 0]))]) [0] rfl
  refine zc_i (va_runV (As := [.int b, .int i]) (rest := []) ⟨hx, hb, hml, hown, hg⟩ (c_X8_isLine l g h0 (w0 : Value) (w1 : Value) (w2 : Value) (w3 : Value) (w4 : Value) (w5 : Value) (w6 : Value) (w7 : Value) (w8 : Value) (w9 : Value) (w10 : Value) b i ) (cwV 2 hg (z_gV mm_587 mm_589 mm_19 mm_108 mm_590) rfl rfl rfl (by decide +kernel) ⟨Nat.le_of_ble_eq_true rfl, Nat.le_of_ble_eq_true rfl⟩) ⟨(zR.pre [.ref h0, .int b, .int i] hPc hK hN).1, va_recv hK hPc (ci := 8) (q0 := 0) rfl rfl, (zR.pre [.ref h0, .int b, .int i] hPc hK hN).2⟩ rfl rfl hl.1 rfl (lv_room (Nat.le_of_ble_eq_true rfl)) dX8_fits_3 ⟨Nat.le_of_ble_eq_true rfl, Nat.le_of_ble_eq_true rfl⟩) (fun r1 hr1 => ?_)
  obtain rfl := hr1
  refine lv_if_eq (tgt := 16) hx hb dX8_fits_6 (by decide) (fun c2 => ?_) (fun c2 => ?_)
  · skip
    refine lv_iconst (v := (-1)) hx hb dX8_fits_16 (by decide) ?_
    exact W.iret (v := (-1)) hx hb hr (fun t ht hW => ⟨(-1), rfl, rfl, ht⟩) (fun q hq => by cases hq) dX8_fits_17
  · skip
    exact absurd c2 (by decide)

set_option maxHeartbeats 4000000 in
set_option maxRecDepth 100000 in
theorem c_X8_mustBe (l : Launch) (g : zG) (h0 : Nat) (w0 : Value) (w1 : Value) (w2 : Value) (w3 : Value) (w4 : Value) (w5 : Value) (w6 : Value) (w7 : Value) (w8 : Value) (w9 : Value) (w10 : Value) (b : Int32) (i : Int32) (p0 : Int32) (kn : Int32) : Met l yX8_mustBe (zW yX8_mustBe cX8_mustBe 6 (some .int)) ({ frames := 2, cells := 0, slots := 0, locals := 43 }) (va_Pc [.ref h0, .int b, .int i, .int p0, .int kn] (zR g [(h0, .inr (8, [w0, w1, w2, w3, w4, w5, w6, w7, w8, w9, w10, .int 0, .int 0]))])) (vp_Si (fun r : Int32 => (r = (-1)))) 0 0 (fun _ => False) := by
  refine Met.ofW (cc := cX8_mustBe) (maxL := 6) (ret := (some .int)) (by decide) rfl ?_
  intro p e s m args below meth c s₁ B hml hv
  obtain ⟨rfl, hP, hK, hN⟩ := hv
  have hx := B.exec
  have hb := B.bytes
  have hr := B.returns
  have hg := zW.law (atoms_spec (ws := (zW yX8_mustBe cX8_mustBe 6 (some .int))) B.pre)
  have hown : s.vm.findClass RX8 = some m.cls := findClass_of_methodNamed B.named
  have hlocks := B.notSynchronized
  have hl := lv_entry ([.ref h0, .int b, .int i, .int p0, .int kn]) (n := 6) (Nat.le_of_ble_eq_true rfl)
  rw [lg_entry_eq]
  generalize (lg_sl ([.ref h0, .int b, .int i, .int p0, .int kn]) ++ List.replicate (6 - (lg_sl ([.ref h0, .int b, .int i, .int p0, .int kn])).length) Slot.unset).toArray = ls at hl ⊢
  have hl : lv_has ls 6 [(0, .ref h0), (1, .int b), (2, .int i), (3, .int p0), (4, .int kn)] := hl
  refine lv_aload_n hx hb dX8_mustBe_0 rfl (lv_at hl 0 rfl) ?_
  refine lv_iload_n hx hb dX8_mustBe_1 rfl (lv_at hl 1 rfl) ?_
  refine lv_iload_n hx hb dX8_mustBe_2 rfl (lv_at hl 2 rfl) ?_
  have hPc := hP.sub (ws' := [(h0, .inr (8, [w0, w1, w2, w3, w4, w5, w6, w7, w8, w9, w10, .int 0, .int 0]))]) [0] rfl
  refine zc_i (va_runV (As := [.int b, .int i]) (rest := []) ⟨hx, hb, hml, hown, hg⟩ (c_X8_isLine l g h0 (w0 : Value) (w1 : Value) (w2 : Value) (w3 : Value) (w4 : Value) (w5 : Value) (w6 : Value) (w7 : Value) (w8 : Value) (w9 : Value) (w10 : Value) b i ) (cwV 2 hg (z_gV mm_587 mm_589 mm_19 mm_108 mm_590) rfl rfl rfl (by decide +kernel) ⟨Nat.le_of_ble_eq_true rfl, Nat.le_of_ble_eq_true rfl⟩) ⟨(zR.pre [.ref h0, .int b, .int i] hPc hK hN).1, va_recv hK hPc (ci := 8) (q0 := 0) rfl rfl, (zR.pre [.ref h0, .int b, .int i] hPc hK hN).2⟩ rfl rfl hl.1 rfl (lv_room (Nat.le_of_ble_eq_true rfl)) dX8_mustBe_3 ⟨Nat.le_of_ble_eq_true rfl, Nat.le_of_ble_eq_true rfl⟩) (fun r1 hr1 => ?_)
  obtain rfl := hr1
  refine lv_if_eq (tgt := 25) hx hb dX8_mustBe_6 (by decide) (fun c2 => ?_) (fun c2 => ?_)
  · skip
    refine lv_iconst (v := (-1)) hx hb dX8_mustBe_25 (by decide) ?_
    exact W.iret (v := (-1)) hx hb hr (fun t ht hW => ⟨(-1), rfl, rfl, ht⟩) (fun q hq => by cases hq) dX8_mustBe_26
  · skip
    exact absurd c2 (by decide)

set_option maxHeartbeats 4000000 in
set_option maxRecDepth 100000 in
theorem c_X8_giving (l : Launch) (g : zG) (h0 : Nat) (w0 : Value) (w1 : Value) (w2 : Value) (w3 : Value) (w4 : Value) (w5 : Value) (w6 : Value) (w7 : Value) (w8 : Value) (w9 : Value) (w10 : Value) (b : Int32) (i : Int32) (kn : Int32) : Met l yX8_giving (zW yX8_giving cX8_giving 5 (some .int)) ({ frames := 2, cells := 0, slots := 0, locals := 43 }) (va_Pc [.ref h0, .int b, .int i, .int kn] (zR g [(h0, .inr (8, [w0, w1, w2, w3, w4, w5, w6, w7, w8, w9, w10, .int 0, .int 0]))])) (vp_Si (fun r : Int32 => (r = (-1)))) 0 0 (fun _ => False) := by
  refine Met.ofW (cc := cX8_giving) (maxL := 5) (ret := (some .int)) (by decide) rfl ?_
  intro p e s m args below meth c s₁ B hml hv
  obtain ⟨rfl, hP, hK, hN⟩ := hv
  have hx := B.exec
  have hb := B.bytes
  have hr := B.returns
  have hg := zW.law (atoms_spec (ws := (zW yX8_giving cX8_giving 5 (some .int))) B.pre)
  have hown : s.vm.findClass RX8 = some m.cls := findClass_of_methodNamed B.named
  have hlocks := B.notSynchronized
  have hl := lv_entry ([.ref h0, .int b, .int i, .int kn]) (n := 5) (Nat.le_of_ble_eq_true rfl)
  rw [lg_entry_eq]
  generalize (lg_sl ([.ref h0, .int b, .int i, .int kn]) ++ List.replicate (5 - (lg_sl ([.ref h0, .int b, .int i, .int kn])).length) Slot.unset).toArray = ls at hl ⊢
  have hl : lv_has ls 5 [(0, .ref h0), (1, .int b), (2, .int i), (3, .int kn)] := hl
  refine lv_aload_n hx hb dX8_giving_0 rfl (lv_at hl 0 rfl) ?_
  refine lv_iload_n hx hb dX8_giving_1 rfl (lv_at hl 1 rfl) ?_
  refine lv_iload_n hx hb dX8_giving_2 rfl (lv_at hl 2 rfl) ?_
  have hPc := hP.sub (ws' := [(h0, .inr (8, [w0, w1, w2, w3, w4, w5, w6, w7, w8, w9, w10, .int 0, .int 0]))]) [0] rfl
  refine zc_i (va_runV (As := [.int b, .int i]) (rest := []) ⟨hx, hb, hml, hown, hg⟩ (c_X8_isLine l g h0 (w0 : Value) (w1 : Value) (w2 : Value) (w3 : Value) (w4 : Value) (w5 : Value) (w6 : Value) (w7 : Value) (w8 : Value) (w9 : Value) (w10 : Value) b i ) (cwV 2 hg (z_gV mm_587 mm_589 mm_19 mm_108 mm_590) rfl rfl rfl (by decide +kernel) ⟨Nat.le_of_ble_eq_true rfl, Nat.le_of_ble_eq_true rfl⟩) ⟨(zR.pre [.ref h0, .int b, .int i] hPc hK hN).1, va_recv hK hPc (ci := 8) (q0 := 0) rfl rfl, (zR.pre [.ref h0, .int b, .int i] hPc hK hN).2⟩ rfl rfl hl.1 rfl (lv_room (Nat.le_of_ble_eq_true rfl)) dX8_giving_3 ⟨Nat.le_of_ble_eq_true rfl, Nat.le_of_ble_eq_true rfl⟩) (fun r1 hr1 => ?_)
  obtain rfl := hr1
  refine lv_if_eq (tgt := 16) hx hb dX8_giving_6 (by decide) (fun c2 => ?_) (fun c2 => ?_)
  · skip
    refine lv_iconst (v := (-1)) hx hb dX8_giving_16 (by decide) ?_
    exact W.iret (v := (-1)) hx hb hr (fun t ht hW => ⟨(-1), rfl, rfl, ht⟩) (fun q hq => by cases hq) dX8_giving_17
  · skip
    exact absurd c2 (by decide)

set_option maxHeartbeats 4000000 in
set_option maxRecDepth 100000 in
theorem c_X8_tooFew (l : Launch) (g : zG) (h0 : Nat) (w0 : Value) (w1 : Value) (w2 : Value) (w3 : Value) (w4 : Value) (w5 : Value) (w6 : Value) (w7 : Value) (w8 : Value) (w9 : Value) (w10 : Value) (b : Int32) (kn : Int32) : Met l yX8_tooFew (zW yX8_tooFew cX8_tooFew 3 (some .int)) ({ frames := 1, cells := 0, slots := 0, locals := 21 }) (va_Pc [.ref h0, .int b, .int kn] (zR g [(h0, .inr (8, [w0, w1, w2, w3, w4, w5, w6, w7, w8, w9, w10, .int 0, .int 0]))])) (vp_Si (fun r : Int32 => (r = (-1)))) 0 0 (fun _ => False) := by
  refine Met.ofW (cc := cX8_tooFew) (maxL := 3) (ret := (some .int)) (by decide) rfl ?_
  intro p e s m args below meth c s₁ B hml hv
  obtain ⟨rfl, hP, hK, hN⟩ := hv
  have hx := B.exec
  have hb := B.bytes
  have hr := B.returns
  have hg := zW.law (atoms_spec (ws := (zW yX8_tooFew cX8_tooFew 3 (some .int))) B.pre)
  have hown : s.vm.findClass RX8 = some m.cls := findClass_of_methodNamed B.named
  have hlocks := B.notSynchronized
  have hl := lv_entry ([.ref h0, .int b, .int kn]) (n := 3) (Nat.le_of_ble_eq_true rfl)
  rw [lg_entry_eq]
  generalize (lg_sl ([.ref h0, .int b, .int kn]) ++ List.replicate (3 - (lg_sl ([.ref h0, .int b, .int kn])).length) Slot.unset).toArray = ls at hl ⊢
  have hl : lv_has ls 3 [(0, .ref h0), (1, .int b), (2, .int kn)] := hl
  refine lv_aload_n hx hb dX8_tooFew_0 rfl (lv_at hl 0 rfl) ?_
  refine lv_iload_n hx hb dX8_tooFew_1 rfl (lv_at hl 1 rfl) ?_
  have hPc := hP.sub (ws' := [(h0, .inr (8, [w0, w1, w2, w3, w4, w5, w6, w7, w8, w9, w10, .int 0, .int 0]))]) [0] rfl
  refine zc_i (va_runV (As := [.int b]) (rest := []) ⟨hx, hb, hml, hown, hg⟩ (c_X8_isBook l g h0 (w0 : Value) (w1 : Value) (w2 : Value) (w3 : Value) (w4 : Value) (w5 : Value) (w6 : Value) (w7 : Value) (w8 : Value) (w9 : Value) (w10 : Value) b ) (cwV 1 hg (z_gV mm_591 mm_593 mm_20 mm_108 mm_594) rfl rfl rfl (by decide +kernel) ⟨Nat.le_of_ble_eq_true rfl, Nat.le_of_ble_eq_true rfl⟩) ⟨(zR.pre [.ref h0, .int b] hPc hK hN).1, va_recv hK hPc (ci := 8) (q0 := 0) rfl rfl, (zR.pre [.ref h0, .int b] hPc hK hN).2⟩ rfl rfl hl.1 rfl (lv_room (Nat.le_of_ble_eq_true rfl)) dX8_tooFew_2 ⟨Nat.le_of_ble_eq_true rfl, Nat.le_of_ble_eq_true rfl⟩) (fun r1 hr1 => ?_)
  obtain rfl := hr1
  refine lv_if_eq (tgt := 15) hx hb dX8_tooFew_5 (by decide) (fun c2 => ?_) (fun c2 => ?_)
  · skip
    refine lv_iconst (v := (-1)) hx hb dX8_tooFew_15 (by decide) ?_
    exact W.iret (v := (-1)) hx hb hr (fun t ht hW => ⟨(-1), rfl, rfl, ht⟩) (fun q hq => by cases hq) dX8_tooFew_16
  · skip
    exact absurd c2 (by decide)

set_option maxHeartbeats 4000000 in
set_option maxRecDepth 100000 in
theorem c_X8_steps (l : Launch) (g : zG) (h0 : Nat) (w0 : Value) (w1 : Value) (w2 : Value) (w3 : Value) (w4 : Value) (w5 : Value) (w6 : Value) (w7 : Value) (w8 : Value) (w9 : Value) (w10 : Value) (b : Int32) (kn : Int32) (wh : Int32) : Met l yX8_steps (zW yX8_steps cX8_steps 5 (some .int)) ({ frames := 1, cells := 0, slots := 0, locals := 21 }) (va_Pc [.ref h0, .int b, .int kn, .int wh] (zR g [(h0, .inr (8, [w0, w1, w2, w3, w4, w5, w6, w7, w8, w9, w10, .int 0, .int 0]))])) (vp_Si (fun r : Int32 => (r = (-1)))) 0 0 (fun _ => False) := by
  refine Met.ofW (cc := cX8_steps) (maxL := 5) (ret := (some .int)) (by decide) rfl ?_
  intro p e s m args below meth c s₁ B hml hv
  obtain ⟨rfl, hP, hK, hN⟩ := hv
  have hx := B.exec
  have hb := B.bytes
  have hr := B.returns
  have hg := zW.law (atoms_spec (ws := (zW yX8_steps cX8_steps 5 (some .int))) B.pre)
  have hown : s.vm.findClass RX8 = some m.cls := findClass_of_methodNamed B.named
  have hlocks := B.notSynchronized
  have hl := lv_entry ([.ref h0, .int b, .int kn, .int wh]) (n := 5) (Nat.le_of_ble_eq_true rfl)
  rw [lg_entry_eq]
  generalize (lg_sl ([.ref h0, .int b, .int kn, .int wh]) ++ List.replicate (5 - (lg_sl ([.ref h0, .int b, .int kn, .int wh])).length) Slot.unset).toArray = ls at hl ⊢
  have hl : lv_has ls 5 [(0, .ref h0), (1, .int b), (2, .int kn), (3, .int wh)] := hl
  refine lv_aload_n hx hb dX8_steps_0 rfl (lv_at hl 0 rfl) ?_
  refine lv_iload_n hx hb dX8_steps_1 rfl (lv_at hl 1 rfl) ?_
  have hPc := hP.sub (ws' := [(h0, .inr (8, [w0, w1, w2, w3, w4, w5, w6, w7, w8, w9, w10, .int 0, .int 0]))]) [0] rfl
  refine zc_i (va_runV (As := [.int b]) (rest := []) ⟨hx, hb, hml, hown, hg⟩ (c_X8_isBook l g h0 (w0 : Value) (w1 : Value) (w2 : Value) (w3 : Value) (w4 : Value) (w5 : Value) (w6 : Value) (w7 : Value) (w8 : Value) (w9 : Value) (w10 : Value) b ) (cwV 1 hg (z_gV mm_591 mm_593 mm_20 mm_108 mm_594) rfl rfl rfl (by decide +kernel) ⟨Nat.le_of_ble_eq_true rfl, Nat.le_of_ble_eq_true rfl⟩) ⟨(zR.pre [.ref h0, .int b] hPc hK hN).1, va_recv hK hPc (ci := 8) (q0 := 0) rfl rfl, (zR.pre [.ref h0, .int b] hPc hK hN).2⟩ rfl rfl hl.1 rfl (lv_room (Nat.le_of_ble_eq_true rfl)) dX8_steps_2 ⟨Nat.le_of_ble_eq_true rfl, Nat.le_of_ble_eq_true rfl⟩) (fun r1 hr1 => ?_)
  obtain rfl := hr1
  refine lv_if_eq (tgt := 15) hx hb dX8_steps_5 (by decide) (fun c2 => ?_) (fun c2 => ?_)
  · skip
    refine lv_iconst (v := (-1)) hx hb dX8_steps_15 (by decide) ?_
    exact W.iret (v := (-1)) hx hb hr (fun t ht hW => ⟨(-1), rfl, rfl, ht⟩) (fun q hq => by cases hq) dX8_steps_16
  · skip
    exact absurd c2 (by decide)

set_option maxHeartbeats 4000000 in
set_option maxRecDepth 100000 in
theorem c_X8_safe (l : Launch) (g : zG) (h0 : Nat) (w0 : Value) (w1 : Value) (w2 : Value) (w3 : Value) (w4 : Value) (w5 : Value) (w6 : Value) (w7 : Value) (w8 : Value) (w9 : Value) (w10 : Value) (b : Int32) (k : Int32) (kn : Int32) : Met l yX8_safe (zW yX8_safe cX8_safe 4 (some .int)) ({ frames := 1, cells := 0, slots := 0, locals := 21 }) (va_Pc [.ref h0, .int b, .int k, .int kn] (zR g [(h0, .inr (8, [w0, w1, w2, w3, w4, w5, w6, w7, w8, w9, w10, .int 0, .int 0]))])) (vp_Si (fun r : Int32 => (r = (-1)))) 0 0 (fun _ => False) := by
  refine Met.ofW (cc := cX8_safe) (maxL := 4) (ret := (some .int)) (by decide) rfl ?_
  intro p e s m args below meth c s₁ B hml hv
  obtain ⟨rfl, hP, hK, hN⟩ := hv
  have hx := B.exec
  have hb := B.bytes
  have hr := B.returns
  have hg := zW.law (atoms_spec (ws := (zW yX8_safe cX8_safe 4 (some .int))) B.pre)
  have hown : s.vm.findClass RX8 = some m.cls := findClass_of_methodNamed B.named
  have hlocks := B.notSynchronized
  have hl := lv_entry ([.ref h0, .int b, .int k, .int kn]) (n := 4) (Nat.le_of_ble_eq_true rfl)
  rw [lg_entry_eq]
  generalize (lg_sl ([.ref h0, .int b, .int k, .int kn]) ++ List.replicate (4 - (lg_sl ([.ref h0, .int b, .int k, .int kn])).length) Slot.unset).toArray = ls at hl ⊢
  have hl : lv_has ls 4 [(0, .ref h0), (1, .int b), (2, .int k), (3, .int kn)] := hl
  refine lv_aload_n hx hb dX8_safe_0 rfl (lv_at hl 0 rfl) ?_
  refine lv_iload_n hx hb dX8_safe_1 rfl (lv_at hl 1 rfl) ?_
  have hPc := hP.sub (ws' := [(h0, .inr (8, [w0, w1, w2, w3, w4, w5, w6, w7, w8, w9, w10, .int 0, .int 0]))]) [0] rfl
  refine zc_i (va_runV (As := [.int b]) (rest := []) ⟨hx, hb, hml, hown, hg⟩ (c_X8_isBook l g h0 (w0 : Value) (w1 : Value) (w2 : Value) (w3 : Value) (w4 : Value) (w5 : Value) (w6 : Value) (w7 : Value) (w8 : Value) (w9 : Value) (w10 : Value) b ) (cwV 1 hg (z_gV mm_591 mm_593 mm_20 mm_108 mm_594) rfl rfl rfl (by decide +kernel) ⟨Nat.le_of_ble_eq_true rfl, Nat.le_of_ble_eq_true rfl⟩) ⟨(zR.pre [.ref h0, .int b] hPc hK hN).1, va_recv hK hPc (ci := 8) (q0 := 0) rfl rfl, (zR.pre [.ref h0, .int b] hPc hK hN).2⟩ rfl rfl hl.1 rfl (lv_room (Nat.le_of_ble_eq_true rfl)) dX8_safe_2 ⟨Nat.le_of_ble_eq_true rfl, Nat.le_of_ble_eq_true rfl⟩) (fun r1 hr1 => ?_)
  obtain rfl := hr1
  refine lv_if_eq (tgt := 22) hx hb dX8_safe_5 (by decide) (fun c2 => ?_) (fun c2 => ?_)
  · skip
    refine lv_iconst (v := (-1)) hx hb dX8_safe_22 (by decide) ?_
    exact W.iret (v := (-1)) hx hb hr (fun t ht hW => ⟨(-1), rfl, rfl, ht⟩) (fun q hq => by cases hq) dX8_safe_23
  · skip
    exact absurd c2 (by decide)

set_option maxHeartbeats 4000000 in
set_option maxRecDepth 100000 in
theorem c_X8_fewest (l : Launch) (g : zG) (h0 : Nat) (w0 : Value) (w1 : Value) (w2 : Value) (w3 : Value) (w4 : Value) (w5 : Value) (w6 : Value) (w7 : Value) (w8 : Value) (w9 : Value) (w10 : Value) (b : Int32) (i : Int32) (wh : Int32) : Met l yX8_fewest (zW yX8_fewest cX8_fewest 5 (some .int)) ({ frames := 2, cells := 0, slots := 0, locals := 43 }) (va_Pc [.ref h0, .int b, .int i, .int wh] (zR g [(h0, .inr (8, [w0, w1, w2, w3, w4, w5, w6, w7, w8, w9, w10, .int 0, .int 0]))])) (vp_Si (fun r : Int32 => (r = (-1)))) 0 0 (fun _ => False) := by
  refine Met.ofW (cc := cX8_fewest) (maxL := 5) (ret := (some .int)) (by decide) rfl ?_
  intro p e s m args below meth c s₁ B hml hv
  obtain ⟨rfl, hP, hK, hN⟩ := hv
  have hx := B.exec
  have hb := B.bytes
  have hr := B.returns
  have hg := zW.law (atoms_spec (ws := (zW yX8_fewest cX8_fewest 5 (some .int))) B.pre)
  have hown : s.vm.findClass RX8 = some m.cls := findClass_of_methodNamed B.named
  have hlocks := B.notSynchronized
  have hl := lv_entry ([.ref h0, .int b, .int i, .int wh]) (n := 5) (Nat.le_of_ble_eq_true rfl)
  rw [lg_entry_eq]
  generalize (lg_sl ([.ref h0, .int b, .int i, .int wh]) ++ List.replicate (5 - (lg_sl ([.ref h0, .int b, .int i, .int wh])).length) Slot.unset).toArray = ls at hl ⊢
  have hl : lv_has ls 5 [(0, .ref h0), (1, .int b), (2, .int i), (3, .int wh)] := hl
  refine lv_aload_n hx hb dX8_fewest_0 rfl (lv_at hl 0 rfl) ?_
  refine lv_iload_n hx hb dX8_fewest_1 rfl (lv_at hl 1 rfl) ?_
  refine lv_iload_n hx hb dX8_fewest_2 rfl (lv_at hl 2 rfl) ?_
  have hPc := hP.sub (ws' := [(h0, .inr (8, [w0, w1, w2, w3, w4, w5, w6, w7, w8, w9, w10, .int 0, .int 0]))]) [0] rfl
  refine zc_i (va_runV (As := [.int b, .int i]) (rest := []) ⟨hx, hb, hml, hown, hg⟩ (c_X8_isLine l g h0 (w0 : Value) (w1 : Value) (w2 : Value) (w3 : Value) (w4 : Value) (w5 : Value) (w6 : Value) (w7 : Value) (w8 : Value) (w9 : Value) (w10 : Value) b i ) (cwV 2 hg (z_gV mm_587 mm_589 mm_19 mm_108 mm_590) rfl rfl rfl (by decide +kernel) ⟨Nat.le_of_ble_eq_true rfl, Nat.le_of_ble_eq_true rfl⟩) ⟨(zR.pre [.ref h0, .int b, .int i] hPc hK hN).1, va_recv hK hPc (ci := 8) (q0 := 0) rfl rfl, (zR.pre [.ref h0, .int b, .int i] hPc hK hN).2⟩ rfl rfl hl.1 rfl (lv_room (Nat.le_of_ble_eq_true rfl)) dX8_fewest_3 ⟨Nat.le_of_ble_eq_true rfl, Nat.le_of_ble_eq_true rfl⟩) (fun r1 hr1 => ?_)
  obtain rfl := hr1
  refine lv_if_eq (tgt := 18) hx hb dX8_fewest_6 (by decide) (fun c2 => ?_) (fun c2 => ?_)
  · skip
    refine lv_iconst (v := (-1)) hx hb dX8_fewest_18 (by decide) ?_
    exact W.iret (v := (-1)) hx hb hr (fun t ht hW => ⟨(-1), rfl, rfl, ht⟩) (fun q hq => by cases hq) dX8_fewest_19
  · skip
    exact absurd c2 (by decide)

set_option maxHeartbeats 4000000 in
set_option maxRecDepth 100000 in
theorem c_X8_questions (l : Launch) (g : zG) (h0 : Nat) (w0 : Value) (w1 : Value) (w2 : Value) (w3 : Value) (w4 : Value) (w5 : Value) (w6 : Value) (w7 : Value) (w8 : Value) (w9 : Value) (w10 : Value) (b : Int32) (i : Int32) (kn : Int32) (wh : Int32) : Met l yX8_questions (zW yX8_questions cX8_questions 7 (some .int)) ({ frames := 2, cells := 0, slots := 0, locals := 43 }) (va_Pc [.ref h0, .int b, .int i, .int kn, .int wh] (zR g [(h0, .inr (8, [w0, w1, w2, w3, w4, w5, w6, w7, w8, w9, w10, .int 0, .int 0]))])) (vp_Si (fun r : Int32 => (r = (-1)))) 0 0 (fun _ => False) := by
  refine Met.ofW (cc := cX8_questions) (maxL := 7) (ret := (some .int)) (by decide) rfl ?_
  intro p e s m args below meth c s₁ B hml hv
  obtain ⟨rfl, hP, hK, hN⟩ := hv
  have hx := B.exec
  have hb := B.bytes
  have hr := B.returns
  have hg := zW.law (atoms_spec (ws := (zW yX8_questions cX8_questions 7 (some .int))) B.pre)
  have hown : s.vm.findClass RX8 = some m.cls := findClass_of_methodNamed B.named
  have hlocks := B.notSynchronized
  have hl := lv_entry ([.ref h0, .int b, .int i, .int kn, .int wh]) (n := 7) (Nat.le_of_ble_eq_true rfl)
  rw [lg_entry_eq]
  generalize (lg_sl ([.ref h0, .int b, .int i, .int kn, .int wh]) ++ List.replicate (7 - (lg_sl ([.ref h0, .int b, .int i, .int kn, .int wh])).length) Slot.unset).toArray = ls at hl ⊢
  have hl : lv_has ls 7 [(0, .ref h0), (1, .int b), (2, .int i), (3, .int kn), (4, .int wh)] := hl
  refine lv_aload_n hx hb dX8_questions_0 rfl (lv_at hl 0 rfl) ?_
  refine lv_iload_n hx hb dX8_questions_1 rfl (lv_at hl 1 rfl) ?_
  refine lv_iload_n hx hb dX8_questions_2 rfl (lv_at hl 2 rfl) ?_
  have hPc := hP.sub (ws' := [(h0, .inr (8, [w0, w1, w2, w3, w4, w5, w6, w7, w8, w9, w10, .int 0, .int 0]))]) [0] rfl
  refine zc_i (va_runV (As := [.int b, .int i]) (rest := []) ⟨hx, hb, hml, hown, hg⟩ (c_X8_isLine l g h0 (w0 : Value) (w1 : Value) (w2 : Value) (w3 : Value) (w4 : Value) (w5 : Value) (w6 : Value) (w7 : Value) (w8 : Value) (w9 : Value) (w10 : Value) b i ) (cwV 2 hg (z_gV mm_587 mm_589 mm_19 mm_108 mm_590) rfl rfl rfl (by decide +kernel) ⟨Nat.le_of_ble_eq_true rfl, Nat.le_of_ble_eq_true rfl⟩) ⟨(zR.pre [.ref h0, .int b, .int i] hPc hK hN).1, va_recv hK hPc (ci := 8) (q0 := 0) rfl rfl, (zR.pre [.ref h0, .int b, .int i] hPc hK hN).2⟩ rfl rfl hl.1 rfl (lv_room (Nat.le_of_ble_eq_true rfl)) dX8_questions_3 ⟨Nat.le_of_ble_eq_true rfl, Nat.le_of_ble_eq_true rfl⟩) (fun r1 hr1 => ?_)
  obtain rfl := hr1
  refine lv_if_eq (tgt := 26) hx hb dX8_questions_6 (by decide) (fun c2 => ?_) (fun c2 => ?_)
  · skip
    refine lv_iconst (v := (-1)) hx hb dX8_questions_26 (by decide) ?_
    exact W.iret (v := (-1)) hx hb hr (fun t ht hW => ⟨(-1), rfl, rfl, ht⟩) (fun q hq => by cases hq) dX8_questions_27
  · skip
    exact absurd c2 (by decide)

set_option maxHeartbeats 4000000 in
set_option maxRecDepth 100000 in
theorem c_X8_bestSwap (l : Launch) (g : zG) (h0 : Nat) (w0 : Value) (w1 : Value) (w2 : Value) (w3 : Value) (w4 : Value) (w5 : Value) (w6 : Value) (w7 : Value) (w8 : Value) (w9 : Value) (w10 : Value) (b : Int32) (k : Int32) (wh : Int32) : Met l yX8_bestSwap (zW yX8_bestSwap cX8_bestSwap 10 (some .int)) ({ frames := 1, cells := 0, slots := 0, locals := 21 }) (va_Pc [.ref h0, .int b, .int k, .int wh] (zR g [(h0, .inr (8, [w0, w1, w2, w3, w4, w5, w6, w7, w8, w9, w10, .int 0, .int 0]))])) (vp_Si (fun r : Int32 => (r = (-1)))) 0 0 (fun _ => False) := by
  refine Met.ofW (cc := cX8_bestSwap) (maxL := 10) (ret := (some .int)) (by decide) rfl ?_
  intro p e s m args below meth c s₁ B hml hv
  obtain ⟨rfl, hP, hK, hN⟩ := hv
  have hx := B.exec
  have hb := B.bytes
  have hr := B.returns
  have hg := zW.law (atoms_spec (ws := (zW yX8_bestSwap cX8_bestSwap 10 (some .int))) B.pre)
  have hown : s.vm.findClass RX8 = some m.cls := findClass_of_methodNamed B.named
  have hlocks := B.notSynchronized
  have hl := lv_entry ([.ref h0, .int b, .int k, .int wh]) (n := 10) (Nat.le_of_ble_eq_true rfl)
  rw [lg_entry_eq]
  generalize (lg_sl ([.ref h0, .int b, .int k, .int wh]) ++ List.replicate (10 - (lg_sl ([.ref h0, .int b, .int k, .int wh])).length) Slot.unset).toArray = ls at hl ⊢
  have hl : lv_has ls 10 [(0, .ref h0), (1, .int b), (2, .int k), (3, .int wh)] := hl
  refine lv_aload_n hx hb dX8_bestSwap_0 rfl (lv_at hl 0 rfl) ?_
  refine lv_iload_n hx hb dX8_bestSwap_1 rfl (lv_at hl 1 rfl) ?_
  have hPc := hP.sub (ws' := [(h0, .inr (8, [w0, w1, w2, w3, w4, w5, w6, w7, w8, w9, w10, .int 0, .int 0]))]) [0] rfl
  refine zc_i (va_runV (As := [.int b]) (rest := []) ⟨hx, hb, hml, hown, hg⟩ (c_X8_isBook l g h0 (w0 : Value) (w1 : Value) (w2 : Value) (w3 : Value) (w4 : Value) (w5 : Value) (w6 : Value) (w7 : Value) (w8 : Value) (w9 : Value) (w10 : Value) b ) (cwV 1 hg (z_gV mm_591 mm_593 mm_20 mm_108 mm_594) rfl rfl rfl (by decide +kernel) ⟨Nat.le_of_ble_eq_true rfl, Nat.le_of_ble_eq_true rfl⟩) ⟨(zR.pre [.ref h0, .int b] hPc hK hN).1, va_recv hK hPc (ci := 8) (q0 := 0) rfl rfl, (zR.pre [.ref h0, .int b] hPc hK hN).2⟩ rfl rfl hl.1 rfl (lv_room (Nat.le_of_ble_eq_true rfl)) dX8_bestSwap_2 ⟨Nat.le_of_ble_eq_true rfl, Nat.le_of_ble_eq_true rfl⟩) (fun r1 hr1 => ?_)
  obtain rfl := hr1
  refine lv_if_eq (tgt := 24) hx hb dX8_bestSwap_5 (by decide) (fun c2 => ?_) (fun c2 => ?_)
  · skip
    refine lv_iconst (v := (-1)) hx hb dX8_bestSwap_24 (by decide) ?_
    exact W.iret (v := (-1)) hx hb hr (fun t ht hW => ⟨(-1), rfl, rfl, ht⟩) (fun q hq => by cases hq) dX8_bestSwap_25
  · skip
    exact absurd c2 (by decide)

set_option maxHeartbeats 4000000 in
set_option maxRecDepth 100000 in
theorem c_X8_linesOf (l : Launch) (g : zG) (h0 : Nat) (w0 : Value) (w1 : Value) (w2 : Value) (w3 : Value) (w4 : Value) (w5 : Value) (w6 : Value) (w7 : Value) (w8 : Value) (w9 : Value) (w10 : Value) (b : Int32) (p0 : Int32) (kn : Int32) : Met l yX8_linesOf (zW yX8_linesOf cX8_linesOf 6 (some .int)) ({ frames := 1, cells := 0, slots := 0, locals := 21 }) (va_Pc [.ref h0, .int b, .int p0, .int kn] (zR g [(h0, .inr (8, [w0, w1, w2, w3, w4, w5, w6, w7, w8, w9, w10, .int 0, .int 0]))])) (vp_Si (fun r : Int32 => (r = (-1)))) 0 0 (fun _ => False) := by
  refine Met.ofW (cc := cX8_linesOf) (maxL := 6) (ret := (some .int)) (by decide) rfl ?_
  intro p e s m args below meth c s₁ B hml hv
  obtain ⟨rfl, hP, hK, hN⟩ := hv
  have hx := B.exec
  have hb := B.bytes
  have hr := B.returns
  have hg := zW.law (atoms_spec (ws := (zW yX8_linesOf cX8_linesOf 6 (some .int))) B.pre)
  have hown : s.vm.findClass RX8 = some m.cls := findClass_of_methodNamed B.named
  have hlocks := B.notSynchronized
  have hl := lv_entry ([.ref h0, .int b, .int p0, .int kn]) (n := 6) (Nat.le_of_ble_eq_true rfl)
  rw [lg_entry_eq]
  generalize (lg_sl ([.ref h0, .int b, .int p0, .int kn]) ++ List.replicate (6 - (lg_sl ([.ref h0, .int b, .int p0, .int kn])).length) Slot.unset).toArray = ls at hl ⊢
  have hl : lv_has ls 6 [(0, .ref h0), (1, .int b), (2, .int p0), (3, .int kn)] := hl
  refine lv_aload_n hx hb dX8_linesOf_0 rfl (lv_at hl 0 rfl) ?_
  refine lv_iload_n hx hb dX8_linesOf_1 rfl (lv_at hl 1 rfl) ?_
  have hPc := hP.sub (ws' := [(h0, .inr (8, [w0, w1, w2, w3, w4, w5, w6, w7, w8, w9, w10, .int 0, .int 0]))]) [0] rfl
  refine zc_i (va_runV (As := [.int b]) (rest := []) ⟨hx, hb, hml, hown, hg⟩ (c_X8_isBook l g h0 (w0 : Value) (w1 : Value) (w2 : Value) (w3 : Value) (w4 : Value) (w5 : Value) (w6 : Value) (w7 : Value) (w8 : Value) (w9 : Value) (w10 : Value) b ) (cwV 1 hg (z_gV mm_591 mm_593 mm_20 mm_108 mm_594) rfl rfl rfl (by decide +kernel) ⟨Nat.le_of_ble_eq_true rfl, Nat.le_of_ble_eq_true rfl⟩) ⟨(zR.pre [.ref h0, .int b] hPc hK hN).1, va_recv hK hPc (ci := 8) (q0 := 0) rfl rfl, (zR.pre [.ref h0, .int b] hPc hK hN).2⟩ rfl rfl hl.1 rfl (lv_room (Nat.le_of_ble_eq_true rfl)) dX8_linesOf_2 ⟨Nat.le_of_ble_eq_true rfl, Nat.le_of_ble_eq_true rfl⟩) (fun r1 hr1 => ?_)
  obtain rfl := hr1
  refine lv_if_eq (tgt := 23) hx hb dX8_linesOf_5 (by decide) (fun c2 => ?_) (fun c2 => ?_)
  · skip
    refine lv_iconst (v := (-1)) hx hb dX8_linesOf_23 (by decide) ?_
    exact W.iret (v := (-1)) hx hb hr (fun t ht hW => ⟨(-1), rfl, rfl, ht⟩) (fun q hq => by cases hq) dX8_linesOf_24
  · skip
    exact absurd c2 (by decide)

set_option maxHeartbeats 4000000 in
set_option maxRecDepth 100000 in
theorem c_X8_check (l : Launch) (g : zG) (h0 : Nat) (w0 : Value) (w1 : Value) (w2 : Value) (w3 : Value) (w4 : Value) (w5 : Value) (w6 : Value) (w7 : Value) (w8 : Value) (w9 : Value) (w10 : Value) (b : Int32) (i : Int32) (n : Int32) : Met l yX8_check (zW yX8_check cX8_check 6 (some .int)) ({ frames := 3, cells := 0, slots := 0, locals := 65 }) (va_Pc [.ref h0, .int b, .int i, .int n] (zR g [(h0, .inr (8, [w0, w1, w2, w3, w4, w5, w6, w7, w8, w9, w10, .int 0, .int 0]))])) (vp_Si (fun r : Int32 => (r = (-2)))) 0 0 (fun _ => False) := by
  refine Met.ofW (cc := cX8_check) (maxL := 6) (ret := (some .int)) (by decide) rfl ?_
  intro p e s m args below meth c s₁ B hml hv
  obtain ⟨rfl, hP, hK, hN⟩ := hv
  have hx := B.exec
  have hb := B.bytes
  have hr := B.returns
  have hg := zW.law (atoms_spec (ws := (zW yX8_check cX8_check 6 (some .int))) B.pre)
  have hown : s.vm.findClass RX8 = some m.cls := findClass_of_methodNamed B.named
  have hlocks := B.notSynchronized
  have hl := lv_entry ([.ref h0, .int b, .int i, .int n]) (n := 6) (Nat.le_of_ble_eq_true rfl)
  rw [lg_entry_eq]
  generalize (lg_sl ([.ref h0, .int b, .int i, .int n]) ++ List.replicate (6 - (lg_sl ([.ref h0, .int b, .int i, .int n])).length) Slot.unset).toArray = ls at hl ⊢
  have hl : lv_has ls 6 [(0, .ref h0), (1, .int b), (2, .int i), (3, .int n)] := hl
  refine lv_aload_n hx hb dX8_check_0 rfl (lv_at hl 0 rfl) ?_
  refine lv_iload_n hx hb dX8_check_1 rfl (lv_at hl 1 rfl) ?_
  refine lv_iload_n hx hb dX8_check_2 rfl (lv_at hl 2 rfl) ?_
  have hPc := hP.sub (ws' := [(h0, .inr (8, [w0, w1, w2, w3, w4, w5, w6, w7, w8, w9, w10, .int 0, .int 0]))]) [0] rfl
  refine zc_i (va_runV (As := [.int b, .int i]) (rest := []) ⟨hx, hb, hml, hown, hg⟩ (c_X8_isLive l g h0 (w0 : Value) (w1 : Value) (w2 : Value) (w3 : Value) (w4 : Value) (w5 : Value) (w6 : Value) (w7 : Value) (w8 : Value) (w9 : Value) (w10 : Value) b i ) (cwV 2 hg (z_gV mm_583 mm_585 mm_18 mm_108 mm_586) rfl rfl rfl (by decide +kernel) ⟨Nat.le_of_ble_eq_true rfl, Nat.le_of_ble_eq_true rfl⟩) ⟨(zR.pre [.ref h0, .int b, .int i] hPc hK hN).1, va_recv hK hPc (ci := 8) (q0 := 0) rfl rfl, (zR.pre [.ref h0, .int b, .int i] hPc hK hN).2⟩ rfl rfl hl.1 rfl (lv_room (Nat.le_of_ble_eq_true rfl)) dX8_check_3 ⟨Nat.le_of_ble_eq_true rfl, Nat.le_of_ble_eq_true rfl⟩) (fun r1 hr1 => ?_)
  obtain rfl := hr1
  refine lv_if_eq (tgt := 31) hx hb dX8_check_6 (by decide) (fun c2 => ?_) (fun c2 => ?_)
  · skip
    refine lv_bipush (v := (-2)) hx hb dX8_check_31 (by decide) ?_
    exact W.iret (v := (-2)) hx hb hr (fun t ht hW => ⟨(-2), rfl, rfl, ht⟩) (fun q hq => by cases hq) dX8_check_33
  · skip
    exact absurd c2 (by decide)

set_option maxHeartbeats 4000000 in
set_option maxRecDepth 100000 in
theorem c_X8_gossip (l : Launch) (g : zG) (h0 : Nat) (w0 : Value) (w1 : Value) (w2 : Value) (w3 : Value) (w4 : Value) (w5 : Value) (w6 : Value) (w7 : Value) (w8 : Value) (w9 : Value) (w10 : Value) (g0 : Int32) (b : Int32) (i : Int32) (n : Int32) : Met l yX8_gossip (zW yX8_gossip cX8_gossip 7 (some .int)) ({ frames := 3, cells := 0, slots := 0, locals := 65 }) (va_Pc [.ref h0, .int g0, .int b, .int i, .int n] (zR g [(h0, .inr (8, [w0, w1, w2, w3, w4, w5, w6, w7, w8, w9, w10, .int 0, .int 0]))])) (vp_Si (fun r : Int32 => (r = (-1)))) 0 0 (fun _ => False) := by
  refine Met.ofW (cc := cX8_gossip) (maxL := 7) (ret := (some .int)) (by decide) rfl ?_
  intro p e s m args below meth c s₁ B hml hv
  obtain ⟨rfl, hP, hK, hN⟩ := hv
  have hx := B.exec
  have hb := B.bytes
  have hr := B.returns
  have hg := zW.law (atoms_spec (ws := (zW yX8_gossip cX8_gossip 7 (some .int))) B.pre)
  have hown : s.vm.findClass RX8 = some m.cls := findClass_of_methodNamed B.named
  have hlocks := B.notSynchronized
  have hl := lv_entry ([.ref h0, .int g0, .int b, .int i, .int n]) (n := 7) (Nat.le_of_ble_eq_true rfl)
  rw [lg_entry_eq]
  generalize (lg_sl ([.ref h0, .int g0, .int b, .int i, .int n]) ++ List.replicate (7 - (lg_sl ([.ref h0, .int g0, .int b, .int i, .int n])).length) Slot.unset).toArray = ls at hl ⊢
  have hl : lv_has ls 7 [(0, .ref h0), (1, .int g0), (2, .int b), (3, .int i), (4, .int n)] := hl
  refine lv_iload_n hx hb dX8_gossip_0 rfl (lv_at hl 1 rfl) ?_
  refine lv_iconst (v := 0) hx hb dX8_gossip_1 (by decide) ?_
  refine lv_bipush (v := 7) hx hb dX8_gossip_2 (by decide) ?_
  have hPc := hP.sub (ws' := []) [] rfl
  refine zc_i (va_runS (As := [.int g0, .int 0, .int 7]) (rest := []) ⟨hx, hb, hml, hown, hg⟩ (c_X8_within l g g0 (0 : Int32) (7 : Int32) ) (va_cwS 3 hg (z_gS mm_407 mm_408 mm_108 mm_409) rfl rfl rfl (by decide +kernel) ⟨Nat.le_of_ble_eq_true rfl, Nat.le_of_ble_eq_true rfl⟩) (zR.pre [.int g0, .int 0, .int 7] hPc hK hN) rfl rfl hl.1 rfl (lv_room (Nat.le_of_ble_eq_true rfl)) dX8_gossip_4 ⟨Nat.le_of_ble_eq_true rfl, Nat.le_of_ble_eq_true rfl⟩) (fun r1 hr1 => ?_)
  rcases hr1 with hr1 | hr1
  · skip
    obtain ⟨rfl, h2, h3⟩ := hr1
    have h2 : (0 : Int) ≤ g0.toInt := h2
    have h3 : g0.toInt ≤ (7 : Int) := h3
    refine lv_if_eq (tgt := 42) hx hb dX8_gossip_7 (by decide) (fun c4 => ?_) (fun c4 => ?_)
    · skip
      exact absurd c4 (by decide)
    · skip
      refine lv_aload_n hx hb dX8_gossip_10 rfl (lv_at hl 0 rfl) ?_
      refine lv_iload_n hx hb dX8_gossip_11 rfl (lv_at hl 2 rfl) ?_
      refine lv_iload_n hx hb dX8_gossip_12 rfl (lv_at hl 3 rfl) ?_
      have hPc := hP.sub (ws' := [(h0, .inr (8, [w0, w1, w2, w3, w4, w5, w6, w7, w8, w9, w10, .int 0, .int 0]))]) [0] rfl
      refine zc_i (va_runV (As := [.int b, .int i]) (rest := []) ⟨hx, hb, hml, hown, hg⟩ (c_X8_isLive l g h0 (w0 : Value) (w1 : Value) (w2 : Value) (w3 : Value) (w4 : Value) (w5 : Value) (w6 : Value) (w7 : Value) (w8 : Value) (w9 : Value) (w10 : Value) b i ) (cwV 2 hg (z_gV mm_583 mm_585 mm_18 mm_108 mm_586) rfl rfl rfl (by decide +kernel) ⟨Nat.le_of_ble_eq_true rfl, Nat.le_of_ble_eq_true rfl⟩) ⟨(zR.pre [.ref h0, .int b, .int i] hPc hK hN).1, va_recv hK hPc (ci := 8) (q0 := 0) rfl rfl, (zR.pre [.ref h0, .int b, .int i] hPc hK hN).2⟩ rfl rfl hl.1 rfl (lv_room (Nat.le_of_ble_eq_true rfl)) dX8_gossip_13 ⟨Nat.le_of_ble_eq_true rfl, Nat.le_of_ble_eq_true rfl⟩) (fun r5 hr5 => ?_)
      obtain rfl := hr5
      refine lv_if_eq (tgt := 42) hx hb dX8_gossip_16 (by decide) (fun c6 => ?_) (fun c6 => ?_)
      · skip
        refine lv_iconst (v := (-1)) hx hb dX8_gossip_42 (by decide) ?_
        exact W.iret (v := (-1)) hx hb hr (fun t ht hW => ⟨(-1), rfl, rfl, ht⟩) (fun q hq => by cases hq) dX8_gossip_43
      · skip
        exact absurd c6 (by decide)
  · skip
    obtain ⟨rfl, h7⟩ := hr1
    have h7 : ¬ ((0 : Int) ≤ g0.toInt ∧ g0.toInt ≤ (7 : Int)) := h7
    refine lv_if_eq (tgt := 42) hx hb dX8_gossip_7 (by decide) (fun c8 => ?_) (fun c8 => ?_)
    · skip
      refine lv_iconst (v := (-1)) hx hb dX8_gossip_42 (by decide) ?_
      exact W.iret (v := (-1)) hx hb hr (fun t ht hW => ⟨(-1), rfl, rfl, ht⟩) (fun q hq => by cases hq) dX8_gossip_43
    · skip
      exact absurd c8 (by decide)

set_option maxHeartbeats 4000000 in
set_option maxRecDepth 100000 in
theorem c_X8_shownBooks (l : Launch) (g : zG) (h0 : Nat) (w0 : Value) (w1 : Value) (w2 : Value) (w3 : Value) (w4 : Value) (w5 : Value) (w6 : Value) (w7 : Value) (w8 : Value) (w9 : Value) (w10 : Value) : Met l yX8_shownBooks (zW yX8_shownBooks cX8_shownBooks 3 (some .int)) ({ frames := 0, cells := 0, slots := 0, locals := 0 }) (va_Pc [.ref h0] (zR g [(h0, .inr (8, [w0, w1, w2, w3, w4, w5, w6, w7, w8, w9, w10, .int 0, .int 0]))])) (vp_Si (fun r : Int32 => (r = 0))) 0 0 (fun _ => False) := by
  refine Met.ofW (cc := cX8_shownBooks) (maxL := 3) (ret := (some .int)) (by decide) rfl ?_
  intro p e s m args below meth c s₁ B hml hv
  obtain ⟨rfl, hP, hK, hN⟩ := hv
  have hx := B.exec
  have hb := B.bytes
  have hr := B.returns
  have hg := zW.law (atoms_spec (ws := (zW yX8_shownBooks cX8_shownBooks 3 (some .int))) B.pre)
  have hown : s.vm.findClass RX8 = some m.cls := findClass_of_methodNamed B.named
  have hlocks := B.notSynchronized
  have hl := lv_entry ([.ref h0]) (n := 3) (Nat.le_of_ble_eq_true rfl)
  rw [lg_entry_eq]
  generalize (lg_sl ([.ref h0]) ++ List.replicate (3 - (lg_sl ([.ref h0])).length) Slot.unset).toArray = ls at hl ⊢
  have hl : lv_has ls 3 [(0, .ref h0)] := hl
  refine lv_iconst (v := 0) hx hb dX8_shownBooks_0 (by decide) ?_
  refine lv_istore_n (lv' := [(1, .int 0), (0, .ref h0)]) hx hb dX8_shownBooks_1 rfl hl (by decide) rfl (fun ls hl => ?_)
  refine lv_iconst (v := 0) hx hb dX8_shownBooks_2 (by decide) ?_
  refine lv_istore_n (lv' := [(2, .int 0), (1, .int 0), (0, .ref h0)]) hx hb dX8_shownBooks_3 rfl hl (by decide) rfl (fun ls hl => ?_)
  refine lv_iload_n hx hb dX8_shownBooks_4 rfl (lv_at hl 0 rfl) ?_
  refine lv_aload_n hx hb dX8_shownBooks_5 rfl (lv_at hl 2 rfl) ?_
  refine va_get (D := g.1) (ci := 8) (v := .int 0) (C := RX8) (T := TX8) (N := 13) hx hb hg inG8 hown hK hP 0 rfl rfl 12 (by decide) (hg _ mm_372) (fun _ h9 => h9) rfl dX8_shownBooks_6 ?_
  refine lv_icmp_ge (tgt := 36) hx hb dX8_shownBooks_9 (by decide) (fun c1 => ?_) (fun c1 => ?_)
  · skip
    refine lv_iload_n hx hb dX8_shownBooks_36 rfl (lv_at hl 1 rfl) ?_
    exact W.iret (v := 0) hx hb hr (fun t ht hW => ⟨0, rfl, rfl, ht⟩) (fun q hq => by cases hq) dX8_shownBooks_37
  · skip
    exact absurd c1 (by decide)

set_option maxHeartbeats 4000000 in
set_option maxRecDepth 100000 in
theorem c_X8_together (l : Launch) (g : zG) (h0 : Nat) (w0 : Value) (w1 : Value) (w2 : Value) (w3 : Value) (w4 : Value) (w5 : Value) (w6 : Value) (w7 : Value) (w8 : Value) (w9 : Value) (w10 : Value) (k : Int32) (wh : Int32) : Met l yX8_together (zW yX8_together cX8_together 5 (some .int)) ({ frames := 2, cells := 0, slots := 0, locals := 42 }) (va_Pc [.ref h0, .int k, .int wh] (zR g [(h0, .inr (8, [w0, w1, w2, w3, w4, w5, w6, w7, w8, w9, w10, .int 0, .int 0]))])) (vp_Si (fun r : Int32 => (r = (-1) ∧ (¬ ((1 ≤ k.toInt ∧ k.toInt ≤ 16) ∧ 0 ≤ wh.toInt ∧ wh.toInt ≤ 2))) ∨ (r = (-2) ∧ ((1 ≤ k.toInt ∧ k.toInt ≤ 16) ∧ 0 ≤ wh.toInt ∧ wh.toInt ≤ 2)))) 0 0 (fun _ => False) := by
  refine Met.ofW (cc := cX8_together) (maxL := 5) (ret := (some .int)) (by decide) rfl ?_
  intro p e s m args below meth c s₁ B hml hv
  obtain ⟨rfl, hP, hK, hN⟩ := hv
  have hx := B.exec
  have hb := B.bytes
  have hr := B.returns
  have hg := zW.law (atoms_spec (ws := (zW yX8_together cX8_together 5 (some .int))) B.pre)
  have hown : s.vm.findClass RX8 = some m.cls := findClass_of_methodNamed B.named
  have hlocks := B.notSynchronized
  have hl := lv_entry ([.ref h0, .int k, .int wh]) (n := 5) (Nat.le_of_ble_eq_true rfl)
  rw [lg_entry_eq]
  generalize (lg_sl ([.ref h0, .int k, .int wh]) ++ List.replicate (5 - (lg_sl ([.ref h0, .int k, .int wh])).length) Slot.unset).toArray = ls at hl ⊢
  have hl : lv_has ls 5 [(0, .ref h0), (1, .int k), (2, .int wh)] := hl
  refine lv_iload_n hx hb dX8_together_0 rfl (lv_at hl 1 rfl) ?_
  have hPc := hP.sub (ws' := []) [] rfl
  refine zc_i (va_runS (As := [.int k]) (rest := []) ⟨hx, hb, hml, hown, hg⟩ (c_X8_isBar l g k ) (va_cwS 1 hg (z_gS mm_772 mm_773 mm_108 mm_774) rfl rfl rfl (by decide +kernel) ⟨Nat.le_of_ble_eq_true rfl, Nat.le_of_ble_eq_true rfl⟩) (zR.pre [.int k] hPc hK hN) rfl rfl hl.1 rfl (lv_room (Nat.le_of_ble_eq_true rfl)) dX8_together_1 ⟨Nat.le_of_ble_eq_true rfl, Nat.le_of_ble_eq_true rfl⟩) (fun r1 hr1 => ?_)
  rcases hr1 with hr1 | hr1
  · skip
    obtain ⟨rfl, h2, h3⟩ := hr1
    have h2 : 1 ≤ k.toInt := h2
    have h3 : k.toInt ≤ 16 := h3
    refine lv_if_eq (tgt := 16) hx hb dX8_together_4 (by decide) (fun c4 => ?_) (fun c4 => ?_)
    · skip
      exact absurd c4 (by decide)
    · skip
      refine lv_iload_n hx hb dX8_together_7 rfl (lv_at hl 2 rfl) ?_
      refine lv_iconst (v := 0) hx hb dX8_together_8 (by decide) ?_
      refine lv_iconst (v := 2) hx hb dX8_together_9 (by decide) ?_
      have hPc := hP.sub (ws' := []) [] rfl
      refine zc_i (va_runS (As := [.int wh, .int 0, .int 2]) (rest := []) ⟨hx, hb, hml, hown, hg⟩ (c_X8_within l g wh (0 : Int32) (2 : Int32) ) (va_cwS 3 hg (z_gS mm_407 mm_408 mm_108 mm_409) rfl rfl rfl (by decide +kernel) ⟨Nat.le_of_ble_eq_true rfl, Nat.le_of_ble_eq_true rfl⟩) (zR.pre [.int wh, .int 0, .int 2] hPc hK hN) rfl rfl hl.1 rfl (lv_room (Nat.le_of_ble_eq_true rfl)) dX8_together_10 ⟨Nat.le_of_ble_eq_true rfl, Nat.le_of_ble_eq_true rfl⟩) (fun r5 hr5 => ?_)
      rcases hr5 with hr5 | hr5
      · skip
        obtain ⟨rfl, h6, h7⟩ := hr5
        have h6 : (0 : Int) ≤ wh.toInt := h6
        have h7 : wh.toInt ≤ (2 : Int) := h7
        refine lv_if_ne (tgt := 18) hx hb dX8_together_13 (by decide) (fun c8 => ?_) (fun c8 => ?_)
        · skip
          refine lv_iconst (v := 0) hx hb dX8_together_18 (by decide) ?_
          refine lv_istore_n (lv' := [(3, .int 0), (0, .ref h0), (1, .int k), (2, .int wh)]) hx hb dX8_together_19 rfl hl (by decide) rfl (fun ls hl => ?_)
          refine lv_iload_n hx hb dX8_together_20 rfl (lv_at hl 0 rfl) ?_
          refine lv_aload_n hx hb dX8_together_21 rfl (lv_at hl 1 rfl) ?_
          refine va_get (D := g.1) (ci := 8) (v := .int 0) (C := RX8) (T := TX8) (N := 13) hx hb hg inG8 hown hK hP 0 rfl rfl 12 (by decide) (hg _ mm_372) (fun _ h9 => h9) rfl dX8_together_22 ?_
          refine lv_icmp_ge (tgt := 93) hx hb dX8_together_25 (by decide) (fun c9 => ?_) (fun c9 => ?_)
          · skip
            refine lv_bipush (v := (-2)) hx hb dX8_together_93 (by decide) ?_
            exact W.iret (v := (-2)) hx hb hr (fun t ht hW => ⟨(-2), rfl, by first | exact Or.inl ⟨rfl, by omega⟩ | exact Or.inr ⟨rfl, by omega⟩, ht⟩) (fun q hq => by cases hq) dX8_together_95
          · skip
            exact absurd c9 (by decide)
        · skip
          exact absurd c8 (by decide)
      · skip
        obtain ⟨rfl, h10⟩ := hr5
        have h10 : ¬ ((0 : Int) ≤ wh.toInt ∧ wh.toInt ≤ (2 : Int)) := h10
        refine lv_if_ne (tgt := 18) hx hb dX8_together_13 (by decide) (fun c11 => ?_) (fun c11 => ?_)
        · skip
          exact absurd c11 (by decide)
        · skip
          refine lv_iconst (v := (-1)) hx hb dX8_together_16 (by decide) ?_
          exact W.iret (v := (-1)) hx hb hr (fun t ht hW => ⟨(-1), rfl, by first | exact Or.inl ⟨rfl, by omega⟩ | exact Or.inr ⟨rfl, by omega⟩, ht⟩) (fun q hq => by cases hq) dX8_together_17
  · skip
    obtain ⟨rfl, h12⟩ := hr1
    have h12 : ¬ (1 ≤ k.toInt ∧ k.toInt ≤ 16) := h12
    refine lv_if_eq (tgt := 16) hx hb dX8_together_4 (by decide) (fun c13 => ?_) (fun c13 => ?_)
    · skip
      refine lv_iconst (v := (-1)) hx hb dX8_together_16 (by decide) ?_
      exact W.iret (v := (-1)) hx hb hr (fun t ht hW => ⟨(-1), rfl, by first | exact Or.inl ⟨rfl, by omega⟩ | exact Or.inr ⟨rfl, by omega⟩, ht⟩) (fun q hq => by cases hq) dX8_together_17
    · skip
      exact absurd c13 (by decide)

set_option maxHeartbeats 4000000 in
set_option maxRecDepth 100000 in
theorem c_X8_givings (l : Launch) (g : zG) (h0 : Nat) (w0 : Value) (w1 : Value) (w2 : Value) (w3 : Value) (w4 : Value) (w5 : Value) (w6 : Value) (w7 : Value) (w8 : Value) (w9 : Value) (w10 : Value) (b : Int32) (kn : Int32) : Met l yX8_givings (zW yX8_givings cX8_givings 3 (some .long)) ({ frames := 1, cells := 0, slots := 0, locals := 21 }) (va_Pc [.ref h0, .int b, .int kn] (zR g [(h0, .inr (8, [w0, w1, w2, w3, w4, w5, w6, w7, w8, w9, w10, .int 0, .int 0]))])) (vp_Sl (fun r : Int64 => (r = (-1)))) 0 0 (fun _ => False) := by
  refine Met.ofW (cc := cX8_givings) (maxL := 3) (ret := (some .long)) (by decide) rfl ?_
  intro p e s m args below meth c s₁ B hml hv
  obtain ⟨rfl, hP, hK, hN⟩ := hv
  have hx := B.exec
  have hb := B.bytes
  have hr := B.returns
  have hg := zW.law (atoms_spec (ws := (zW yX8_givings cX8_givings 3 (some .long))) B.pre)
  have hown : s.vm.findClass RX8 = some m.cls := findClass_of_methodNamed B.named
  have hlocks := B.notSynchronized
  have hl := lv_entry ([.ref h0, .int b, .int kn]) (n := 3) (Nat.le_of_ble_eq_true rfl)
  rw [lg_entry_eq]
  generalize (lg_sl ([.ref h0, .int b, .int kn]) ++ List.replicate (3 - (lg_sl ([.ref h0, .int b, .int kn])).length) Slot.unset).toArray = ls at hl ⊢
  have hl : lv_has ls 3 [(0, .ref h0), (1, .int b), (2, .int kn)] := hl
  refine lv_aload_n hx hb dX8_givings_0 rfl (lv_at hl 0 rfl) ?_
  refine lv_iload_n hx hb dX8_givings_1 rfl (lv_at hl 1 rfl) ?_
  have hPc := hP.sub (ws' := [(h0, .inr (8, [w0, w1, w2, w3, w4, w5, w6, w7, w8, w9, w10, .int 0, .int 0]))]) [0] rfl
  refine zc_i (va_runV (As := [.int b]) (rest := []) ⟨hx, hb, hml, hown, hg⟩ (c_X8_isBook l g h0 (w0 : Value) (w1 : Value) (w2 : Value) (w3 : Value) (w4 : Value) (w5 : Value) (w6 : Value) (w7 : Value) (w8 : Value) (w9 : Value) (w10 : Value) b ) (cwV 1 hg (z_gV mm_591 mm_593 mm_20 mm_108 mm_594) rfl rfl rfl (by decide +kernel) ⟨Nat.le_of_ble_eq_true rfl, Nat.le_of_ble_eq_true rfl⟩) ⟨(zR.pre [.ref h0, .int b] hPc hK hN).1, va_recv hK hPc (ci := 8) (q0 := 0) rfl rfl, (zR.pre [.ref h0, .int b] hPc hK hN).2⟩ rfl rfl hl.1 rfl (lv_room (Nat.le_of_ble_eq_true rfl)) dX8_givings_2 ⟨Nat.le_of_ble_eq_true rfl, Nat.le_of_ble_eq_true rfl⟩) (fun r1 hr1 => ?_)
  obtain rfl := hr1
  refine lv_if_eq (tgt := 15) hx hb dX8_givings_5 (by decide) (fun c2 => ?_) (fun c2 => ?_)
  · skip
    refine lv_ldc2 hx hb hown (hg _ mm_699) dX8_givings_15 ?_
    exact W.lret (v := (-1)) hx hb hr (fun t ht hW => ⟨(-1), rfl, rfl, ht⟩) (fun q hq => by cases hq) dX8_givings_18
  · skip
    exact absurd c2 (by decide)

set_option maxHeartbeats 4000000 in
set_option maxRecDepth 100000 in
theorem c_X8_odds (l : Launch) (g : zG) (h0 : Nat) (w0 : Value) (w1 : Value) (w2 : Value) (w3 : Value) (w4 : Value) (w5 : Value) (w6 : Value) (w7 : Value) (w8 : Value) (w9 : Value) (w10 : Value) (b : Int32) (i : Int32) (p0 : Int32) (kn : Int32) (wh : Int32) : Met l yX8_odds (zW yX8_odds cX8_odds 12 (some .long)) ({ frames := 2, cells := 0, slots := 0, locals := 43 }) (va_Pc [.ref h0, .int b, .int i, .int p0, .int kn, .int wh] (zR g [(h0, .inr (8, [w0, w1, w2, w3, w4, w5, w6, w7, w8, w9, w10, .int 0, .int 0]))])) (vp_Sl (fun r : Int64 => (r = (-1)))) 0 0 (fun _ => False) := by
  refine Met.ofW (cc := cX8_odds) (maxL := 12) (ret := (some .long)) (by decide) rfl ?_
  intro p e s m args below meth c s₁ B hml hv
  obtain ⟨rfl, hP, hK, hN⟩ := hv
  have hx := B.exec
  have hb := B.bytes
  have hr := B.returns
  have hg := zW.law (atoms_spec (ws := (zW yX8_odds cX8_odds 12 (some .long))) B.pre)
  have hown : s.vm.findClass RX8 = some m.cls := findClass_of_methodNamed B.named
  have hlocks := B.notSynchronized
  have hl := lv_entry ([.ref h0, .int b, .int i, .int p0, .int kn, .int wh]) (n := 12) (Nat.le_of_ble_eq_true rfl)
  rw [lg_entry_eq]
  generalize (lg_sl ([.ref h0, .int b, .int i, .int p0, .int kn, .int wh]) ++ List.replicate (12 - (lg_sl ([.ref h0, .int b, .int i, .int p0, .int kn, .int wh])).length) Slot.unset).toArray = ls at hl ⊢
  have hl : lv_has ls 12 [(0, .ref h0), (1, .int b), (2, .int i), (3, .int p0), (4, .int kn), (5, .int wh)] := hl
  refine lv_aload_n hx hb dX8_odds_0 rfl (lv_at hl 0 rfl) ?_
  refine lv_iload_n hx hb dX8_odds_1 rfl (lv_at hl 1 rfl) ?_
  refine lv_iload_n hx hb dX8_odds_2 rfl (lv_at hl 2 rfl) ?_
  have hPc := hP.sub (ws' := [(h0, .inr (8, [w0, w1, w2, w3, w4, w5, w6, w7, w8, w9, w10, .int 0, .int 0]))]) [0] rfl
  refine zc_i (va_runV (As := [.int b, .int i]) (rest := []) ⟨hx, hb, hml, hown, hg⟩ (c_X8_isLine l g h0 (w0 : Value) (w1 : Value) (w2 : Value) (w3 : Value) (w4 : Value) (w5 : Value) (w6 : Value) (w7 : Value) (w8 : Value) (w9 : Value) (w10 : Value) b i ) (cwV 2 hg (z_gV mm_587 mm_589 mm_19 mm_108 mm_590) rfl rfl rfl (by decide +kernel) ⟨Nat.le_of_ble_eq_true rfl, Nat.le_of_ble_eq_true rfl⟩) ⟨(zR.pre [.ref h0, .int b, .int i] hPc hK hN).1, va_recv hK hPc (ci := 8) (q0 := 0) rfl rfl, (zR.pre [.ref h0, .int b, .int i] hPc hK hN).2⟩ rfl rfl hl.1 rfl (lv_room (Nat.le_of_ble_eq_true rfl)) dX8_odds_3 ⟨Nat.le_of_ble_eq_true rfl, Nat.le_of_ble_eq_true rfl⟩) (fun r1 hr1 => ?_)
  obtain rfl := hr1
  refine lv_if_eq (tgt := 35) hx hb dX8_odds_6 (by decide) (fun c2 => ?_) (fun c2 => ?_)
  · skip
    refine lv_ldc2 hx hb hown (hg _ mm_699) dX8_odds_35 ?_
    exact W.lret (v := (-1)) hx hb hr (fun t ht hW => ⟨(-1), rfl, rfl, ht⟩) (fun q hq => by cases hq) dX8_odds_38
  · skip
    exact absurd c2 (by decide)
end
section
set_option maxHeartbeats 4000000 in
set_option maxRecDepth 100000 in
theorem c_X7_init (l : Launch) (g : zG) (sz : Nat) (h0 : Nat) : Met l yX7_init (zW yX7_init cX7_init 1 none) ({ frames := 1, cells := 1, slots := 200, locals := 12 }) (va_Pc [.ref h0] (zA g [(h0, .inr (7, [.int 0, .null]))] sz)) (va_Qv (fun (_ : Unit) => True) (fun _ t => ∃ (a1 : Nat), zP g [(h0, .inr (7, [.int 0, .ref a1])), (a1, .inl (g.2 0, 200, .inl (fun _ => 0)))] t.heap ∧ va_D (va_A [(h0, .inr (7, [.int 0, .null]))] sz) [(h0, .inr (7, [.int 0, .ref a1])), (a1, .inl (g.2 0, 200, .inl (fun _ => 0)))]) (va_A [(h0, .inr (7, [.int 0, .null]))] sz)) 1 200 (va_A [(h0, .inr (7, [.int 0, .null]))] sz) := by
  refine Met.ofW (cc := cX7_init) (maxL := 1) (ret := none) (by decide) rfl ?_
  intro p e s m args below meth c s₁ B hml hv
  obtain ⟨rfl, hsz, hP, hK, hD0, hN⟩ := hv
  have hx := B.exec
  have hb := B.bytes
  have hr := B.returns
  have hg := zW.law (atoms_spec (ws := (zW yX7_init cX7_init 1 none)) B.pre)
  have hown : s.vm.findClass RX7 = some m.cls := findClass_of_methodNamed B.named
  have hlocks := B.notSynchronized
  have hin : meth.name = "<init>" := (name_of_methodNamed B.named B.method).1
  subst hsz
  have hD := hD0.self (sz := s.heap.size)
  generalize hAe : va_A [(h0, .inr (7, [.int 0, .null]))] s.heap.size = A at hD ⊢
  have hA : ∀ q : Nat, s.heap.size ≤ q → A q := fun q h => by rw [← hAe]; exact Or.inr h
  have hS : va_S A s.heap s.heap [] := va_S.rf
  have hl := lv_entry ([.ref h0]) (n := 1) (Nat.le_of_ble_eq_true rfl)
  rw [lg_entry_eq]
  generalize (lg_sl ([.ref h0]) ++ List.replicate (1 - (lg_sl ([.ref h0])).length) Slot.unset).toArray = ls at hl ⊢
  have hl : lv_has ls 1 [(0, .ref h0)] := hl
  refine lv_aload_n hx hb dX7_init_0 rfl (lv_at hl 0 rfl) ?_
  refine W.objInit hx hb hown (hg _ mm_135) (hg _ mm_126) (hg _ mm_127) rfl (by rw [hml]; exact hl.1) rfl dX7_init_1 (Nat.le_of_ble_eq_true rfl) (Nat.le_of_ble_eq_true rfl) ?_
  refine W.eq (g2 := F0 m 4 ls []) rfl ?_
  refine lv_aload_n hx hb dX7_init_4 rfl (lv_at hl 0 rfl) ?_
  refine lv_iconst (v := 0) hx hb dX7_init_5 (by decide) ?_
  refine va_put (D := g.1) (ci := 7) (v := .int 0) (ty := .int) (C := RX7) (T := TX7) (N := 2) hx hb hg inG7 tyX7 tyX7_ok nmX7 hown hK hP hD hS 0 rfl rfl 0 (by decide) (hg _ mm_136) (fun _ h9 => h9) rfl (by decide +kernel) rfl rfl (Nat.le_of_ble_eq_true rfl) dX7_init_6 (fun H locs hP hD hS => ?_)
  have hP : zP g [(h0, .inr (7, [.int 0, .null]))] H := hP
  have hD : va_D A [(h0, .inr (7, [.int 0, .null]))] := hD
  refine lv_aload_n hx hb dX7_init_9 rfl (lv_at hl 0 rfl) ?_
  refine lv_sipush (v := 200) hx hb dX7_init_10 (by decide) ?_
  refine z_newI hx hb (hg _ mm_144) hK hP hD hS hA (n := 200) (N' := 200) (by decide) (by decide) (Nat.le_of_ble_eq_true rfl) (Nat.le_of_ble_eq_true rfl) (Nat.le_of_ble_eq_true rfl) dX7_init_13 (fun q1 H hP hD hS => ?_)
  refine W.widen (k := 1) (n := 200) (Nat.le_of_ble_eq_true rfl) (Nat.le_of_ble_eq_true rfl) ?_
  have hP : zP g [(h0, .inr (7, [.int 0, .null])), (q1, .inl (g.2 0, 200, .inl (fun _ => 0)))] H := hP
  have hD : va_D A [(h0, .inr (7, [.int 0, .null])), (q1, .inl (g.2 0, 200, .inl (fun _ => 0)))] := hD
  refine va_putF (D := g.1) (ci := 7) (v := .ref q1) (ty := .array (.int)) (C := RX7) (T := TX7) (N := 2) hx hb hg inG7 tyX7 tyX7_ok nmX7 hown hK hP hD hS 0 rfl rfl 1 (by decide) (hg _ mm_138) (fun _ h9 => h9) rfl hin rfl (by decide +kernel) rfl rfl (Nat.le_of_ble_eq_true rfl) dX7_init_15 (fun H locs hP hD hS => ?_)
  have hP : zP g [(h0, .inr (7, [.int 0, .ref q1])), (q1, .inl (g.2 0, 200, .inl (fun _ => 0)))] H := hP
  have hD : va_D A [(h0, .inr (7, [.int 0, .ref q1])), (q1, .inl (g.2 0, 200, .inl (fun _ => 0)))] := hD
  have hP9 := hP.sub (ws' := [(h0, .inr (7, [.int 0, .ref q1])), (q1, .inl (g.2 0, 200, .inl (fun _ => 0)))]) [0, 1] rfl
  have hD9 := hD.sub (ws' := [(h0, .inr (7, [.int 0, .ref q1])), (q1, .inl (g.2 0, 200, .inl (fun _ => 0)))]) [0, 1] (by decide) rfl
  refine W.widen (k := 1) (n := 200) (Nat.le_of_ble_eq_true rfl) (Nat.le_of_ble_eq_true rfl) ?_
  exact W.vret hx hb hr (fun t ht hW => ⟨⟨(), rfl, trivial, ⟨q1, by rw [ht]; exact hP9, hD9⟩⟩, hS.F ht⟩) hS.2.2 dX7_init_18

set_option maxHeartbeats 4000000 in
set_option maxRecDepth 100000 in
theorem c_X5_init (l : Launch) (g : zG) (sz : Nat) (h0 : Nat) : Met l yX5_init (zW yX5_init cX5_init 1 none) ({ frames := 1, cells := 2, slots := 80, locals := 12 }) (va_Pc [.ref h0] (zA g [(h0, .inr (5, [.int 0, .null, .null]))] sz)) (va_Qv (fun (_ : Unit) => True) (fun _ t => ∃ (a1 : Nat), ∃ (a2 : Nat), zP g [(h0, .inr (5, [.int 0, .ref a1, .ref a2]))] t.heap ∧ va_D (va_A [(h0, .inr (5, [.int 0, .null, .null]))] sz) [(h0, .inr (5, [.int 0, .ref a1, .ref a2]))]) (va_A [(h0, .inr (5, [.int 0, .null, .null]))] sz)) 2 80 (va_A [(h0, .inr (5, [.int 0, .null, .null]))] sz) := by
  refine Met.ofW (cc := cX5_init) (maxL := 1) (ret := none) (by decide) rfl ?_
  intro p e s m args below meth c s₁ B hml hv
  obtain ⟨rfl, hsz, hP, hK, hD0, hN⟩ := hv
  have hx := B.exec
  have hb := B.bytes
  have hr := B.returns
  have hg := zW.law (atoms_spec (ws := (zW yX5_init cX5_init 1 none)) B.pre)
  have hown : s.vm.findClass RX5 = some m.cls := findClass_of_methodNamed B.named
  have hlocks := B.notSynchronized
  have hin : meth.name = "<init>" := (name_of_methodNamed B.named B.method).1
  subst hsz
  have hD := hD0.self (sz := s.heap.size)
  generalize hAe : va_A [(h0, .inr (5, [.int 0, .null, .null]))] s.heap.size = A at hD ⊢
  have hA : ∀ q : Nat, s.heap.size ≤ q → A q := fun q h => by rw [← hAe]; exact Or.inr h
  have hS : va_S A s.heap s.heap [] := va_S.rf
  have hl := lv_entry ([.ref h0]) (n := 1) (Nat.le_of_ble_eq_true rfl)
  rw [lg_entry_eq]
  generalize (lg_sl ([.ref h0]) ++ List.replicate (1 - (lg_sl ([.ref h0])).length) Slot.unset).toArray = ls at hl ⊢
  have hl : lv_has ls 1 [(0, .ref h0)] := hl
  refine lv_aload_n hx hb dX5_init_0 rfl (lv_at hl 0 rfl) ?_
  refine W.objInit hx hb hown (hg _ mm_152) (hg _ mm_126) (hg _ mm_127) rfl (by rw [hml]; exact hl.1) rfl dX5_init_1 (Nat.le_of_ble_eq_true rfl) (Nat.le_of_ble_eq_true rfl) ?_
  refine W.eq (g2 := F0 m 4 ls []) rfl ?_
  refine lv_aload_n hx hb dX5_init_4 rfl (lv_at hl 0 rfl) ?_
  refine lv_iconst (v := 0) hx hb dX5_init_5 (by decide) ?_
  refine va_put (D := g.1) (ci := 5) (v := .int 0) (ty := .int) (C := RX5) (T := TX5) (N := 3) hx hb hg inG5 tyX5 tyX5_ok nmX5 hown hK hP hD hS 0 rfl rfl 0 (by decide) (hg _ mm_153) (fun _ h9 => h9) rfl (by decide +kernel) rfl rfl (Nat.le_of_ble_eq_true rfl) dX5_init_6 (fun H locs hP hD hS => ?_)
  have hP : zP g [(h0, .inr (5, [.int 0, .null, .null]))] H := hP
  have hD : va_D A [(h0, .inr (5, [.int 0, .null, .null]))] := hD
  refine lv_aload_n hx hb dX5_init_9 rfl (lv_at hl 0 rfl) ?_
  refine lv_bipush (v := 40) hx hb dX5_init_10 (by decide) ?_
  refine z_newI hx hb (hg _ mm_144) hK hP hD hS hA (n := 40) (N' := 40) (by decide) (by decide) (Nat.le_of_ble_eq_true rfl) (Nat.le_of_ble_eq_true rfl) (Nat.le_of_ble_eq_true rfl) dX5_init_12 (fun q1 H hP hD hS => ?_)
  refine W.widen (k := 1) (n := 40) (Nat.le_of_ble_eq_true rfl) (Nat.le_of_ble_eq_true rfl) ?_
  have hP : zP g [(h0, .inr (5, [.int 0, .null, .null])), (q1, .inl (g.2 0, 40, .inl (fun _ => 0)))] H := hP
  have hD : va_D A [(h0, .inr (5, [.int 0, .null, .null])), (q1, .inl (g.2 0, 40, .inl (fun _ => 0)))] := hD
  refine va_putF (D := g.1) (ci := 5) (v := .ref q1) (ty := .array (.int)) (C := RX5) (T := TX5) (N := 3) hx hb hg inG5 tyX5 tyX5_ok nmX5 hown hK hP hD hS 0 rfl rfl 1 (by decide) (hg _ mm_155) (fun _ h9 => h9) rfl hin rfl (by decide +kernel) rfl rfl (Nat.le_of_ble_eq_true rfl) dX5_init_14 (fun H locs hP hD hS => ?_)
  have hP : zP g [(h0, .inr (5, [.int 0, .ref q1, .null])), (q1, .inl (g.2 0, 40, .inl (fun _ => 0)))] H := hP
  have hD : va_D A [(h0, .inr (5, [.int 0, .ref q1, .null])), (q1, .inl (g.2 0, 40, .inl (fun _ => 0)))] := hD
  refine lv_aload_n hx hb dX5_init_17 rfl (lv_at hl 0 rfl) ?_
  refine lv_bipush (v := 40) hx hb dX5_init_18 (by decide) ?_
  refine z_newI hx hb (hg _ mm_144) hK hP hD hS hA (n := 40) (N' := 40) (by decide) (by decide) (Nat.le_of_ble_eq_true rfl) (Nat.le_of_ble_eq_true rfl) (Nat.le_of_ble_eq_true rfl) dX5_init_20 (fun q2 H hP hD hS => ?_)
  refine W.widen (k := 2) (n := 80) (Nat.le_of_ble_eq_true rfl) (Nat.le_of_ble_eq_true rfl) ?_
  have hP : zP g [(h0, .inr (5, [.int 0, .ref q1, .null])), (q1, .inl (g.2 0, 40, .inl (fun _ => 0))), (q2, .inl (g.2 0, 40, .inl (fun _ => 0)))] H := hP
  have hD : va_D A [(h0, .inr (5, [.int 0, .ref q1, .null])), (q1, .inl (g.2 0, 40, .inl (fun _ => 0))), (q2, .inl (g.2 0, 40, .inl (fun _ => 0)))] := hD
  refine va_putF (D := g.1) (ci := 5) (v := .ref q2) (ty := .array (.int)) (C := RX5) (T := TX5) (N := 3) hx hb hg inG5 tyX5 tyX5_ok nmX5 hown hK hP hD hS 0 rfl rfl 2 (by decide) (hg _ mm_156) (fun _ h9 => h9) rfl hin rfl (by decide +kernel) rfl rfl (Nat.le_of_ble_eq_true rfl) dX5_init_22 (fun H locs hP hD hS => ?_)
  have hP : zP g [(h0, .inr (5, [.int 0, .ref q1, .ref q2])), (q1, .inl (g.2 0, 40, .inl (fun _ => 0))), (q2, .inl (g.2 0, 40, .inl (fun _ => 0)))] H := hP
  have hD : va_D A [(h0, .inr (5, [.int 0, .ref q1, .ref q2])), (q1, .inl (g.2 0, 40, .inl (fun _ => 0))), (q2, .inl (g.2 0, 40, .inl (fun _ => 0)))] := hD
  have hP9 := hP.sub (ws' := [(h0, .inr (5, [.int 0, .ref q1, .ref q2]))]) [0] rfl
  have hD9 := hD.sub (ws' := [(h0, .inr (5, [.int 0, .ref q1, .ref q2]))]) [0] (by decide) rfl
  refine W.widen (k := 2) (n := 80) (Nat.le_of_ble_eq_true rfl) (Nat.le_of_ble_eq_true rfl) ?_
  exact W.vret hx hb hr (fun t ht hW => ⟨⟨(), rfl, trivial, ⟨q1, q2, by rw [ht]; exact hP9, hD9⟩⟩, hS.F ht⟩) hS.2.2 dX5_init_25

set_option maxHeartbeats 4000000 in
set_option maxRecDepth 100000 in
theorem c_X6_init (l : Launch) (g : zG) (sz : Nat) (h0 : Nat) : Met l yX6_init (zW yX6_init cX6_init 1 none) ({ frames := 1, cells := 6, slots := 544, locals := 12 }) (va_Pc [.ref h0] (zA g [(h0, .inr (6, [.int 0, .int 0, .int 0, .int 0, .null, .null, .null, .null, .null, .null]))] sz)) (va_Qv (fun (_ : Unit) => True) (fun _ t => zP g [] t.heap ∧ va_D (va_A [(h0, .inr (6, [.int 0, .int 0, .int 0, .int 0, .null, .null, .null, .null, .null, .null]))] sz) []) (va_A [(h0, .inr (6, [.int 0, .int 0, .int 0, .int 0, .null, .null, .null, .null, .null, .null]))] sz)) 6 544 (va_A [(h0, .inr (6, [.int 0, .int 0, .int 0, .int 0, .null, .null, .null, .null, .null, .null]))] sz) := by
  refine Met.ofW (cc := cX6_init) (maxL := 1) (ret := none) (by decide) rfl ?_
  intro p e s m args below meth c s₁ B hml hv
  obtain ⟨rfl, hsz, hP, hK, hD0, hN⟩ := hv
  have hx := B.exec
  have hb := B.bytes
  have hr := B.returns
  have hg := zW.law (atoms_spec (ws := (zW yX6_init cX6_init 1 none)) B.pre)
  have hown : s.vm.findClass RX6 = some m.cls := findClass_of_methodNamed B.named
  have hlocks := B.notSynchronized
  have hin : meth.name = "<init>" := (name_of_methodNamed B.named B.method).1
  subst hsz
  have hD := hD0.self (sz := s.heap.size)
  generalize hAe : va_A [(h0, .inr (6, [.int 0, .int 0, .int 0, .int 0, .null, .null, .null, .null, .null, .null]))] s.heap.size = A at hD ⊢
  have hA : ∀ q : Nat, s.heap.size ≤ q → A q := fun q h => by rw [← hAe]; exact Or.inr h
  have hS : va_S A s.heap s.heap [] := va_S.rf
  have hl := lv_entry ([.ref h0]) (n := 1) (Nat.le_of_ble_eq_true rfl)
  rw [lg_entry_eq]
  generalize (lg_sl ([.ref h0]) ++ List.replicate (1 - (lg_sl ([.ref h0])).length) Slot.unset).toArray = ls at hl ⊢
  have hl : lv_has ls 1 [(0, .ref h0)] := hl
  refine lv_aload_n hx hb dX6_init_0 rfl (lv_at hl 0 rfl) ?_
  refine W.objInit hx hb hown (hg _ mm_171) (hg _ mm_126) (hg _ mm_127) rfl (by rw [hml]; exact hl.1) rfl dX6_init_1 (Nat.le_of_ble_eq_true rfl) (Nat.le_of_ble_eq_true rfl) ?_
  refine W.eq (g2 := F0 m 4 ls []) rfl ?_
  refine lv_aload_n hx hb dX6_init_4 rfl (lv_at hl 0 rfl) ?_
  refine lv_iconst (v := 0) hx hb dX6_init_5 (by decide) ?_
  refine va_put (D := g.1) (ci := 6) (v := .int 0) (ty := .int) (C := RX6) (T := TX6) (N := 10) hx hb hg inG6 tyX6 tyX6_ok nmX6 hown hK hP hD hS 0 rfl rfl 0 (by decide) (hg _ mm_172) (fun _ h9 => h9) rfl (by decide +kernel) rfl rfl (Nat.le_of_ble_eq_true rfl) dX6_init_6 (fun H locs hP hD hS => ?_)
  have hP : zP g [(h0, .inr (6, [.int 0, .int 0, .int 0, .int 0, .null, .null, .null, .null, .null, .null]))] H := hP
  have hD : va_D A [(h0, .inr (6, [.int 0, .int 0, .int 0, .int 0, .null, .null, .null, .null, .null, .null]))] := hD
  refine lv_aload_n hx hb dX6_init_9 rfl (lv_at hl 0 rfl) ?_
  refine lv_iconst (v := 0) hx hb dX6_init_10 (by decide) ?_
  refine va_put (D := g.1) (ci := 6) (v := .int 0) (ty := .int) (C := RX6) (T := TX6) (N := 10) hx hb hg inG6 tyX6 tyX6_ok nmX6 hown hK hP hD hS 0 rfl rfl 1 (by decide) (hg _ mm_174) (fun _ h9 => h9) rfl (by decide +kernel) rfl rfl (Nat.le_of_ble_eq_true rfl) dX6_init_11 (fun H locs hP hD hS => ?_)
  have hP : zP g [(h0, .inr (6, [.int 0, .int 0, .int 0, .int 0, .null, .null, .null, .null, .null, .null]))] H := hP
  have hD : va_D A [(h0, .inr (6, [.int 0, .int 0, .int 0, .int 0, .null, .null, .null, .null, .null, .null]))] := hD
  refine lv_aload_n hx hb dX6_init_14 rfl (lv_at hl 0 rfl) ?_
  refine lv_iconst (v := 0) hx hb dX6_init_15 (by decide) ?_
  refine va_put (D := g.1) (ci := 6) (v := .int 0) (ty := .int) (C := RX6) (T := TX6) (N := 10) hx hb hg inG6 tyX6 tyX6_ok nmX6 hown hK hP hD hS 0 rfl rfl 2 (by decide) (hg _ mm_176) (fun _ h9 => h9) rfl (by decide +kernel) rfl rfl (Nat.le_of_ble_eq_true rfl) dX6_init_16 (fun H locs hP hD hS => ?_)
  have hP : zP g [(h0, .inr (6, [.int 0, .int 0, .int 0, .int 0, .null, .null, .null, .null, .null, .null]))] H := hP
  have hD : va_D A [(h0, .inr (6, [.int 0, .int 0, .int 0, .int 0, .null, .null, .null, .null, .null, .null]))] := hD
  refine lv_aload_n hx hb dX6_init_19 rfl (lv_at hl 0 rfl) ?_
  refine lv_iconst (v := 0) hx hb dX6_init_20 (by decide) ?_
  refine va_put (D := g.1) (ci := 6) (v := .int 0) (ty := .int) (C := RX6) (T := TX6) (N := 10) hx hb hg inG6 tyX6 tyX6_ok nmX6 hown hK hP hD hS 0 rfl rfl 3 (by decide) (hg _ mm_178) (fun _ h9 => h9) rfl (by decide +kernel) rfl rfl (Nat.le_of_ble_eq_true rfl) dX6_init_21 (fun H locs hP hD hS => ?_)
  have hP : zP g [(h0, .inr (6, [.int 0, .int 0, .int 0, .int 0, .null, .null, .null, .null, .null, .null]))] H := hP
  have hD : va_D A [(h0, .inr (6, [.int 0, .int 0, .int 0, .int 0, .null, .null, .null, .null, .null, .null]))] := hD
  refine lv_aload_n hx hb dX6_init_24 rfl (lv_at hl 0 rfl) ?_
  refine lv_bipush (v := 8) hx hb dX6_init_25 (by decide) ?_
  refine z_newI hx hb (hg _ mm_144) hK hP hD hS hA (n := 8) (N' := 8) (by decide) (by decide) (Nat.le_of_ble_eq_true rfl) (Nat.le_of_ble_eq_true rfl) (Nat.le_of_ble_eq_true rfl) dX6_init_27 (fun q1 H hP hD hS => ?_)
  refine W.widen (k := 1) (n := 8) (Nat.le_of_ble_eq_true rfl) (Nat.le_of_ble_eq_true rfl) ?_
  have hP : zP g [(h0, .inr (6, [.int 0, .int 0, .int 0, .int 0, .null, .null, .null, .null, .null, .null])), (q1, .inl (g.2 0, 8, .inl (fun _ => 0)))] H := hP
  have hD : va_D A [(h0, .inr (6, [.int 0, .int 0, .int 0, .int 0, .null, .null, .null, .null, .null, .null])), (q1, .inl (g.2 0, 8, .inl (fun _ => 0)))] := hD
  refine va_putF (D := g.1) (ci := 6) (v := .ref q1) (ty := .array (.int)) (C := RX6) (T := TX6) (N := 10) hx hb hg inG6 tyX6 tyX6_ok nmX6 hown hK hP hD hS 0 rfl rfl 4 (by decide) (hg _ mm_180) (fun _ h9 => h9) rfl hin rfl (by decide +kernel) rfl rfl (Nat.le_of_ble_eq_true rfl) dX6_init_29 (fun H locs hP hD hS => ?_)
  have hP : zP g [(h0, .inr (6, [.int 0, .int 0, .int 0, .int 0, .ref q1, .null, .null, .null, .null, .null])), (q1, .inl (g.2 0, 8, .inl (fun _ => 0)))] H := hP
  have hD : va_D A [(h0, .inr (6, [.int 0, .int 0, .int 0, .int 0, .ref q1, .null, .null, .null, .null, .null])), (q1, .inl (g.2 0, 8, .inl (fun _ => 0)))] := hD
  refine lv_aload_n hx hb dX6_init_32 rfl (lv_at hl 0 rfl) ?_
  refine lv_bipush (v := 8) hx hb dX6_init_33 (by decide) ?_
  refine z_newI hx hb (hg _ mm_144) hK hP hD hS hA (n := 8) (N' := 8) (by decide) (by decide) (Nat.le_of_ble_eq_true rfl) (Nat.le_of_ble_eq_true rfl) (Nat.le_of_ble_eq_true rfl) dX6_init_35 (fun q2 H hP hD hS => ?_)
  refine W.widen (k := 2) (n := 16) (Nat.le_of_ble_eq_true rfl) (Nat.le_of_ble_eq_true rfl) ?_
  have hP : zP g [(h0, .inr (6, [.int 0, .int 0, .int 0, .int 0, .ref q1, .null, .null, .null, .null, .null])), (q1, .inl (g.2 0, 8, .inl (fun _ => 0))), (q2, .inl (g.2 0, 8, .inl (fun _ => 0)))] H := hP
  have hD : va_D A [(h0, .inr (6, [.int 0, .int 0, .int 0, .int 0, .ref q1, .null, .null, .null, .null, .null])), (q1, .inl (g.2 0, 8, .inl (fun _ => 0))), (q2, .inl (g.2 0, 8, .inl (fun _ => 0)))] := hD
  refine va_putF (D := g.1) (ci := 6) (v := .ref q2) (ty := .array (.int)) (C := RX6) (T := TX6) (N := 10) hx hb hg inG6 tyX6 tyX6_ok nmX6 hown hK hP hD hS 0 rfl rfl 5 (by decide) (hg _ mm_182) (fun _ h9 => h9) rfl hin rfl (by decide +kernel) rfl rfl (Nat.le_of_ble_eq_true rfl) dX6_init_37 (fun H locs hP hD hS => ?_)
  have hP : zP g [(h0, .inr (6, [.int 0, .int 0, .int 0, .int 0, .ref q1, .ref q2, .null, .null, .null, .null])), (q1, .inl (g.2 0, 8, .inl (fun _ => 0))), (q2, .inl (g.2 0, 8, .inl (fun _ => 0)))] H := hP
  have hD : va_D A [(h0, .inr (6, [.int 0, .int 0, .int 0, .int 0, .ref q1, .ref q2, .null, .null, .null, .null])), (q1, .inl (g.2 0, 8, .inl (fun _ => 0))), (q2, .inl (g.2 0, 8, .inl (fun _ => 0)))] := hD
  refine lv_aload_n hx hb dX6_init_40 rfl (lv_at hl 0 rfl) ?_
  refine lv_bipush (v := 8) hx hb dX6_init_41 (by decide) ?_
  refine z_newI hx hb (hg _ mm_144) hK hP hD hS hA (n := 8) (N' := 8) (by decide) (by decide) (Nat.le_of_ble_eq_true rfl) (Nat.le_of_ble_eq_true rfl) (Nat.le_of_ble_eq_true rfl) dX6_init_43 (fun q3 H hP hD hS => ?_)
  refine W.widen (k := 3) (n := 24) (Nat.le_of_ble_eq_true rfl) (Nat.le_of_ble_eq_true rfl) ?_
  have hP : zP g [(h0, .inr (6, [.int 0, .int 0, .int 0, .int 0, .ref q1, .ref q2, .null, .null, .null, .null])), (q1, .inl (g.2 0, 8, .inl (fun _ => 0))), (q2, .inl (g.2 0, 8, .inl (fun _ => 0))), (q3, .inl (g.2 0, 8, .inl (fun _ => 0)))] H := hP
  have hD : va_D A [(h0, .inr (6, [.int 0, .int 0, .int 0, .int 0, .ref q1, .ref q2, .null, .null, .null, .null])), (q1, .inl (g.2 0, 8, .inl (fun _ => 0))), (q2, .inl (g.2 0, 8, .inl (fun _ => 0))), (q3, .inl (g.2 0, 8, .inl (fun _ => 0)))] := hD
  refine va_putF (D := g.1) (ci := 6) (v := .ref q3) (ty := .array (.int)) (C := RX6) (T := TX6) (N := 10) hx hb hg inG6 tyX6 tyX6_ok nmX6 hown hK hP hD hS 0 rfl rfl 6 (by decide) (hg _ mm_184) (fun _ h9 => h9) rfl hin rfl (by decide +kernel) rfl rfl (Nat.le_of_ble_eq_true rfl) dX6_init_45 (fun H locs hP hD hS => ?_)
  have hP : zP g [(h0, .inr (6, [.int 0, .int 0, .int 0, .int 0, .ref q1, .ref q2, .ref q3, .null, .null, .null])), (q1, .inl (g.2 0, 8, .inl (fun _ => 0))), (q2, .inl (g.2 0, 8, .inl (fun _ => 0))), (q3, .inl (g.2 0, 8, .inl (fun _ => 0)))] H := hP
  have hD : va_D A [(h0, .inr (6, [.int 0, .int 0, .int 0, .int 0, .ref q1, .ref q2, .ref q3, .null, .null, .null])), (q1, .inl (g.2 0, 8, .inl (fun _ => 0))), (q2, .inl (g.2 0, 8, .inl (fun _ => 0))), (q3, .inl (g.2 0, 8, .inl (fun _ => 0)))] := hD
  refine lv_aload_n hx hb dX6_init_48 rfl (lv_at hl 0 rfl) ?_
  refine lv_sipush (v := 256) hx hb dX6_init_49 (by decide) ?_
  refine z_newI hx hb (hg _ mm_144) hK hP hD hS hA (n := 256) (N' := 256) (by decide) (by decide) (Nat.le_of_ble_eq_true rfl) (Nat.le_of_ble_eq_true rfl) (Nat.le_of_ble_eq_true rfl) dX6_init_52 (fun q4 H hP hD hS => ?_)
  refine W.widen (k := 4) (n := 280) (Nat.le_of_ble_eq_true rfl) (Nat.le_of_ble_eq_true rfl) ?_
  have hP : zP g [(h0, .inr (6, [.int 0, .int 0, .int 0, .int 0, .ref q1, .ref q2, .ref q3, .null, .null, .null])), (q1, .inl (g.2 0, 8, .inl (fun _ => 0))), (q2, .inl (g.2 0, 8, .inl (fun _ => 0))), (q3, .inl (g.2 0, 8, .inl (fun _ => 0))), (q4, .inl (g.2 0, 256, .inl (fun _ => 0)))] H := hP
  have hD : va_D A [(h0, .inr (6, [.int 0, .int 0, .int 0, .int 0, .ref q1, .ref q2, .ref q3, .null, .null, .null])), (q1, .inl (g.2 0, 8, .inl (fun _ => 0))), (q2, .inl (g.2 0, 8, .inl (fun _ => 0))), (q3, .inl (g.2 0, 8, .inl (fun _ => 0))), (q4, .inl (g.2 0, 256, .inl (fun _ => 0)))] := hD
  refine va_putF (D := g.1) (ci := 6) (v := .ref q4) (ty := .array (.int)) (C := RX6) (T := TX6) (N := 10) hx hb hg inG6 tyX6 tyX6_ok nmX6 hown hK hP hD hS 0 rfl rfl 7 (by decide) (hg _ mm_186) (fun _ h9 => h9) rfl hin rfl (by decide +kernel) rfl rfl (Nat.le_of_ble_eq_true rfl) dX6_init_54 (fun H locs hP hD hS => ?_)
  have hP : zP g [(h0, .inr (6, [.int 0, .int 0, .int 0, .int 0, .ref q1, .ref q2, .ref q3, .ref q4, .null, .null])), (q1, .inl (g.2 0, 8, .inl (fun _ => 0))), (q2, .inl (g.2 0, 8, .inl (fun _ => 0))), (q3, .inl (g.2 0, 8, .inl (fun _ => 0))), (q4, .inl (g.2 0, 256, .inl (fun _ => 0)))] H := hP
  have hD : va_D A [(h0, .inr (6, [.int 0, .int 0, .int 0, .int 0, .ref q1, .ref q2, .ref q3, .ref q4, .null, .null])), (q1, .inl (g.2 0, 8, .inl (fun _ => 0))), (q2, .inl (g.2 0, 8, .inl (fun _ => 0))), (q3, .inl (g.2 0, 8, .inl (fun _ => 0))), (q4, .inl (g.2 0, 256, .inl (fun _ => 0)))] := hD
  refine lv_aload_n hx hb dX6_init_57 rfl (lv_at hl 0 rfl) ?_
  refine lv_sipush (v := 256) hx hb dX6_init_58 (by decide) ?_
  refine z_newJ hx hb (hg _ mm_210) hK hP hD hS hA (n := 256) (N' := 256) (by decide) (by decide) (Nat.le_of_ble_eq_true rfl) (Nat.le_of_ble_eq_true rfl) (Nat.le_of_ble_eq_true rfl) dX6_init_61 (fun q5 H hP hD hS => ?_)
  refine W.widen (k := 5) (n := 536) (Nat.le_of_ble_eq_true rfl) (Nat.le_of_ble_eq_true rfl) ?_
  have hP : zP g [(h0, .inr (6, [.int 0, .int 0, .int 0, .int 0, .ref q1, .ref q2, .ref q3, .ref q4, .null, .null])), (q1, .inl (g.2 0, 8, .inl (fun _ => 0))), (q2, .inl (g.2 0, 8, .inl (fun _ => 0))), (q3, .inl (g.2 0, 8, .inl (fun _ => 0))), (q4, .inl (g.2 0, 256, .inl (fun _ => 0))), (q5, .inl (g.2 1, 256, .inr (.inl (fun _ => 0))))] H := hP
  have hD : va_D A [(h0, .inr (6, [.int 0, .int 0, .int 0, .int 0, .ref q1, .ref q2, .ref q3, .ref q4, .null, .null])), (q1, .inl (g.2 0, 8, .inl (fun _ => 0))), (q2, .inl (g.2 0, 8, .inl (fun _ => 0))), (q3, .inl (g.2 0, 8, .inl (fun _ => 0))), (q4, .inl (g.2 0, 256, .inl (fun _ => 0))), (q5, .inl (g.2 1, 256, .inr (.inl (fun _ => 0))))] := hD
  refine va_putF (D := g.1) (ci := 6) (v := .ref q5) (ty := .array (.long)) (C := RX6) (T := TX6) (N := 10) hx hb hg inG6 tyX6 tyX6_ok nmX6 hown hK hP hD hS 0 rfl rfl 8 (by decide) (hg _ mm_187) (fun _ h9 => h9) rfl hin rfl (by decide +kernel) rfl rfl (Nat.le_of_ble_eq_true rfl) dX6_init_63 (fun H locs hP hD hS => ?_)
  have hP : zP g [(h0, .inr (6, [.int 0, .int 0, .int 0, .int 0, .ref q1, .ref q2, .ref q3, .ref q4, .ref q5, .null])), (q1, .inl (g.2 0, 8, .inl (fun _ => 0))), (q2, .inl (g.2 0, 8, .inl (fun _ => 0))), (q3, .inl (g.2 0, 8, .inl (fun _ => 0))), (q4, .inl (g.2 0, 256, .inl (fun _ => 0))), (q5, .inl (g.2 1, 256, .inr (.inl (fun _ => 0))))] H := hP
  have hD : va_D A [(h0, .inr (6, [.int 0, .int 0, .int 0, .int 0, .ref q1, .ref q2, .ref q3, .ref q4, .ref q5, .null])), (q1, .inl (g.2 0, 8, .inl (fun _ => 0))), (q2, .inl (g.2 0, 8, .inl (fun _ => 0))), (q3, .inl (g.2 0, 8, .inl (fun _ => 0))), (q4, .inl (g.2 0, 256, .inl (fun _ => 0))), (q5, .inl (g.2 1, 256, .inr (.inl (fun _ => 0))))] := hD
  refine lv_aload_n hx hb dX6_init_66 rfl (lv_at hl 0 rfl) ?_
  refine lv_bipush (v := 8) hx hb dX6_init_67 (by decide) ?_
  refine z_newI hx hb (hg _ mm_144) hK hP hD hS hA (n := 8) (N' := 8) (by decide) (by decide) (Nat.le_of_ble_eq_true rfl) (Nat.le_of_ble_eq_true rfl) (Nat.le_of_ble_eq_true rfl) dX6_init_69 (fun q6 H hP hD hS => ?_)
  refine W.widen (k := 6) (n := 544) (Nat.le_of_ble_eq_true rfl) (Nat.le_of_ble_eq_true rfl) ?_
  have hP : zP g [(h0, .inr (6, [.int 0, .int 0, .int 0, .int 0, .ref q1, .ref q2, .ref q3, .ref q4, .ref q5, .null])), (q1, .inl (g.2 0, 8, .inl (fun _ => 0))), (q2, .inl (g.2 0, 8, .inl (fun _ => 0))), (q3, .inl (g.2 0, 8, .inl (fun _ => 0))), (q4, .inl (g.2 0, 256, .inl (fun _ => 0))), (q5, .inl (g.2 1, 256, .inr (.inl (fun _ => 0)))), (q6, .inl (g.2 0, 8, .inl (fun _ => 0)))] H := hP
  have hD : va_D A [(h0, .inr (6, [.int 0, .int 0, .int 0, .int 0, .ref q1, .ref q2, .ref q3, .ref q4, .ref q5, .null])), (q1, .inl (g.2 0, 8, .inl (fun _ => 0))), (q2, .inl (g.2 0, 8, .inl (fun _ => 0))), (q3, .inl (g.2 0, 8, .inl (fun _ => 0))), (q4, .inl (g.2 0, 256, .inl (fun _ => 0))), (q5, .inl (g.2 1, 256, .inr (.inl (fun _ => 0)))), (q6, .inl (g.2 0, 8, .inl (fun _ => 0)))] := hD
  refine va_putF (D := g.1) (ci := 6) (v := .ref q6) (ty := .array (.int)) (C := RX6) (T := TX6) (N := 10) hx hb hg inG6 tyX6 tyX6_ok nmX6 hown hK hP hD hS 0 rfl rfl 9 (by decide) (hg _ mm_188) (fun _ h9 => h9) rfl hin rfl (by decide +kernel) rfl rfl (Nat.le_of_ble_eq_true rfl) dX6_init_71 (fun H locs hP hD hS => ?_)
  have hP : zP g [(h0, .inr (6, [.int 0, .int 0, .int 0, .int 0, .ref q1, .ref q2, .ref q3, .ref q4, .ref q5, .ref q6])), (q1, .inl (g.2 0, 8, .inl (fun _ => 0))), (q2, .inl (g.2 0, 8, .inl (fun _ => 0))), (q3, .inl (g.2 0, 8, .inl (fun _ => 0))), (q4, .inl (g.2 0, 256, .inl (fun _ => 0))), (q5, .inl (g.2 1, 256, .inr (.inl (fun _ => 0)))), (q6, .inl (g.2 0, 8, .inl (fun _ => 0)))] H := hP
  have hD : va_D A [(h0, .inr (6, [.int 0, .int 0, .int 0, .int 0, .ref q1, .ref q2, .ref q3, .ref q4, .ref q5, .ref q6])), (q1, .inl (g.2 0, 8, .inl (fun _ => 0))), (q2, .inl (g.2 0, 8, .inl (fun _ => 0))), (q3, .inl (g.2 0, 8, .inl (fun _ => 0))), (q4, .inl (g.2 0, 256, .inl (fun _ => 0))), (q5, .inl (g.2 1, 256, .inr (.inl (fun _ => 0)))), (q6, .inl (g.2 0, 8, .inl (fun _ => 0)))] := hD
  have hP9 := hP.sub (ws' := []) [] rfl
  have hD9 := hD.sub (ws' := []) [] (by decide) rfl
  refine W.widen (k := 6) (n := 544) (Nat.le_of_ble_eq_true rfl) (Nat.le_of_ble_eq_true rfl) ?_
  exact W.vret hx hb hr (fun t ht hW => ⟨⟨(), rfl, trivial, ⟨by rw [ht]; exact hP9, hD9⟩⟩, hS.F ht⟩) hS.2.2 dX6_init_74

set_option maxHeartbeats 4000000 in
set_option maxRecDepth 100000 in
theorem c_X0_init (l : Launch) (g : zG) (sz : Nat) (h0 : Nat) : Met l yX0_init (zW yX0_init cX0_init 1 none) ({ frames := 1, cells := 3, slots := 146, locals := 12 }) (va_Pc [.ref h0] (zA g [(h0, .inr (0, [.null, .int 0, .null, .null, .int 0]))] sz)) (va_Qv (fun (_ : Unit) => True) (fun _ t => ∃ (a1 : Nat), ∃ (a2 : Nat), ∃ (a3 : Nat), zP g [(h0, .inr (0, [.ref a1, .int 0, .ref a2, .ref a3, .int 1]))] t.heap ∧ va_D (va_A [(h0, .inr (0, [.null, .int 0, .null, .null, .int 0]))] sz) [(h0, .inr (0, [.ref a1, .int 0, .ref a2, .ref a3, .int 1]))]) (va_A [(h0, .inr (0, [.null, .int 0, .null, .null, .int 0]))] sz)) 3 146 (va_A [(h0, .inr (0, [.null, .int 0, .null, .null, .int 0]))] sz) := by
  refine Met.ofW (cc := cX0_init) (maxL := 1) (ret := none) (by decide) rfl ?_
  intro p e s m args below meth c s₁ B hml hv
  obtain ⟨rfl, hsz, hP, hK, hD0, hN⟩ := hv
  have hx := B.exec
  have hb := B.bytes
  have hr := B.returns
  have hg := zW.law (atoms_spec (ws := (zW yX0_init cX0_init 1 none)) B.pre)
  have hown : s.vm.findClass RX0 = some m.cls := findClass_of_methodNamed B.named
  have hlocks := B.notSynchronized
  have hin : meth.name = "<init>" := (name_of_methodNamed B.named B.method).1
  subst hsz
  have hD := hD0.self (sz := s.heap.size)
  generalize hAe : va_A [(h0, .inr (0, [.null, .int 0, .null, .null, .int 0]))] s.heap.size = A at hD ⊢
  have hA : ∀ q : Nat, s.heap.size ≤ q → A q := fun q h => by rw [← hAe]; exact Or.inr h
  have hS : va_S A s.heap s.heap [] := va_S.rf
  have hl := lv_entry ([.ref h0]) (n := 1) (Nat.le_of_ble_eq_true rfl)
  rw [lg_entry_eq]
  generalize (lg_sl ([.ref h0]) ++ List.replicate (1 - (lg_sl ([.ref h0])).length) Slot.unset).toArray = ls at hl ⊢
  have hl : lv_has ls 1 [(0, .ref h0)] := hl
  refine lv_aload_n hx hb dX0_init_0 rfl (lv_at hl 0 rfl) ?_
  refine W.objInit hx hb hown (hg _ mm_216) (hg _ mm_126) (hg _ mm_127) rfl (by rw [hml]; exact hl.1) rfl dX0_init_1 (Nat.le_of_ble_eq_true rfl) (Nat.le_of_ble_eq_true rfl) ?_
  refine W.eq (g2 := F0 m 4 ls []) rfl ?_
  refine lv_aload_n hx hb dX0_init_4 rfl (lv_at hl 0 rfl) ?_
  refine lv_sipush (v := 128) hx hb dX0_init_5 (by decide) ?_
  refine z_newI hx hb (hg _ mm_144) hK hP hD hS hA (n := 128) (N' := 128) (by decide) (by decide) (Nat.le_of_ble_eq_true rfl) (Nat.le_of_ble_eq_true rfl) (Nat.le_of_ble_eq_true rfl) dX0_init_8 (fun q1 H hP hD hS => ?_)
  refine W.widen (k := 1) (n := 128) (Nat.le_of_ble_eq_true rfl) (Nat.le_of_ble_eq_true rfl) ?_
  have hP : zP g [(h0, .inr (0, [.null, .int 0, .null, .null, .int 0])), (q1, .inl (g.2 0, 128, .inl (fun _ => 0)))] H := hP
  have hD : va_D A [(h0, .inr (0, [.null, .int 0, .null, .null, .int 0])), (q1, .inl (g.2 0, 128, .inl (fun _ => 0)))] := hD
  refine va_putF (D := g.1) (ci := 0) (v := .ref q1) (ty := .array (.int)) (C := RX0) (T := TX0) (N := 5) hx hb hg inG0 tyX0 tyX0_ok nmX0 hown hK hP hD hS 0 rfl rfl 0 (by decide) (hg _ mm_217) (fun _ h9 => h9) rfl hin rfl (by decide +kernel) rfl rfl (Nat.le_of_ble_eq_true rfl) dX0_init_10 (fun H locs hP hD hS => ?_)
  have hP : zP g [(h0, .inr (0, [.ref q1, .int 0, .null, .null, .int 0])), (q1, .inl (g.2 0, 128, .inl (fun _ => 0)))] H := hP
  have hD : va_D A [(h0, .inr (0, [.ref q1, .int 0, .null, .null, .int 0])), (q1, .inl (g.2 0, 128, .inl (fun _ => 0)))] := hD
  refine lv_aload_n hx hb dX0_init_13 rfl (lv_at hl 0 rfl) ?_
  refine lv_iconst (v := 0) hx hb dX0_init_14 (by decide) ?_
  refine va_put (D := g.1) (ci := 0) (v := .int 0) (ty := .int) (C := RX0) (T := TX0) (N := 5) hx hb hg inG0 tyX0 tyX0_ok nmX0 hown hK hP hD hS 0 rfl rfl 1 (by decide) (hg _ mm_218) (fun _ h9 => h9) rfl (by decide +kernel) rfl rfl (Nat.le_of_ble_eq_true rfl) dX0_init_15 (fun H locs hP hD hS => ?_)
  have hP : zP g [(h0, .inr (0, [.ref q1, .int 0, .null, .null, .int 0])), (q1, .inl (g.2 0, 128, .inl (fun _ => 0)))] H := hP
  have hD : va_D A [(h0, .inr (0, [.ref q1, .int 0, .null, .null, .int 0])), (q1, .inl (g.2 0, 128, .inl (fun _ => 0)))] := hD
  refine lv_aload_n hx hb dX0_init_18 rfl (lv_at hl 0 rfl) ?_
  refine lv_bipush (v := 17) hx hb dX0_init_19 (by decide) ?_
  refine z_newI hx hb (hg _ mm_144) hK hP hD hS hA (n := 17) (N' := 17) (by decide) (by decide) (Nat.le_of_ble_eq_true rfl) (Nat.le_of_ble_eq_true rfl) (Nat.le_of_ble_eq_true rfl) dX0_init_21 (fun q2 H hP hD hS => ?_)
  refine W.widen (k := 2) (n := 145) (Nat.le_of_ble_eq_true rfl) (Nat.le_of_ble_eq_true rfl) ?_
  have hP : zP g [(h0, .inr (0, [.ref q1, .int 0, .null, .null, .int 0])), (q1, .inl (g.2 0, 128, .inl (fun _ => 0))), (q2, .inl (g.2 0, 17, .inl (fun _ => 0)))] H := hP
  have hD : va_D A [(h0, .inr (0, [.ref q1, .int 0, .null, .null, .int 0])), (q1, .inl (g.2 0, 128, .inl (fun _ => 0))), (q2, .inl (g.2 0, 17, .inl (fun _ => 0)))] := hD
  refine va_putF (D := g.1) (ci := 0) (v := .ref q2) (ty := .array (.int)) (C := RX0) (T := TX0) (N := 5) hx hb hg inG0 tyX0 tyX0_ok nmX0 hown hK hP hD hS 0 rfl rfl 2 (by decide) (hg _ mm_219) (fun _ h9 => h9) rfl hin rfl (by decide +kernel) rfl rfl (Nat.le_of_ble_eq_true rfl) dX0_init_23 (fun H locs hP hD hS => ?_)
  have hP : zP g [(h0, .inr (0, [.ref q1, .int 0, .ref q2, .null, .int 0])), (q1, .inl (g.2 0, 128, .inl (fun _ => 0))), (q2, .inl (g.2 0, 17, .inl (fun _ => 0)))] H := hP
  have hD : va_D A [(h0, .inr (0, [.ref q1, .int 0, .ref q2, .null, .int 0])), (q1, .inl (g.2 0, 128, .inl (fun _ => 0))), (q2, .inl (g.2 0, 17, .inl (fun _ => 0)))] := hD
  refine lv_aload_n hx hb dX0_init_26 rfl (lv_at hl 0 rfl) ?_
  refine lv_iconst (v := 1) hx hb dX0_init_27 (by decide) ?_
  refine z_newI hx hb (hg _ mm_144) hK hP hD hS hA (n := 1) (N' := 1) (by decide) (by decide) (Nat.le_of_ble_eq_true rfl) (Nat.le_of_ble_eq_true rfl) (Nat.le_of_ble_eq_true rfl) dX0_init_28 (fun q3 H hP hD hS => ?_)
  refine W.widen (k := 3) (n := 146) (Nat.le_of_ble_eq_true rfl) (Nat.le_of_ble_eq_true rfl) ?_
  have hP : zP g [(h0, .inr (0, [.ref q1, .int 0, .ref q2, .null, .int 0])), (q1, .inl (g.2 0, 128, .inl (fun _ => 0))), (q2, .inl (g.2 0, 17, .inl (fun _ => 0))), (q3, .inl (g.2 0, 1, .inl (fun _ => 0)))] H := hP
  have hD : va_D A [(h0, .inr (0, [.ref q1, .int 0, .ref q2, .null, .int 0])), (q1, .inl (g.2 0, 128, .inl (fun _ => 0))), (q2, .inl (g.2 0, 17, .inl (fun _ => 0))), (q3, .inl (g.2 0, 1, .inl (fun _ => 0)))] := hD
  refine va_put (D := g.1) (ci := 0) (v := .ref q3) (ty := .array (.int)) (C := RX0) (T := TX0) (N := 5) hx hb hg inG0 tyX0 tyX0_ok nmX0 hown hK hP hD hS 0 rfl rfl 3 (by decide) (hg _ mm_220) (fun _ h9 => h9) rfl (by decide +kernel) rfl rfl (Nat.le_of_ble_eq_true rfl) dX0_init_30 (fun H locs hP hD hS => ?_)
  have hP : zP g [(h0, .inr (0, [.ref q1, .int 0, .ref q2, .ref q3, .int 0])), (q1, .inl (g.2 0, 128, .inl (fun _ => 0))), (q2, .inl (g.2 0, 17, .inl (fun _ => 0))), (q3, .inl (g.2 0, 1, .inl (fun _ => 0)))] H := hP
  have hD : va_D A [(h0, .inr (0, [.ref q1, .int 0, .ref q2, .ref q3, .int 0])), (q1, .inl (g.2 0, 128, .inl (fun _ => 0))), (q2, .inl (g.2 0, 17, .inl (fun _ => 0))), (q3, .inl (g.2 0, 1, .inl (fun _ => 0)))] := hD
  refine lv_aload_n hx hb dX0_init_33 rfl (lv_at hl 0 rfl) ?_
  refine lv_iconst (v := 1) hx hb dX0_init_34 (by decide) ?_
  refine va_put (D := g.1) (ci := 0) (v := .int 1) (ty := .int) (C := RX0) (T := TX0) (N := 5) hx hb hg inG0 tyX0 tyX0_ok nmX0 hown hK hP hD hS 0 rfl rfl 4 (by decide) (hg _ mm_221) (fun _ h9 => h9) rfl (by decide +kernel) rfl rfl (Nat.le_of_ble_eq_true rfl) dX0_init_35 (fun H locs hP hD hS => ?_)
  have hP : zP g [(h0, .inr (0, [.ref q1, .int 0, .ref q2, .ref q3, .int 1])), (q1, .inl (g.2 0, 128, .inl (fun _ => 0))), (q2, .inl (g.2 0, 17, .inl (fun _ => 0))), (q3, .inl (g.2 0, 1, .inl (fun _ => 0)))] H := hP
  have hD : va_D A [(h0, .inr (0, [.ref q1, .int 0, .ref q2, .ref q3, .int 1])), (q1, .inl (g.2 0, 128, .inl (fun _ => 0))), (q2, .inl (g.2 0, 17, .inl (fun _ => 0))), (q3, .inl (g.2 0, 1, .inl (fun _ => 0)))] := hD
  have hP9 := hP.sub (ws' := [(h0, .inr (0, [.ref q1, .int 0, .ref q2, .ref q3, .int 1]))]) [0] rfl
  have hD9 := hD.sub (ws' := [(h0, .inr (0, [.ref q1, .int 0, .ref q2, .ref q3, .int 1]))]) [0] (by decide) rfl
  refine W.widen (k := 3) (n := 146) (Nat.le_of_ble_eq_true rfl) (Nat.le_of_ble_eq_true rfl) ?_
  exact W.vret hx hb hr (fun t ht hW => ⟨⟨(), rfl, trivial, ⟨q1, q2, q3, by rw [ht]; exact hP9, hD9⟩⟩, hS.F ht⟩) hS.2.2 dX0_init_38

set_option maxHeartbeats 4000000 in
set_option maxRecDepth 100000 in
theorem c_X1_init (l : Launch) (g : zG) (sz : Nat) (h0 : Nat) : Met l yX1_init (zW yX1_init cX1_init 1 none) ({ frames := 1, cells := 12, slots := 336, locals := 12 }) (va_Pc [.ref h0] (zA g [(h0, .inr (1, [.int 0, .int 0, .int 0, .null, .null, .null, .null]))] sz)) (va_Qv (fun (_ : Unit) => True) (fun _ t => zP g [] t.heap ∧ va_D (va_A [(h0, .inr (1, [.int 0, .int 0, .int 0, .null, .null, .null, .null]))] sz) []) (va_A [(h0, .inr (1, [.int 0, .int 0, .int 0, .null, .null, .null, .null]))] sz)) 12 336 (va_A [(h0, .inr (1, [.int 0, .int 0, .int 0, .null, .null, .null, .null]))] sz) := by
  refine Met.ofW (cc := cX1_init) (maxL := 1) (ret := none) (by decide) rfl ?_
  intro p e s m args below meth c s₁ B hml hv
  obtain ⟨rfl, hsz, hP, hK, hD0, hN⟩ := hv
  have hx := B.exec
  have hb := B.bytes
  have hr := B.returns
  have hg := zW.law (atoms_spec (ws := (zW yX1_init cX1_init 1 none)) B.pre)
  have hown : s.vm.findClass RX1 = some m.cls := findClass_of_methodNamed B.named
  have hlocks := B.notSynchronized
  have hin : meth.name = "<init>" := (name_of_methodNamed B.named B.method).1
  subst hsz
  have hD := hD0.self (sz := s.heap.size)
  generalize hAe : va_A [(h0, .inr (1, [.int 0, .int 0, .int 0, .null, .null, .null, .null]))] s.heap.size = A at hD ⊢
  have hA : ∀ q : Nat, s.heap.size ≤ q → A q := fun q h => by rw [← hAe]; exact Or.inr h
  have hS : va_S A s.heap s.heap [] := va_S.rf
  have hl := lv_entry ([.ref h0]) (n := 1) (Nat.le_of_ble_eq_true rfl)
  rw [lg_entry_eq]
  generalize (lg_sl ([.ref h0]) ++ List.replicate (1 - (lg_sl ([.ref h0])).length) Slot.unset).toArray = ls at hl ⊢
  have hl : lv_has ls 1 [(0, .ref h0)] := hl
  refine lv_aload_n hx hb dX1_init_0 rfl (lv_at hl 0 rfl) ?_
  refine W.objInit hx hb hown (hg _ mm_238) (hg _ mm_126) (hg _ mm_127) rfl (by rw [hml]; exact hl.1) rfl dX1_init_1 (Nat.le_of_ble_eq_true rfl) (Nat.le_of_ble_eq_true rfl) ?_
  refine W.eq (g2 := F0 m 4 ls []) rfl ?_
  refine lv_aload_n hx hb dX1_init_4 rfl (lv_at hl 0 rfl) ?_
  refine lv_iconst (v := (-1)) hx hb dX1_init_5 (by decide) ?_
  refine va_put (D := g.1) (ci := 1) (v := .int (-1)) (ty := .int) (C := RX1) (T := TX1) (N := 7) hx hb hg inG1 tyX1 tyX1_ok nmX1 hown hK hP hD hS 0 rfl rfl 0 (by decide) (hg _ mm_241) (fun _ h9 => h9) rfl (by decide +kernel) rfl rfl (Nat.le_of_ble_eq_true rfl) dX1_init_6 (fun H locs hP hD hS => ?_)
  have hP : zP g [(h0, .inr (1, [.int (-1), .int 0, .int 0, .null, .null, .null, .null]))] H := hP
  have hD : va_D A [(h0, .inr (1, [.int (-1), .int 0, .int 0, .null, .null, .null, .null]))] := hD
  refine lv_aload_n hx hb dX1_init_9 rfl (lv_at hl 0 rfl) ?_
  refine lv_iconst (v := 0) hx hb dX1_init_10 (by decide) ?_
  refine va_put (D := g.1) (ci := 1) (v := .int 0) (ty := .int) (C := RX1) (T := TX1) (N := 7) hx hb hg inG1 tyX1 tyX1_ok nmX1 hown hK hP hD hS 0 rfl rfl 1 (by decide) (hg _ mm_243) (fun _ h9 => h9) rfl (by decide +kernel) rfl rfl (Nat.le_of_ble_eq_true rfl) dX1_init_11 (fun H locs hP hD hS => ?_)
  have hP : zP g [(h0, .inr (1, [.int (-1), .int 0, .int 0, .null, .null, .null, .null]))] H := hP
  have hD : va_D A [(h0, .inr (1, [.int (-1), .int 0, .int 0, .null, .null, .null, .null]))] := hD
  refine lv_aload_n hx hb dX1_init_14 rfl (lv_at hl 0 rfl) ?_
  refine lv_iconst (v := 0) hx hb dX1_init_15 (by decide) ?_
  refine va_put (D := g.1) (ci := 1) (v := .int 0) (ty := .int) (C := RX1) (T := TX1) (N := 7) hx hb hg inG1 tyX1 tyX1_ok nmX1 hown hK hP hD hS 0 rfl rfl 2 (by decide) (hg _ mm_245) (fun _ h9 => h9) rfl (by decide +kernel) rfl rfl (Nat.le_of_ble_eq_true rfl) dX1_init_16 (fun H locs hP hD hS => ?_)
  have hP : zP g [(h0, .inr (1, [.int (-1), .int 0, .int 0, .null, .null, .null, .null]))] H := hP
  have hD : va_D A [(h0, .inr (1, [.int (-1), .int 0, .int 0, .null, .null, .null, .null]))] := hD
  refine lv_aload_n hx hb dX1_init_19 rfl (lv_at hl 0 rfl) ?_
  refine lv_iconst (v := 4) hx hb dX1_init_20 (by decide) ?_
  refine lv_bipush (v := 40) hx hb dX1_init_21 (by decide) ?_
  refine z_mna hx hb hown (hg _ mm_239) hN (hg _ mm_144) hK hP hD hS hA (n := 4) (k := 40) (N' := 4) (K' := 40) (by decide) (by decide) (by decide) (by decide) (Nat.le_of_ble_eq_true rfl) (Nat.le_of_ble_eq_true rfl) (Nat.le_of_ble_eq_true rfl) (Nat.le_of_ble_eq_true rfl) (Nat.le_of_ble_eq_true rfl) dX1_init_23 (fun q1 H hP hD hS => ?_)
  refine W.widen (k := 5) (n := 164) (Nat.le_of_ble_eq_true rfl) (Nat.le_of_ble_eq_true rfl) ?_
  have hP : zP g [(h0, .inr (1, [.int (-1), .int 0, .int 0, .null, .null, .null, .null])), (q1, .inl (g.2 7, 4, .inr (.inr (.inr (.inr (zS [some (q1 + 1 + 0), some (q1 + 1 + 1), some (q1 + 1 + 2), some (q1 + 1 + 3)])))))), ((q1 + 1 + 0), .inl (g.2 0, 40, .inl (fun _ => 0))), ((q1 + 1 + 1), .inl (g.2 0, 40, .inl (fun _ => 0))), ((q1 + 1 + 2), .inl (g.2 0, 40, .inl (fun _ => 0))), ((q1 + 1 + 3), .inl (g.2 0, 40, .inl (fun _ => 0)))] H := hP
  have hD : va_D A [(h0, .inr (1, [.int (-1), .int 0, .int 0, .null, .null, .null, .null])), (q1, .inl (g.2 7, 4, .inr (.inr (.inr (.inr (zS [some (q1 + 1 + 0), some (q1 + 1 + 1), some (q1 + 1 + 2), some (q1 + 1 + 3)])))))), ((q1 + 1 + 0), .inl (g.2 0, 40, .inl (fun _ => 0))), ((q1 + 1 + 1), .inl (g.2 0, 40, .inl (fun _ => 0))), ((q1 + 1 + 2), .inl (g.2 0, 40, .inl (fun _ => 0))), ((q1 + 1 + 3), .inl (g.2 0, 40, .inl (fun _ => 0)))] := hD
  refine va_putF (D := g.1) (ci := 1) (v := .ref q1) (ty := .array (.array (.int))) (C := RX1) (T := TX1) (N := 7) hx hb hg inG1 tyX1 tyX1_ok nmX1 hown hK hP hD hS 0 rfl rfl 3 (by decide) (hg _ mm_247) (fun _ h9 => h9) rfl hin rfl (by decide +kernel) rfl rfl (Nat.le_of_ble_eq_true rfl) dX1_init_27 (fun H locs hP hD hS => ?_)
  have hP : zP g [(h0, .inr (1, [.int (-1), .int 0, .int 0, .ref q1, .null, .null, .null])), (q1, .inl (g.2 7, 4, .inr (.inr (.inr (.inr (zS [some (q1 + 1 + 0), some (q1 + 1 + 1), some (q1 + 1 + 2), some (q1 + 1 + 3)])))))), ((q1 + 1 + 0), .inl (g.2 0, 40, .inl (fun _ => 0))), ((q1 + 1 + 1), .inl (g.2 0, 40, .inl (fun _ => 0))), ((q1 + 1 + 2), .inl (g.2 0, 40, .inl (fun _ => 0))), ((q1 + 1 + 3), .inl (g.2 0, 40, .inl (fun _ => 0)))] H := hP
  have hD : va_D A [(h0, .inr (1, [.int (-1), .int 0, .int 0, .ref q1, .null, .null, .null])), (q1, .inl (g.2 7, 4, .inr (.inr (.inr (.inr (zS [some (q1 + 1 + 0), some (q1 + 1 + 1), some (q1 + 1 + 2), some (q1 + 1 + 3)])))))), ((q1 + 1 + 0), .inl (g.2 0, 40, .inl (fun _ => 0))), ((q1 + 1 + 1), .inl (g.2 0, 40, .inl (fun _ => 0))), ((q1 + 1 + 2), .inl (g.2 0, 40, .inl (fun _ => 0))), ((q1 + 1 + 3), .inl (g.2 0, 40, .inl (fun _ => 0)))] := hD
  refine lv_aload_n hx hb dX1_init_30 rfl (lv_at hl 0 rfl) ?_
  refine lv_iconst (v := 4) hx hb dX1_init_31 (by decide) ?_
  refine lv_bipush (v := 40) hx hb dX1_init_32 (by decide) ?_
  refine z_mna hx hb hown (hg _ mm_239) hN (hg _ mm_144) hK hP hD hS hA (n := 4) (k := 40) (N' := 4) (K' := 40) (by decide) (by decide) (by decide) (by decide) (Nat.le_of_ble_eq_true rfl) (Nat.le_of_ble_eq_true rfl) (Nat.le_of_ble_eq_true rfl) (Nat.le_of_ble_eq_true rfl) (Nat.le_of_ble_eq_true rfl) dX1_init_34 (fun q2 H hP hD hS => ?_)
  refine W.widen (k := 10) (n := 328) (Nat.le_of_ble_eq_true rfl) (Nat.le_of_ble_eq_true rfl) ?_
  have hP : zP g [(h0, .inr (1, [.int (-1), .int 0, .int 0, .ref q1, .null, .null, .null])), (q1, .inl (g.2 7, 4, .inr (.inr (.inr (.inr (zS [some (q1 + 1 + 0), some (q1 + 1 + 1), some (q1 + 1 + 2), some (q1 + 1 + 3)])))))), ((q1 + 1 + 0), .inl (g.2 0, 40, .inl (fun _ => 0))), ((q1 + 1 + 1), .inl (g.2 0, 40, .inl (fun _ => 0))), ((q1 + 1 + 2), .inl (g.2 0, 40, .inl (fun _ => 0))), ((q1 + 1 + 3), .inl (g.2 0, 40, .inl (fun _ => 0))), (q2, .inl (g.2 7, 4, .inr (.inr (.inr (.inr (zS [some (q2 + 1 + 0), some (q2 + 1 + 1), some (q2 + 1 + 2), some (q2 + 1 + 3)])))))), ((q2 + 1 + 0), .inl (g.2 0, 40, .inl (fun _ => 0))), ((q2 + 1 + 1), .inl (g.2 0, 40, .inl (fun _ => 0))), ((q2 + 1 + 2), .inl (g.2 0, 40, .inl (fun _ => 0))), ((q2 + 1 + 3), .inl (g.2 0, 40, .inl (fun _ => 0)))] H := hP
  have hD : va_D A [(h0, .inr (1, [.int (-1), .int 0, .int 0, .ref q1, .null, .null, .null])), (q1, .inl (g.2 7, 4, .inr (.inr (.inr (.inr (zS [some (q1 + 1 + 0), some (q1 + 1 + 1), some (q1 + 1 + 2), some (q1 + 1 + 3)])))))), ((q1 + 1 + 0), .inl (g.2 0, 40, .inl (fun _ => 0))), ((q1 + 1 + 1), .inl (g.2 0, 40, .inl (fun _ => 0))), ((q1 + 1 + 2), .inl (g.2 0, 40, .inl (fun _ => 0))), ((q1 + 1 + 3), .inl (g.2 0, 40, .inl (fun _ => 0))), (q2, .inl (g.2 7, 4, .inr (.inr (.inr (.inr (zS [some (q2 + 1 + 0), some (q2 + 1 + 1), some (q2 + 1 + 2), some (q2 + 1 + 3)])))))), ((q2 + 1 + 0), .inl (g.2 0, 40, .inl (fun _ => 0))), ((q2 + 1 + 1), .inl (g.2 0, 40, .inl (fun _ => 0))), ((q2 + 1 + 2), .inl (g.2 0, 40, .inl (fun _ => 0))), ((q2 + 1 + 3), .inl (g.2 0, 40, .inl (fun _ => 0)))] := hD
  refine va_putF (D := g.1) (ci := 1) (v := .ref q2) (ty := .array (.array (.int))) (C := RX1) (T := TX1) (N := 7) hx hb hg inG1 tyX1 tyX1_ok nmX1 hown hK hP hD hS 0 rfl rfl 4 (by decide) (hg _ mm_248) (fun _ h9 => h9) rfl hin rfl (by decide +kernel) rfl rfl (Nat.le_of_ble_eq_true rfl) dX1_init_38 (fun H locs hP hD hS => ?_)
  have hP : zP g [(h0, .inr (1, [.int (-1), .int 0, .int 0, .ref q1, .ref q2, .null, .null])), (q1, .inl (g.2 7, 4, .inr (.inr (.inr (.inr (zS [some (q1 + 1 + 0), some (q1 + 1 + 1), some (q1 + 1 + 2), some (q1 + 1 + 3)])))))), ((q1 + 1 + 0), .inl (g.2 0, 40, .inl (fun _ => 0))), ((q1 + 1 + 1), .inl (g.2 0, 40, .inl (fun _ => 0))), ((q1 + 1 + 2), .inl (g.2 0, 40, .inl (fun _ => 0))), ((q1 + 1 + 3), .inl (g.2 0, 40, .inl (fun _ => 0))), (q2, .inl (g.2 7, 4, .inr (.inr (.inr (.inr (zS [some (q2 + 1 + 0), some (q2 + 1 + 1), some (q2 + 1 + 2), some (q2 + 1 + 3)])))))), ((q2 + 1 + 0), .inl (g.2 0, 40, .inl (fun _ => 0))), ((q2 + 1 + 1), .inl (g.2 0, 40, .inl (fun _ => 0))), ((q2 + 1 + 2), .inl (g.2 0, 40, .inl (fun _ => 0))), ((q2 + 1 + 3), .inl (g.2 0, 40, .inl (fun _ => 0)))] H := hP
  have hD : va_D A [(h0, .inr (1, [.int (-1), .int 0, .int 0, .ref q1, .ref q2, .null, .null])), (q1, .inl (g.2 7, 4, .inr (.inr (.inr (.inr (zS [some (q1 + 1 + 0), some (q1 + 1 + 1), some (q1 + 1 + 2), some (q1 + 1 + 3)])))))), ((q1 + 1 + 0), .inl (g.2 0, 40, .inl (fun _ => 0))), ((q1 + 1 + 1), .inl (g.2 0, 40, .inl (fun _ => 0))), ((q1 + 1 + 2), .inl (g.2 0, 40, .inl (fun _ => 0))), ((q1 + 1 + 3), .inl (g.2 0, 40, .inl (fun _ => 0))), (q2, .inl (g.2 7, 4, .inr (.inr (.inr (.inr (zS [some (q2 + 1 + 0), some (q2 + 1 + 1), some (q2 + 1 + 2), some (q2 + 1 + 3)])))))), ((q2 + 1 + 0), .inl (g.2 0, 40, .inl (fun _ => 0))), ((q2 + 1 + 1), .inl (g.2 0, 40, .inl (fun _ => 0))), ((q2 + 1 + 2), .inl (g.2 0, 40, .inl (fun _ => 0))), ((q2 + 1 + 3), .inl (g.2 0, 40, .inl (fun _ => 0)))] := hD
  refine lv_aload_n hx hb dX1_init_41 rfl (lv_at hl 0 rfl) ?_
  refine lv_iconst (v := 4) hx hb dX1_init_42 (by decide) ?_
  refine z_newI hx hb (hg _ mm_144) hK hP hD hS hA (n := 4) (N' := 4) (by decide) (by decide) (Nat.le_of_ble_eq_true rfl) (Nat.le_of_ble_eq_true rfl) (Nat.le_of_ble_eq_true rfl) dX1_init_43 (fun q3 H hP hD hS => ?_)
  refine W.widen (k := 11) (n := 332) (Nat.le_of_ble_eq_true rfl) (Nat.le_of_ble_eq_true rfl) ?_
  have hP : zP g [(h0, .inr (1, [.int (-1), .int 0, .int 0, .ref q1, .ref q2, .null, .null])), (q1, .inl (g.2 7, 4, .inr (.inr (.inr (.inr (zS [some (q1 + 1 + 0), some (q1 + 1 + 1), some (q1 + 1 + 2), some (q1 + 1 + 3)])))))), ((q1 + 1 + 0), .inl (g.2 0, 40, .inl (fun _ => 0))), ((q1 + 1 + 1), .inl (g.2 0, 40, .inl (fun _ => 0))), ((q1 + 1 + 2), .inl (g.2 0, 40, .inl (fun _ => 0))), ((q1 + 1 + 3), .inl (g.2 0, 40, .inl (fun _ => 0))), (q2, .inl (g.2 7, 4, .inr (.inr (.inr (.inr (zS [some (q2 + 1 + 0), some (q2 + 1 + 1), some (q2 + 1 + 2), some (q2 + 1 + 3)])))))), ((q2 + 1 + 0), .inl (g.2 0, 40, .inl (fun _ => 0))), ((q2 + 1 + 1), .inl (g.2 0, 40, .inl (fun _ => 0))), ((q2 + 1 + 2), .inl (g.2 0, 40, .inl (fun _ => 0))), ((q2 + 1 + 3), .inl (g.2 0, 40, .inl (fun _ => 0))), (q3, .inl (g.2 0, 4, .inl (fun _ => 0)))] H := hP
  have hD : va_D A [(h0, .inr (1, [.int (-1), .int 0, .int 0, .ref q1, .ref q2, .null, .null])), (q1, .inl (g.2 7, 4, .inr (.inr (.inr (.inr (zS [some (q1 + 1 + 0), some (q1 + 1 + 1), some (q1 + 1 + 2), some (q1 + 1 + 3)])))))), ((q1 + 1 + 0), .inl (g.2 0, 40, .inl (fun _ => 0))), ((q1 + 1 + 1), .inl (g.2 0, 40, .inl (fun _ => 0))), ((q1 + 1 + 2), .inl (g.2 0, 40, .inl (fun _ => 0))), ((q1 + 1 + 3), .inl (g.2 0, 40, .inl (fun _ => 0))), (q2, .inl (g.2 7, 4, .inr (.inr (.inr (.inr (zS [some (q2 + 1 + 0), some (q2 + 1 + 1), some (q2 + 1 + 2), some (q2 + 1 + 3)])))))), ((q2 + 1 + 0), .inl (g.2 0, 40, .inl (fun _ => 0))), ((q2 + 1 + 1), .inl (g.2 0, 40, .inl (fun _ => 0))), ((q2 + 1 + 2), .inl (g.2 0, 40, .inl (fun _ => 0))), ((q2 + 1 + 3), .inl (g.2 0, 40, .inl (fun _ => 0))), (q3, .inl (g.2 0, 4, .inl (fun _ => 0)))] := hD
  refine va_putF (D := g.1) (ci := 1) (v := .ref q3) (ty := .array (.int)) (C := RX1) (T := TX1) (N := 7) hx hb hg inG1 tyX1 tyX1_ok nmX1 hown hK hP hD hS 0 rfl rfl 5 (by decide) (hg _ mm_249) (fun _ h9 => h9) rfl hin rfl (by decide +kernel) rfl rfl (Nat.le_of_ble_eq_true rfl) dX1_init_45 (fun H locs hP hD hS => ?_)
  have hP : zP g [(h0, .inr (1, [.int (-1), .int 0, .int 0, .ref q1, .ref q2, .ref q3, .null])), (q1, .inl (g.2 7, 4, .inr (.inr (.inr (.inr (zS [some (q1 + 1 + 0), some (q1 + 1 + 1), some (q1 + 1 + 2), some (q1 + 1 + 3)])))))), ((q1 + 1 + 0), .inl (g.2 0, 40, .inl (fun _ => 0))), ((q1 + 1 + 1), .inl (g.2 0, 40, .inl (fun _ => 0))), ((q1 + 1 + 2), .inl (g.2 0, 40, .inl (fun _ => 0))), ((q1 + 1 + 3), .inl (g.2 0, 40, .inl (fun _ => 0))), (q2, .inl (g.2 7, 4, .inr (.inr (.inr (.inr (zS [some (q2 + 1 + 0), some (q2 + 1 + 1), some (q2 + 1 + 2), some (q2 + 1 + 3)])))))), ((q2 + 1 + 0), .inl (g.2 0, 40, .inl (fun _ => 0))), ((q2 + 1 + 1), .inl (g.2 0, 40, .inl (fun _ => 0))), ((q2 + 1 + 2), .inl (g.2 0, 40, .inl (fun _ => 0))), ((q2 + 1 + 3), .inl (g.2 0, 40, .inl (fun _ => 0))), (q3, .inl (g.2 0, 4, .inl (fun _ => 0)))] H := hP
  have hD : va_D A [(h0, .inr (1, [.int (-1), .int 0, .int 0, .ref q1, .ref q2, .ref q3, .null])), (q1, .inl (g.2 7, 4, .inr (.inr (.inr (.inr (zS [some (q1 + 1 + 0), some (q1 + 1 + 1), some (q1 + 1 + 2), some (q1 + 1 + 3)])))))), ((q1 + 1 + 0), .inl (g.2 0, 40, .inl (fun _ => 0))), ((q1 + 1 + 1), .inl (g.2 0, 40, .inl (fun _ => 0))), ((q1 + 1 + 2), .inl (g.2 0, 40, .inl (fun _ => 0))), ((q1 + 1 + 3), .inl (g.2 0, 40, .inl (fun _ => 0))), (q2, .inl (g.2 7, 4, .inr (.inr (.inr (.inr (zS [some (q2 + 1 + 0), some (q2 + 1 + 1), some (q2 + 1 + 2), some (q2 + 1 + 3)])))))), ((q2 + 1 + 0), .inl (g.2 0, 40, .inl (fun _ => 0))), ((q2 + 1 + 1), .inl (g.2 0, 40, .inl (fun _ => 0))), ((q2 + 1 + 2), .inl (g.2 0, 40, .inl (fun _ => 0))), ((q2 + 1 + 3), .inl (g.2 0, 40, .inl (fun _ => 0))), (q3, .inl (g.2 0, 4, .inl (fun _ => 0)))] := hD
  refine lv_aload_n hx hb dX1_init_48 rfl (lv_at hl 0 rfl) ?_
  refine lv_iconst (v := 4) hx hb dX1_init_49 (by decide) ?_
  refine z_newI hx hb (hg _ mm_144) hK hP hD hS hA (n := 4) (N' := 4) (by decide) (by decide) (Nat.le_of_ble_eq_true rfl) (Nat.le_of_ble_eq_true rfl) (Nat.le_of_ble_eq_true rfl) dX1_init_50 (fun q4 H hP hD hS => ?_)
  refine W.widen (k := 12) (n := 336) (Nat.le_of_ble_eq_true rfl) (Nat.le_of_ble_eq_true rfl) ?_
  have hP : zP g [(h0, .inr (1, [.int (-1), .int 0, .int 0, .ref q1, .ref q2, .ref q3, .null])), (q1, .inl (g.2 7, 4, .inr (.inr (.inr (.inr (zS [some (q1 + 1 + 0), some (q1 + 1 + 1), some (q1 + 1 + 2), some (q1 + 1 + 3)])))))), ((q1 + 1 + 0), .inl (g.2 0, 40, .inl (fun _ => 0))), ((q1 + 1 + 1), .inl (g.2 0, 40, .inl (fun _ => 0))), ((q1 + 1 + 2), .inl (g.2 0, 40, .inl (fun _ => 0))), ((q1 + 1 + 3), .inl (g.2 0, 40, .inl (fun _ => 0))), (q2, .inl (g.2 7, 4, .inr (.inr (.inr (.inr (zS [some (q2 + 1 + 0), some (q2 + 1 + 1), some (q2 + 1 + 2), some (q2 + 1 + 3)])))))), ((q2 + 1 + 0), .inl (g.2 0, 40, .inl (fun _ => 0))), ((q2 + 1 + 1), .inl (g.2 0, 40, .inl (fun _ => 0))), ((q2 + 1 + 2), .inl (g.2 0, 40, .inl (fun _ => 0))), ((q2 + 1 + 3), .inl (g.2 0, 40, .inl (fun _ => 0))), (q3, .inl (g.2 0, 4, .inl (fun _ => 0))), (q4, .inl (g.2 0, 4, .inl (fun _ => 0)))] H := hP
  have hD : va_D A [(h0, .inr (1, [.int (-1), .int 0, .int 0, .ref q1, .ref q2, .ref q3, .null])), (q1, .inl (g.2 7, 4, .inr (.inr (.inr (.inr (zS [some (q1 + 1 + 0), some (q1 + 1 + 1), some (q1 + 1 + 2), some (q1 + 1 + 3)])))))), ((q1 + 1 + 0), .inl (g.2 0, 40, .inl (fun _ => 0))), ((q1 + 1 + 1), .inl (g.2 0, 40, .inl (fun _ => 0))), ((q1 + 1 + 2), .inl (g.2 0, 40, .inl (fun _ => 0))), ((q1 + 1 + 3), .inl (g.2 0, 40, .inl (fun _ => 0))), (q2, .inl (g.2 7, 4, .inr (.inr (.inr (.inr (zS [some (q2 + 1 + 0), some (q2 + 1 + 1), some (q2 + 1 + 2), some (q2 + 1 + 3)])))))), ((q2 + 1 + 0), .inl (g.2 0, 40, .inl (fun _ => 0))), ((q2 + 1 + 1), .inl (g.2 0, 40, .inl (fun _ => 0))), ((q2 + 1 + 2), .inl (g.2 0, 40, .inl (fun _ => 0))), ((q2 + 1 + 3), .inl (g.2 0, 40, .inl (fun _ => 0))), (q3, .inl (g.2 0, 4, .inl (fun _ => 0))), (q4, .inl (g.2 0, 4, .inl (fun _ => 0)))] := hD
  refine va_putF (D := g.1) (ci := 1) (v := .ref q4) (ty := .array (.int)) (C := RX1) (T := TX1) (N := 7) hx hb hg inG1 tyX1 tyX1_ok nmX1 hown hK hP hD hS 0 rfl rfl 6 (by decide) (hg _ mm_250) (fun _ h9 => h9) rfl hin rfl (by decide +kernel) rfl rfl (Nat.le_of_ble_eq_true rfl) dX1_init_52 (fun H locs hP hD hS => ?_)
  have hP : zP g [(h0, .inr (1, [.int (-1), .int 0, .int 0, .ref q1, .ref q2, .ref q3, .ref q4])), (q1, .inl (g.2 7, 4, .inr (.inr (.inr (.inr (zS [some (q1 + 1 + 0), some (q1 + 1 + 1), some (q1 + 1 + 2), some (q1 + 1 + 3)])))))), ((q1 + 1 + 0), .inl (g.2 0, 40, .inl (fun _ => 0))), ((q1 + 1 + 1), .inl (g.2 0, 40, .inl (fun _ => 0))), ((q1 + 1 + 2), .inl (g.2 0, 40, .inl (fun _ => 0))), ((q1 + 1 + 3), .inl (g.2 0, 40, .inl (fun _ => 0))), (q2, .inl (g.2 7, 4, .inr (.inr (.inr (.inr (zS [some (q2 + 1 + 0), some (q2 + 1 + 1), some (q2 + 1 + 2), some (q2 + 1 + 3)])))))), ((q2 + 1 + 0), .inl (g.2 0, 40, .inl (fun _ => 0))), ((q2 + 1 + 1), .inl (g.2 0, 40, .inl (fun _ => 0))), ((q2 + 1 + 2), .inl (g.2 0, 40, .inl (fun _ => 0))), ((q2 + 1 + 3), .inl (g.2 0, 40, .inl (fun _ => 0))), (q3, .inl (g.2 0, 4, .inl (fun _ => 0))), (q4, .inl (g.2 0, 4, .inl (fun _ => 0)))] H := hP
  have hD : va_D A [(h0, .inr (1, [.int (-1), .int 0, .int 0, .ref q1, .ref q2, .ref q3, .ref q4])), (q1, .inl (g.2 7, 4, .inr (.inr (.inr (.inr (zS [some (q1 + 1 + 0), some (q1 + 1 + 1), some (q1 + 1 + 2), some (q1 + 1 + 3)])))))), ((q1 + 1 + 0), .inl (g.2 0, 40, .inl (fun _ => 0))), ((q1 + 1 + 1), .inl (g.2 0, 40, .inl (fun _ => 0))), ((q1 + 1 + 2), .inl (g.2 0, 40, .inl (fun _ => 0))), ((q1 + 1 + 3), .inl (g.2 0, 40, .inl (fun _ => 0))), (q2, .inl (g.2 7, 4, .inr (.inr (.inr (.inr (zS [some (q2 + 1 + 0), some (q2 + 1 + 1), some (q2 + 1 + 2), some (q2 + 1 + 3)])))))), ((q2 + 1 + 0), .inl (g.2 0, 40, .inl (fun _ => 0))), ((q2 + 1 + 1), .inl (g.2 0, 40, .inl (fun _ => 0))), ((q2 + 1 + 2), .inl (g.2 0, 40, .inl (fun _ => 0))), ((q2 + 1 + 3), .inl (g.2 0, 40, .inl (fun _ => 0))), (q3, .inl (g.2 0, 4, .inl (fun _ => 0))), (q4, .inl (g.2 0, 4, .inl (fun _ => 0)))] := hD
  have hP9 := hP.sub (ws' := []) [] rfl
  have hD9 := hD.sub (ws' := []) [] (by decide) rfl
  refine W.widen (k := 12) (n := 336) (Nat.le_of_ble_eq_true rfl) (Nat.le_of_ble_eq_true rfl) ?_
  exact W.vret hx hb hr (fun t ht hW => ⟨⟨(), rfl, trivial, ⟨by rw [ht]; exact hP9, hD9⟩⟩, hS.F ht⟩) hS.2.2 dX1_init_55

set_option maxHeartbeats 4000000 in
set_option maxRecDepth 100000 in
theorem c_X4_init (l : Launch) (g : zG) (sz : Nat) (h0 : Nat) : Met l yX4_init (zW yX4_init cX4_init 1 none) ({ frames := 1, cells := 2, slots := 107, locals := 12 }) (va_Pc [.ref h0] (zA g [(h0, .inr (4, [.int 0, .int 0, .int 0, .int 0, .int 0, .int 0, .null, .null, .int 0, .int 0, .int 0]))] sz)) (va_Qv (fun (_ : Unit) => True) (fun _ t => ∃ (a1 : Nat), ∃ (a2 : Nat), zP g [(h0, .inr (4, [.int 0, .int (-1), .int 0, .int 0, .int 0, .int (-1), .ref a1, .ref a2, .int 0, .int 0, .int 0]))] t.heap ∧ va_D (va_A [(h0, .inr (4, [.int 0, .int 0, .int 0, .int 0, .int 0, .int 0, .null, .null, .int 0, .int 0, .int 0]))] sz) [(h0, .inr (4, [.int 0, .int (-1), .int 0, .int 0, .int 0, .int (-1), .ref a1, .ref a2, .int 0, .int 0, .int 0]))]) (va_A [(h0, .inr (4, [.int 0, .int 0, .int 0, .int 0, .int 0, .int 0, .null, .null, .int 0, .int 0, .int 0]))] sz)) 2 107 (va_A [(h0, .inr (4, [.int 0, .int 0, .int 0, .int 0, .int 0, .int 0, .null, .null, .int 0, .int 0, .int 0]))] sz) := by
  refine Met.ofW (cc := cX4_init) (maxL := 1) (ret := none) (by decide) rfl ?_
  intro p e s m args below meth c s₁ B hml hv
  obtain ⟨rfl, hsz, hP, hK, hD0, hN⟩ := hv
  have hx := B.exec
  have hb := B.bytes
  have hr := B.returns
  have hg := zW.law (atoms_spec (ws := (zW yX4_init cX4_init 1 none)) B.pre)
  have hown : s.vm.findClass RX4 = some m.cls := findClass_of_methodNamed B.named
  have hlocks := B.notSynchronized
  have hin : meth.name = "<init>" := (name_of_methodNamed B.named B.method).1
  subst hsz
  have hD := hD0.self (sz := s.heap.size)
  generalize hAe : va_A [(h0, .inr (4, [.int 0, .int 0, .int 0, .int 0, .int 0, .int 0, .null, .null, .int 0, .int 0, .int 0]))] s.heap.size = A at hD ⊢
  have hA : ∀ q : Nat, s.heap.size ≤ q → A q := fun q h => by rw [← hAe]; exact Or.inr h
  have hS : va_S A s.heap s.heap [] := va_S.rf
  have hl := lv_entry ([.ref h0]) (n := 1) (Nat.le_of_ble_eq_true rfl)
  rw [lg_entry_eq]
  generalize (lg_sl ([.ref h0]) ++ List.replicate (1 - (lg_sl ([.ref h0])).length) Slot.unset).toArray = ls at hl ⊢
  have hl : lv_has ls 1 [(0, .ref h0)] := hl
  refine lv_aload_n hx hb dX4_init_0 rfl (lv_at hl 0 rfl) ?_
  refine W.objInit hx hb hown (hg _ mm_270) (hg _ mm_126) (hg _ mm_127) rfl (by rw [hml]; exact hl.1) rfl dX4_init_1 (Nat.le_of_ble_eq_true rfl) (Nat.le_of_ble_eq_true rfl) ?_
  refine W.eq (g2 := F0 m 4 ls []) rfl ?_
  refine lv_aload_n hx hb dX4_init_4 rfl (lv_at hl 0 rfl) ?_
  refine lv_iconst (v := 0) hx hb dX4_init_5 (by decide) ?_
  refine va_put (D := g.1) (ci := 4) (v := .int 0) (ty := .boolean) (C := RX4) (T := TX4) (N := 11) hx hb hg inG4 tyX4 tyX4_ok nmX4 hown hK hP hD hS 0 rfl rfl 0 (by decide) (hg _ mm_271) (fun _ h9 => h9) rfl (by decide +kernel) rfl rfl (Nat.le_of_ble_eq_true rfl) dX4_init_6 (fun H locs hP hD hS => ?_)
  have hP : zP g [(h0, .inr (4, [.int 0, .int 0, .int 0, .int 0, .int 0, .int 0, .null, .null, .int 0, .int 0, .int 0]))] H := hP
  have hD : va_D A [(h0, .inr (4, [.int 0, .int 0, .int 0, .int 0, .int 0, .int 0, .null, .null, .int 0, .int 0, .int 0]))] := hD
  refine lv_aload_n hx hb dX4_init_9 rfl (lv_at hl 0 rfl) ?_
  refine lv_iconst (v := (-1)) hx hb dX4_init_10 (by decide) ?_
  refine va_put (D := g.1) (ci := 4) (v := .int (-1)) (ty := .int) (C := RX4) (T := TX4) (N := 11) hx hb hg inG4 tyX4 tyX4_ok nmX4 hown hK hP hD hS 0 rfl rfl 1 (by decide) (hg _ mm_273) (fun _ h9 => h9) rfl (by decide +kernel) rfl rfl (Nat.le_of_ble_eq_true rfl) dX4_init_11 (fun H locs hP hD hS => ?_)
  have hP : zP g [(h0, .inr (4, [.int 0, .int (-1), .int 0, .int 0, .int 0, .int 0, .null, .null, .int 0, .int 0, .int 0]))] H := hP
  have hD : va_D A [(h0, .inr (4, [.int 0, .int (-1), .int 0, .int 0, .int 0, .int 0, .null, .null, .int 0, .int 0, .int 0]))] := hD
  refine lv_aload_n hx hb dX4_init_14 rfl (lv_at hl 0 rfl) ?_
  refine lv_iconst (v := 0) hx hb dX4_init_15 (by decide) ?_
  refine va_put (D := g.1) (ci := 4) (v := .int 0) (ty := .int) (C := RX4) (T := TX4) (N := 11) hx hb hg inG4 tyX4 tyX4_ok nmX4 hown hK hP hD hS 0 rfl rfl 2 (by decide) (hg _ mm_275) (fun _ h9 => h9) rfl (by decide +kernel) rfl rfl (Nat.le_of_ble_eq_true rfl) dX4_init_16 (fun H locs hP hD hS => ?_)
  have hP : zP g [(h0, .inr (4, [.int 0, .int (-1), .int 0, .int 0, .int 0, .int 0, .null, .null, .int 0, .int 0, .int 0]))] H := hP
  have hD : va_D A [(h0, .inr (4, [.int 0, .int (-1), .int 0, .int 0, .int 0, .int 0, .null, .null, .int 0, .int 0, .int 0]))] := hD
  refine lv_aload_n hx hb dX4_init_19 rfl (lv_at hl 0 rfl) ?_
  refine lv_iconst (v := 0) hx hb dX4_init_20 (by decide) ?_
  refine va_put (D := g.1) (ci := 4) (v := .int 0) (ty := .int) (C := RX4) (T := TX4) (N := 11) hx hb hg inG4 tyX4 tyX4_ok nmX4 hown hK hP hD hS 0 rfl rfl 3 (by decide) (hg _ mm_277) (fun _ h9 => h9) rfl (by decide +kernel) rfl rfl (Nat.le_of_ble_eq_true rfl) dX4_init_21 (fun H locs hP hD hS => ?_)
  have hP : zP g [(h0, .inr (4, [.int 0, .int (-1), .int 0, .int 0, .int 0, .int 0, .null, .null, .int 0, .int 0, .int 0]))] H := hP
  have hD : va_D A [(h0, .inr (4, [.int 0, .int (-1), .int 0, .int 0, .int 0, .int 0, .null, .null, .int 0, .int 0, .int 0]))] := hD
  refine lv_aload_n hx hb dX4_init_24 rfl (lv_at hl 0 rfl) ?_
  refine lv_iconst (v := 0) hx hb dX4_init_25 (by decide) ?_
  refine va_put (D := g.1) (ci := 4) (v := .int 0) (ty := .int) (C := RX4) (T := TX4) (N := 11) hx hb hg inG4 tyX4 tyX4_ok nmX4 hown hK hP hD hS 0 rfl rfl 4 (by decide) (hg _ mm_279) (fun _ h9 => h9) rfl (by decide +kernel) rfl rfl (Nat.le_of_ble_eq_true rfl) dX4_init_26 (fun H locs hP hD hS => ?_)
  have hP : zP g [(h0, .inr (4, [.int 0, .int (-1), .int 0, .int 0, .int 0, .int 0, .null, .null, .int 0, .int 0, .int 0]))] H := hP
  have hD : va_D A [(h0, .inr (4, [.int 0, .int (-1), .int 0, .int 0, .int 0, .int 0, .null, .null, .int 0, .int 0, .int 0]))] := hD
  refine lv_aload_n hx hb dX4_init_29 rfl (lv_at hl 0 rfl) ?_
  refine lv_iconst (v := (-1)) hx hb dX4_init_30 (by decide) ?_
  refine va_put (D := g.1) (ci := 4) (v := .int (-1)) (ty := .int) (C := RX4) (T := TX4) (N := 11) hx hb hg inG4 tyX4 tyX4_ok nmX4 hown hK hP hD hS 0 rfl rfl 5 (by decide) (hg _ mm_281) (fun _ h9 => h9) rfl (by decide +kernel) rfl rfl (Nat.le_of_ble_eq_true rfl) dX4_init_31 (fun H locs hP hD hS => ?_)
  have hP : zP g [(h0, .inr (4, [.int 0, .int (-1), .int 0, .int 0, .int 0, .int (-1), .null, .null, .int 0, .int 0, .int 0]))] H := hP
  have hD : va_D A [(h0, .inr (4, [.int 0, .int (-1), .int 0, .int 0, .int 0, .int (-1), .null, .null, .int 0, .int 0, .int 0]))] := hD
  refine lv_aload_n hx hb dX4_init_34 rfl (lv_at hl 0 rfl) ?_
  refine lv_bipush (v := 7) hx hb dX4_init_35 (by decide) ?_
  refine z_newI hx hb (hg _ mm_144) hK hP hD hS hA (n := 7) (N' := 7) (by decide) (by decide) (Nat.le_of_ble_eq_true rfl) (Nat.le_of_ble_eq_true rfl) (Nat.le_of_ble_eq_true rfl) dX4_init_37 (fun q1 H hP hD hS => ?_)
  refine W.widen (k := 1) (n := 7) (Nat.le_of_ble_eq_true rfl) (Nat.le_of_ble_eq_true rfl) ?_
  have hP : zP g [(h0, .inr (4, [.int 0, .int (-1), .int 0, .int 0, .int 0, .int (-1), .null, .null, .int 0, .int 0, .int 0])), (q1, .inl (g.2 0, 7, .inl (fun _ => 0)))] H := hP
  have hD : va_D A [(h0, .inr (4, [.int 0, .int (-1), .int 0, .int 0, .int 0, .int (-1), .null, .null, .int 0, .int 0, .int 0])), (q1, .inl (g.2 0, 7, .inl (fun _ => 0)))] := hD
  refine va_putF (D := g.1) (ci := 4) (v := .ref q1) (ty := .array (.int)) (C := RX4) (T := TX4) (N := 11) hx hb hg inG4 tyX4 tyX4_ok nmX4 hown hK hP hD hS 0 rfl rfl 6 (by decide) (hg _ mm_282) (fun _ h9 => h9) rfl hin rfl (by decide +kernel) rfl rfl (Nat.le_of_ble_eq_true rfl) dX4_init_39 (fun H locs hP hD hS => ?_)
  have hP : zP g [(h0, .inr (4, [.int 0, .int (-1), .int 0, .int 0, .int 0, .int (-1), .ref q1, .null, .int 0, .int 0, .int 0])), (q1, .inl (g.2 0, 7, .inl (fun _ => 0)))] H := hP
  have hD : va_D A [(h0, .inr (4, [.int 0, .int (-1), .int 0, .int 0, .int 0, .int (-1), .ref q1, .null, .int 0, .int 0, .int 0])), (q1, .inl (g.2 0, 7, .inl (fun _ => 0)))] := hD
  refine lv_aload_n hx hb dX4_init_42 rfl (lv_at hl 0 rfl) ?_
  refine lv_bipush (v := 100) hx hb dX4_init_43 (by decide) ?_
  refine z_newI hx hb (hg _ mm_144) hK hP hD hS hA (n := 100) (N' := 100) (by decide) (by decide) (Nat.le_of_ble_eq_true rfl) (Nat.le_of_ble_eq_true rfl) (Nat.le_of_ble_eq_true rfl) dX4_init_45 (fun q2 H hP hD hS => ?_)
  refine W.widen (k := 2) (n := 107) (Nat.le_of_ble_eq_true rfl) (Nat.le_of_ble_eq_true rfl) ?_
  have hP : zP g [(h0, .inr (4, [.int 0, .int (-1), .int 0, .int 0, .int 0, .int (-1), .ref q1, .null, .int 0, .int 0, .int 0])), (q1, .inl (g.2 0, 7, .inl (fun _ => 0))), (q2, .inl (g.2 0, 100, .inl (fun _ => 0)))] H := hP
  have hD : va_D A [(h0, .inr (4, [.int 0, .int (-1), .int 0, .int 0, .int 0, .int (-1), .ref q1, .null, .int 0, .int 0, .int 0])), (q1, .inl (g.2 0, 7, .inl (fun _ => 0))), (q2, .inl (g.2 0, 100, .inl (fun _ => 0)))] := hD
  refine va_putF (D := g.1) (ci := 4) (v := .ref q2) (ty := .array (.int)) (C := RX4) (T := TX4) (N := 11) hx hb hg inG4 tyX4 tyX4_ok nmX4 hown hK hP hD hS 0 rfl rfl 7 (by decide) (hg _ mm_283) (fun _ h9 => h9) rfl hin rfl (by decide +kernel) rfl rfl (Nat.le_of_ble_eq_true rfl) dX4_init_47 (fun H locs hP hD hS => ?_)
  have hP : zP g [(h0, .inr (4, [.int 0, .int (-1), .int 0, .int 0, .int 0, .int (-1), .ref q1, .ref q2, .int 0, .int 0, .int 0])), (q1, .inl (g.2 0, 7, .inl (fun _ => 0))), (q2, .inl (g.2 0, 100, .inl (fun _ => 0)))] H := hP
  have hD : va_D A [(h0, .inr (4, [.int 0, .int (-1), .int 0, .int 0, .int 0, .int (-1), .ref q1, .ref q2, .int 0, .int 0, .int 0])), (q1, .inl (g.2 0, 7, .inl (fun _ => 0))), (q2, .inl (g.2 0, 100, .inl (fun _ => 0)))] := hD
  refine lv_aload_n hx hb dX4_init_50 rfl (lv_at hl 0 rfl) ?_
  refine lv_iconst (v := 0) hx hb dX4_init_51 (by decide) ?_
  refine va_put (D := g.1) (ci := 4) (v := .int 0) (ty := .int) (C := RX4) (T := TX4) (N := 11) hx hb hg inG4 tyX4 tyX4_ok nmX4 hown hK hP hD hS 0 rfl rfl 8 (by decide) (hg _ mm_284) (fun _ h9 => h9) rfl (by decide +kernel) rfl rfl (Nat.le_of_ble_eq_true rfl) dX4_init_52 (fun H locs hP hD hS => ?_)
  have hP : zP g [(h0, .inr (4, [.int 0, .int (-1), .int 0, .int 0, .int 0, .int (-1), .ref q1, .ref q2, .int 0, .int 0, .int 0])), (q1, .inl (g.2 0, 7, .inl (fun _ => 0))), (q2, .inl (g.2 0, 100, .inl (fun _ => 0)))] H := hP
  have hD : va_D A [(h0, .inr (4, [.int 0, .int (-1), .int 0, .int 0, .int 0, .int (-1), .ref q1, .ref q2, .int 0, .int 0, .int 0])), (q1, .inl (g.2 0, 7, .inl (fun _ => 0))), (q2, .inl (g.2 0, 100, .inl (fun _ => 0)))] := hD
  refine lv_aload_n hx hb dX4_init_55 rfl (lv_at hl 0 rfl) ?_
  refine lv_iconst (v := 0) hx hb dX4_init_56 (by decide) ?_
  refine va_put (D := g.1) (ci := 4) (v := .int 0) (ty := .int) (C := RX4) (T := TX4) (N := 11) hx hb hg inG4 tyX4 tyX4_ok nmX4 hown hK hP hD hS 0 rfl rfl 9 (by decide) (hg _ mm_285) (fun _ h9 => h9) rfl (by decide +kernel) rfl rfl (Nat.le_of_ble_eq_true rfl) dX4_init_57 (fun H locs hP hD hS => ?_)
  have hP : zP g [(h0, .inr (4, [.int 0, .int (-1), .int 0, .int 0, .int 0, .int (-1), .ref q1, .ref q2, .int 0, .int 0, .int 0])), (q1, .inl (g.2 0, 7, .inl (fun _ => 0))), (q2, .inl (g.2 0, 100, .inl (fun _ => 0)))] H := hP
  have hD : va_D A [(h0, .inr (4, [.int 0, .int (-1), .int 0, .int 0, .int 0, .int (-1), .ref q1, .ref q2, .int 0, .int 0, .int 0])), (q1, .inl (g.2 0, 7, .inl (fun _ => 0))), (q2, .inl (g.2 0, 100, .inl (fun _ => 0)))] := hD
  refine lv_aload_n hx hb dX4_init_60 rfl (lv_at hl 0 rfl) ?_
  refine lv_iconst (v := 0) hx hb dX4_init_61 (by decide) ?_
  refine va_put (D := g.1) (ci := 4) (v := .int 0) (ty := .boolean) (C := RX4) (T := TX4) (N := 11) hx hb hg inG4 tyX4 tyX4_ok nmX4 hown hK hP hD hS 0 rfl rfl 10 (by decide) (hg _ mm_286) (fun _ h9 => h9) rfl (by decide +kernel) rfl rfl (Nat.le_of_ble_eq_true rfl) dX4_init_62 (fun H locs hP hD hS => ?_)
  have hP : zP g [(h0, .inr (4, [.int 0, .int (-1), .int 0, .int 0, .int 0, .int (-1), .ref q1, .ref q2, .int 0, .int 0, .int 0])), (q1, .inl (g.2 0, 7, .inl (fun _ => 0))), (q2, .inl (g.2 0, 100, .inl (fun _ => 0)))] H := hP
  have hD : va_D A [(h0, .inr (4, [.int 0, .int (-1), .int 0, .int 0, .int 0, .int (-1), .ref q1, .ref q2, .int 0, .int 0, .int 0])), (q1, .inl (g.2 0, 7, .inl (fun _ => 0))), (q2, .inl (g.2 0, 100, .inl (fun _ => 0)))] := hD
  have hP9 := hP.sub (ws' := [(h0, .inr (4, [.int 0, .int (-1), .int 0, .int 0, .int 0, .int (-1), .ref q1, .ref q2, .int 0, .int 0, .int 0]))]) [0] rfl
  have hD9 := hD.sub (ws' := [(h0, .inr (4, [.int 0, .int (-1), .int 0, .int 0, .int 0, .int (-1), .ref q1, .ref q2, .int 0, .int 0, .int 0]))]) [0] (by decide) rfl
  refine W.widen (k := 2) (n := 107) (Nat.le_of_ble_eq_true rfl) (Nat.le_of_ble_eq_true rfl) ?_
  exact W.vret hx hb hr (fun t ht hW => ⟨⟨(), rfl, trivial, ⟨q1, q2, by rw [ht]; exact hP9, hD9⟩⟩, hS.F ht⟩) hS.2.2 dX4_init_65

set_option maxHeartbeats 4000000 in
set_option maxRecDepth 100000 in
theorem c_X2_init (l : Launch) (g : zG) (sz : Nat) (h0 : Nat) : Met l yX2_init (zW yX2_init cX2_init 1 none) ({ frames := 1, cells := 10, slots := 48, locals := 12 }) (va_Pc [.ref h0] (zA g [(h0, .inr (2, [.int 0, .int 0, .int 0, .null, .null]))] sz)) (va_Qv (fun (_ : Unit) => True) (fun _ t => ∃ (a1 : Nat), ∃ (a2 : Nat), zP g [(h0, .inr (2, [.int 0, .int 0, .int 1, .ref a1, .ref a2]))] t.heap ∧ va_D (va_A [(h0, .inr (2, [.int 0, .int 0, .int 0, .null, .null]))] sz) [(h0, .inr (2, [.int 0, .int 0, .int 1, .ref a1, .ref a2]))]) (va_A [(h0, .inr (2, [.int 0, .int 0, .int 0, .null, .null]))] sz)) 10 48 (va_A [(h0, .inr (2, [.int 0, .int 0, .int 0, .null, .null]))] sz) := by
  refine Met.ofW (cc := cX2_init) (maxL := 1) (ret := none) (by decide) rfl ?_
  intro p e s m args below meth c s₁ B hml hv
  obtain ⟨rfl, hsz, hP, hK, hD0, hN⟩ := hv
  have hx := B.exec
  have hb := B.bytes
  have hr := B.returns
  have hg := zW.law (atoms_spec (ws := (zW yX2_init cX2_init 1 none)) B.pre)
  have hown : s.vm.findClass RX2 = some m.cls := findClass_of_methodNamed B.named
  have hlocks := B.notSynchronized
  have hin : meth.name = "<init>" := (name_of_methodNamed B.named B.method).1
  subst hsz
  have hD := hD0.self (sz := s.heap.size)
  generalize hAe : va_A [(h0, .inr (2, [.int 0, .int 0, .int 0, .null, .null]))] s.heap.size = A at hD ⊢
  have hA : ∀ q : Nat, s.heap.size ≤ q → A q := fun q h => by rw [← hAe]; exact Or.inr h
  have hS : va_S A s.heap s.heap [] := va_S.rf
  have hl := lv_entry ([.ref h0]) (n := 1) (Nat.le_of_ble_eq_true rfl)
  rw [lg_entry_eq]
  generalize (lg_sl ([.ref h0]) ++ List.replicate (1 - (lg_sl ([.ref h0])).length) Slot.unset).toArray = ls at hl ⊢
  have hl : lv_has ls 1 [(0, .ref h0)] := hl
  refine lv_aload_n hx hb dX2_init_0 rfl (lv_at hl 0 rfl) ?_
  refine W.objInit hx hb hown (hg _ mm_339) (hg _ mm_126) (hg _ mm_127) rfl (by rw [hml]; exact hl.1) rfl dX2_init_1 (Nat.le_of_ble_eq_true rfl) (Nat.le_of_ble_eq_true rfl) ?_
  refine W.eq (g2 := F0 m 4 ls []) rfl ?_
  refine lv_aload_n hx hb dX2_init_4 rfl (lv_at hl 0 rfl) ?_
  refine lv_iconst (v := 0) hx hb dX2_init_5 (by decide) ?_
  refine va_put (D := g.1) (ci := 2) (v := .int 0) (ty := .int) (C := RX2) (T := TX2) (N := 5) hx hb hg inG2 tyX2 tyX2_ok nmX2 hown hK hP hD hS 0 rfl rfl 0 (by decide) (hg _ mm_341) (fun _ h9 => h9) rfl (by decide +kernel) rfl rfl (Nat.le_of_ble_eq_true rfl) dX2_init_6 (fun H locs hP hD hS => ?_)
  have hP : zP g [(h0, .inr (2, [.int 0, .int 0, .int 0, .null, .null]))] H := hP
  have hD : va_D A [(h0, .inr (2, [.int 0, .int 0, .int 0, .null, .null]))] := hD
  refine lv_aload_n hx hb dX2_init_9 rfl (lv_at hl 0 rfl) ?_
  refine lv_iconst (v := 0) hx hb dX2_init_10 (by decide) ?_
  refine va_put (D := g.1) (ci := 2) (v := .int 0) (ty := .int) (C := RX2) (T := TX2) (N := 5) hx hb hg inG2 tyX2 tyX2_ok nmX2 hown hK hP hD hS 0 rfl rfl 1 (by decide) (hg _ mm_343) (fun _ h9 => h9) rfl (by decide +kernel) rfl rfl (Nat.le_of_ble_eq_true rfl) dX2_init_11 (fun H locs hP hD hS => ?_)
  have hP : zP g [(h0, .inr (2, [.int 0, .int 0, .int 0, .null, .null]))] H := hP
  have hD : va_D A [(h0, .inr (2, [.int 0, .int 0, .int 0, .null, .null]))] := hD
  refine lv_aload_n hx hb dX2_init_14 rfl (lv_at hl 0 rfl) ?_
  refine lv_iconst (v := 1) hx hb dX2_init_15 (by decide) ?_
  refine va_put (D := g.1) (ci := 2) (v := .int 1) (ty := .boolean) (C := RX2) (T := TX2) (N := 5) hx hb hg inG2 tyX2 tyX2_ok nmX2 hown hK hP hD hS 0 rfl rfl 2 (by decide) (hg _ mm_345) (fun _ h9 => h9) rfl (by decide +kernel) rfl rfl (Nat.le_of_ble_eq_true rfl) dX2_init_16 (fun H locs hP hD hS => ?_)
  have hP : zP g [(h0, .inr (2, [.int 0, .int 0, .int 1, .null, .null]))] H := hP
  have hD : va_D A [(h0, .inr (2, [.int 0, .int 0, .int 1, .null, .null]))] := hD
  refine lv_aload_n hx hb dX2_init_19 rfl (lv_at hl 0 rfl) ?_
  refine lv_bipush (v := 8) hx hb dX2_init_20 (by decide) ?_
  refine z_newI hx hb (hg _ mm_144) hK hP hD hS hA (n := 8) (N' := 8) (by decide) (by decide) (Nat.le_of_ble_eq_true rfl) (Nat.le_of_ble_eq_true rfl) (Nat.le_of_ble_eq_true rfl) dX2_init_22 (fun q1 H hP hD hS => ?_)
  refine W.widen (k := 1) (n := 8) (Nat.le_of_ble_eq_true rfl) (Nat.le_of_ble_eq_true rfl) ?_
  have hP : zP g [(h0, .inr (2, [.int 0, .int 0, .int 1, .null, .null])), (q1, .inl (g.2 0, 8, .inl (fun _ => 0)))] H := hP
  have hD : va_D A [(h0, .inr (2, [.int 0, .int 0, .int 1, .null, .null])), (q1, .inl (g.2 0, 8, .inl (fun _ => 0)))] := hD
  refine va_putF (D := g.1) (ci := 2) (v := .ref q1) (ty := .array (.int)) (C := RX2) (T := TX2) (N := 5) hx hb hg inG2 tyX2 tyX2_ok nmX2 hown hK hP hD hS 0 rfl rfl 3 (by decide) (hg _ mm_347) (fun _ h9 => h9) rfl hin rfl (by decide +kernel) rfl rfl (Nat.le_of_ble_eq_true rfl) dX2_init_24 (fun H locs hP hD hS => ?_)
  have hP : zP g [(h0, .inr (2, [.int 0, .int 0, .int 1, .ref q1, .null])), (q1, .inl (g.2 0, 8, .inl (fun _ => 0)))] H := hP
  have hD : va_D A [(h0, .inr (2, [.int 0, .int 0, .int 1, .ref q1, .null])), (q1, .inl (g.2 0, 8, .inl (fun _ => 0)))] := hD
  refine lv_aload_n hx hb dX2_init_27 rfl (lv_at hl 0 rfl) ?_
  refine lv_bipush (v := 8) hx hb dX2_init_28 (by decide) ?_
  refine lv_iconst (v := 4) hx hb dX2_init_30 (by decide) ?_
  refine z_mna hx hb hown (hg _ mm_340) hN (hg _ mm_144) hK hP hD hS hA (n := 8) (k := 4) (N' := 8) (K' := 4) (by decide) (by decide) (by decide) (by decide) (Nat.le_of_ble_eq_true rfl) (Nat.le_of_ble_eq_true rfl) (Nat.le_of_ble_eq_true rfl) (Nat.le_of_ble_eq_true rfl) (Nat.le_of_ble_eq_true rfl) dX2_init_31 (fun q2 H hP hD hS => ?_)
  refine W.widen (k := 10) (n := 48) (Nat.le_of_ble_eq_true rfl) (Nat.le_of_ble_eq_true rfl) ?_
  have hP : zP g [(h0, .inr (2, [.int 0, .int 0, .int 1, .ref q1, .null])), (q1, .inl (g.2 0, 8, .inl (fun _ => 0))), (q2, .inl (g.2 7, 8, .inr (.inr (.inr (.inr (zS [some (q2 + 1 + 0), some (q2 + 1 + 1), some (q2 + 1 + 2), some (q2 + 1 + 3), some (q2 + 1 + 4), some (q2 + 1 + 5), some (q2 + 1 + 6), some (q2 + 1 + 7)])))))), ((q2 + 1 + 0), .inl (g.2 0, 4, .inl (fun _ => 0))), ((q2 + 1 + 1), .inl (g.2 0, 4, .inl (fun _ => 0))), ((q2 + 1 + 2), .inl (g.2 0, 4, .inl (fun _ => 0))), ((q2 + 1 + 3), .inl (g.2 0, 4, .inl (fun _ => 0))), ((q2 + 1 + 4), .inl (g.2 0, 4, .inl (fun _ => 0))), ((q2 + 1 + 5), .inl (g.2 0, 4, .inl (fun _ => 0))), ((q2 + 1 + 6), .inl (g.2 0, 4, .inl (fun _ => 0))), ((q2 + 1 + 7), .inl (g.2 0, 4, .inl (fun _ => 0)))] H := hP
  have hD : va_D A [(h0, .inr (2, [.int 0, .int 0, .int 1, .ref q1, .null])), (q1, .inl (g.2 0, 8, .inl (fun _ => 0))), (q2, .inl (g.2 7, 8, .inr (.inr (.inr (.inr (zS [some (q2 + 1 + 0), some (q2 + 1 + 1), some (q2 + 1 + 2), some (q2 + 1 + 3), some (q2 + 1 + 4), some (q2 + 1 + 5), some (q2 + 1 + 6), some (q2 + 1 + 7)])))))), ((q2 + 1 + 0), .inl (g.2 0, 4, .inl (fun _ => 0))), ((q2 + 1 + 1), .inl (g.2 0, 4, .inl (fun _ => 0))), ((q2 + 1 + 2), .inl (g.2 0, 4, .inl (fun _ => 0))), ((q2 + 1 + 3), .inl (g.2 0, 4, .inl (fun _ => 0))), ((q2 + 1 + 4), .inl (g.2 0, 4, .inl (fun _ => 0))), ((q2 + 1 + 5), .inl (g.2 0, 4, .inl (fun _ => 0))), ((q2 + 1 + 6), .inl (g.2 0, 4, .inl (fun _ => 0))), ((q2 + 1 + 7), .inl (g.2 0, 4, .inl (fun _ => 0)))] := hD
  refine va_putF (D := g.1) (ci := 2) (v := .ref q2) (ty := .array (.array (.int))) (C := RX2) (T := TX2) (N := 5) hx hb hg inG2 tyX2 tyX2_ok nmX2 hown hK hP hD hS 0 rfl rfl 4 (by decide) (hg _ mm_348) (fun _ h9 => h9) rfl hin rfl (by decide +kernel) rfl rfl (Nat.le_of_ble_eq_true rfl) dX2_init_35 (fun H locs hP hD hS => ?_)
  have hP : zP g [(h0, .inr (2, [.int 0, .int 0, .int 1, .ref q1, .ref q2])), (q1, .inl (g.2 0, 8, .inl (fun _ => 0))), (q2, .inl (g.2 7, 8, .inr (.inr (.inr (.inr (zS [some (q2 + 1 + 0), some (q2 + 1 + 1), some (q2 + 1 + 2), some (q2 + 1 + 3), some (q2 + 1 + 4), some (q2 + 1 + 5), some (q2 + 1 + 6), some (q2 + 1 + 7)])))))), ((q2 + 1 + 0), .inl (g.2 0, 4, .inl (fun _ => 0))), ((q2 + 1 + 1), .inl (g.2 0, 4, .inl (fun _ => 0))), ((q2 + 1 + 2), .inl (g.2 0, 4, .inl (fun _ => 0))), ((q2 + 1 + 3), .inl (g.2 0, 4, .inl (fun _ => 0))), ((q2 + 1 + 4), .inl (g.2 0, 4, .inl (fun _ => 0))), ((q2 + 1 + 5), .inl (g.2 0, 4, .inl (fun _ => 0))), ((q2 + 1 + 6), .inl (g.2 0, 4, .inl (fun _ => 0))), ((q2 + 1 + 7), .inl (g.2 0, 4, .inl (fun _ => 0)))] H := hP
  have hD : va_D A [(h0, .inr (2, [.int 0, .int 0, .int 1, .ref q1, .ref q2])), (q1, .inl (g.2 0, 8, .inl (fun _ => 0))), (q2, .inl (g.2 7, 8, .inr (.inr (.inr (.inr (zS [some (q2 + 1 + 0), some (q2 + 1 + 1), some (q2 + 1 + 2), some (q2 + 1 + 3), some (q2 + 1 + 4), some (q2 + 1 + 5), some (q2 + 1 + 6), some (q2 + 1 + 7)])))))), ((q2 + 1 + 0), .inl (g.2 0, 4, .inl (fun _ => 0))), ((q2 + 1 + 1), .inl (g.2 0, 4, .inl (fun _ => 0))), ((q2 + 1 + 2), .inl (g.2 0, 4, .inl (fun _ => 0))), ((q2 + 1 + 3), .inl (g.2 0, 4, .inl (fun _ => 0))), ((q2 + 1 + 4), .inl (g.2 0, 4, .inl (fun _ => 0))), ((q2 + 1 + 5), .inl (g.2 0, 4, .inl (fun _ => 0))), ((q2 + 1 + 6), .inl (g.2 0, 4, .inl (fun _ => 0))), ((q2 + 1 + 7), .inl (g.2 0, 4, .inl (fun _ => 0)))] := hD
  have hP9 := hP.sub (ws' := [(h0, .inr (2, [.int 0, .int 0, .int 1, .ref q1, .ref q2]))]) [0] rfl
  have hD9 := hD.sub (ws' := [(h0, .inr (2, [.int 0, .int 0, .int 1, .ref q1, .ref q2]))]) [0] (by decide) rfl
  refine W.widen (k := 10) (n := 48) (Nat.le_of_ble_eq_true rfl) (Nat.le_of_ble_eq_true rfl) ?_
  exact W.vret hx hb hr (fun t ht hW => ⟨⟨(), rfl, trivial, ⟨q1, q2, by rw [ht]; exact hP9, hD9⟩⟩, hS.F ht⟩) hS.2.2 dX2_init_38

set_option maxHeartbeats 4000000 in
set_option maxRecDepth 100000 in
theorem c_X3_init (l : Launch) (g : zG) (sz : Nat) (h0 : Nat) : Met l yX3_init (zW yX3_init cX3_init 2 none) ({ frames := 1, cells := 4, slots := 114, locals := 12 }) (va_Pc [.ref h0] (zA g [(h0, .inr (3, [.int 0, .null, .null, .null, .null, .int 0]))] sz)) (va_Qv (fun (_ : Unit) => True) (fun _ t => ∃ (a1 : Nat), ∃ (a2 : Nat), ∃ (a3 : Nat), ∃ (a4 : Nat), ∃ (f1 : Nat → Int32), ∃ (f2 : Nat → Int32), zP g [(h0, .inr (3, [.int 1, .ref a1, .ref a2, .ref a3, .ref a4, .int 0])), (a1, .inl (g.2 0, 32, .inl f1)), (a2, .inl (g.2 0, 33, .inl f2)), (a3, .inl (g.2 0, 33, .inl (fun _ => 0))), (a4, .inl (g.2 0, 16, .inl (fun _ => 0)))] t.heap ∧ va_D (va_A [(h0, .inr (3, [.int 0, .null, .null, .null, .null, .int 0]))] sz) [(h0, .inr (3, [.int 1, .ref a1, .ref a2, .ref a3, .ref a4, .int 0])), (a1, .inl (g.2 0, 32, .inl f1)), (a2, .inl (g.2 0, 33, .inl f2)), (a3, .inl (g.2 0, 33, .inl (fun _ => 0))), (a4, .inl (g.2 0, 16, .inl (fun _ => 0)))] ∧ (∀ j, j < 32 → f1 j = -1) ∧ (∀ j, j < 16 → f2 j = 1) ∧ (∀ j, 16 ≤ j → j < 32 → f2 j = 0) ∧ (f2 32 = 16)) (va_A [(h0, .inr (3, [.int 0, .null, .null, .null, .null, .int 0]))] sz)) 4 114 (va_A [(h0, .inr (3, [.int 0, .null, .null, .null, .null, .int 0]))] sz) := by
  refine Met.ofW (cc := cX3_init) (maxL := 2) (ret := none) (by decide) rfl ?_
  intro p e s m args below meth c s₁ B hml hv
  obtain ⟨rfl, hsz, hP, hK, hD0, hN⟩ := hv
  have hx := B.exec
  have hb := B.bytes
  have hr := B.returns
  have hg := zW.law (atoms_spec (ws := (zW yX3_init cX3_init 2 none)) B.pre)
  have hown : s.vm.findClass RX3 = some m.cls := findClass_of_methodNamed B.named
  have hlocks := B.notSynchronized
  have hin : meth.name = "<init>" := (name_of_methodNamed B.named B.method).1
  subst hsz
  have hD := hD0.self (sz := s.heap.size)
  generalize hAe : va_A [(h0, .inr (3, [.int 0, .null, .null, .null, .null, .int 0]))] s.heap.size = A at hD ⊢
  have hA : ∀ q : Nat, s.heap.size ≤ q → A q := fun q h => by rw [← hAe]; exact Or.inr h
  have hS : va_S A s.heap s.heap [] := va_S.rf
  have hl := lv_entry ([.ref h0]) (n := 2) (Nat.le_of_ble_eq_true rfl)
  rw [lg_entry_eq]
  generalize (lg_sl ([.ref h0]) ++ List.replicate (2 - (lg_sl ([.ref h0])).length) Slot.unset).toArray = ls at hl ⊢
  have hl : lv_has ls 2 [(0, .ref h0)] := hl
  refine lv_aload_n hx hb dX3_init_0 rfl (lv_at hl 0 rfl) ?_
  refine W.objInit hx hb hown (hg _ mm_314) (hg _ mm_126) (hg _ mm_127) rfl (by rw [hml]; exact hl.1) rfl dX3_init_1 (Nat.le_of_ble_eq_true rfl) (Nat.le_of_ble_eq_true rfl) ?_
  refine W.eq (g2 := F0 m 4 ls []) rfl ?_
  refine lv_aload_n hx hb dX3_init_4 rfl (lv_at hl 0 rfl) ?_
  refine lv_iconst (v := 1) hx hb dX3_init_5 (by decide) ?_
  refine va_put (D := g.1) (ci := 3) (v := .int 1) (ty := .int) (C := RX3) (T := TX3) (N := 6) hx hb hg inG3 tyX3 tyX3_ok nmX3 hown hK hP hD hS 0 rfl rfl 0 (by decide) (hg _ mm_315) (fun _ h9 => h9) rfl (by decide +kernel) rfl rfl (Nat.le_of_ble_eq_true rfl) dX3_init_6 (fun H locs hP hD hS => ?_)
  have hP : zP g [(h0, .inr (3, [.int 1, .null, .null, .null, .null, .int 0]))] H := hP
  have hD : va_D A [(h0, .inr (3, [.int 1, .null, .null, .null, .null, .int 0]))] := hD
  refine lv_aload_n hx hb dX3_init_9 rfl (lv_at hl 0 rfl) ?_
  refine lv_bipush (v := 32) hx hb dX3_init_10 (by decide) ?_
  refine z_newI hx hb (hg _ mm_144) hK hP hD hS hA (n := 32) (N' := 32) (by decide) (by decide) (Nat.le_of_ble_eq_true rfl) (Nat.le_of_ble_eq_true rfl) (Nat.le_of_ble_eq_true rfl) dX3_init_12 (fun q1 H hP hD hS => ?_)
  refine W.widen (k := 1) (n := 32) (Nat.le_of_ble_eq_true rfl) (Nat.le_of_ble_eq_true rfl) ?_
  have hP : zP g [(h0, .inr (3, [.int 1, .null, .null, .null, .null, .int 0])), (q1, .inl (g.2 0, 32, .inl (fun _ => 0)))] H := hP
  have hD : va_D A [(h0, .inr (3, [.int 1, .null, .null, .null, .null, .int 0])), (q1, .inl (g.2 0, 32, .inl (fun _ => 0)))] := hD
  refine va_putF (D := g.1) (ci := 3) (v := .ref q1) (ty := .array (.int)) (C := RX3) (T := TX3) (N := 6) hx hb hg inG3 tyX3 tyX3_ok nmX3 hown hK hP hD hS 0 rfl rfl 1 (by decide) (hg _ mm_317) (fun _ h9 => h9) rfl hin rfl (by decide +kernel) rfl rfl (Nat.le_of_ble_eq_true rfl) dX3_init_14 (fun H locs hP hD hS => ?_)
  have hP : zP g [(h0, .inr (3, [.int 1, .ref q1, .null, .null, .null, .int 0])), (q1, .inl (g.2 0, 32, .inl (fun _ => 0)))] H := hP
  have hD : va_D A [(h0, .inr (3, [.int 1, .ref q1, .null, .null, .null, .int 0])), (q1, .inl (g.2 0, 32, .inl (fun _ => 0)))] := hD
  refine lv_aload_n hx hb dX3_init_17 rfl (lv_at hl 0 rfl) ?_
  refine lv_bipush (v := 33) hx hb dX3_init_18 (by decide) ?_
  refine z_newI hx hb (hg _ mm_144) hK hP hD hS hA (n := 33) (N' := 33) (by decide) (by decide) (Nat.le_of_ble_eq_true rfl) (Nat.le_of_ble_eq_true rfl) (Nat.le_of_ble_eq_true rfl) dX3_init_20 (fun q2 H hP hD hS => ?_)
  refine W.widen (k := 2) (n := 65) (Nat.le_of_ble_eq_true rfl) (Nat.le_of_ble_eq_true rfl) ?_
  have hP : zP g [(h0, .inr (3, [.int 1, .ref q1, .null, .null, .null, .int 0])), (q1, .inl (g.2 0, 32, .inl (fun _ => 0))), (q2, .inl (g.2 0, 33, .inl (fun _ => 0)))] H := hP
  have hD : va_D A [(h0, .inr (3, [.int 1, .ref q1, .null, .null, .null, .int 0])), (q1, .inl (g.2 0, 32, .inl (fun _ => 0))), (q2, .inl (g.2 0, 33, .inl (fun _ => 0)))] := hD
  refine va_putF (D := g.1) (ci := 3) (v := .ref q2) (ty := .array (.int)) (C := RX3) (T := TX3) (N := 6) hx hb hg inG3 tyX3 tyX3_ok nmX3 hown hK hP hD hS 0 rfl rfl 2 (by decide) (hg _ mm_318) (fun _ h9 => h9) rfl hin rfl (by decide +kernel) rfl rfl (Nat.le_of_ble_eq_true rfl) dX3_init_22 (fun H locs hP hD hS => ?_)
  have hP : zP g [(h0, .inr (3, [.int 1, .ref q1, .ref q2, .null, .null, .int 0])), (q1, .inl (g.2 0, 32, .inl (fun _ => 0))), (q2, .inl (g.2 0, 33, .inl (fun _ => 0)))] H := hP
  have hD : va_D A [(h0, .inr (3, [.int 1, .ref q1, .ref q2, .null, .null, .int 0])), (q1, .inl (g.2 0, 32, .inl (fun _ => 0))), (q2, .inl (g.2 0, 33, .inl (fun _ => 0)))] := hD
  refine lv_aload_n hx hb dX3_init_25 rfl (lv_at hl 0 rfl) ?_
  refine lv_bipush (v := 33) hx hb dX3_init_26 (by decide) ?_
  refine z_newI hx hb (hg _ mm_144) hK hP hD hS hA (n := 33) (N' := 33) (by decide) (by decide) (Nat.le_of_ble_eq_true rfl) (Nat.le_of_ble_eq_true rfl) (Nat.le_of_ble_eq_true rfl) dX3_init_28 (fun q3 H hP hD hS => ?_)
  refine W.widen (k := 3) (n := 98) (Nat.le_of_ble_eq_true rfl) (Nat.le_of_ble_eq_true rfl) ?_
  have hP : zP g [(h0, .inr (3, [.int 1, .ref q1, .ref q2, .null, .null, .int 0])), (q1, .inl (g.2 0, 32, .inl (fun _ => 0))), (q2, .inl (g.2 0, 33, .inl (fun _ => 0))), (q3, .inl (g.2 0, 33, .inl (fun _ => 0)))] H := hP
  have hD : va_D A [(h0, .inr (3, [.int 1, .ref q1, .ref q2, .null, .null, .int 0])), (q1, .inl (g.2 0, 32, .inl (fun _ => 0))), (q2, .inl (g.2 0, 33, .inl (fun _ => 0))), (q3, .inl (g.2 0, 33, .inl (fun _ => 0)))] := hD
  refine va_putF (D := g.1) (ci := 3) (v := .ref q3) (ty := .array (.int)) (C := RX3) (T := TX3) (N := 6) hx hb hg inG3 tyX3 tyX3_ok nmX3 hown hK hP hD hS 0 rfl rfl 3 (by decide) (hg _ mm_319) (fun _ h9 => h9) rfl hin rfl (by decide +kernel) rfl rfl (Nat.le_of_ble_eq_true rfl) dX3_init_30 (fun H locs hP hD hS => ?_)
  have hP : zP g [(h0, .inr (3, [.int 1, .ref q1, .ref q2, .ref q3, .null, .int 0])), (q1, .inl (g.2 0, 32, .inl (fun _ => 0))), (q2, .inl (g.2 0, 33, .inl (fun _ => 0))), (q3, .inl (g.2 0, 33, .inl (fun _ => 0)))] H := hP
  have hD : va_D A [(h0, .inr (3, [.int 1, .ref q1, .ref q2, .ref q3, .null, .int 0])), (q1, .inl (g.2 0, 32, .inl (fun _ => 0))), (q2, .inl (g.2 0, 33, .inl (fun _ => 0))), (q3, .inl (g.2 0, 33, .inl (fun _ => 0)))] := hD
  refine lv_aload_n hx hb dX3_init_33 rfl (lv_at hl 0 rfl) ?_
  refine lv_bipush (v := 16) hx hb dX3_init_34 (by decide) ?_
  refine z_newI hx hb (hg _ mm_144) hK hP hD hS hA (n := 16) (N' := 16) (by decide) (by decide) (Nat.le_of_ble_eq_true rfl) (Nat.le_of_ble_eq_true rfl) (Nat.le_of_ble_eq_true rfl) dX3_init_36 (fun q4 H hP hD hS => ?_)
  refine W.widen (k := 4) (n := 114) (Nat.le_of_ble_eq_true rfl) (Nat.le_of_ble_eq_true rfl) ?_
  have hP : zP g [(h0, .inr (3, [.int 1, .ref q1, .ref q2, .ref q3, .null, .int 0])), (q1, .inl (g.2 0, 32, .inl (fun _ => 0))), (q2, .inl (g.2 0, 33, .inl (fun _ => 0))), (q3, .inl (g.2 0, 33, .inl (fun _ => 0))), (q4, .inl (g.2 0, 16, .inl (fun _ => 0)))] H := hP
  have hD : va_D A [(h0, .inr (3, [.int 1, .ref q1, .ref q2, .ref q3, .null, .int 0])), (q1, .inl (g.2 0, 32, .inl (fun _ => 0))), (q2, .inl (g.2 0, 33, .inl (fun _ => 0))), (q3, .inl (g.2 0, 33, .inl (fun _ => 0))), (q4, .inl (g.2 0, 16, .inl (fun _ => 0)))] := hD
  refine va_putF (D := g.1) (ci := 3) (v := .ref q4) (ty := .array (.int)) (C := RX3) (T := TX3) (N := 6) hx hb hg inG3 tyX3 tyX3_ok nmX3 hown hK hP hD hS 0 rfl rfl 4 (by decide) (hg _ mm_320) (fun _ h9 => h9) rfl hin rfl (by decide +kernel) rfl rfl (Nat.le_of_ble_eq_true rfl) dX3_init_38 (fun H locs hP hD hS => ?_)
  have hP : zP g [(h0, .inr (3, [.int 1, .ref q1, .ref q2, .ref q3, .ref q4, .int 0])), (q1, .inl (g.2 0, 32, .inl (fun _ => 0))), (q2, .inl (g.2 0, 33, .inl (fun _ => 0))), (q3, .inl (g.2 0, 33, .inl (fun _ => 0))), (q4, .inl (g.2 0, 16, .inl (fun _ => 0)))] H := hP
  have hD : va_D A [(h0, .inr (3, [.int 1, .ref q1, .ref q2, .ref q3, .ref q4, .int 0])), (q1, .inl (g.2 0, 32, .inl (fun _ => 0))), (q2, .inl (g.2 0, 33, .inl (fun _ => 0))), (q3, .inl (g.2 0, 33, .inl (fun _ => 0))), (q4, .inl (g.2 0, 16, .inl (fun _ => 0)))] := hD
  refine lv_aload_n hx hb dX3_init_41 rfl (lv_at hl 0 rfl) ?_
  refine lv_iconst (v := 0) hx hb dX3_init_42 (by decide) ?_
  refine va_put (D := g.1) (ci := 3) (v := .int 0) (ty := .int) (C := RX3) (T := TX3) (N := 6) hx hb hg inG3 tyX3 tyX3_ok nmX3 hown hK hP hD hS 0 rfl rfl 5 (by decide) (hg _ mm_321) (fun _ h9 => h9) rfl (by decide +kernel) rfl rfl (Nat.le_of_ble_eq_true rfl) dX3_init_43 (fun H locs hP hD hS => ?_)
  have hP : zP g [(h0, .inr (3, [.int 1, .ref q1, .ref q2, .ref q3, .ref q4, .int 0])), (q1, .inl (g.2 0, 32, .inl (fun _ => 0))), (q2, .inl (g.2 0, 33, .inl (fun _ => 0))), (q3, .inl (g.2 0, 33, .inl (fun _ => 0))), (q4, .inl (g.2 0, 16, .inl (fun _ => 0)))] H := hP
  have hD : va_D A [(h0, .inr (3, [.int 1, .ref q1, .ref q2, .ref q3, .ref q4, .int 0])), (q1, .inl (g.2 0, 32, .inl (fun _ => 0))), (q2, .inl (g.2 0, 33, .inl (fun _ => 0))), (q3, .inl (g.2 0, 33, .inl (fun _ => 0))), (q4, .inl (g.2 0, 16, .inl (fun _ => 0)))] := hD
  refine lv_iconst (v := 0) hx hb dX3_init_46 (by decide) ?_
  refine lv_istore_n (lv' := [(1, .int 0), (0, .ref h0)]) hx hb dX3_init_47 rfl hl (by decide) rfl (fun ls hl => ?_)
  have loop48 : ∀ (n : Nat) (i : Nat) (f1 : Nat → Int32) (f2 : Nat → Int32) (H : Heap) (locs : List Loc) (ls : Array Slot), (32 - i < n) → (i ≤ 32) → (∀ j, j < i → f1 j = -1) → (∀ j, j < i → f2 j = if j < 16 then 1 else 0) → zP g [(h0, .inr (3, [.int 1, .ref q1, .ref q2, .ref q3, .ref q4, .int 0])), (q1, .inl (g.2 0, 32, .inl f1)), (q2, .inl (g.2 0, 33, .inl f2)), (q3, .inl (g.2 0, 33, .inl (fun _ => 0))), (q4, .inl (g.2 0, 16, .inl (fun _ => 0)))] H → va_D A [(h0, .inr (3, [.int 1, .ref q1, .ref q2, .ref q3, .ref q4, .int 0])), (q1, .inl (g.2 0, 32, .inl f1)), (q2, .inl (g.2 0, 33, .inl f2)), (q3, .inl (g.2 0, 33, .inl (fun _ => 0))), (q4, .inl (g.2 0, 16, .inl (fun _ => 0)))] → va_S A s.heap H locs → lv_has ls 2 [(1, .int (nI i)), (0, .ref h0)] → W p l e (headSpec (zW yX3_init cX3_init 2 none) ({ frames := 1, cells := 4, slots := 114, locals := 12 })).room s m ([.ref h0] : List Value).toArray below meth c H locs 4 114 (MQ below (va_Qv (fun (_ : Unit) => True) (fun _ t => ∃ (a1 : Nat), ∃ (a2 : Nat), ∃ (a3 : Nat), ∃ (a4 : Nat), ∃ (f1 : Nat → Int32), ∃ (f2 : Nat → Int32), zP g [(h0, .inr (3, [.int 1, .ref a1, .ref a2, .ref a3, .ref a4, .int 0])), (a1, .inl (g.2 0, 32, .inl f1)), (a2, .inl (g.2 0, 33, .inl f2)), (a3, .inl (g.2 0, 33, .inl (fun _ => 0))), (a4, .inl (g.2 0, 16, .inl (fun _ => 0)))] t.heap ∧ va_D A [(h0, .inr (3, [.int 1, .ref a1, .ref a2, .ref a3, .ref a4, .int 0])), (a1, .inl (g.2 0, 32, .inl f1)), (a2, .inl (g.2 0, 33, .inl f2)), (a3, .inl (g.2 0, 33, .inl (fun _ => 0))), (a4, .inl (g.2 0, 16, .inl (fun _ => 0)))] ∧ (∀ j, j < 32 → f1 j = -1) ∧ (∀ j, j < 16 → f2 j = 1) ∧ (∀ j, 16 ≤ j → j < 32 → f2 j = 0) ∧ (f2 32 = 16)) A) ([.ref h0] : List Value).toArray s 4 114 A) (F0 m 48 ls []) := by
    intro n
    induction n with
    | zero =>
      intro i f1 f2 H locs ls hn hi h1 h2 hP hD hS hl
      exact absurd hn (Nat.not_lt_zero _)
    | succ n ih =>
      intro i f1 f2 H locs ls hn hi h1 h2 hP hD hS hl
      refine lv_iload_n hx hb dX3_init_48 rfl (lv_at hl 0 rfl) ?_
      refine lv_bipush (v := 32) hx hb dX3_init_49 (by decide) ?_
      refine lv_icmp_ge (tgt := 84) hx hb dX3_init_51 (by decide) (fun c5 => ?_) (fun c5 => ?_)
      · skip
        have c5 : 32 ≤ ((i : Nat) : Int) := (z_le (by decide : (32 : Int32).toInt = 32) (nI_toInt (by omega))).mp c5
        refine lv_aload_n hx hb dX3_init_84 rfl (lv_at hl 1 rfl) ?_
        refine va_get (D := g.1) (ci := 3) (v := .ref q2) (C := RX3) (T := TX3) (N := 6) hx hb hg inG3 hown hK hP 0 rfl rfl 2 (by decide) (hg _ mm_318) (fun _ h9 => h9) rfl dX3_init_85 ?_
        refine lv_bipush (v := 32) hx hb dX3_init_88 (by decide) ?_
        refine lv_bipush (v := 16) hx hb dX3_init_90 (by decide) ?_
        refine va_iast hx hb hK hP hD hS 2 0 rfl rfl (z_in (by decide : (32 : Int32).toInt = 32) (by omega) (by omega)) dX3_init_92 (fun H locs hP hD hS => ?_)
        rw [show (32 : Int32).toNatClampNeg = 32 from (by decide)] at hP hD
        have hP : zP g [(h0, .inr (3, [.int 1, .ref q1, .ref q2, .ref q3, .ref q4, .int 0])), (q1, .inl (g.2 0, 32, .inl f1)), (q2, .inl (g.2 0, 33, .inl (upd f2 32 16))), (q3, .inl (g.2 0, 33, .inl (fun _ => 0))), (q4, .inl (g.2 0, 16, .inl (fun _ => 0)))] H := hP
        have hD : va_D A [(h0, .inr (3, [.int 1, .ref q1, .ref q2, .ref q3, .ref q4, .int 0])), (q1, .inl (g.2 0, 32, .inl f1)), (q2, .inl (g.2 0, 33, .inl (upd f2 32 16))), (q3, .inl (g.2 0, 33, .inl (fun _ => 0))), (q4, .inl (g.2 0, 16, .inl (fun _ => 0)))] := hD
        have hP9 := hP.sub (ws' := [(h0, .inr (3, [.int 1, .ref q1, .ref q2, .ref q3, .ref q4, .int 0])), (q1, .inl (g.2 0, 32, .inl f1)), (q2, .inl (g.2 0, 33, .inl (upd f2 32 16))), (q3, .inl (g.2 0, 33, .inl (fun _ => 0))), (q4, .inl (g.2 0, 16, .inl (fun _ => 0)))]) [0, 1, 2, 3, 4] rfl
        have hD9 := hD.sub (ws' := [(h0, .inr (3, [.int 1, .ref q1, .ref q2, .ref q3, .ref q4, .int 0])), (q1, .inl (g.2 0, 32, .inl f1)), (q2, .inl (g.2 0, 33, .inl (upd f2 32 16))), (q3, .inl (g.2 0, 33, .inl (fun _ => 0))), (q4, .inl (g.2 0, 16, .inl (fun _ => 0)))]) [0, 1, 2, 3, 4] (by decide) rfl
        refine W.widen (k := 4) (n := 114) (Nat.le_of_ble_eq_true rfl) (Nat.le_of_ble_eq_true rfl) ?_
        exact W.vret hx hb hr (fun t ht hW => ⟨⟨(), rfl, trivial, ⟨q1, q2, q3, q4, f1, (upd f2 32 16), by rw [ht]; exact hP9, hD9, fun j hj => h1 j (by omega), fun j hj => by rw [pk_un (by omega), h2 j (by omega), if_pos hj], fun j hj hk => by rw [pk_un (by omega), h2 j (by omega), if_neg (by omega)], pk_us⟩⟩, hS.F ht⟩) hS.2.2 dX3_init_93
      · skip
        have c5 : ¬ (32 ≤ ((i : Nat) : Int)) := fun q => c5 ((z_le (by decide : (32 : Int32).toInt = 32) (nI_toInt (by omega))).mpr q)
        refine lv_aload_n hx hb dX3_init_54 rfl (lv_at hl 1 rfl) ?_
        refine va_get (D := g.1) (ci := 3) (v := .ref q1) (C := RX3) (T := TX3) (N := 6) hx hb hg inG3 hown hK hP 0 rfl rfl 1 (by decide) (hg _ mm_317) (fun _ h9 => h9) rfl dX3_init_55 ?_
        refine lv_iload_n hx hb dX3_init_58 rfl (lv_at hl 0 rfl) ?_
        refine lv_iconst (v := (-1)) hx hb dX3_init_59 (by decide) ?_
        refine va_iast hx hb hK hP hD hS 1 0 rfl rfl (z_in (nI_toInt (by omega)) (by omega) (by omega)) dX3_init_60 (fun H locs hP hD hS => ?_)
        rw [show ((nI i) : Int32).toNatClampNeg = i from (nI_clamp (by omega))] at hP hD
        have hP : zP g [(h0, .inr (3, [.int 1, .ref q1, .ref q2, .ref q3, .ref q4, .int 0])), (q1, .inl (g.2 0, 32, .inl (upd f1 i (-1)))), (q2, .inl (g.2 0, 33, .inl f2)), (q3, .inl (g.2 0, 33, .inl (fun _ => 0))), (q4, .inl (g.2 0, 16, .inl (fun _ => 0)))] H := hP
        have hD : va_D A [(h0, .inr (3, [.int 1, .ref q1, .ref q2, .ref q3, .ref q4, .int 0])), (q1, .inl (g.2 0, 32, .inl (upd f1 i (-1)))), (q2, .inl (g.2 0, 33, .inl f2)), (q3, .inl (g.2 0, 33, .inl (fun _ => 0))), (q4, .inl (g.2 0, 16, .inl (fun _ => 0)))] := hD
        refine lv_aload_n hx hb dX3_init_61 rfl (lv_at hl 1 rfl) ?_
        refine va_get (D := g.1) (ci := 3) (v := .ref q2) (C := RX3) (T := TX3) (N := 6) hx hb hg inG3 hown hK hP 0 rfl rfl 2 (by decide) (hg _ mm_318) (fun _ h9 => h9) rfl dX3_init_62 ?_
        refine lv_iload_n hx hb dX3_init_65 rfl (lv_at hl 0 rfl) ?_
        refine lv_iload_n hx hb dX3_init_66 rfl (lv_at hl 0 rfl) ?_
        refine lv_bipush (v := 16) hx hb dX3_init_67 (by decide) ?_
        refine lv_icmp_ge (tgt := 76) hx hb dX3_init_69 (by decide) (fun c6 => ?_) (fun c6 => ?_)
        · skip
          have c6 : 16 ≤ ((i : Nat) : Int) := (z_le (by decide : (16 : Int32).toInt = 16) (nI_toInt (by omega))).mp c6
          refine lv_iconst (v := 0) hx hb dX3_init_76 (by decide) ?_
          refine va_iast hx hb hK hP hD hS 2 0 rfl rfl (z_in (nI_toInt (by omega)) (by omega) (by omega)) dX3_init_77 (fun H locs hP hD hS => ?_)
          rw [show ((nI i) : Int32).toNatClampNeg = i from (nI_clamp (by omega))] at hP hD
          have hP : zP g [(h0, .inr (3, [.int 1, .ref q1, .ref q2, .ref q3, .ref q4, .int 0])), (q1, .inl (g.2 0, 32, .inl (upd f1 i (-1)))), (q2, .inl (g.2 0, 33, .inl (upd f2 i 0))), (q3, .inl (g.2 0, 33, .inl (fun _ => 0))), (q4, .inl (g.2 0, 16, .inl (fun _ => 0)))] H := hP
          have hD : va_D A [(h0, .inr (3, [.int 1, .ref q1, .ref q2, .ref q3, .ref q4, .int 0])), (q1, .inl (g.2 0, 32, .inl (upd f1 i (-1)))), (q2, .inl (g.2 0, 33, .inl (upd f2 i 0))), (q3, .inl (g.2 0, 33, .inl (fun _ => 0))), (q4, .inl (g.2 0, 16, .inl (fun _ => 0)))] := hD
          refine lv_iinc (v := (nI (i + 1))) (lv' := [(1, .int (nI (i + 1))), (0, .ref h0)]) hx hb dX3_init_78 hl (k := 0) rfl (nI_1 i) (by decide) rfl (fun ls hl => ?_)
          refine lv_goto (tgt := 48) hx hb dX3_init_81 (by decide) ?_
          exact ih (i + 1) (upd f1 i (-1)) (upd f2 i 0) _ _ ls (by omega) (by omega) (fun j hj => if e : j = i then (by subst e; exact pk_us) else (by rw [pk_un e]; exact h1 j (by omega))) (fun j hj => if e : j = i then (by subst e; rw [pk_us]; first | rw [if_pos (by omega)] | rw [if_neg (by omega)]) else (by rw [pk_un e]; exact h2 j (by omega))) (hP.sub (ws' := [(h0, .inr (3, [.int 1, .ref q1, .ref q2, .ref q3, .ref q4, .int 0])), (q1, .inl (g.2 0, 32, .inl (upd f1 i (-1)))), (q2, .inl (g.2 0, 33, .inl (upd f2 i 0))), (q3, .inl (g.2 0, 33, .inl (fun _ => 0))), (q4, .inl (g.2 0, 16, .inl (fun _ => 0)))]) [0, 1, 2, 3, 4] rfl) (hD.sub (ws' := [(h0, .inr (3, [.int 1, .ref q1, .ref q2, .ref q3, .ref q4, .int 0])), (q1, .inl (g.2 0, 32, .inl (upd f1 i (-1)))), (q2, .inl (g.2 0, 33, .inl (upd f2 i 0))), (q3, .inl (g.2 0, 33, .inl (fun _ => 0))), (q4, .inl (g.2 0, 16, .inl (fun _ => 0)))]) [0, 1, 2, 3, 4] (by decide) rfl) hS (lv_sub hl [0, 1] rfl)
        · skip
          have c6 : ¬ (16 ≤ ((i : Nat) : Int)) := fun q => c6 ((z_le (by decide : (16 : Int32).toInt = 16) (nI_toInt (by omega))).mpr q)
          refine lv_iconst (v := 1) hx hb dX3_init_72 (by decide) ?_
          refine lv_goto (tgt := 77) hx hb dX3_init_73 (by decide) ?_
          refine va_iast hx hb hK hP hD hS 2 0 rfl rfl (z_in (nI_toInt (by omega)) (by omega) (by omega)) dX3_init_77 (fun H locs hP hD hS => ?_)
          rw [show ((nI i) : Int32).toNatClampNeg = i from (nI_clamp (by omega))] at hP hD
          have hP : zP g [(h0, .inr (3, [.int 1, .ref q1, .ref q2, .ref q3, .ref q4, .int 0])), (q1, .inl (g.2 0, 32, .inl (upd f1 i (-1)))), (q2, .inl (g.2 0, 33, .inl (upd f2 i 1))), (q3, .inl (g.2 0, 33, .inl (fun _ => 0))), (q4, .inl (g.2 0, 16, .inl (fun _ => 0)))] H := hP
          have hD : va_D A [(h0, .inr (3, [.int 1, .ref q1, .ref q2, .ref q3, .ref q4, .int 0])), (q1, .inl (g.2 0, 32, .inl (upd f1 i (-1)))), (q2, .inl (g.2 0, 33, .inl (upd f2 i 1))), (q3, .inl (g.2 0, 33, .inl (fun _ => 0))), (q4, .inl (g.2 0, 16, .inl (fun _ => 0)))] := hD
          refine lv_iinc (v := (nI (i + 1))) (lv' := [(1, .int (nI (i + 1))), (0, .ref h0)]) hx hb dX3_init_78 hl (k := 0) rfl (nI_1 i) (by decide) rfl (fun ls hl => ?_)
          refine lv_goto (tgt := 48) hx hb dX3_init_81 (by decide) ?_
          exact ih (i + 1) (upd f1 i (-1)) (upd f2 i 1) _ _ ls (by omega) (by omega) (fun j hj => if e : j = i then (by subst e; exact pk_us) else (by rw [pk_un e]; exact h1 j (by omega))) (fun j hj => if e : j = i then (by subst e; rw [pk_us]; first | rw [if_pos (by omega)] | rw [if_neg (by omega)]) else (by rw [pk_un e]; exact h2 j (by omega))) (hP.sub (ws' := [(h0, .inr (3, [.int 1, .ref q1, .ref q2, .ref q3, .ref q4, .int 0])), (q1, .inl (g.2 0, 32, .inl (upd f1 i (-1)))), (q2, .inl (g.2 0, 33, .inl (upd f2 i 1))), (q3, .inl (g.2 0, 33, .inl (fun _ => 0))), (q4, .inl (g.2 0, 16, .inl (fun _ => 0)))]) [0, 1, 2, 3, 4] rfl) (hD.sub (ws' := [(h0, .inr (3, [.int 1, .ref q1, .ref q2, .ref q3, .ref q4, .int 0])), (q1, .inl (g.2 0, 32, .inl (upd f1 i (-1)))), (q2, .inl (g.2 0, 33, .inl (upd f2 i 1))), (q3, .inl (g.2 0, 33, .inl (fun _ => 0))), (q4, .inl (g.2 0, 16, .inl (fun _ => 0)))]) [0, 1, 2, 3, 4] (by decide) rfl) hS (lv_sub hl [0, 1] rfl)
  exact loop48 (32 - 0 + 1) 0 (fun _ => 0) (fun _ => 0) _ _ ls (by omega) (by omega) (fun j hj => absurd hj (Nat.not_lt_zero _)) (fun j hj => absurd hj (Nat.not_lt_zero _)) hP hD hS (lv_sub hl [0, 1] rfl)
end
section
set_option maxHeartbeats 4000000 in
set_option maxRecDepth 100000 in
theorem c_X3_climb (l : Launch) (g : zG) (sz : Nat) (h0 : Nat) (a1 : Nat) (a2 : Nat) (a3 : Nat) (a4 : Nat) (f1 : Nat → Int32) (f2 : Nat → Int32) (f3 : Nat → Int32) (f4 : Nat → Int32) (we : Int32) (se : Int32) (v : Int32) (mo : Int32) (bi : Int32) : Met l yX3_climb (zW yX3_climb cX3_climb 6 none) ({ frames := 1, cells := 0, slots := 0, locals := 22 }) (va_Pc [.ref h0, .int v, .int mo, .int bi] (zA g [(h0, .inr (3, [.int we, .ref a1, .ref a2, .ref a3, .ref a4, .int se])), (a1, .inl (g.2 0, 32, .inl f1)), (a2, .inl (g.2 0, 33, .inl f2)), (a3, .inl (g.2 0, 33, .inl f3)), (a4, .inl (g.2 0, 16, .inl f4))] sz)) (va_Qv (fun (_ : Unit) => True) (fun _ t => ∃ (z2 : Nat → Int32), ∃ (z3 : Nat → Int32), zP g [(h0, .inr (3, [.int we, .ref a1, .ref a2, .ref a3, .ref a4, .int se])), (a1, .inl (g.2 0, 32, .inl f1)), (a2, .inl (g.2 0, 33, .inl z2)), (a3, .inl (g.2 0, 33, .inl z3)), (a4, .inl (g.2 0, 16, .inl f4))] t.heap ∧ va_D (va_A [(h0, .inr (3, [.int we, .ref a1, .ref a2, .ref a3, .ref a4, .int se])), (a1, .inl (g.2 0, 32, .inl f1)), (a2, .inl (g.2 0, 33, .inl f2)), (a3, .inl (g.2 0, 33, .inl f3)), (a4, .inl (g.2 0, 16, .inl f4))] sz) [(h0, .inr (3, [.int we, .ref a1, .ref a2, .ref a3, .ref a4, .int se])), (a1, .inl (g.2 0, 32, .inl f1)), (a2, .inl (g.2 0, 33, .inl z2)), (a3, .inl (g.2 0, 33, .inl z3)), (a4, .inl (g.2 0, 16, .inl f4))]) (va_A [(h0, .inr (3, [.int we, .ref a1, .ref a2, .ref a3, .ref a4, .int se])), (a1, .inl (g.2 0, 32, .inl f1)), (a2, .inl (g.2 0, 33, .inl f2)), (a3, .inl (g.2 0, 33, .inl f3)), (a4, .inl (g.2 0, 16, .inl f4))] sz)) 0 0 (va_A [(h0, .inr (3, [.int we, .ref a1, .ref a2, .ref a3, .ref a4, .int se])), (a1, .inl (g.2 0, 32, .inl f1)), (a2, .inl (g.2 0, 33, .inl f2)), (a3, .inl (g.2 0, 33, .inl f3)), (a4, .inl (g.2 0, 16, .inl f4))] sz) := by
  refine Met.ofW (cc := cX3_climb) (maxL := 6) (ret := none) (by decide) rfl ?_
  intro p e s m args below meth c s₁ B hml hv
  obtain ⟨rfl, hsz, hP, hK, hD0, hN⟩ := hv
  have hx := B.exec
  have hb := B.bytes
  have hr := B.returns
  have hg := zW.law (atoms_spec (ws := (zW yX3_climb cX3_climb 6 none)) B.pre)
  have hown : s.vm.findClass RX3 = some m.cls := findClass_of_methodNamed B.named
  have hlocks := B.notSynchronized
  subst hsz
  have hD := hD0.self (sz := s.heap.size)
  generalize hAe : va_A [(h0, .inr (3, [.int we, .ref a1, .ref a2, .ref a3, .ref a4, .int se])), (a1, .inl (g.2 0, 32, .inl f1)), (a2, .inl (g.2 0, 33, .inl f2)), (a3, .inl (g.2 0, 33, .inl f3)), (a4, .inl (g.2 0, 16, .inl f4))] s.heap.size = A at hD ⊢
  have hA : ∀ q : Nat, s.heap.size ≤ q → A q := fun q h => by rw [← hAe]; exact Or.inr h
  have hS : va_S A s.heap s.heap [] := va_S.rf
  have hl := lv_entry ([.ref h0, .int v, .int mo, .int bi]) (n := 6) (Nat.le_of_ble_eq_true rfl)
  rw [lg_entry_eq]
  generalize (lg_sl ([.ref h0, .int v, .int mo, .int bi]) ++ List.replicate (6 - (lg_sl ([.ref h0, .int v, .int mo, .int bi])).length) Slot.unset).toArray = ls at hl ⊢
  have hl : lv_has ls 6 [(0, .ref h0), (1, .int v), (2, .int mo), (3, .int bi)] := hl
  refine lv_iload_n hx hb dX3_climb_0 rfl (lv_at hl 1 rfl) ?_
  refine lv_istore (lv' := [(4, .int v), (0, .ref h0), (1, .int v), (2, .int mo), (3, .int bi)]) hx hb dX3_climb_1 hl (by decide) rfl (fun ls hl => ?_)
  refine lv_iconst (v := 0) hx hb dX3_climb_3 (by decide) ?_
  refine lv_istore (lv' := [(5, .int 0), (4, .int v), (0, .ref h0), (1, .int v), (2, .int mo), (3, .int bi)]) hx hb dX3_climb_4 hl (by decide) rfl (fun ls hl => ?_)
  have loop6 : ∀ (n : Nat) (i : Nat) (nd : Int32) (y2 : Nat → Int32) (y3 : Nat → Int32) (H : Heap) (locs : List Loc) (ls : Array Slot), (32 - i < n) → (i ≤ 32) → zP g [(h0, .inr (3, [.int we, .ref a1, .ref a2, .ref a3, .ref a4, .int se])), (a1, .inl (g.2 0, 32, .inl f1)), (a2, .inl (g.2 0, 33, .inl y2)), (a3, .inl (g.2 0, 33, .inl y3)), (a4, .inl (g.2 0, 16, .inl f4))] H → va_D A [(h0, .inr (3, [.int we, .ref a1, .ref a2, .ref a3, .ref a4, .int se])), (a1, .inl (g.2 0, 32, .inl f1)), (a2, .inl (g.2 0, 33, .inl y2)), (a3, .inl (g.2 0, 33, .inl y3)), (a4, .inl (g.2 0, 16, .inl f4))] → va_S A s.heap H locs → lv_has ls 6 [(5, .int (nI i)), (4, .int nd), (0, .ref h0), (1, .int v), (2, .int mo), (3, .int bi)] → W p l e (headSpec (zW yX3_climb cX3_climb 6 none) ({ frames := 1, cells := 0, slots := 0, locals := 22 })).room s m ([.ref h0, .int v, .int mo, .int bi] : List Value).toArray below meth c H locs 0 0 (MQ below (va_Qv (fun (_ : Unit) => True) (fun _ t => ∃ (z2 : Nat → Int32), ∃ (z3 : Nat → Int32), zP g [(h0, .inr (3, [.int we, .ref a1, .ref a2, .ref a3, .ref a4, .int se])), (a1, .inl (g.2 0, 32, .inl f1)), (a2, .inl (g.2 0, 33, .inl z2)), (a3, .inl (g.2 0, 33, .inl z3)), (a4, .inl (g.2 0, 16, .inl f4))] t.heap ∧ va_D A [(h0, .inr (3, [.int we, .ref a1, .ref a2, .ref a3, .ref a4, .int se])), (a1, .inl (g.2 0, 32, .inl f1)), (a2, .inl (g.2 0, 33, .inl z2)), (a3, .inl (g.2 0, 33, .inl z3)), (a4, .inl (g.2 0, 16, .inl f4))]) A) ([.ref h0, .int v, .int mo, .int bi] : List Value).toArray s 0 0 A) (F0 m 6 ls []) := by
    intro n
    induction n with
    | zero =>
      intro i nd y2 y3 H locs ls hn hi hP hD hS hl
      exact absurd hn (Nat.not_lt_zero _)
    | succ n ih =>
      intro i nd y2 y3 H locs ls hn hi hP hD hS hl
      refine lv_iload hx hb dX3_climb_6 (lv_at hl 0 rfl) ?_
      refine lv_bipush (v := 32) hx hb dX3_climb_8 (by decide) ?_
      refine lv_icmp_ge (tgt := 61) hx hb dX3_climb_10 (by decide) (fun c1 => ?_) (fun c1 => ?_)
      · skip
        have c1 : 32 ≤ ((i : Nat) : Int) := (z_le (by decide : (32 : Int32).toInt = 32) (nI_toInt (by omega))).mp c1
        have hP9 := hP.sub (ws' := [(h0, .inr (3, [.int we, .ref a1, .ref a2, .ref a3, .ref a4, .int se])), (a1, .inl (g.2 0, 32, .inl f1)), (a2, .inl (g.2 0, 33, .inl y2)), (a3, .inl (g.2 0, 33, .inl y3)), (a4, .inl (g.2 0, 16, .inl f4))]) [0, 1, 2, 3, 4] rfl
        have hD9 := hD.sub (ws' := [(h0, .inr (3, [.int we, .ref a1, .ref a2, .ref a3, .ref a4, .int se])), (a1, .inl (g.2 0, 32, .inl f1)), (a2, .inl (g.2 0, 33, .inl y2)), (a3, .inl (g.2 0, 33, .inl y3)), (a4, .inl (g.2 0, 16, .inl f4))]) [0, 1, 2, 3, 4] (by decide) rfl
        refine W.widen (k := 0) (n := 0) (Nat.le_of_ble_eq_true rfl) (Nat.le_of_ble_eq_true rfl) ?_
        exact W.vret hx hb hr (fun t ht hW => ⟨⟨(), rfl, trivial, ⟨y2, y3, by rw [ht]; exact hP9, hD9⟩⟩, hS.F ht⟩) hS.2.2 dX3_climb_61
      · skip
        have c1 : ¬ (32 ≤ ((i : Nat) : Int)) := fun q => c1 ((z_le (by decide : (32 : Int32).toInt = 32) (nI_toInt (by omega))).mpr q)
        refine lv_iload hx hb dX3_climb_13 (lv_at hl 1 rfl) ?_
        refine lv_iconst (v := 0) hx hb dX3_climb_15 (by decide) ?_
        refine lv_bipush (v := 31) hx hb dX3_climb_16 (by decide) ?_
        have hPc := hP.sub (ws' := []) [] rfl
        refine zc_i (va_runSN (As := [.int nd, .int 0, .int 31]) (rest := []) ⟨hx, hb, hml, hown, hg⟩ (c_X8_within l g nd (0 : Int32) (31 : Int32) ) ⟨va_cnB 3 hg (z_gN mm_409) rfl rfl rfl (hN.at 7 rfl) (hg _ mm_108) (by decide +kernel) ⟨Nat.le_of_ble_eq_true rfl, Nat.le_of_ble_eq_true rfl⟩, (hg _ mm_408), trivial⟩ (zR.pre [.int nd, .int 0, .int 31] hPc hK hN) rfl rfl hl.1 rfl (lv_room (Nat.le_of_ble_eq_true rfl)) dX3_climb_18 ⟨Nat.le_of_ble_eq_true rfl, Nat.le_of_ble_eq_true rfl⟩) (fun r2 hr2 => ?_)
        rcases hr2 with hr2 | hr2
        · skip
          obtain ⟨rfl, h3, h4⟩ := hr2
          have h3 : (0 : Int) ≤ nd.toInt := h3
          have h4 : nd.toInt ≤ (31 : Int) := h4
          refine lv_if_eq (tgt := 61) hx hb dX3_climb_21 (by decide) (fun c5 => ?_) (fun c5 => ?_)
          · skip
            exact absurd c5 (by decide)
          · skip
            refine lv_aload_n hx hb dX3_climb_24 rfl (lv_at hl 2 rfl) ?_
            refine va_get (D := g.1) (ci := 3) (v := .ref a2) (C := RX3) (T := TX3) (N := 6) hx hb hg inG3 hown hK hP 0 rfl rfl 2 (by decide) (hg _ mm_318) (fun _ h9 => h9) rfl dX3_climb_25 ?_
            refine lv_iload hx hb dX3_climb_28 (lv_at hl 1 rfl) ?_
            refine lv_dup2_11 hx hb dX3_climb_30 rfl rfl ?_
            refine va_iald hx hb hK hP 2 0 rfl rfl (z_in rfl (by omega) (by omega)) dX3_climb_31 ?_
            refine lv_topi (fun x6 ex6 => ?_)
            have ex6 : x6 = y2 (Int32.toNatClampNeg nd) := ex6.trans (congrArg y2 rfl)
            refine lv_iload_n hx hb dX3_climb_32 rfl (lv_at hl 4 rfl) ?_
            refine lv_iadd hx hb dX3_climb_33 ?_
            refine lv_topi (fun x7 ex7 => ?_)
            refine va_iast hx hb hK hP hD hS 2 0 rfl rfl (z_in rfl (by omega) (by omega)) dX3_climb_34 (fun H locs hP hD hS => ?_)
            have hP : zP g [(h0, .inr (3, [.int we, .ref a1, .ref a2, .ref a3, .ref a4, .int se])), (a1, .inl (g.2 0, 32, .inl f1)), (a2, .inl (g.2 0, 33, .inl (upd y2 (Int32.toNatClampNeg nd) x7))), (a3, .inl (g.2 0, 33, .inl y3)), (a4, .inl (g.2 0, 16, .inl f4))] H := hP
            have hD : va_D A [(h0, .inr (3, [.int we, .ref a1, .ref a2, .ref a3, .ref a4, .int se])), (a1, .inl (g.2 0, 32, .inl f1)), (a2, .inl (g.2 0, 33, .inl (upd y2 (Int32.toNatClampNeg nd) x7))), (a3, .inl (g.2 0, 33, .inl y3)), (a4, .inl (g.2 0, 16, .inl f4))] := hD
            refine lv_aload_n hx hb dX3_climb_35 rfl (lv_at hl 2 rfl) ?_
            refine va_get (D := g.1) (ci := 3) (v := .ref a3) (C := RX3) (T := TX3) (N := 6) hx hb hg inG3 hown hK hP 0 rfl rfl 3 (by decide) (hg _ mm_319) (fun _ h9 => h9) rfl dX3_climb_36 ?_
            refine lv_iload hx hb dX3_climb_39 (lv_at hl 1 rfl) ?_
            refine lv_dup2_11 hx hb dX3_climb_41 rfl rfl ?_
            refine va_iald hx hb hK hP 3 0 rfl rfl (z_in rfl (by omega) (by omega)) dX3_climb_42 ?_
            refine lv_topi (fun x8 ex8 => ?_)
            have ex8 : x8 = y3 (Int32.toNatClampNeg nd) := ex8.trans (congrArg y3 rfl)
            refine lv_iload_n hx hb dX3_climb_43 rfl (lv_at hl 5 rfl) ?_
            refine lv_ior hx hb dX3_climb_44 ?_
            refine lv_topi (fun x9 ex9 => ?_)
            refine va_iast hx hb hK hP hD hS 3 0 rfl rfl (z_in rfl (by omega) (by omega)) dX3_climb_45 (fun H locs hP hD hS => ?_)
            have hP : zP g [(h0, .inr (3, [.int we, .ref a1, .ref a2, .ref a3, .ref a4, .int se])), (a1, .inl (g.2 0, 32, .inl f1)), (a2, .inl (g.2 0, 33, .inl (upd y2 (Int32.toNatClampNeg nd) x7))), (a3, .inl (g.2 0, 33, .inl (upd y3 (Int32.toNatClampNeg nd) x9))), (a4, .inl (g.2 0, 16, .inl f4))] H := hP
            have hD : va_D A [(h0, .inr (3, [.int we, .ref a1, .ref a2, .ref a3, .ref a4, .int se])), (a1, .inl (g.2 0, 32, .inl f1)), (a2, .inl (g.2 0, 33, .inl (upd y2 (Int32.toNatClampNeg nd) x7))), (a3, .inl (g.2 0, 33, .inl (upd y3 (Int32.toNatClampNeg nd) x9))), (a4, .inl (g.2 0, 16, .inl f4))] := hD
            refine lv_aload_n hx hb dX3_climb_46 rfl (lv_at hl 2 rfl) ?_
            refine va_get (D := g.1) (ci := 3) (v := .ref a1) (C := RX3) (T := TX3) (N := 6) hx hb hg inG3 hown hK hP 0 rfl rfl 1 (by decide) (hg _ mm_317) (fun _ h9 => h9) rfl dX3_climb_47 ?_
            refine lv_iload hx hb dX3_climb_50 (lv_at hl 1 rfl) ?_
            refine va_iald hx hb hK hP 1 0 rfl rfl (z_in rfl (by omega) (by omega)) dX3_climb_52 ?_
            refine lv_topi (fun x10 ex10 => ?_)
            have ex10 : x10 = f1 (Int32.toNatClampNeg nd) := ex10.trans (congrArg f1 rfl)
            refine lv_istore (lv' := [(4, .int x10), (5, .int (nI i)), (0, .ref h0), (1, .int v), (2, .int mo), (3, .int bi)]) hx hb dX3_climb_53 hl (by decide) rfl (fun ls hl => ?_)
            refine lv_iinc (v := (nI (i + 1))) (lv' := [(5, .int (nI (i + 1))), (4, .int x10), (0, .ref h0), (1, .int v), (2, .int mo), (3, .int bi)]) hx hb dX3_climb_55 hl (k := 1) rfl (nI_1 i) (by decide) rfl (fun ls hl => ?_)
            refine lv_goto (tgt := 6) hx hb dX3_climb_58 (by decide) ?_
            exact ih (i + 1) x10 (upd y2 (Int32.toNatClampNeg nd) x7) (upd y3 (Int32.toNatClampNeg nd) x9) _ _ ls (by omega) (by omega) (hP.sub (ws' := [(h0, .inr (3, [.int we, .ref a1, .ref a2, .ref a3, .ref a4, .int se])), (a1, .inl (g.2 0, 32, .inl f1)), (a2, .inl (g.2 0, 33, .inl (upd y2 (Int32.toNatClampNeg nd) x7))), (a3, .inl (g.2 0, 33, .inl (upd y3 (Int32.toNatClampNeg nd) x9))), (a4, .inl (g.2 0, 16, .inl f4))]) [0, 1, 2, 3, 4] rfl) (hD.sub (ws' := [(h0, .inr (3, [.int we, .ref a1, .ref a2, .ref a3, .ref a4, .int se])), (a1, .inl (g.2 0, 32, .inl f1)), (a2, .inl (g.2 0, 33, .inl (upd y2 (Int32.toNatClampNeg nd) x7))), (a3, .inl (g.2 0, 33, .inl (upd y3 (Int32.toNatClampNeg nd) x9))), (a4, .inl (g.2 0, 16, .inl f4))]) [0, 1, 2, 3, 4] (by decide) rfl) hS (lv_sub hl [0, 1, 2, 3, 4, 5] rfl)
        · skip
          obtain ⟨rfl, h11⟩ := hr2
          have h11 : ¬ ((0 : Int) ≤ nd.toInt ∧ nd.toInt ≤ (31 : Int)) := h11
          refine lv_if_eq (tgt := 61) hx hb dX3_climb_21 (by decide) (fun c12 => ?_) (fun c12 => ?_)
          · skip
            have hP9 := hP.sub (ws' := [(h0, .inr (3, [.int we, .ref a1, .ref a2, .ref a3, .ref a4, .int se])), (a1, .inl (g.2 0, 32, .inl f1)), (a2, .inl (g.2 0, 33, .inl y2)), (a3, .inl (g.2 0, 33, .inl y3)), (a4, .inl (g.2 0, 16, .inl f4))]) [0, 1, 2, 3, 4] rfl
            have hD9 := hD.sub (ws' := [(h0, .inr (3, [.int we, .ref a1, .ref a2, .ref a3, .ref a4, .int se])), (a1, .inl (g.2 0, 32, .inl f1)), (a2, .inl (g.2 0, 33, .inl y2)), (a3, .inl (g.2 0, 33, .inl y3)), (a4, .inl (g.2 0, 16, .inl f4))]) [0, 1, 2, 3, 4] (by decide) rfl
            refine W.widen (k := 0) (n := 0) (Nat.le_of_ble_eq_true rfl) (Nat.le_of_ble_eq_true rfl) ?_
            exact W.vret hx hb hr (fun t ht hW => ⟨⟨(), rfl, trivial, ⟨y2, y3, by rw [ht]; exact hP9, hD9⟩⟩, hS.F ht⟩) hS.2.2 dX3_climb_61
          · skip
            exact absurd c12 (by decide)
  exact loop6 (32 - 0 + 1) 0 v f2 f3 _ _ ls (by omega) (by omega) hP hD hS (lv_sub hl [0, 1, 2, 3, 4, 5] rfl)

set_option maxHeartbeats 4000000 in
set_option maxRecDepth 100000 in
theorem c_X3_settle (l : Launch) (g : zG) (sz : Nat) (h0 : Nat) (a1 : Nat) (a2 : Nat) (a3 : Nat) (a4 : Nat) (f1 : Nat → Int32) (f2 : Nat → Int32) (f3 : Nat → Int32) (f4 : Nat → Int32) (we : Int32) (se : Int32) (p0 : Int32) (v : Int32) : Met l yX3_settle (zW yX3_settle cX3_settle 3 none) ({ frames := 2, cells := 0, slots := 0, locals := 47 }) (va_Pc [.ref h0, .int p0, .int v] (zA g [(h0, .inr (3, [.int we, .ref a1, .ref a2, .ref a3, .ref a4, .int se])), (a1, .inl (g.2 0, 32, .inl f1)), (a2, .inl (g.2 0, 33, .inl f2)), (a3, .inl (g.2 0, 33, .inl f3)), (a4, .inl (g.2 0, 16, .inl f4))] sz)) (va_Qv (fun (_ : Unit) => True) (fun _ t => ∃ (z2 : Nat → Int32), ∃ (z3 : Nat → Int32), ∃ (z4 : Nat → Int32), ∃ (z5 : Int32), zP g [(h0, .inr (3, [.int we, .ref a1, .ref a2, .ref a3, .ref a4, .int z5])), (a1, .inl (g.2 0, 32, .inl f1)), (a2, .inl (g.2 0, 33, .inl z2)), (a3, .inl (g.2 0, 33, .inl z3)), (a4, .inl (g.2 0, 16, .inl z4))] t.heap ∧ va_D (va_A [(h0, .inr (3, [.int we, .ref a1, .ref a2, .ref a3, .ref a4, .int se])), (a1, .inl (g.2 0, 32, .inl f1)), (a2, .inl (g.2 0, 33, .inl f2)), (a3, .inl (g.2 0, 33, .inl f3)), (a4, .inl (g.2 0, 16, .inl f4))] sz) [(h0, .inr (3, [.int we, .ref a1, .ref a2, .ref a3, .ref a4, .int z5])), (a1, .inl (g.2 0, 32, .inl f1)), (a2, .inl (g.2 0, 33, .inl z2)), (a3, .inl (g.2 0, 33, .inl z3)), (a4, .inl (g.2 0, 16, .inl z4))]) (va_A [(h0, .inr (3, [.int we, .ref a1, .ref a2, .ref a3, .ref a4, .int se])), (a1, .inl (g.2 0, 32, .inl f1)), (a2, .inl (g.2 0, 33, .inl f2)), (a3, .inl (g.2 0, 33, .inl f3)), (a4, .inl (g.2 0, 16, .inl f4))] sz)) 0 0 (va_A [(h0, .inr (3, [.int we, .ref a1, .ref a2, .ref a3, .ref a4, .int se])), (a1, .inl (g.2 0, 32, .inl f1)), (a2, .inl (g.2 0, 33, .inl f2)), (a3, .inl (g.2 0, 33, .inl f3)), (a4, .inl (g.2 0, 16, .inl f4))] sz) := by
  refine Met.ofW (cc := cX3_settle) (maxL := 3) (ret := none) (by decide) rfl ?_
  intro p e s m args below meth c s₁ B hml hv
  obtain ⟨rfl, hsz, hP, hK, hD0, hN⟩ := hv
  have hx := B.exec
  have hb := B.bytes
  have hr := B.returns
  have hg := zW.law (atoms_spec (ws := (zW yX3_settle cX3_settle 3 none)) B.pre)
  have hown : s.vm.findClass RX3 = some m.cls := findClass_of_methodNamed B.named
  have hlocks := B.notSynchronized
  subst hsz
  have hD := hD0.self (sz := s.heap.size)
  generalize hAe : va_A [(h0, .inr (3, [.int we, .ref a1, .ref a2, .ref a3, .ref a4, .int se])), (a1, .inl (g.2 0, 32, .inl f1)), (a2, .inl (g.2 0, 33, .inl f2)), (a3, .inl (g.2 0, 33, .inl f3)), (a4, .inl (g.2 0, 16, .inl f4))] s.heap.size = A at hD ⊢
  have hA : ∀ q : Nat, s.heap.size ≤ q → A q := fun q h => by rw [← hAe]; exact Or.inr h
  have hS : va_S A s.heap s.heap [] := va_S.rf
  have hl := lv_entry ([.ref h0, .int p0, .int v]) (n := 3) (Nat.le_of_ble_eq_true rfl)
  rw [lg_entry_eq]
  generalize (lg_sl ([.ref h0, .int p0, .int v]) ++ List.replicate (3 - (lg_sl ([.ref h0, .int p0, .int v])).length) Slot.unset).toArray = ls at hl ⊢
  have hl : lv_has ls 3 [(0, .ref h0), (1, .int p0), (2, .int v)] := hl
  refine lv_iload_n hx hb dX3_settle_0 rfl (lv_at hl 1 rfl) ?_
  refine lv_iconst (v := 0) hx hb dX3_settle_1 (by decide) ?_
  refine lv_bipush (v := 15) hx hb dX3_settle_2 (by decide) ?_
  have hPc := hP.sub (ws' := []) [] rfl
  refine zc_i (va_runSN (As := [.int p0, .int 0, .int 15]) (rest := []) ⟨hx, hb, hml, hown, hg⟩ (c_X8_within l g p0 (0 : Int32) (15 : Int32) ) ⟨va_cnB 3 hg (z_gN mm_409) rfl rfl rfl (hN.at 7 rfl) (hg _ mm_108) (by decide +kernel) ⟨Nat.le_of_ble_eq_true rfl, Nat.le_of_ble_eq_true rfl⟩, (hg _ mm_408), trivial⟩ (zR.pre [.int p0, .int 0, .int 15] hPc hK hN) rfl rfl hl.1 rfl (lv_room (Nat.le_of_ble_eq_true rfl)) dX3_settle_4 ⟨Nat.le_of_ble_eq_true rfl, Nat.le_of_ble_eq_true rfl⟩) (fun r1 hr1 => ?_)
  rcases hr1 with hr1 | hr1
  · skip
    obtain ⟨rfl, h2, h3⟩ := hr1
    have h2 : (0 : Int) ≤ p0.toInt := h2
    have h3 : p0.toInt ≤ (15 : Int) := h3
    refine lv_if_eq (tgt := 53) hx hb dX3_settle_7 (by decide) (fun c4 => ?_) (fun c4 => ?_)
    · skip
      exact absurd c4 (by decide)
    · skip
      refine lv_iload_n hx hb dX3_settle_10 rfl (lv_at hl 2 rfl) ?_
      have hPc := hP.sub (ws' := []) [] rfl
      refine zc_i (va_runSN (As := [.int v]) (rest := []) ⟨hx, hb, hml, hown, hg⟩ (c_X8_isValue l g v ) ⟨va_cnB 1 hg (z_gN mm_433) rfl rfl rfl (hN.at 8 rfl) (hg _ mm_108) (by decide +kernel) ⟨Nat.le_of_ble_eq_true rfl, Nat.le_of_ble_eq_true rfl⟩, (hg _ mm_432), trivial⟩ (zR.pre [.int v] hPc hK hN) rfl rfl hl.1 rfl (lv_room (Nat.le_of_ble_eq_true rfl)) dX3_settle_11 ⟨Nat.le_of_ble_eq_true rfl, Nat.le_of_ble_eq_true rfl⟩) (fun r5 hr5 => ?_)
      rcases hr5 with hr5 | hr5
      · skip
        obtain ⟨rfl, h6, h7⟩ := hr5
        have h6 : 0 ≤ v.toInt := h6
        have h7 : v.toInt ≤ 15 := h7
        refine lv_if_eq (tgt := 53) hx hb dX3_settle_14 (by decide) (fun c8 => ?_) (fun c8 => ?_)
        · skip
          exact absurd c8 (by decide)
        · skip
          refine lv_aload_n hx hb dX3_settle_17 rfl (lv_at hl 0 rfl) ?_
          refine va_get (D := g.1) (ci := 3) (v := .ref a4) (C := RX3) (T := TX3) (N := 6) hx hb hg inG3 hown hK hP 0 rfl rfl 4 (by decide) (hg _ mm_320) (fun _ h9 => h9) rfl dX3_settle_18 ?_
          refine lv_iload_n hx hb dX3_settle_21 rfl (lv_at hl 1 rfl) ?_
          refine lv_iload_n hx hb dX3_settle_22 rfl (lv_at hl 2 rfl) ?_
          refine va_iast hx hb hK hP hD hS 4 0 rfl rfl (z_in rfl (by omega) (by omega)) dX3_settle_23 (fun H locs hP hD hS => ?_)
          have hP : zP g [(h0, .inr (3, [.int we, .ref a1, .ref a2, .ref a3, .ref a4, .int se])), (a1, .inl (g.2 0, 32, .inl f1)), (a2, .inl (g.2 0, 33, .inl f2)), (a3, .inl (g.2 0, 33, .inl f3)), (a4, .inl (g.2 0, 16, .inl (upd f4 (Int32.toNatClampNeg p0) v)))] H := hP
          have hD : va_D A [(h0, .inr (3, [.int we, .ref a1, .ref a2, .ref a3, .ref a4, .int se])), (a1, .inl (g.2 0, 32, .inl f1)), (a2, .inl (g.2 0, 33, .inl f2)), (a3, .inl (g.2 0, 33, .inl f3)), (a4, .inl (g.2 0, 16, .inl (upd f4 (Int32.toNatClampNeg p0) v)))] := hD
          refine lv_aload_n hx hb dX3_settle_24 rfl (lv_at hl 0 rfl) ?_
          refine lv_iload_n hx hb dX3_settle_25 rfl (lv_at hl 1 rfl) ?_
          refine lv_iconst (v := 1) hx hb dX3_settle_26 (by decide) ?_
          refine lv_iadd hx hb dX3_settle_27 ?_
          refine lv_topi (fun x9 ex9 => ?_)
          have tx9 : x9.toInt = p0.toInt + 1 := by rw [ex9]; exact z_add rfl (by decide : (1 : Int32).toInt = 1) (by omega) (by omega)
          refine va_put (D := g.1) (ci := 3) (v := .int x9) (ty := .int) (C := RX3) (T := TX3) (N := 6) hx hb hg inG3 tyX3 tyX3_ok nmX3 hown hK hP hD hS 0 rfl rfl 5 (by decide) (hg _ mm_321) (fun _ h9 => h9) rfl (by decide +kernel) rfl rfl (Nat.le_of_ble_eq_true rfl) dX3_settle_28 (fun H locs hP hD hS => ?_)
          have hP : zP g [(h0, .inr (3, [.int we, .ref a1, .ref a2, .ref a3, .ref a4, .int x9])), (a1, .inl (g.2 0, 32, .inl f1)), (a2, .inl (g.2 0, 33, .inl f2)), (a3, .inl (g.2 0, 33, .inl f3)), (a4, .inl (g.2 0, 16, .inl (upd f4 (Int32.toNatClampNeg p0) v)))] H := hP
          have hD : va_D A [(h0, .inr (3, [.int we, .ref a1, .ref a2, .ref a3, .ref a4, .int x9])), (a1, .inl (g.2 0, 32, .inl f1)), (a2, .inl (g.2 0, 33, .inl f2)), (a3, .inl (g.2 0, 33, .inl f3)), (a4, .inl (g.2 0, 16, .inl (upd f4 (Int32.toNatClampNeg p0) v)))] := hD
          refine lv_aload_n hx hb dX3_settle_31 rfl (lv_at hl 0 rfl) ?_
          refine lv_iload_n hx hb dX3_settle_32 rfl (lv_at hl 2 rfl) ?_
          refine lv_iconst (v := 0) hx hb dX3_settle_33 (by decide) ?_
          refine lv_iconst (v := 1) hx hb dX3_settle_34 (by decide) ?_
          refine lv_iload_n hx hb dX3_settle_35 rfl (lv_at hl 1 rfl) ?_
          refine lv_ishl hx hb dX3_settle_36 ?_
          refine lv_topi (fun x10 ex10 => ?_)
          have hPc := hP.sub (ws' := [(h0, .inr (3, [.int we, .ref a1, .ref a2, .ref a3, .ref a4, .int x9])), (a1, .inl (g.2 0, 32, .inl f1)), (a2, .inl (g.2 0, 33, .inl f2)), (a3, .inl (g.2 0, 33, .inl f3)), (a4, .inl (g.2 0, 16, .inl (upd f4 (Int32.toNatClampNeg p0) v)))]) [0, 1, 2, 3, 4] rfl
          have hDc := hD.sub (ws' := [(h0, .inr (3, [.int we, .ref a1, .ref a2, .ref a3, .ref a4, .int x9])), (a1, .inl (g.2 0, 32, .inl f1)), (a2, .inl (g.2 0, 33, .inl f2)), (a3, .inl (g.2 0, 33, .inl f3)), (a4, .inl (g.2 0, 16, .inl (upd f4 (Int32.toNatClampNeg p0) v)))]) [0, 1, 2, 3, 4] (by decide) rfl
          have hFc := va_free (wc := [(h0, .inr (3, [.int we, .ref a1, .ref a2, .ref a3, .ref a4, .int x9])), (a1, .inl (g.2 0, 32, .inl f1)), (a2, .inl (g.2 0, 33, .inl f2)), (a3, .inl (g.2 0, 33, .inl f3)), (a4, .inl (g.2 0, 16, .inl (upd f4 (Int32.toNatClampNeg p0) v)))]) hD hS hA [0, 1, 2, 3, 4] rfl
          refine va_callv (va_runV (As := [.int v, .int 0, .int x10]) (rest := []) ⟨hx, hb, hml, hown, hg⟩ (c_X3_climb l g _ h0 a1 a2 a3 a4 f1 f2 f3 (upd f4 (Int32.toNatClampNeg p0) v) we x9 v (0 : Int32) x10 ) (cwV 3 hg (z_gV mm_415 mm_417 mm_0 mm_115 mm_418) rfl rfl rfl (by decide +kernel) ⟨Nat.le_of_ble_eq_true rfl, Nat.le_of_ble_eq_true rfl⟩) ⟨(zA.pre [.ref h0, .int v, .int 0, .int x10] hPc hK hDc hN).1, va_recv hK hPc (ci := 3) (q0 := 0) rfl rfl, (zA.pre [.ref h0, .int v, .int 0, .int x10] hPc hK hDc hN).2⟩ rfl rfl hl.1 rfl (lv_room (Nat.le_of_ble_eq_true rfl)) dX3_settle_37 ⟨Nat.le_of_ble_eq_true rfl, Nat.le_of_ble_eq_true rfl⟩) hS (fun q _ h => hFc q h) hFc (fun _ t H1 locs ht hvm hr11 hB hz1 hk1 hS => ?_)
          obtain ⟨z12, z13, hP1, hD1⟩ := hB
          rw [ht] at hP1
          obtain ⟨hP, hD⟩ := va_join (wr := []) (w1 := [(h0, .inr (3, [.int we, .ref a1, .ref a2, .ref a3, .ref a4, .int x9])), (a1, .inl (g.2 0, 32, .inl f1)), (a2, .inl (g.2 0, 33, .inl z12)), (a3, .inl (g.2 0, 33, .inl z13)), (a4, .inl (g.2 0, 16, .inl (upd f4 (Int32.toNatClampNeg p0) v)))]) hP hD [0, 1, 2, 3, 4] [] rfl rfl (by decide) (by decide) hk1 hFc hP1 hD1
          generalize H1 = H at hP hS ⊢
          refine W.widen (k := 0) (n := 0) (Nat.le_of_ble_eq_true rfl) (Nat.le_of_ble_eq_true rfl) ?_
          have hP : zP g [(h0, .inr (3, [.int we, .ref a1, .ref a2, .ref a3, .ref a4, .int x9])), (a1, .inl (g.2 0, 32, .inl f1)), (a2, .inl (g.2 0, 33, .inl z12)), (a3, .inl (g.2 0, 33, .inl z13)), (a4, .inl (g.2 0, 16, .inl (upd f4 (Int32.toNatClampNeg p0) v)))] H := hP
          have hD : va_D A [(h0, .inr (3, [.int we, .ref a1, .ref a2, .ref a3, .ref a4, .int x9])), (a1, .inl (g.2 0, 32, .inl f1)), (a2, .inl (g.2 0, 33, .inl z12)), (a3, .inl (g.2 0, 33, .inl z13)), (a4, .inl (g.2 0, 16, .inl (upd f4 (Int32.toNatClampNeg p0) v)))] := hD
          refine lv_aload_n hx hb dX3_settle_40 rfl (lv_at hl 0 rfl) ?_
          refine va_get (D := g.1) (ci := 3) (v := .ref a3) (C := RX3) (T := TX3) (N := 6) hx hb hg inG3 hown hK hP 0 rfl rfl 3 (by decide) (hg _ mm_319) (fun _ h9 => h9) rfl dX3_settle_41 ?_
          refine lv_bipush (v := 32) hx hb dX3_settle_44 (by decide) ?_
          refine lv_dup2_11 hx hb dX3_settle_46 rfl rfl ?_
          refine va_iald hx hb hK hP 3 0 rfl rfl (z_in (by decide : (32 : Int32).toInt = 32) (by omega) (by omega)) dX3_settle_47 ?_
          refine lv_topi (fun x14 ex14 => ?_)
          have ex14 : x14 = z13 32 := ex14.trans (congrArg z13 (by decide))
          refine lv_iconst (v := 1) hx hb dX3_settle_48 (by decide) ?_
          refine lv_iload_n hx hb dX3_settle_49 rfl (lv_at hl 1 rfl) ?_
          refine lv_ishl hx hb dX3_settle_50 ?_
          refine lv_topi (fun x15 ex15 => ?_)
          refine lv_ior hx hb dX3_settle_51 ?_
          refine lv_topi (fun x16 ex16 => ?_)
          refine va_iast hx hb hK hP hD hS 3 0 rfl rfl (z_in (by decide : (32 : Int32).toInt = 32) (by omega) (by omega)) dX3_settle_52 (fun H locs hP hD hS => ?_)
          rw [show (32 : Int32).toNatClampNeg = 32 from (by decide)] at hP hD
          have hP : zP g [(h0, .inr (3, [.int we, .ref a1, .ref a2, .ref a3, .ref a4, .int x9])), (a1, .inl (g.2 0, 32, .inl f1)), (a2, .inl (g.2 0, 33, .inl z12)), (a3, .inl (g.2 0, 33, .inl (upd z13 32 x16))), (a4, .inl (g.2 0, 16, .inl (upd f4 (Int32.toNatClampNeg p0) v)))] H := hP
          have hD : va_D A [(h0, .inr (3, [.int we, .ref a1, .ref a2, .ref a3, .ref a4, .int x9])), (a1, .inl (g.2 0, 32, .inl f1)), (a2, .inl (g.2 0, 33, .inl z12)), (a3, .inl (g.2 0, 33, .inl (upd z13 32 x16))), (a4, .inl (g.2 0, 16, .inl (upd f4 (Int32.toNatClampNeg p0) v)))] := hD
          have hP9 := hP.sub (ws' := [(h0, .inr (3, [.int we, .ref a1, .ref a2, .ref a3, .ref a4, .int x9])), (a1, .inl (g.2 0, 32, .inl f1)), (a2, .inl (g.2 0, 33, .inl z12)), (a3, .inl (g.2 0, 33, .inl (upd z13 32 x16))), (a4, .inl (g.2 0, 16, .inl (upd f4 (Int32.toNatClampNeg p0) v)))]) [0, 1, 2, 3, 4] rfl
          have hD9 := hD.sub (ws' := [(h0, .inr (3, [.int we, .ref a1, .ref a2, .ref a3, .ref a4, .int x9])), (a1, .inl (g.2 0, 32, .inl f1)), (a2, .inl (g.2 0, 33, .inl z12)), (a3, .inl (g.2 0, 33, .inl (upd z13 32 x16))), (a4, .inl (g.2 0, 16, .inl (upd f4 (Int32.toNatClampNeg p0) v)))]) [0, 1, 2, 3, 4] (by decide) rfl
          refine W.widen (k := 0) (n := 0) (Nat.le_of_ble_eq_true rfl) (Nat.le_of_ble_eq_true rfl) ?_
          exact W.vret hx hb hr (fun t ht hW => ⟨⟨(), rfl, trivial, ⟨z12, (upd z13 32 x16), (upd f4 (Int32.toNatClampNeg p0) v), x9, by rw [ht]; exact hP9, hD9⟩⟩, hS.F ht⟩) hS.2.2 dX3_settle_53
      · skip
        obtain ⟨rfl, h17⟩ := hr5
        have h17 : ¬ (0 ≤ v.toInt ∧ v.toInt ≤ 15) := h17
        refine lv_if_eq (tgt := 53) hx hb dX3_settle_14 (by decide) (fun c18 => ?_) (fun c18 => ?_)
        · skip
          have hP9 := hP.sub (ws' := [(h0, .inr (3, [.int we, .ref a1, .ref a2, .ref a3, .ref a4, .int se])), (a1, .inl (g.2 0, 32, .inl f1)), (a2, .inl (g.2 0, 33, .inl f2)), (a3, .inl (g.2 0, 33, .inl f3)), (a4, .inl (g.2 0, 16, .inl f4))]) [0, 1, 2, 3, 4] rfl
          have hD9 := hD.sub (ws' := [(h0, .inr (3, [.int we, .ref a1, .ref a2, .ref a3, .ref a4, .int se])), (a1, .inl (g.2 0, 32, .inl f1)), (a2, .inl (g.2 0, 33, .inl f2)), (a3, .inl (g.2 0, 33, .inl f3)), (a4, .inl (g.2 0, 16, .inl f4))]) [0, 1, 2, 3, 4] (by decide) rfl
          refine W.widen (k := 0) (n := 0) (Nat.le_of_ble_eq_true rfl) (Nat.le_of_ble_eq_true rfl) ?_
          exact W.vret hx hb hr (fun t ht hW => ⟨⟨(), rfl, trivial, ⟨f2, f3, f4, se, by rw [ht]; exact hP9, hD9⟩⟩, hS.F ht⟩) hS.2.2 dX3_settle_53
        · skip
          exact absurd c18 (by decide)
  · skip
    obtain ⟨rfl, h19⟩ := hr1
    have h19 : ¬ ((0 : Int) ≤ p0.toInt ∧ p0.toInt ≤ (15 : Int)) := h19
    refine lv_if_eq (tgt := 53) hx hb dX3_settle_7 (by decide) (fun c20 => ?_) (fun c20 => ?_)
    · skip
      have hP9 := hP.sub (ws' := [(h0, .inr (3, [.int we, .ref a1, .ref a2, .ref a3, .ref a4, .int se])), (a1, .inl (g.2 0, 32, .inl f1)), (a2, .inl (g.2 0, 33, .inl f2)), (a3, .inl (g.2 0, 33, .inl f3)), (a4, .inl (g.2 0, 16, .inl f4))]) [0, 1, 2, 3, 4] rfl
      have hD9 := hD.sub (ws' := [(h0, .inr (3, [.int we, .ref a1, .ref a2, .ref a3, .ref a4, .int se])), (a1, .inl (g.2 0, 32, .inl f1)), (a2, .inl (g.2 0, 33, .inl f2)), (a3, .inl (g.2 0, 33, .inl f3)), (a4, .inl (g.2 0, 16, .inl f4))]) [0, 1, 2, 3, 4] (by decide) rfl
      refine W.widen (k := 0) (n := 0) (Nat.le_of_ble_eq_true rfl) (Nat.le_of_ble_eq_true rfl) ?_
      exact W.vret hx hb hr (fun t ht hW => ⟨⟨(), rfl, trivial, ⟨f2, f3, f4, se, by rw [ht]; exact hP9, hD9⟩⟩, hS.F ht⟩) hS.2.2 dX3_settle_53
    · skip
      exact absurd c20 (by decide)

set_option maxHeartbeats 4000000 in
set_option maxRecDepth 100000 in
theorem c_X3_hang (l : Launch) (g : zG) (sz : Nat) (h0 : Nat) (a1 : Nat) (a2 : Nat) (a3 : Nat) (a4 : Nat) (f1 : Nat → Int32) (f2 : Nat → Int32) (f3 : Nat → Int32) (f4 : Nat → Int32) (we : Int32) (se : Int32) (nd0 : Int32) (up : Int32) (hse : 0 ≤ se.toInt ∧ se.toInt ≤ 16) : Met l yX3_hang (zW yX3_hang cX3_hang 4 none) ({ frames := 2, cells := 0, slots := 0, locals := 47 }) (va_Pc [.ref h0, .int nd0, .int up] (zA g [(h0, .inr (3, [.int we, .ref a1, .ref a2, .ref a3, .ref a4, .int se])), (a1, .inl (g.2 0, 32, .inl f1)), (a2, .inl (g.2 0, 33, .inl f2)), (a3, .inl (g.2 0, 33, .inl f3)), (a4, .inl (g.2 0, 16, .inl f4))] sz)) (va_Qv (fun (_ : Unit) => True) (fun _ t => ∃ (z1 : Nat → Int32), ∃ (z2 : Nat → Int32), ∃ (z3 : Nat → Int32), zP g [(h0, .inr (3, [.int we, .ref a1, .ref a2, .ref a3, .ref a4, .int se])), (a1, .inl (g.2 0, 32, .inl z1)), (a2, .inl (g.2 0, 33, .inl z2)), (a3, .inl (g.2 0, 33, .inl z3)), (a4, .inl (g.2 0, 16, .inl f4))] t.heap ∧ va_D (va_A [(h0, .inr (3, [.int we, .ref a1, .ref a2, .ref a3, .ref a4, .int se])), (a1, .inl (g.2 0, 32, .inl f1)), (a2, .inl (g.2 0, 33, .inl f2)), (a3, .inl (g.2 0, 33, .inl f3)), (a4, .inl (g.2 0, 16, .inl f4))] sz) [(h0, .inr (3, [.int we, .ref a1, .ref a2, .ref a3, .ref a4, .int se])), (a1, .inl (g.2 0, 32, .inl z1)), (a2, .inl (g.2 0, 33, .inl z2)), (a3, .inl (g.2 0, 33, .inl z3)), (a4, .inl (g.2 0, 16, .inl f4))]) (va_A [(h0, .inr (3, [.int we, .ref a1, .ref a2, .ref a3, .ref a4, .int se])), (a1, .inl (g.2 0, 32, .inl f1)), (a2, .inl (g.2 0, 33, .inl f2)), (a3, .inl (g.2 0, 33, .inl f3)), (a4, .inl (g.2 0, 16, .inl f4))] sz)) 0 0 (va_A [(h0, .inr (3, [.int we, .ref a1, .ref a2, .ref a3, .ref a4, .int se])), (a1, .inl (g.2 0, 32, .inl f1)), (a2, .inl (g.2 0, 33, .inl f2)), (a3, .inl (g.2 0, 33, .inl f3)), (a4, .inl (g.2 0, 16, .inl f4))] sz) := by
  refine Met.ofW (cc := cX3_hang) (maxL := 4) (ret := none) (by decide) rfl ?_
  intro p e s m args below meth c s₁ B hml hv
  obtain ⟨rfl, hsz, hP, hK, hD0, hN⟩ := hv
  have hx := B.exec
  have hb := B.bytes
  have hr := B.returns
  have hg := zW.law (atoms_spec (ws := (zW yX3_hang cX3_hang 4 none)) B.pre)
  have hown : s.vm.findClass RX3 = some m.cls := findClass_of_methodNamed B.named
  have hlocks := B.notSynchronized
  subst hsz
  have hD := hD0.self (sz := s.heap.size)
  generalize hAe : va_A [(h0, .inr (3, [.int we, .ref a1, .ref a2, .ref a3, .ref a4, .int se])), (a1, .inl (g.2 0, 32, .inl f1)), (a2, .inl (g.2 0, 33, .inl f2)), (a3, .inl (g.2 0, 33, .inl f3)), (a4, .inl (g.2 0, 16, .inl f4))] s.heap.size = A at hD ⊢
  have hA : ∀ q : Nat, s.heap.size ≤ q → A q := fun q h => by rw [← hAe]; exact Or.inr h
  have hS : va_S A s.heap s.heap [] := va_S.rf
  have hl := lv_entry ([.ref h0, .int nd0, .int up]) (n := 4) (Nat.le_of_ble_eq_true rfl)
  rw [lg_entry_eq]
  generalize (lg_sl ([.ref h0, .int nd0, .int up]) ++ List.replicate (4 - (lg_sl ([.ref h0, .int nd0, .int up])).length) Slot.unset).toArray = ls at hl ⊢
  have hl : lv_has ls 4 [(0, .ref h0), (1, .int nd0), (2, .int up)] := hl
  refine lv_iload_n hx hb dX3_hang_0 rfl (lv_at hl 1 rfl) ?_
  refine lv_iconst (v := 0) hx hb dX3_hang_1 (by decide) ?_
  refine lv_bipush (v := 31) hx hb dX3_hang_2 (by decide) ?_
  have hPc := hP.sub (ws' := []) [] rfl
  refine zc_i (va_runSN (As := [.int nd0, .int 0, .int 31]) (rest := []) ⟨hx, hb, hml, hown, hg⟩ (c_X8_within l g nd0 (0 : Int32) (31 : Int32) ) ⟨va_cnB 3 hg (z_gN mm_409) rfl rfl rfl (hN.at 7 rfl) (hg _ mm_108) (by decide +kernel) ⟨Nat.le_of_ble_eq_true rfl, Nat.le_of_ble_eq_true rfl⟩, (hg _ mm_408), trivial⟩ (zR.pre [.int nd0, .int 0, .int 31] hPc hK hN) rfl rfl hl.1 rfl (lv_room (Nat.le_of_ble_eq_true rfl)) dX3_hang_4 ⟨Nat.le_of_ble_eq_true rfl, Nat.le_of_ble_eq_true rfl⟩) (fun r1 hr1 => ?_)
  rcases hr1 with hr1 | hr1
  · skip
    obtain ⟨rfl, h2, h3⟩ := hr1
    have h2 : (0 : Int) ≤ nd0.toInt := h2
    have h3 : nd0.toInt ≤ (31 : Int) := h3
    refine lv_if_ne (tgt := 11) hx hb dX3_hang_7 (by decide) (fun c4 => ?_) (fun c4 => ?_)
    · skip
      refine lv_aload_n hx hb dX3_hang_11 rfl (lv_at hl 0 rfl) ?_
      refine va_get (D := g.1) (ci := 3) (v := .ref a1) (C := RX3) (T := TX3) (N := 6) hx hb hg inG3 hown hK hP 0 rfl rfl 1 (by decide) (hg _ mm_317) (fun _ h9 => h9) rfl dX3_hang_12 ?_
      refine lv_iload_n hx hb dX3_hang_15 rfl (lv_at hl 1 rfl) ?_
      refine lv_iload_n hx hb dX3_hang_16 rfl (lv_at hl 2 rfl) ?_
      refine va_iast hx hb hK hP hD hS 1 0 rfl rfl (z_in rfl (by omega) (by omega)) dX3_hang_17 (fun H locs hP hD hS => ?_)
      have hP : zP g [(h0, .inr (3, [.int we, .ref a1, .ref a2, .ref a3, .ref a4, .int se])), (a1, .inl (g.2 0, 32, .inl (upd f1 (Int32.toNatClampNeg nd0) up))), (a2, .inl (g.2 0, 33, .inl f2)), (a3, .inl (g.2 0, 33, .inl f3)), (a4, .inl (g.2 0, 16, .inl f4))] H := hP
      have hD : va_D A [(h0, .inr (3, [.int we, .ref a1, .ref a2, .ref a3, .ref a4, .int se])), (a1, .inl (g.2 0, 32, .inl (upd f1 (Int32.toNatClampNeg nd0) up))), (a2, .inl (g.2 0, 33, .inl f2)), (a3, .inl (g.2 0, 33, .inl f3)), (a4, .inl (g.2 0, 16, .inl f4))] := hD
      refine lv_iconst (v := 0) hx hb dX3_hang_18 (by decide) ?_
      refine lv_istore_n (lv' := [(3, .int 0), (0, .ref h0), (1, .int nd0), (2, .int up)]) hx hb dX3_hang_19 rfl hl (by decide) rfl (fun ls hl => ?_)
      have loop20 : ∀ (n : Nat) (i : Nat) (y2 : Nat → Int32) (y3 : Nat → Int32) (H : Heap) (locs : List Loc) (ls : Array Slot), (32 - i < n) → (i ≤ 32) → zP g [(h0, .inr (3, [.int we, .ref a1, .ref a2, .ref a3, .ref a4, .int se])), (a1, .inl (g.2 0, 32, .inl (upd f1 (Int32.toNatClampNeg nd0) up))), (a2, .inl (g.2 0, 33, .inl y2)), (a3, .inl (g.2 0, 33, .inl y3)), (a4, .inl (g.2 0, 16, .inl f4))] H → va_D A [(h0, .inr (3, [.int we, .ref a1, .ref a2, .ref a3, .ref a4, .int se])), (a1, .inl (g.2 0, 32, .inl (upd f1 (Int32.toNatClampNeg nd0) up))), (a2, .inl (g.2 0, 33, .inl y2)), (a3, .inl (g.2 0, 33, .inl y3)), (a4, .inl (g.2 0, 16, .inl f4))] → va_S A s.heap H locs → lv_has ls 4 [(3, .int (nI i)), (0, .ref h0), (1, .int nd0), (2, .int up)] → W p l e (headSpec (zW yX3_hang cX3_hang 4 none) ({ frames := 2, cells := 0, slots := 0, locals := 47 })).room s m ([.ref h0, .int nd0, .int up] : List Value).toArray below meth c H locs 0 0 (MQ below (va_Qv (fun (_ : Unit) => True) (fun _ t => ∃ (z1 : Nat → Int32), ∃ (z2 : Nat → Int32), ∃ (z3 : Nat → Int32), zP g [(h0, .inr (3, [.int we, .ref a1, .ref a2, .ref a3, .ref a4, .int se])), (a1, .inl (g.2 0, 32, .inl z1)), (a2, .inl (g.2 0, 33, .inl z2)), (a3, .inl (g.2 0, 33, .inl z3)), (a4, .inl (g.2 0, 16, .inl f4))] t.heap ∧ va_D A [(h0, .inr (3, [.int we, .ref a1, .ref a2, .ref a3, .ref a4, .int se])), (a1, .inl (g.2 0, 32, .inl z1)), (a2, .inl (g.2 0, 33, .inl z2)), (a3, .inl (g.2 0, 33, .inl z3)), (a4, .inl (g.2 0, 16, .inl f4))]) A) ([.ref h0, .int nd0, .int up] : List Value).toArray s 0 0 A) (F0 m 20 ls []) := by
        intro n
        induction n with
        | zero =>
          intro i y2 y3 H locs ls hn hi hP hD hS hl
          exact absurd hn (Nat.not_lt_zero _)
        | succ n ih =>
          intro i y2 y3 H locs ls hn hi hP hD hS hl
          refine lv_iload_n hx hb dX3_hang_20 rfl (lv_at hl 0 rfl) ?_
          refine lv_bipush (v := 32) hx hb dX3_hang_21 (by decide) ?_
          refine lv_icmp_ge (tgt := 46) hx hb dX3_hang_23 (by decide) (fun c5 => ?_) (fun c5 => ?_)
          · skip
            have c5 : 32 ≤ ((i : Nat) : Int) := (z_le (by decide : (32 : Int32).toInt = 32) (nI_toInt (by omega))).mp c5
            refine lv_iconst (v := 0) hx hb dX3_hang_46 (by decide) ?_
            refine lv_istore_n (lv' := [(3, .int 0), (0, .ref h0), (1, .int nd0), (2, .int up)]) hx hb dX3_hang_47 rfl hl (by decide) rfl (fun ls hl => ?_)
            have loop48 : ∀ (n : Nat) (k : Nat) (w2 : Nat → Int32) (w3 : Nat → Int32) (H : Heap) (locs : List Loc) (ls : Array Slot), (16 - k < n) → (k ≤ 16) → zP g [(h0, .inr (3, [.int we, .ref a1, .ref a2, .ref a3, .ref a4, .int se])), (a1, .inl (g.2 0, 32, .inl (upd f1 (Int32.toNatClampNeg nd0) up))), (a2, .inl (g.2 0, 33, .inl w2)), (a3, .inl (g.2 0, 33, .inl w3)), (a4, .inl (g.2 0, 16, .inl f4))] H → va_D A [(h0, .inr (3, [.int we, .ref a1, .ref a2, .ref a3, .ref a4, .int se])), (a1, .inl (g.2 0, 32, .inl (upd f1 (Int32.toNatClampNeg nd0) up))), (a2, .inl (g.2 0, 33, .inl w2)), (a3, .inl (g.2 0, 33, .inl w3)), (a4, .inl (g.2 0, 16, .inl f4))] → va_S A s.heap H locs → lv_has ls 4 [(3, .int (nI k)), (0, .ref h0), (1, .int nd0), (2, .int up)] → W p l e (headSpec (zW yX3_hang cX3_hang 4 none) ({ frames := 2, cells := 0, slots := 0, locals := 47 })).room s m ([.ref h0, .int nd0, .int up] : List Value).toArray below meth c H locs 0 0 (MQ below (va_Qv (fun (_ : Unit) => True) (fun _ t => ∃ (z1 : Nat → Int32), ∃ (z2 : Nat → Int32), ∃ (z3 : Nat → Int32), zP g [(h0, .inr (3, [.int we, .ref a1, .ref a2, .ref a3, .ref a4, .int se])), (a1, .inl (g.2 0, 32, .inl z1)), (a2, .inl (g.2 0, 33, .inl z2)), (a3, .inl (g.2 0, 33, .inl z3)), (a4, .inl (g.2 0, 16, .inl f4))] t.heap ∧ va_D A [(h0, .inr (3, [.int we, .ref a1, .ref a2, .ref a3, .ref a4, .int se])), (a1, .inl (g.2 0, 32, .inl z1)), (a2, .inl (g.2 0, 33, .inl z2)), (a3, .inl (g.2 0, 33, .inl z3)), (a4, .inl (g.2 0, 16, .inl f4))]) A) ([.ref h0, .int nd0, .int up] : List Value).toArray s 0 0 A) (F0 m 48 ls []) := by
              intro n
              induction n with
              | zero =>
                intro k w2 w3 H locs ls hn hk hP hD hS hl
                exact absurd hn (Nat.not_lt_zero _)
              | succ n ih =>
                intro k w2 w3 H locs ls hn hk hP hD hS hl
                refine lv_iload_n hx hb dX3_hang_48 rfl (lv_at hl 0 rfl) ?_
                refine lv_bipush (v := 16) hx hb dX3_hang_49 (by decide) ?_
                refine lv_icmp_ge (tgt := 67) hx hb dX3_hang_51 (by decide) (fun c6 => ?_) (fun c6 => ?_)
                · skip
                  have c6 : 16 ≤ ((k : Nat) : Int) := (z_le (by decide : (16 : Int32).toInt = 16) (nI_toInt (by omega))).mp c6
                  refine lv_iconst (v := 0) hx hb dX3_hang_67 (by decide) ?_
                  refine lv_istore_n (lv' := [(3, .int 0), (0, .ref h0), (1, .int nd0), (2, .int up)]) hx hb dX3_hang_68 rfl hl (by decide) rfl (fun ls hl => ?_)
                  have loop69 : ∀ (n : Nat) (n3 : Nat) (v2 : Nat → Int32) (v3 : Nat → Int32) (H : Heap) (locs : List Loc) (ls : Array Slot), (16 - n3 < n) → (n3 ≤ 16) → zP g [(h0, .inr (3, [.int we, .ref a1, .ref a2, .ref a3, .ref a4, .int se])), (a1, .inl (g.2 0, 32, .inl (upd f1 (Int32.toNatClampNeg nd0) up))), (a2, .inl (g.2 0, 33, .inl v2)), (a3, .inl (g.2 0, 33, .inl v3)), (a4, .inl (g.2 0, 16, .inl f4))] H → va_D A [(h0, .inr (3, [.int we, .ref a1, .ref a2, .ref a3, .ref a4, .int se])), (a1, .inl (g.2 0, 32, .inl (upd f1 (Int32.toNatClampNeg nd0) up))), (a2, .inl (g.2 0, 33, .inl v2)), (a3, .inl (g.2 0, 33, .inl v3)), (a4, .inl (g.2 0, 16, .inl f4))] → va_S A s.heap H locs → lv_has ls 4 [(3, .int (nI n3)), (0, .ref h0), (1, .int nd0), (2, .int up)] → W p l e (headSpec (zW yX3_hang cX3_hang 4 none) ({ frames := 2, cells := 0, slots := 0, locals := 47 })).room s m ([.ref h0, .int nd0, .int up] : List Value).toArray below meth c H locs 0 0 (MQ below (va_Qv (fun (_ : Unit) => True) (fun _ t => ∃ (z1 : Nat → Int32), ∃ (z2 : Nat → Int32), ∃ (z3 : Nat → Int32), zP g [(h0, .inr (3, [.int we, .ref a1, .ref a2, .ref a3, .ref a4, .int se])), (a1, .inl (g.2 0, 32, .inl z1)), (a2, .inl (g.2 0, 33, .inl z2)), (a3, .inl (g.2 0, 33, .inl z3)), (a4, .inl (g.2 0, 16, .inl f4))] t.heap ∧ va_D A [(h0, .inr (3, [.int we, .ref a1, .ref a2, .ref a3, .ref a4, .int se])), (a1, .inl (g.2 0, 32, .inl z1)), (a2, .inl (g.2 0, 33, .inl z2)), (a3, .inl (g.2 0, 33, .inl z3)), (a4, .inl (g.2 0, 16, .inl f4))]) A) ([.ref h0, .int nd0, .int up] : List Value).toArray s 0 0 A) (F0 m 69 ls []) := by
                    intro n
                    induction n with
                    | zero =>
                      intro n3 v2 v3 H locs ls hn hn3 hP hD hS hl
                      exact absurd hn (Nat.not_lt_zero _)
                    | succ n ih =>
                      intro n3 v2 v3 H locs ls hn hn3 hP hD hS hl
                      refine lv_iload_n hx hb dX3_hang_69 rfl (lv_at hl 0 rfl) ?_
                      refine lv_aload_n hx hb dX3_hang_70 rfl (lv_at hl 1 rfl) ?_
                      refine va_get (D := g.1) (ci := 3) (v := .int se) (C := RX3) (T := TX3) (N := 6) hx hb hg inG3 hown hK hP 0 rfl rfl 5 (by decide) (hg _ mm_321) (fun _ h9 => h9) rfl dX3_hang_71 ?_
                      refine lv_icmp_ge (tgt := 97) hx hb dX3_hang_74 (by decide) (fun c7 => ?_) (fun c7 => ?_)
                      · skip
                        have c7 : se.toInt ≤ ((n3 : Nat) : Int) := (z_le rfl (nI_toInt (by omega))).mp c7
                        have hP9 := hP.sub (ws' := [(h0, .inr (3, [.int we, .ref a1, .ref a2, .ref a3, .ref a4, .int se])), (a1, .inl (g.2 0, 32, .inl (upd f1 (Int32.toNatClampNeg nd0) up))), (a2, .inl (g.2 0, 33, .inl v2)), (a3, .inl (g.2 0, 33, .inl v3)), (a4, .inl (g.2 0, 16, .inl f4))]) [0, 1, 2, 3, 4] rfl
                        have hD9 := hD.sub (ws' := [(h0, .inr (3, [.int we, .ref a1, .ref a2, .ref a3, .ref a4, .int se])), (a1, .inl (g.2 0, 32, .inl (upd f1 (Int32.toNatClampNeg nd0) up))), (a2, .inl (g.2 0, 33, .inl v2)), (a3, .inl (g.2 0, 33, .inl v3)), (a4, .inl (g.2 0, 16, .inl f4))]) [0, 1, 2, 3, 4] (by decide) rfl
                        refine W.widen (k := 0) (n := 0) (Nat.le_of_ble_eq_true rfl) (Nat.le_of_ble_eq_true rfl) ?_
                        exact W.vret hx hb hr (fun t ht hW => ⟨⟨(), rfl, trivial, ⟨(upd f1 (Int32.toNatClampNeg nd0) up), v2, v3, by rw [ht]; exact hP9, hD9⟩⟩, hS.F ht⟩) hS.2.2 dX3_hang_97
                      · skip
                        have c7 : ¬ (se.toInt ≤ ((n3 : Nat) : Int)) := fun q => c7 ((z_le rfl (nI_toInt (by omega))).mpr q)
                        refine lv_aload_n hx hb dX3_hang_77 rfl (lv_at hl 1 rfl) ?_
                        refine lv_aload_n hx hb dX3_hang_78 rfl (lv_at hl 1 rfl) ?_
                        refine va_get (D := g.1) (ci := 3) (v := .ref a4) (C := RX3) (T := TX3) (N := 6) hx hb hg inG3 hown hK hP 0 rfl rfl 4 (by decide) (hg _ mm_320) (fun _ h9 => h9) rfl dX3_hang_79 ?_
                        refine lv_iload_n hx hb dX3_hang_82 rfl (lv_at hl 0 rfl) ?_
                        refine va_iald hx hb hK hP 4 0 rfl rfl (z_in (nI_toInt (by omega)) (by omega) (by omega)) dX3_hang_83 ?_
                        refine lv_topi (fun x8 ex8 => ?_)
                        have ex8 : x8 = f4 n3 := ex8.trans (congrArg f4 (nI_clamp (by omega)))
                        refine lv_iconst (v := 0) hx hb dX3_hang_84 (by decide) ?_
                        refine lv_iconst (v := 1) hx hb dX3_hang_85 (by decide) ?_
                        refine lv_iload_n hx hb dX3_hang_86 rfl (lv_at hl 0 rfl) ?_
                        refine lv_ishl hx hb dX3_hang_87 ?_
                        refine lv_topi (fun x9 ex9 => ?_)
                        have hPc := hP.sub (ws' := [(h0, .inr (3, [.int we, .ref a1, .ref a2, .ref a3, .ref a4, .int se])), (a1, .inl (g.2 0, 32, .inl (upd f1 (Int32.toNatClampNeg nd0) up))), (a2, .inl (g.2 0, 33, .inl v2)), (a3, .inl (g.2 0, 33, .inl v3)), (a4, .inl (g.2 0, 16, .inl f4))]) [0, 1, 2, 3, 4] rfl
                        have hDc := hD.sub (ws' := [(h0, .inr (3, [.int we, .ref a1, .ref a2, .ref a3, .ref a4, .int se])), (a1, .inl (g.2 0, 32, .inl (upd f1 (Int32.toNatClampNeg nd0) up))), (a2, .inl (g.2 0, 33, .inl v2)), (a3, .inl (g.2 0, 33, .inl v3)), (a4, .inl (g.2 0, 16, .inl f4))]) [0, 1, 2, 3, 4] (by decide) rfl
                        have hFc := va_free (wc := [(h0, .inr (3, [.int we, .ref a1, .ref a2, .ref a3, .ref a4, .int se])), (a1, .inl (g.2 0, 32, .inl (upd f1 (Int32.toNatClampNeg nd0) up))), (a2, .inl (g.2 0, 33, .inl v2)), (a3, .inl (g.2 0, 33, .inl v3)), (a4, .inl (g.2 0, 16, .inl f4))]) hD hS hA [0, 1, 2, 3, 4] rfl
                        refine va_callv (va_runV (As := [.int x8, .int 0, .int x9]) (rest := []) ⟨hx, hb, hml, hown, hg⟩ (c_X3_climb l g _ h0 a1 a2 a3 a4 (upd f1 (Int32.toNatClampNeg nd0) up) v2 v3 f4 we se x8 (0 : Int32) x9 ) (cwV 3 hg (z_gV mm_415 mm_417 mm_0 mm_115 mm_418) rfl rfl rfl (by decide +kernel) ⟨Nat.le_of_ble_eq_true rfl, Nat.le_of_ble_eq_true rfl⟩) ⟨(zA.pre [.ref h0, .int x8, .int 0, .int x9] hPc hK hDc hN).1, va_recv hK hPc (ci := 3) (q0 := 0) rfl rfl, (zA.pre [.ref h0, .int x8, .int 0, .int x9] hPc hK hDc hN).2⟩ rfl rfl hl.1 rfl (lv_room (Nat.le_of_ble_eq_true rfl)) dX3_hang_88 ⟨Nat.le_of_ble_eq_true rfl, Nat.le_of_ble_eq_true rfl⟩) hS (fun q _ h => hFc q h) hFc (fun _ t H1 locs ht hvm hr10 hB hz1 hk1 hS => ?_)
                        obtain ⟨z11, z12, hP1, hD1⟩ := hB
                        rw [ht] at hP1
                        obtain ⟨hP, hD⟩ := va_join (wr := []) (w1 := [(h0, .inr (3, [.int we, .ref a1, .ref a2, .ref a3, .ref a4, .int se])), (a1, .inl (g.2 0, 32, .inl (upd f1 (Int32.toNatClampNeg nd0) up))), (a2, .inl (g.2 0, 33, .inl z11)), (a3, .inl (g.2 0, 33, .inl z12)), (a4, .inl (g.2 0, 16, .inl f4))]) hP hD [0, 1, 2, 3, 4] [] rfl rfl (by decide) (by decide) hk1 hFc hP1 hD1
                        generalize H1 = H at hP hS ⊢
                        refine W.widen (k := 0) (n := 0) (Nat.le_of_ble_eq_true rfl) (Nat.le_of_ble_eq_true rfl) ?_
                        have hP : zP g [(h0, .inr (3, [.int we, .ref a1, .ref a2, .ref a3, .ref a4, .int se])), (a1, .inl (g.2 0, 32, .inl (upd f1 (Int32.toNatClampNeg nd0) up))), (a2, .inl (g.2 0, 33, .inl z11)), (a3, .inl (g.2 0, 33, .inl z12)), (a4, .inl (g.2 0, 16, .inl f4))] H := hP
                        have hD : va_D A [(h0, .inr (3, [.int we, .ref a1, .ref a2, .ref a3, .ref a4, .int se])), (a1, .inl (g.2 0, 32, .inl (upd f1 (Int32.toNatClampNeg nd0) up))), (a2, .inl (g.2 0, 33, .inl z11)), (a3, .inl (g.2 0, 33, .inl z12)), (a4, .inl (g.2 0, 16, .inl f4))] := hD
                        refine lv_iinc (v := (nI (n3 + 1))) (lv' := [(3, .int (nI (n3 + 1))), (0, .ref h0), (1, .int nd0), (2, .int up)]) hx hb dX3_hang_91 hl (k := 0) rfl (nI_1 n3) (by decide) rfl (fun ls hl => ?_)
                        refine lv_goto (tgt := 69) hx hb dX3_hang_94 (by decide) ?_
                        exact ih (n3 + 1) z11 z12 _ _ ls (by omega) (by omega) (hP.sub (ws' := [(h0, .inr (3, [.int we, .ref a1, .ref a2, .ref a3, .ref a4, .int se])), (a1, .inl (g.2 0, 32, .inl (upd f1 (Int32.toNatClampNeg nd0) up))), (a2, .inl (g.2 0, 33, .inl z11)), (a3, .inl (g.2 0, 33, .inl z12)), (a4, .inl (g.2 0, 16, .inl f4))]) [0, 1, 2, 3, 4] rfl) (hD.sub (ws' := [(h0, .inr (3, [.int we, .ref a1, .ref a2, .ref a3, .ref a4, .int se])), (a1, .inl (g.2 0, 32, .inl (upd f1 (Int32.toNatClampNeg nd0) up))), (a2, .inl (g.2 0, 33, .inl z11)), (a3, .inl (g.2 0, 33, .inl z12)), (a4, .inl (g.2 0, 16, .inl f4))]) [0, 1, 2, 3, 4] (by decide) rfl) hS (lv_sub hl [0, 1, 2, 3] rfl)
                  exact loop69 (16 - 0 + 1) 0 w2 w3 _ _ ls (by omega) (by omega) hP hD hS (lv_sub hl [0, 1, 2, 3] rfl)
                · skip
                  have c6 : ¬ (16 ≤ ((k : Nat) : Int)) := fun q => c6 ((z_le (by decide : (16 : Int32).toInt = 16) (nI_toInt (by omega))).mpr q)
                  refine lv_aload_n hx hb dX3_hang_54 rfl (lv_at hl 1 rfl) ?_
                  refine lv_iload_n hx hb dX3_hang_55 rfl (lv_at hl 0 rfl) ?_
                  refine lv_iconst (v := 1) hx hb dX3_hang_56 (by decide) ?_
                  refine lv_iconst (v := 0) hx hb dX3_hang_57 (by decide) ?_
                  have hPc := hP.sub (ws' := [(h0, .inr (3, [.int we, .ref a1, .ref a2, .ref a3, .ref a4, .int se])), (a1, .inl (g.2 0, 32, .inl (upd f1 (Int32.toNatClampNeg nd0) up))), (a2, .inl (g.2 0, 33, .inl w2)), (a3, .inl (g.2 0, 33, .inl w3)), (a4, .inl (g.2 0, 16, .inl f4))]) [0, 1, 2, 3, 4] rfl
                  have hDc := hD.sub (ws' := [(h0, .inr (3, [.int we, .ref a1, .ref a2, .ref a3, .ref a4, .int se])), (a1, .inl (g.2 0, 32, .inl (upd f1 (Int32.toNatClampNeg nd0) up))), (a2, .inl (g.2 0, 33, .inl w2)), (a3, .inl (g.2 0, 33, .inl w3)), (a4, .inl (g.2 0, 16, .inl f4))]) [0, 1, 2, 3, 4] (by decide) rfl
                  have hFc := va_free (wc := [(h0, .inr (3, [.int we, .ref a1, .ref a2, .ref a3, .ref a4, .int se])), (a1, .inl (g.2 0, 32, .inl (upd f1 (Int32.toNatClampNeg nd0) up))), (a2, .inl (g.2 0, 33, .inl w2)), (a3, .inl (g.2 0, 33, .inl w3)), (a4, .inl (g.2 0, 16, .inl f4))]) hD hS hA [0, 1, 2, 3, 4] rfl
                  refine va_callv (va_runV (As := [.int (nI k), .int 1, .int 0]) (rest := []) ⟨hx, hb, hml, hown, hg⟩ (c_X3_climb l g _ h0 a1 a2 a3 a4 (upd f1 (Int32.toNatClampNeg nd0) up) w2 w3 f4 we se (nI k) (1 : Int32) (0 : Int32) ) (cwV 3 hg (z_gV mm_415 mm_417 mm_0 mm_115 mm_418) rfl rfl rfl (by decide +kernel) ⟨Nat.le_of_ble_eq_true rfl, Nat.le_of_ble_eq_true rfl⟩) ⟨(zA.pre [.ref h0, .int (nI k), .int 1, .int 0] hPc hK hDc hN).1, va_recv hK hPc (ci := 3) (q0 := 0) rfl rfl, (zA.pre [.ref h0, .int (nI k), .int 1, .int 0] hPc hK hDc hN).2⟩ rfl rfl hl.1 rfl (lv_room (Nat.le_of_ble_eq_true rfl)) dX3_hang_58 ⟨Nat.le_of_ble_eq_true rfl, Nat.le_of_ble_eq_true rfl⟩) hS (fun q _ h => hFc q h) hFc (fun _ t H1 locs ht hvm hr13 hB hz1 hk1 hS => ?_)
                  obtain ⟨z14, z15, hP1, hD1⟩ := hB
                  rw [ht] at hP1
                  obtain ⟨hP, hD⟩ := va_join (wr := []) (w1 := [(h0, .inr (3, [.int we, .ref a1, .ref a2, .ref a3, .ref a4, .int se])), (a1, .inl (g.2 0, 32, .inl (upd f1 (Int32.toNatClampNeg nd0) up))), (a2, .inl (g.2 0, 33, .inl z14)), (a3, .inl (g.2 0, 33, .inl z15)), (a4, .inl (g.2 0, 16, .inl f4))]) hP hD [0, 1, 2, 3, 4] [] rfl rfl (by decide) (by decide) hk1 hFc hP1 hD1
                  generalize H1 = H at hP hS ⊢
                  refine W.widen (k := 0) (n := 0) (Nat.le_of_ble_eq_true rfl) (Nat.le_of_ble_eq_true rfl) ?_
                  have hP : zP g [(h0, .inr (3, [.int we, .ref a1, .ref a2, .ref a3, .ref a4, .int se])), (a1, .inl (g.2 0, 32, .inl (upd f1 (Int32.toNatClampNeg nd0) up))), (a2, .inl (g.2 0, 33, .inl z14)), (a3, .inl (g.2 0, 33, .inl z15)), (a4, .inl (g.2 0, 16, .inl f4))] H := hP
                  have hD : va_D A [(h0, .inr (3, [.int we, .ref a1, .ref a2, .ref a3, .ref a4, .int se])), (a1, .inl (g.2 0, 32, .inl (upd f1 (Int32.toNatClampNeg nd0) up))), (a2, .inl (g.2 0, 33, .inl z14)), (a3, .inl (g.2 0, 33, .inl z15)), (a4, .inl (g.2 0, 16, .inl f4))] := hD
                  refine lv_iinc (v := (nI (k + 1))) (lv' := [(3, .int (nI (k + 1))), (0, .ref h0), (1, .int nd0), (2, .int up)]) hx hb dX3_hang_61 hl (k := 0) rfl (nI_1 k) (by decide) rfl (fun ls hl => ?_)
                  refine lv_goto (tgt := 48) hx hb dX3_hang_64 (by decide) ?_
                  exact ih (k + 1) z14 z15 _ _ ls (by omega) (by omega) (hP.sub (ws' := [(h0, .inr (3, [.int we, .ref a1, .ref a2, .ref a3, .ref a4, .int se])), (a1, .inl (g.2 0, 32, .inl (upd f1 (Int32.toNatClampNeg nd0) up))), (a2, .inl (g.2 0, 33, .inl z14)), (a3, .inl (g.2 0, 33, .inl z15)), (a4, .inl (g.2 0, 16, .inl f4))]) [0, 1, 2, 3, 4] rfl) (hD.sub (ws' := [(h0, .inr (3, [.int we, .ref a1, .ref a2, .ref a3, .ref a4, .int se])), (a1, .inl (g.2 0, 32, .inl (upd f1 (Int32.toNatClampNeg nd0) up))), (a2, .inl (g.2 0, 33, .inl z14)), (a3, .inl (g.2 0, 33, .inl z15)), (a4, .inl (g.2 0, 16, .inl f4))]) [0, 1, 2, 3, 4] (by decide) rfl) hS (lv_sub hl [0, 1, 2, 3] rfl)
            exact loop48 (16 - 0 + 1) 0 y2 y3 _ _ ls (by omega) (by omega) hP hD hS (lv_sub hl [0, 1, 2, 3] rfl)
          · skip
            have c5 : ¬ (32 ≤ ((i : Nat) : Int)) := fun q => c5 ((z_le (by decide : (32 : Int32).toInt = 32) (nI_toInt (by omega))).mpr q)
            refine lv_aload_n hx hb dX3_hang_26 rfl (lv_at hl 1 rfl) ?_
            refine va_get (D := g.1) (ci := 3) (v := .ref a2) (C := RX3) (T := TX3) (N := 6) hx hb hg inG3 hown hK hP 0 rfl rfl 2 (by decide) (hg _ mm_318) (fun _ h9 => h9) rfl dX3_hang_27 ?_
            refine lv_iload_n hx hb dX3_hang_30 rfl (lv_at hl 0 rfl) ?_
            refine lv_iconst (v := 0) hx hb dX3_hang_31 (by decide) ?_
            refine va_iast hx hb hK hP hD hS 2 0 rfl rfl (z_in (nI_toInt (by omega)) (by omega) (by omega)) dX3_hang_32 (fun H locs hP hD hS => ?_)
            rw [show ((nI i) : Int32).toNatClampNeg = i from (nI_clamp (by omega))] at hP hD
            have hP : zP g [(h0, .inr (3, [.int we, .ref a1, .ref a2, .ref a3, .ref a4, .int se])), (a1, .inl (g.2 0, 32, .inl (upd f1 (Int32.toNatClampNeg nd0) up))), (a2, .inl (g.2 0, 33, .inl (upd y2 i 0))), (a3, .inl (g.2 0, 33, .inl y3)), (a4, .inl (g.2 0, 16, .inl f4))] H := hP
            have hD : va_D A [(h0, .inr (3, [.int we, .ref a1, .ref a2, .ref a3, .ref a4, .int se])), (a1, .inl (g.2 0, 32, .inl (upd f1 (Int32.toNatClampNeg nd0) up))), (a2, .inl (g.2 0, 33, .inl (upd y2 i 0))), (a3, .inl (g.2 0, 33, .inl y3)), (a4, .inl (g.2 0, 16, .inl f4))] := hD
            refine lv_aload_n hx hb dX3_hang_33 rfl (lv_at hl 1 rfl) ?_
            refine va_get (D := g.1) (ci := 3) (v := .ref a3) (C := RX3) (T := TX3) (N := 6) hx hb hg inG3 hown hK hP 0 rfl rfl 3 (by decide) (hg _ mm_319) (fun _ h9 => h9) rfl dX3_hang_34 ?_
            refine lv_iload_n hx hb dX3_hang_37 rfl (lv_at hl 0 rfl) ?_
            refine lv_iconst (v := 0) hx hb dX3_hang_38 (by decide) ?_
            refine va_iast hx hb hK hP hD hS 3 0 rfl rfl (z_in (nI_toInt (by omega)) (by omega) (by omega)) dX3_hang_39 (fun H locs hP hD hS => ?_)
            rw [show ((nI i) : Int32).toNatClampNeg = i from (nI_clamp (by omega))] at hP hD
            have hP : zP g [(h0, .inr (3, [.int we, .ref a1, .ref a2, .ref a3, .ref a4, .int se])), (a1, .inl (g.2 0, 32, .inl (upd f1 (Int32.toNatClampNeg nd0) up))), (a2, .inl (g.2 0, 33, .inl (upd y2 i 0))), (a3, .inl (g.2 0, 33, .inl (upd y3 i 0))), (a4, .inl (g.2 0, 16, .inl f4))] H := hP
            have hD : va_D A [(h0, .inr (3, [.int we, .ref a1, .ref a2, .ref a3, .ref a4, .int se])), (a1, .inl (g.2 0, 32, .inl (upd f1 (Int32.toNatClampNeg nd0) up))), (a2, .inl (g.2 0, 33, .inl (upd y2 i 0))), (a3, .inl (g.2 0, 33, .inl (upd y3 i 0))), (a4, .inl (g.2 0, 16, .inl f4))] := hD
            refine lv_iinc (v := (nI (i + 1))) (lv' := [(3, .int (nI (i + 1))), (0, .ref h0), (1, .int nd0), (2, .int up)]) hx hb dX3_hang_40 hl (k := 0) rfl (nI_1 i) (by decide) rfl (fun ls hl => ?_)
            refine lv_goto (tgt := 20) hx hb dX3_hang_43 (by decide) ?_
            exact ih (i + 1) (upd y2 i 0) (upd y3 i 0) _ _ ls (by omega) (by omega) (hP.sub (ws' := [(h0, .inr (3, [.int we, .ref a1, .ref a2, .ref a3, .ref a4, .int se])), (a1, .inl (g.2 0, 32, .inl (upd f1 (Int32.toNatClampNeg nd0) up))), (a2, .inl (g.2 0, 33, .inl (upd y2 i 0))), (a3, .inl (g.2 0, 33, .inl (upd y3 i 0))), (a4, .inl (g.2 0, 16, .inl f4))]) [0, 1, 2, 3, 4] rfl) (hD.sub (ws' := [(h0, .inr (3, [.int we, .ref a1, .ref a2, .ref a3, .ref a4, .int se])), (a1, .inl (g.2 0, 32, .inl (upd f1 (Int32.toNatClampNeg nd0) up))), (a2, .inl (g.2 0, 33, .inl (upd y2 i 0))), (a3, .inl (g.2 0, 33, .inl (upd y3 i 0))), (a4, .inl (g.2 0, 16, .inl f4))]) [0, 1, 2, 3, 4] (by decide) rfl) hS (lv_sub hl [0, 1, 2, 3] rfl)
      exact loop20 (32 - 0 + 1) 0 f2 f3 _ _ ls (by omega) (by omega) hP hD hS (lv_sub hl [0, 1, 2, 3] rfl)
    · skip
      exact absurd c4 (by decide)
  · skip
    obtain ⟨rfl, h16⟩ := hr1
    have h16 : ¬ ((0 : Int) ≤ nd0.toInt ∧ nd0.toInt ≤ (31 : Int)) := h16
    refine lv_if_ne (tgt := 11) hx hb dX3_hang_7 (by decide) (fun c17 => ?_) (fun c17 => ?_)
    · skip
      exact absurd c17 (by decide)
    · skip
      have hP9 := hP.sub (ws' := [(h0, .inr (3, [.int we, .ref a1, .ref a2, .ref a3, .ref a4, .int se])), (a1, .inl (g.2 0, 32, .inl f1)), (a2, .inl (g.2 0, 33, .inl f2)), (a3, .inl (g.2 0, 33, .inl f3)), (a4, .inl (g.2 0, 16, .inl f4))]) [0, 1, 2, 3, 4] rfl
      have hD9 := hD.sub (ws' := [(h0, .inr (3, [.int we, .ref a1, .ref a2, .ref a3, .ref a4, .int se])), (a1, .inl (g.2 0, 32, .inl f1)), (a2, .inl (g.2 0, 33, .inl f2)), (a3, .inl (g.2 0, 33, .inl f3)), (a4, .inl (g.2 0, 16, .inl f4))]) [0, 1, 2, 3, 4] (by decide) rfl
      refine W.widen (k := 0) (n := 0) (Nat.le_of_ble_eq_true rfl) (Nat.le_of_ble_eq_true rfl) ?_
      exact W.vret hx hb hr (fun t ht hW => ⟨⟨(), rfl, trivial, ⟨f1, f2, f3, by rw [ht]; exact hP9, hD9⟩⟩, hS.F ht⟩) hS.2.2 dX3_hang_10
end
section
set_option maxHeartbeats 4000000 in
set_option maxRecDepth 100000 in
theorem c_X3_raised (l : Launch) (g : zG) (h0 : Nat) (a1 : Nat) (a2 : Nat) (a3 : Nat) (a4 : Nat) (f1 : Nat → Int32) (f2 : Nat → Int32) (f3 : Nat → Int32) (f4 : Nat → Int32) (we : Int32) (se : Int32) (v : Int32) (n : Int32) (hf1 : ∀ j, j < 32 → f1 j = -1) (hv : 0 ≤ v.toInt ∧ v.toInt ≤ 15) (hn : 0 ≤ n.toInt ∧ n.toInt ≤ 4) : Met l yX3_raised (zW yX3_raised cX3_raised 5 (some .int)) ({ frames := 1, cells := 0, slots := 0, locals := 22 }) (va_Pc [.ref h0, .int v, .int n] (zR g [(h0, .inr (3, [.int we, .ref a1, .ref a2, .ref a3, .ref a4, .int se])), (a1, .inl (g.2 0, 32, .inl f1)), (a2, .inl (g.2 0, 33, .inl f2)), (a3, .inl (g.2 0, 33, .inl f3)), (a4, .inl (g.2 0, 16, .inl f4))])) (vp_Si (fun r : Int32 => (r = v ∧ (n.toInt = 0)) ∨ (r = 32 ∧ (1 ≤ n.toInt)))) 0 0 (fun _ => False) := by
  refine Met.ofW (cc := cX3_raised) (maxL := 5) (ret := (some .int)) (by decide) rfl ?_
  intro p e s m args below meth c s₁ B hml hv
  obtain ⟨rfl, hP, hK, hN⟩ := hv
  have hx := B.exec
  have hb := B.bytes
  have hr := B.returns
  have hg := zW.law (atoms_spec (ws := (zW yX3_raised cX3_raised 5 (some .int))) B.pre)
  have hown : s.vm.findClass RX3 = some m.cls := findClass_of_methodNamed B.named
  have hlocks := B.notSynchronized
  have hl := lv_entry ([.ref h0, .int v, .int n]) (n := 5) (Nat.le_of_ble_eq_true rfl)
  rw [lg_entry_eq]
  generalize (lg_sl ([.ref h0, .int v, .int n]) ++ List.replicate (5 - (lg_sl ([.ref h0, .int v, .int n])).length) Slot.unset).toArray = ls at hl ⊢
  have hl : lv_has ls 5 [(0, .ref h0), (1, .int v), (2, .int n)] := hl
  refine lv_iload_n hx hb dX3_raised_0 rfl (lv_at hl 1 rfl) ?_
  refine lv_istore_n (lv' := [(3, .int v), (0, .ref h0), (1, .int v), (2, .int n)]) hx hb dX3_raised_1 rfl hl (by decide) rfl (fun ls hl => ?_)
  refine lv_iconst (v := 0) hx hb dX3_raised_2 (by decide) ?_
  refine lv_istore (lv' := [(4, .int 0), (3, .int v), (0, .ref h0), (1, .int v), (2, .int n)]) hx hb dX3_raised_3 hl (by decide) rfl (fun ls hl => ?_)
  refine lv_iload hx hb dX3_raised_5 (lv_at hl 0 rfl) ?_
  refine lv_iload_n hx hb dX3_raised_7 rfl (lv_at hl 4 rfl) ?_
  refine lv_icmp_ge (tgt := 49) hx hb dX3_raised_8 (by decide) (fun c1 => ?_) (fun c1 => ?_)
  · skip
    have c1 : n.toInt ≤ 0 := (z_le rfl (by decide : (0 : Int32).toInt = 0)).mp c1
    refine lv_iload_n hx hb dX3_raised_49 rfl (lv_at hl 1 rfl) ?_
    exact W.iret (v := v) hx hb hr (fun t ht hW => ⟨v, rfl, by first | exact Or.inl ⟨rfl, by omega⟩ | exact Or.inr ⟨rfl, by omega⟩, ht⟩) (fun q hq => by cases hq) dX3_raised_50
  · skip
    have c1 : ¬ (n.toInt ≤ 0) := fun q => c1 ((z_le rfl (by decide : (0 : Int32).toInt = 0)).mpr q)
    refine lv_iload_n hx hb dX3_raised_11 rfl (lv_at hl 1 rfl) ?_
    refine lv_iconst (v := 0) hx hb dX3_raised_12 (by decide) ?_
    refine lv_bipush (v := 31) hx hb dX3_raised_13 (by decide) ?_
    have hPc := hP.sub (ws' := []) [] rfl
    refine zc_i (va_runSN (As := [.int v, .int 0, .int 31]) (rest := []) ⟨hx, hb, hml, hown, hg⟩ (c_X8_within l g v (0 : Int32) (31 : Int32) ) ⟨va_cnB 3 hg (z_gN mm_409) rfl rfl rfl (hN.at 7 rfl) (hg _ mm_108) (by decide +kernel) ⟨Nat.le_of_ble_eq_true rfl, Nat.le_of_ble_eq_true rfl⟩, (hg _ mm_408), trivial⟩ (zR.pre [.int v, .int 0, .int 31] hPc hK hN) rfl rfl hl.1 rfl (lv_room (Nat.le_of_ble_eq_true rfl)) dX3_raised_15 ⟨Nat.le_of_ble_eq_true rfl, Nat.le_of_ble_eq_true rfl⟩) (fun r2 hr2 => ?_)
    rcases hr2 with hr2 | hr2
    · skip
      obtain ⟨rfl, h3, h4⟩ := hr2
      have h3 : (0 : Int) ≤ v.toInt := h3
      have h4 : v.toInt ≤ (31 : Int) := h4
      refine lv_if_eq (tgt := 49) hx hb dX3_raised_18 (by decide) (fun c5 => ?_) (fun c5 => ?_)
      · skip
        exact absurd c5 (by decide)
      · skip
        refine lv_aload_n hx hb dX3_raised_21 rfl (lv_at hl 2 rfl) ?_
        refine va_get (D := g.1) (ci := 3) (v := .ref a1) (C := RX3) (T := TX3) (N := 6) hx hb hg inG3 hown hK hP 0 rfl rfl 1 (by decide) (hg _ mm_317) (fun _ h9 => h9) rfl dX3_raised_22 ?_
        refine lv_iload_n hx hb dX3_raised_25 rfl (lv_at hl 1 rfl) ?_
        refine va_iald hx hb hK hP 1 0 rfl rfl (z_in rfl (by omega) (by omega)) dX3_raised_26 ?_
        refine lv_topi (fun x6 ex6 => ?_)
        have ex6 : x6 = f1 (Int32.toNatClampNeg v) := ex6.trans (congrArg f1 rfl)
        obtain rfl : x6 = (-1) := ex6.trans (hf1 _ (z_clt (rfl) (by omega) (by omega)))
        refine lv_iconst (v := (-1)) hx hb dX3_raised_27 (by decide) ?_
        refine lv_icmp_ne (tgt := 36) hx hb dX3_raised_28 (by decide) (fun c7 => ?_) (fun c7 => ?_)
        · skip
          exact absurd c7 (by decide)
        · skip
          refine lv_bipush (v := 32) hx hb dX3_raised_31 (by decide) ?_
          refine lv_goto (tgt := 42) hx hb dX3_raised_33 (by decide) ?_
          refine lv_istore_n (lv' := [(3, .int 32), (4, .int 0), (0, .ref h0), (1, .int v), (2, .int n)]) hx hb dX3_raised_42 rfl hl (by decide) rfl (fun ls hl => ?_)
          refine lv_iinc (v := 1) (lv' := [(4, .int 1), (3, .int 32), (0, .ref h0), (1, .int v), (2, .int n)]) hx hb dX3_raised_43 hl (k := 1) rfl (by decide) (by decide) rfl (fun ls hl => ?_)
          refine lv_goto (tgt := 5) hx hb dX3_raised_46 (by decide) ?_
          refine lv_iload hx hb dX3_raised_5 (lv_at hl 0 rfl) ?_
          refine lv_iload_n hx hb dX3_raised_7 rfl (lv_at hl 4 rfl) ?_
          refine lv_icmp_ge (tgt := 49) hx hb dX3_raised_8 (by decide) (fun c8 => ?_) (fun c8 => ?_)
          · skip
            have c8 : n.toInt ≤ 1 := (z_le rfl (by decide : (1 : Int32).toInt = 1)).mp c8
            refine lv_iload_n hx hb dX3_raised_49 rfl (lv_at hl 1 rfl) ?_
            exact W.iret (v := 32) hx hb hr (fun t ht hW => ⟨32, rfl, by first | exact Or.inl ⟨rfl, by omega⟩ | exact Or.inr ⟨rfl, by omega⟩, ht⟩) (fun q hq => by cases hq) dX3_raised_50
          · skip
            have c8 : ¬ (n.toInt ≤ 1) := fun q => c8 ((z_le rfl (by decide : (1 : Int32).toInt = 1)).mpr q)
            refine lv_iload_n hx hb dX3_raised_11 rfl (lv_at hl 1 rfl) ?_
            refine lv_iconst (v := 0) hx hb dX3_raised_12 (by decide) ?_
            refine lv_bipush (v := 31) hx hb dX3_raised_13 (by decide) ?_
            have hPc := hP.sub (ws' := []) [] rfl
            refine zc_i (va_runSN (As := [.int 32, .int 0, .int 31]) (rest := []) ⟨hx, hb, hml, hown, hg⟩ (c_X8_within l g (32 : Int32) (0 : Int32) (31 : Int32) ) ⟨va_cnB 3 hg (z_gN mm_409) rfl rfl rfl (hN.at 7 rfl) (hg _ mm_108) (by decide +kernel) ⟨Nat.le_of_ble_eq_true rfl, Nat.le_of_ble_eq_true rfl⟩, (hg _ mm_408), trivial⟩ (zR.pre [.int 32, .int 0, .int 31] hPc hK hN) rfl rfl hl.1 rfl (lv_room (Nat.le_of_ble_eq_true rfl)) dX3_raised_15 ⟨Nat.le_of_ble_eq_true rfl, Nat.le_of_ble_eq_true rfl⟩) (fun r9 hr9 => ?_)
            rcases hr9 with hr9 | hr9
            · skip
              obtain ⟨rfl, h10, h11⟩ := hr9
              have h10 : (0 : Int) ≤ (32 : Int) := h10
              have h11 : (32 : Int) ≤ (31 : Int) := h11
              exfalso
              omega
            · skip
              obtain ⟨rfl, h12⟩ := hr9
              have h12 : ¬ ((0 : Int) ≤ (32 : Int) ∧ (32 : Int) ≤ (31 : Int)) := h12
              refine lv_if_eq (tgt := 49) hx hb dX3_raised_18 (by decide) (fun c13 => ?_) (fun c13 => ?_)
              · skip
                refine lv_iload_n hx hb dX3_raised_49 rfl (lv_at hl 1 rfl) ?_
                exact W.iret (v := 32) hx hb hr (fun t ht hW => ⟨32, rfl, by first | exact Or.inl ⟨rfl, by omega⟩ | exact Or.inr ⟨rfl, by omega⟩, ht⟩) (fun q hq => by cases hq) dX3_raised_50
              · skip
                exact absurd c13 (by decide)
    · skip
      obtain ⟨rfl, h14⟩ := hr2
      have h14 : ¬ ((0 : Int) ≤ v.toInt ∧ v.toInt ≤ (31 : Int)) := h14
      exfalso
      omega

set_option maxHeartbeats 4000000 in
set_option maxRecDepth 100000 in
theorem c_X3_valuesBelow (l : Launch) (g : zG) (h0 : Nat) (a1 : Nat) (a2 : Nat) (a3 : Nat) (a4 : Nat) (f1 : Nat → Int32) (f2 : Nat → Int32) (f3 : Nat → Int32) (f4 : Nat → Int32) (we : Int32) (se : Int32) (nd : Int32) (hg1 : ∀ j, j < 16 → f2 j = 1) (hg2 : ∀ j, 16 ≤ j → j < 32 → f2 j = 0) (hg3 : f2 32 = 16) (hnd : 0 ≤ nd.toInt ∧ nd.toInt ≤ 32) : Met l yX3_valuesBelow (zW yX3_valuesBelow cX3_valuesBelow 2 (some .int)) ({ frames := 0, cells := 0, slots := 0, locals := 0 }) (va_Pc [.ref h0, .int nd] (zR g [(h0, .inr (3, [.int we, .ref a1, .ref a2, .ref a3, .ref a4, .int se])), (a1, .inl (g.2 0, 32, .inl f1)), (a2, .inl (g.2 0, 33, .inl f2)), (a3, .inl (g.2 0, 33, .inl f3)), (a4, .inl (g.2 0, 16, .inl f4))])) (vp_Si (fun r : Int32 => (r = 1 ∧ (nd.toInt < 16)) ∨ (r = 0 ∧ (16 ≤ nd.toInt) ∧ (nd.toInt < 32)) ∨ (r = 16 ∧ (nd.toInt = 32)))) 0 0 (fun _ => False) := by
  refine Met.ofW (cc := cX3_valuesBelow) (maxL := 2) (ret := (some .int)) (by decide) rfl ?_
  intro p e s m args below meth c s₁ B hml hv
  obtain ⟨rfl, hP, hK, hN⟩ := hv
  have hx := B.exec
  have hb := B.bytes
  have hr := B.returns
  have hg := zW.law (atoms_spec (ws := (zW yX3_valuesBelow cX3_valuesBelow 2 (some .int))) B.pre)
  have hown : s.vm.findClass RX3 = some m.cls := findClass_of_methodNamed B.named
  have hlocks := B.notSynchronized
  have hl := lv_entry ([.ref h0, .int nd]) (n := 2) (Nat.le_of_ble_eq_true rfl)
  rw [lg_entry_eq]
  generalize (lg_sl ([.ref h0, .int nd]) ++ List.replicate (2 - (lg_sl ([.ref h0, .int nd])).length) Slot.unset).toArray = ls at hl ⊢
  have hl : lv_has ls 2 [(0, .ref h0), (1, .int nd)] := hl
  refine lv_iload_n hx hb dX3_valuesBelow_0 rfl (lv_at hl 1 rfl) ?_
  refine lv_if_lt (tgt := 19) hx hb dX3_valuesBelow_1 (by decide) (fun c1 => ?_) (fun c1 => ?_)
  · skip
    have c1 : nd.toInt < 0 := (z_lt rfl (by decide : (0 : Int32).toInt = 0)).mp c1
    exfalso
    omega
  · skip
    have c1 : ¬ (nd.toInt < 0) := fun q => c1 ((z_lt rfl (by decide : (0 : Int32).toInt = 0)).mpr q)
    refine lv_iload_n hx hb dX3_valuesBelow_4 rfl (lv_at hl 1 rfl) ?_
    refine lv_bipush (v := 32) hx hb dX3_valuesBelow_5 (by decide) ?_
    refine lv_icmp_gt (tgt := 19) hx hb dX3_valuesBelow_7 (by decide) (fun c2 => ?_) (fun c2 => ?_)
    · skip
      have c2 : 32 < nd.toInt := (z_lt (by decide : (32 : Int32).toInt = 32) rfl).mp c2
      exfalso
      omega
    · skip
      have c2 : ¬ (32 < nd.toInt) := fun q => c2 ((z_lt (by decide : (32 : Int32).toInt = 32) rfl).mpr q)
      refine lv_aload_n hx hb dX3_valuesBelow_10 rfl (lv_at hl 0 rfl) ?_
      refine va_get (D := g.1) (ci := 3) (v := .ref a2) (C := RX3) (T := TX3) (N := 6) hx hb hg inG3 hown hK hP 0 rfl rfl 2 (by decide) (hg _ mm_318) (fun _ h9 => h9) rfl dX3_valuesBelow_11 ?_
      refine lv_iload_n hx hb dX3_valuesBelow_14 rfl (lv_at hl 1 rfl) ?_
      rcases (show nd.toInt < 16 ∨ (16 ≤ nd.toInt ∧ nd.toInt < 32) ∨ nd.toInt = 32 by omega) with hq | hq | hq
      · skip
        refine va_iald hx hb hK hP 2 0 rfl rfl (z_in rfl (by omega) (by omega)) dX3_valuesBelow_15 ?_
        refine lv_topi (fun x3 ex3 => ?_)
        have ex3 : x3 = f2 (Int32.toNatClampNeg nd) := ex3.trans (congrArg f2 rfl)
        obtain rfl : x3 = 1 := ex3.trans (hg1 _ (z_clt rfl (by omega) (by omega)))
        refine lv_goto (tgt := 20) hx hb dX3_valuesBelow_16 (by decide) ?_
        exact W.iret (v := 1) hx hb hr (fun t ht hW => ⟨1, rfl, by first | exact Or.inl ⟨rfl, by omega⟩ | exact Or.inr (Or.inl ⟨rfl, by omega, by omega⟩) | exact Or.inr (Or.inr ⟨rfl, by omega⟩), ht⟩) (fun q hq => by cases hq) dX3_valuesBelow_20
      · skip
        refine va_iald hx hb hK hP 2 0 rfl rfl (z_in rfl (by omega) (by omega)) dX3_valuesBelow_15 ?_
        refine lv_topi (fun x4 ex4 => ?_)
        have ex4 : x4 = f2 (Int32.toNatClampNeg nd) := ex4.trans (congrArg f2 rfl)
        obtain rfl : x4 = 0 := ex4.trans (hg2 _ (z_clg rfl (by omega)) (z_clt rfl (by omega) (by omega)))
        refine lv_goto (tgt := 20) hx hb dX3_valuesBelow_16 (by decide) ?_
        exact W.iret (v := 0) hx hb hr (fun t ht hW => ⟨0, rfl, by first | exact Or.inl ⟨rfl, by omega⟩ | exact Or.inr (Or.inl ⟨rfl, by omega, by omega⟩) | exact Or.inr (Or.inr ⟨rfl, by omega⟩), ht⟩) (fun q hq => by cases hq) dX3_valuesBelow_20
      · skip
        refine va_iald hx hb hK hP 2 0 rfl rfl (z_in rfl (by omega) (by omega)) dX3_valuesBelow_15 ?_
        refine lv_topi (fun x5 ex5 => ?_)
        have ex5 : x5 = f2 (Int32.toNatClampNeg nd) := ex5.trans (congrArg f2 rfl)
        obtain rfl : x5 = 16 := ex5.trans (by rw [z_cl (k := 32) hq]; exact hg3)
        refine lv_goto (tgt := 20) hx hb dX3_valuesBelow_16 (by decide) ?_
        exact W.iret (v := 16) hx hb hr (fun t ht hW => ⟨16, rfl, by first | exact Or.inl ⟨rfl, by omega⟩ | exact Or.inr (Or.inl ⟨rfl, by omega, by omega⟩) | exact Or.inr (Or.inr ⟨rfl, by omega⟩), ht⟩) (fun q hq => by cases hq) dX3_valuesBelow_20

set_option maxHeartbeats 4000000 in
set_option maxRecDepth 100000 in
theorem c_X3_valueOf (l : Launch) (g : zG) (h0 : Nat) (a1 : Nat) (a2 : Nat) (a3 : Nat) (a4 : Nat) (f1 : Nat → Int32) (f2 : Nat → Int32) (f3 : Nat → Int32) (f4 : Nat → Int32) (we : Int32) (se : Int32) (p0 : Int32) : Met l yX3_valueOf (zW yX3_valueOf cX3_valueOf 2 (some .int)) ({ frames := 0, cells := 0, slots := 0, locals := 0 }) (va_Pc [.ref h0, .int p0] (zR g [(h0, .inr (3, [.int we, .ref a1, .ref a2, .ref a3, .ref a4, .int se])), (a1, .inl (g.2 0, 32, .inl f1)), (a2, .inl (g.2 0, 33, .inl f2)), (a3, .inl (g.2 0, 33, .inl f3)), (a4, .inl (g.2 0, 16, .inl f4))])) (vp_Si (fun r : Int32 => (True))) 0 0 (fun _ => False) := by
  refine Met.ofW (cc := cX3_valueOf) (maxL := 2) (ret := (some .int)) (by decide) rfl ?_
  intro p e s m args below meth c s₁ B hml hv
  obtain ⟨rfl, hP, hK, hN⟩ := hv
  have hx := B.exec
  have hb := B.bytes
  have hr := B.returns
  have hg := zW.law (atoms_spec (ws := (zW yX3_valueOf cX3_valueOf 2 (some .int))) B.pre)
  have hown : s.vm.findClass RX3 = some m.cls := findClass_of_methodNamed B.named
  have hlocks := B.notSynchronized
  have hl := lv_entry ([.ref h0, .int p0]) (n := 2) (Nat.le_of_ble_eq_true rfl)
  rw [lg_entry_eq]
  generalize (lg_sl ([.ref h0, .int p0]) ++ List.replicate (2 - (lg_sl ([.ref h0, .int p0])).length) Slot.unset).toArray = ls at hl ⊢
  have hl : lv_has ls 2 [(0, .ref h0), (1, .int p0)] := hl
  refine lv_iload_n hx hb dX3_valueOf_0 rfl (lv_at hl 1 rfl) ?_
  refine lv_if_lt (tgt := 19) hx hb dX3_valueOf_1 (by decide) (fun c1 => ?_) (fun c1 => ?_)
  · skip
    have c1 : p0.toInt < 0 := (z_lt rfl (by decide : (0 : Int32).toInt = 0)).mp c1
    refine lv_iconst (v := 0) hx hb dX3_valueOf_19 (by decide) ?_
    exact W.iret (v := 0) hx hb hr (fun t ht hW => ⟨0, rfl, trivial, ht⟩) (fun q hq => by cases hq) dX3_valueOf_20
  · skip
    have c1 : ¬ (p0.toInt < 0) := fun q => c1 ((z_lt rfl (by decide : (0 : Int32).toInt = 0)).mpr q)
    refine lv_iload_n hx hb dX3_valueOf_4 rfl (lv_at hl 1 rfl) ?_
    refine lv_bipush (v := 16) hx hb dX3_valueOf_5 (by decide) ?_
    refine lv_icmp_ge (tgt := 19) hx hb dX3_valueOf_7 (by decide) (fun c2 => ?_) (fun c2 => ?_)
    · skip
      have c2 : 16 ≤ p0.toInt := (z_le (by decide : (16 : Int32).toInt = 16) rfl).mp c2
      refine lv_iconst (v := 0) hx hb dX3_valueOf_19 (by decide) ?_
      exact W.iret (v := 0) hx hb hr (fun t ht hW => ⟨0, rfl, trivial, ht⟩) (fun q hq => by cases hq) dX3_valueOf_20
    · skip
      have c2 : ¬ (16 ≤ p0.toInt) := fun q => c2 ((z_le (by decide : (16 : Int32).toInt = 16) rfl).mpr q)
      refine lv_aload_n hx hb dX3_valueOf_10 rfl (lv_at hl 0 rfl) ?_
      refine va_get (D := g.1) (ci := 3) (v := .ref a4) (C := RX3) (T := TX3) (N := 6) hx hb hg inG3 hown hK hP 0 rfl rfl 4 (by decide) (hg _ mm_320) (fun _ h9 => h9) rfl dX3_valueOf_11 ?_
      refine lv_iload_n hx hb dX3_valueOf_14 rfl (lv_at hl 1 rfl) ?_
      refine va_iald hx hb hK hP 4 0 rfl rfl (z_in rfl (by omega) (by omega)) dX3_valueOf_15 ?_
      refine lv_topi (fun x3 ex3 => ?_)
      have ex3 : x3 = f4 (Int32.toNatClampNeg p0) := ex3.trans (congrArg f4 rfl)
      refine lv_goto (tgt := 20) hx hb dX3_valueOf_16 (by decide) ?_
      exact W.iret (v := x3) hx hb hr (fun t ht hW => ⟨x3, rfl, trivial, ht⟩) (fun q hq => by cases hq) dX3_valueOf_20

set_option maxHeartbeats 4000000 in
set_option maxRecDepth 100000 in
theorem c_X8_blurred (l : Launch) (g : zG) (h0 : Nat) (aC : Nat) (aW : Value) (aT : Value) (aB : Value) (aL : Value) (aG : Value) (aM : Value) (aA : Value) (aU : Value) (aE : Value) (aD : Value) (c0_ : Nat) (c0_1 : Nat) (c0_2 : Nat) (c0_3 : Nat) (c0_4 : Nat) (f0_1 : Nat → Int32) (f0_2 : Nat → Int32) (f0_3 : Nat → Int32) (f0_4 : Nat → Int32) (we0 : Int32) (se0 : Int32) (c1_ : Nat) (c1_1 : Nat) (c1_2 : Nat) (c1_3 : Nat) (c1_4 : Nat) (f1_1 : Nat → Int32) (f1_2 : Nat → Int32) (f1_3 : Nat → Int32) (f1_4 : Nat → Int32) (we1 : Int32) (se1 : Int32) (c2_ : Nat) (c2_1 : Nat) (c2_2 : Nat) (c2_3 : Nat) (c2_4 : Nat) (f2_1 : Nat → Int32) (f2_2 : Nat → Int32) (f2_3 : Nat → Int32) (f2_4 : Nat → Int32) (we2 : Int32) (se2 : Int32) (c3_ : Nat) (c3_1 : Nat) (c3_2 : Nat) (c3_3 : Nat) (c3_4 : Nat) (f3_1 : Nat → Int32) (f3_2 : Nat → Int32) (f3_3 : Nat → Int32) (f3_4 : Nat → Int32) (we3 : Int32) (se3 : Int32) (c0 : Int32) (v : Int32) (n : Int32) (hf0 : ∀ j, j < 32 → f0_1 j = -1) (hf1 : ∀ j, j < 32 → f1_1 j = -1) (hf2 : ∀ j, j < 32 → f2_1 j = -1) (hf3 : ∀ j, j < 32 → f3_1 j = -1) : Met l yX8_blurred (zW yX8_blurred cX8_blurred 4 (some .int)) ({ frames := 2, cells := 0, slots := 0, locals := 46 }) (va_Pc [.ref h0, .int c0, .int v, .int n] (zR g [(h0, .inr (8, [.ref aC, aW, aT, aB, aL, aG, aM, aA, aU, aE, aD, .int 0, .int 0])), (aC, .inl (g.2 4, 4, .inr (.inr (.inr (.inr (zS [some c0_, some c1_, some c2_, some c3_])))))), (c0_, .inr (3, [.int we0, .ref c0_1, .ref c0_2, .ref c0_3, .ref c0_4, .int se0])), (c0_1, .inl (g.2 0, 32, .inl f0_1)), (c0_2, .inl (g.2 0, 33, .inl f0_2)), (c0_3, .inl (g.2 0, 33, .inl f0_3)), (c0_4, .inl (g.2 0, 16, .inl f0_4)), (c1_, .inr (3, [.int we1, .ref c1_1, .ref c1_2, .ref c1_3, .ref c1_4, .int se1])), (c1_1, .inl (g.2 0, 32, .inl f1_1)), (c1_2, .inl (g.2 0, 33, .inl f1_2)), (c1_3, .inl (g.2 0, 33, .inl f1_3)), (c1_4, .inl (g.2 0, 16, .inl f1_4)), (c2_, .inr (3, [.int we2, .ref c2_1, .ref c2_2, .ref c2_3, .ref c2_4, .int se2])), (c2_1, .inl (g.2 0, 32, .inl f2_1)), (c2_2, .inl (g.2 0, 33, .inl f2_2)), (c2_3, .inl (g.2 0, 33, .inl f2_3)), (c2_4, .inl (g.2 0, 16, .inl f2_4)), (c3_, .inr (3, [.int we3, .ref c3_1, .ref c3_2, .ref c3_3, .ref c3_4, .int se3])), (c3_1, .inl (g.2 0, 32, .inl f3_1)), (c3_2, .inl (g.2 0, 33, .inl f3_2)), (c3_3, .inl (g.2 0, 33, .inl f3_3)), (c3_4, .inl (g.2 0, 16, .inl f3_4))])) (vp_Si (fun r : Int32 => (r = (-1) ∧ (¬ (0 ≤ c0.toInt ∧ c0.toInt ≤ 3 ∧ (0 ≤ v.toInt ∧ v.toInt ≤ 15) ∧ 0 ≤ n.toInt ∧ n.toInt ≤ 4))) ∨ (r = v ∧ (0 ≤ c0.toInt ∧ c0.toInt ≤ 3 ∧ (0 ≤ v.toInt ∧ v.toInt ≤ 15) ∧ 0 ≤ n.toInt ∧ n.toInt ≤ 4) ∧ (n.toInt = 0)) ∨ (r = 32 ∧ (0 ≤ c0.toInt ∧ c0.toInt ≤ 3 ∧ (0 ≤ v.toInt ∧ v.toInt ≤ 15) ∧ 0 ≤ n.toInt ∧ n.toInt ≤ 4) ∧ (1 ≤ n.toInt)))) 0 0 (fun _ => False) := by
  refine Met.ofW (cc := cX8_blurred) (maxL := 4) (ret := (some .int)) (by decide) rfl ?_
  intro p e s m args below meth c s₁ B hml hv
  obtain ⟨rfl, hP, hK, hN⟩ := hv
  have hx := B.exec
  have hb := B.bytes
  have hr := B.returns
  have hg := zW.law (atoms_spec (ws := (zW yX8_blurred cX8_blurred 4 (some .int))) B.pre)
  have hown : s.vm.findClass RX8 = some m.cls := findClass_of_methodNamed B.named
  have hlocks := B.notSynchronized
  have hl := lv_entry ([.ref h0, .int c0, .int v, .int n]) (n := 4) (Nat.le_of_ble_eq_true rfl)
  rw [lg_entry_eq]
  generalize (lg_sl ([.ref h0, .int c0, .int v, .int n]) ++ List.replicate (4 - (lg_sl ([.ref h0, .int c0, .int v, .int n])).length) Slot.unset).toArray = ls at hl ⊢
  have hl : lv_has ls 4 [(0, .ref h0), (1, .int c0), (2, .int v), (3, .int n)] := hl
  refine lv_iload_n hx hb dX8_blurred_0 rfl (lv_at hl 1 rfl) ?_
  have hPc := hP.sub (ws' := []) [] rfl
  refine zc_i (va_runS (As := [.int c0]) (rest := []) ⟨hx, hb, hml, hown, hg⟩ (c_X8_isColumn l g c0 ) (va_cwS 1 hg (z_gS mm_404 mm_405 mm_108 mm_406) rfl rfl rfl (by decide +kernel) ⟨Nat.le_of_ble_eq_true rfl, Nat.le_of_ble_eq_true rfl⟩) (zR.pre [.int c0] hPc hK hN) rfl rfl hl.1 rfl (lv_room (Nat.le_of_ble_eq_true rfl)) dX8_blurred_1 ⟨Nat.le_of_ble_eq_true rfl, Nat.le_of_ble_eq_true rfl⟩) (fun r1 hr1 => ?_)
  rcases hr1 with hr1 | hr1
  · skip
    obtain ⟨rfl, h2, h3⟩ := hr1
    have h2 : 0 ≤ c0.toInt := h2
    have h3 : c0.toInt ≤ 3 := h3
    refine lv_if_eq (tgt := 21) hx hb dX8_blurred_4 (by decide) (fun c4 => ?_) (fun c4 => ?_)
    · skip
      exact absurd c4 (by decide)
    · skip
      refine lv_iload_n hx hb dX8_blurred_7 rfl (lv_at hl 2 rfl) ?_
      have hPc := hP.sub (ws' := []) [] rfl
      refine zc_i (va_runS (As := [.int v]) (rest := []) ⟨hx, hb, hml, hown, hg⟩ (c_X8_isValue l g v ) (va_cwS 1 hg (z_gS mm_431 mm_432 mm_108 mm_433) rfl rfl rfl (by decide +kernel) ⟨Nat.le_of_ble_eq_true rfl, Nat.le_of_ble_eq_true rfl⟩) (zR.pre [.int v] hPc hK hN) rfl rfl hl.1 rfl (lv_room (Nat.le_of_ble_eq_true rfl)) dX8_blurred_8 ⟨Nat.le_of_ble_eq_true rfl, Nat.le_of_ble_eq_true rfl⟩) (fun r5 hr5 => ?_)
      rcases hr5 with hr5 | hr5
      · skip
        obtain ⟨rfl, h6, h7⟩ := hr5
        have h6 : 0 ≤ v.toInt := h6
        have h7 : v.toInt ≤ 15 := h7
        refine lv_if_eq (tgt := 21) hx hb dX8_blurred_11 (by decide) (fun c8 => ?_) (fun c8 => ?_)
        · skip
          exact absurd c8 (by decide)
        · skip
          refine lv_iload_n hx hb dX8_blurred_14 rfl (lv_at hl 3 rfl) ?_
          have hPc := hP.sub (ws' := []) [] rfl
          refine zc_i (va_runS (As := [.int n]) (rest := []) ⟨hx, hb, hml, hown, hg⟩ (c_X8_isLevel l g n ) (va_cwS 1 hg (z_gS mm_529 mm_530 mm_108 mm_531) rfl rfl rfl (by decide +kernel) ⟨Nat.le_of_ble_eq_true rfl, Nat.le_of_ble_eq_true rfl⟩) (zR.pre [.int n] hPc hK hN) rfl rfl hl.1 rfl (lv_room (Nat.le_of_ble_eq_true rfl)) dX8_blurred_15 ⟨Nat.le_of_ble_eq_true rfl, Nat.le_of_ble_eq_true rfl⟩) (fun r9 hr9 => ?_)
          rcases hr9 with hr9 | hr9
          · skip
            obtain ⟨rfl, h10, h11⟩ := hr9
            have h10 : 0 ≤ n.toInt := h10
            have h11 : n.toInt ≤ 4 := h11
            refine lv_if_ne (tgt := 23) hx hb dX8_blurred_18 (by decide) (fun c12 => ?_) (fun c12 => ?_)
            · skip
              refine lv_aload_n hx hb dX8_blurred_23 rfl (lv_at hl 0 rfl) ?_
              refine va_get (D := g.1) (ci := 8) (v := .ref aC) (C := RX8) (T := TX8) (N := 13) hx hb hg inG8 hown hK hP 0 rfl rfl 0 (by decide) (hg _ mm_360) (fun _ h9 => h9) rfl dX8_blurred_24 ?_
              refine lv_iload_n hx hb dX8_blurred_27 rfl (lv_at hl 1 rfl) ?_
              rcases z_c4 c0 (by omega) (by omega) with hs13 | hs13 | hs13 | hs13
              · skip
                have ehs13 : c0.toInt = 0 := by rw [hs13]; rfl
                have qhs13 : (0 : Int32).toInt = 0 := rfl
                subst hs13
                refine va_aldq hx hb hK hP 1 4 rfl rfl (z_in (by decide : (0 : Int32).toInt = 0) (by omega) (by omega)) dX8_blurred_28 ?_
                refine W.eq (g2 := F0 m 29 ls [.ref c0_]) rfl ?_
                refine lv_iload_n hx hb dX8_blurred_29 rfl (lv_at hl 2 rfl) ?_
                refine lv_iload_n hx hb dX8_blurred_30 rfl (lv_at hl 3 rfl) ?_
                have hPc := hP.sub (ws' := [(c0_, .inr (3, [.int we0, .ref c0_1, .ref c0_2, .ref c0_3, .ref c0_4, .int se0])), (c0_1, .inl (g.2 0, 32, .inl f0_1)), (c0_2, .inl (g.2 0, 33, .inl f0_2)), (c0_3, .inl (g.2 0, 33, .inl f0_3)), (c0_4, .inl (g.2 0, 16, .inl f0_4))]) [2, 3, 4, 5, 6] rfl
                refine zc_i (va_runV (As := [.int v, .int n]) (rest := []) ⟨hx, hb, hml, hown, hg⟩ (c_X3_raised l g c0_ c0_1 c0_2 c0_3 c0_4 f0_1 f0_2 f0_3 f0_4 we0 se0 v n (by first | assumption | omega) (by first | omega | assumption | decide) (by first | omega | assumption | decide)) (cwV 2 hg (z_gV mm_532 mm_533 mm_534 mm_115 mm_535) rfl rfl rfl (by decide +kernel) ⟨Nat.le_of_ble_eq_true rfl, Nat.le_of_ble_eq_true rfl⟩) ⟨(zR.pre [.ref c0_, .int v, .int n] hPc hK hN).1, va_recv hK hPc (ci := 3) (q0 := 0) rfl rfl, (zR.pre [.ref c0_, .int v, .int n] hPc hK hN).2⟩ rfl rfl hl.1 rfl (lv_room (Nat.le_of_ble_eq_true rfl)) dX8_blurred_31 ⟨Nat.le_of_ble_eq_true rfl, Nat.le_of_ble_eq_true rfl⟩) (fun r14 hr14 => ?_)
                rcases hr14 with hr14 | hr14
                · skip
                  obtain ⟨hqr14, h15⟩ := hr14
                  subst r14
                  have h15 : n.toInt = 0 := h15
                  exact W.iret (v := v) hx hb hr (fun t ht hW => ⟨v, rfl, by first | exact Or.inl ⟨rfl, by omega⟩ | exact Or.inr (Or.inl ⟨rfl, by omega, by omega⟩) | exact Or.inr (Or.inr ⟨rfl, by omega, by omega⟩), ht⟩) (fun q hq => by cases hq) dX8_blurred_34
                · skip
                  obtain ⟨rfl, h16⟩ := hr14
                  have h16 : 1 ≤ n.toInt := h16
                  exact W.iret (v := 32) hx hb hr (fun t ht hW => ⟨32, rfl, by first | exact Or.inl ⟨rfl, by omega⟩ | exact Or.inr (Or.inl ⟨rfl, by omega, by omega⟩) | exact Or.inr (Or.inr ⟨rfl, by omega, by omega⟩), ht⟩) (fun q hq => by cases hq) dX8_blurred_34
              · skip
                have ehs13 : c0.toInt = 1 := by rw [hs13]; rfl
                have qhs13 : (1 : Int32).toInt = 1 := rfl
                subst hs13
                refine va_aldq hx hb hK hP 1 4 rfl rfl (z_in (by decide : (1 : Int32).toInt = 1) (by omega) (by omega)) dX8_blurred_28 ?_
                refine W.eq (g2 := F0 m 29 ls [.ref c1_]) rfl ?_
                refine lv_iload_n hx hb dX8_blurred_29 rfl (lv_at hl 2 rfl) ?_
                refine lv_iload_n hx hb dX8_blurred_30 rfl (lv_at hl 3 rfl) ?_
                have hPc := hP.sub (ws' := [(c1_, .inr (3, [.int we1, .ref c1_1, .ref c1_2, .ref c1_3, .ref c1_4, .int se1])), (c1_1, .inl (g.2 0, 32, .inl f1_1)), (c1_2, .inl (g.2 0, 33, .inl f1_2)), (c1_3, .inl (g.2 0, 33, .inl f1_3)), (c1_4, .inl (g.2 0, 16, .inl f1_4))]) [7, 8, 9, 10, 11] rfl
                refine zc_i (va_runV (As := [.int v, .int n]) (rest := []) ⟨hx, hb, hml, hown, hg⟩ (c_X3_raised l g c1_ c1_1 c1_2 c1_3 c1_4 f1_1 f1_2 f1_3 f1_4 we1 se1 v n (by first | assumption | omega) (by first | omega | assumption | decide) (by first | omega | assumption | decide)) (cwV 2 hg (z_gV mm_532 mm_533 mm_534 mm_115 mm_535) rfl rfl rfl (by decide +kernel) ⟨Nat.le_of_ble_eq_true rfl, Nat.le_of_ble_eq_true rfl⟩) ⟨(zR.pre [.ref c1_, .int v, .int n] hPc hK hN).1, va_recv hK hPc (ci := 3) (q0 := 0) rfl rfl, (zR.pre [.ref c1_, .int v, .int n] hPc hK hN).2⟩ rfl rfl hl.1 rfl (lv_room (Nat.le_of_ble_eq_true rfl)) dX8_blurred_31 ⟨Nat.le_of_ble_eq_true rfl, Nat.le_of_ble_eq_true rfl⟩) (fun r17 hr17 => ?_)
                rcases hr17 with hr17 | hr17
                · skip
                  obtain ⟨hqr17, h18⟩ := hr17
                  subst r17
                  have h18 : n.toInt = 0 := h18
                  exact W.iret (v := v) hx hb hr (fun t ht hW => ⟨v, rfl, by first | exact Or.inl ⟨rfl, by omega⟩ | exact Or.inr (Or.inl ⟨rfl, by omega, by omega⟩) | exact Or.inr (Or.inr ⟨rfl, by omega, by omega⟩), ht⟩) (fun q hq => by cases hq) dX8_blurred_34
                · skip
                  obtain ⟨rfl, h19⟩ := hr17
                  have h19 : 1 ≤ n.toInt := h19
                  exact W.iret (v := 32) hx hb hr (fun t ht hW => ⟨32, rfl, by first | exact Or.inl ⟨rfl, by omega⟩ | exact Or.inr (Or.inl ⟨rfl, by omega, by omega⟩) | exact Or.inr (Or.inr ⟨rfl, by omega, by omega⟩), ht⟩) (fun q hq => by cases hq) dX8_blurred_34
              · skip
                have ehs13 : c0.toInt = 2 := by rw [hs13]; rfl
                have qhs13 : (2 : Int32).toInt = 2 := rfl
                subst hs13
                refine va_aldq hx hb hK hP 1 4 rfl rfl (z_in (by decide : (2 : Int32).toInt = 2) (by omega) (by omega)) dX8_blurred_28 ?_
                refine W.eq (g2 := F0 m 29 ls [.ref c2_]) rfl ?_
                refine lv_iload_n hx hb dX8_blurred_29 rfl (lv_at hl 2 rfl) ?_
                refine lv_iload_n hx hb dX8_blurred_30 rfl (lv_at hl 3 rfl) ?_
                have hPc := hP.sub (ws' := [(c2_, .inr (3, [.int we2, .ref c2_1, .ref c2_2, .ref c2_3, .ref c2_4, .int se2])), (c2_1, .inl (g.2 0, 32, .inl f2_1)), (c2_2, .inl (g.2 0, 33, .inl f2_2)), (c2_3, .inl (g.2 0, 33, .inl f2_3)), (c2_4, .inl (g.2 0, 16, .inl f2_4))]) [12, 13, 14, 15, 16] rfl
                refine zc_i (va_runV (As := [.int v, .int n]) (rest := []) ⟨hx, hb, hml, hown, hg⟩ (c_X3_raised l g c2_ c2_1 c2_2 c2_3 c2_4 f2_1 f2_2 f2_3 f2_4 we2 se2 v n (by first | assumption | omega) (by first | omega | assumption | decide) (by first | omega | assumption | decide)) (cwV 2 hg (z_gV mm_532 mm_533 mm_534 mm_115 mm_535) rfl rfl rfl (by decide +kernel) ⟨Nat.le_of_ble_eq_true rfl, Nat.le_of_ble_eq_true rfl⟩) ⟨(zR.pre [.ref c2_, .int v, .int n] hPc hK hN).1, va_recv hK hPc (ci := 3) (q0 := 0) rfl rfl, (zR.pre [.ref c2_, .int v, .int n] hPc hK hN).2⟩ rfl rfl hl.1 rfl (lv_room (Nat.le_of_ble_eq_true rfl)) dX8_blurred_31 ⟨Nat.le_of_ble_eq_true rfl, Nat.le_of_ble_eq_true rfl⟩) (fun r20 hr20 => ?_)
                rcases hr20 with hr20 | hr20
                · skip
                  obtain ⟨hqr20, h21⟩ := hr20
                  subst r20
                  have h21 : n.toInt = 0 := h21
                  exact W.iret (v := v) hx hb hr (fun t ht hW => ⟨v, rfl, by first | exact Or.inl ⟨rfl, by omega⟩ | exact Or.inr (Or.inl ⟨rfl, by omega, by omega⟩) | exact Or.inr (Or.inr ⟨rfl, by omega, by omega⟩), ht⟩) (fun q hq => by cases hq) dX8_blurred_34
                · skip
                  obtain ⟨rfl, h22⟩ := hr20
                  have h22 : 1 ≤ n.toInt := h22
                  exact W.iret (v := 32) hx hb hr (fun t ht hW => ⟨32, rfl, by first | exact Or.inl ⟨rfl, by omega⟩ | exact Or.inr (Or.inl ⟨rfl, by omega, by omega⟩) | exact Or.inr (Or.inr ⟨rfl, by omega, by omega⟩), ht⟩) (fun q hq => by cases hq) dX8_blurred_34
              · skip
                have ehs13 : c0.toInt = 3 := by rw [hs13]; rfl
                have qhs13 : (3 : Int32).toInt = 3 := rfl
                subst hs13
                refine va_aldq hx hb hK hP 1 4 rfl rfl (z_in (by decide : (3 : Int32).toInt = 3) (by omega) (by omega)) dX8_blurred_28 ?_
                refine W.eq (g2 := F0 m 29 ls [.ref c3_]) rfl ?_
                refine lv_iload_n hx hb dX8_blurred_29 rfl (lv_at hl 2 rfl) ?_
                refine lv_iload_n hx hb dX8_blurred_30 rfl (lv_at hl 3 rfl) ?_
                have hPc := hP.sub (ws' := [(c3_, .inr (3, [.int we3, .ref c3_1, .ref c3_2, .ref c3_3, .ref c3_4, .int se3])), (c3_1, .inl (g.2 0, 32, .inl f3_1)), (c3_2, .inl (g.2 0, 33, .inl f3_2)), (c3_3, .inl (g.2 0, 33, .inl f3_3)), (c3_4, .inl (g.2 0, 16, .inl f3_4))]) [17, 18, 19, 20, 21] rfl
                refine zc_i (va_runV (As := [.int v, .int n]) (rest := []) ⟨hx, hb, hml, hown, hg⟩ (c_X3_raised l g c3_ c3_1 c3_2 c3_3 c3_4 f3_1 f3_2 f3_3 f3_4 we3 se3 v n (by first | assumption | omega) (by first | omega | assumption | decide) (by first | omega | assumption | decide)) (cwV 2 hg (z_gV mm_532 mm_533 mm_534 mm_115 mm_535) rfl rfl rfl (by decide +kernel) ⟨Nat.le_of_ble_eq_true rfl, Nat.le_of_ble_eq_true rfl⟩) ⟨(zR.pre [.ref c3_, .int v, .int n] hPc hK hN).1, va_recv hK hPc (ci := 3) (q0 := 0) rfl rfl, (zR.pre [.ref c3_, .int v, .int n] hPc hK hN).2⟩ rfl rfl hl.1 rfl (lv_room (Nat.le_of_ble_eq_true rfl)) dX8_blurred_31 ⟨Nat.le_of_ble_eq_true rfl, Nat.le_of_ble_eq_true rfl⟩) (fun r23 hr23 => ?_)
                rcases hr23 with hr23 | hr23
                · skip
                  obtain ⟨hqr23, h24⟩ := hr23
                  subst r23
                  have h24 : n.toInt = 0 := h24
                  exact W.iret (v := v) hx hb hr (fun t ht hW => ⟨v, rfl, by first | exact Or.inl ⟨rfl, by omega⟩ | exact Or.inr (Or.inl ⟨rfl, by omega, by omega⟩) | exact Or.inr (Or.inr ⟨rfl, by omega, by omega⟩), ht⟩) (fun q hq => by cases hq) dX8_blurred_34
                · skip
                  obtain ⟨rfl, h25⟩ := hr23
                  have h25 : 1 ≤ n.toInt := h25
                  exact W.iret (v := 32) hx hb hr (fun t ht hW => ⟨32, rfl, by first | exact Or.inl ⟨rfl, by omega⟩ | exact Or.inr (Or.inl ⟨rfl, by omega, by omega⟩) | exact Or.inr (Or.inr ⟨rfl, by omega, by omega⟩), ht⟩) (fun q hq => by cases hq) dX8_blurred_34
            · skip
              exact absurd c12 (by decide)
          · skip
            obtain ⟨rfl, h26⟩ := hr9
            have h26 : ¬ (0 ≤ n.toInt ∧ n.toInt ≤ 4) := h26
            refine lv_if_ne (tgt := 23) hx hb dX8_blurred_18 (by decide) (fun c27 => ?_) (fun c27 => ?_)
            · skip
              exact absurd c27 (by decide)
            · skip
              refine lv_iconst (v := (-1)) hx hb dX8_blurred_21 (by decide) ?_
              exact W.iret (v := (-1)) hx hb hr (fun t ht hW => ⟨(-1), rfl, by first | exact Or.inl ⟨rfl, by omega⟩ | exact Or.inr (Or.inl ⟨rfl, by omega, by omega⟩) | exact Or.inr (Or.inr ⟨rfl, by omega, by omega⟩), ht⟩) (fun q hq => by cases hq) dX8_blurred_22
      · skip
        obtain ⟨rfl, h28⟩ := hr5
        have h28 : ¬ (0 ≤ v.toInt ∧ v.toInt ≤ 15) := h28
        refine lv_if_eq (tgt := 21) hx hb dX8_blurred_11 (by decide) (fun c29 => ?_) (fun c29 => ?_)
        · skip
          refine lv_iconst (v := (-1)) hx hb dX8_blurred_21 (by decide) ?_
          exact W.iret (v := (-1)) hx hb hr (fun t ht hW => ⟨(-1), rfl, by first | exact Or.inl ⟨rfl, by omega⟩ | exact Or.inr (Or.inl ⟨rfl, by omega, by omega⟩) | exact Or.inr (Or.inr ⟨rfl, by omega, by omega⟩), ht⟩) (fun q hq => by cases hq) dX8_blurred_22
        · skip
          exact absurd c29 (by decide)
  · skip
    obtain ⟨rfl, h30⟩ := hr1
    have h30 : ¬ (0 ≤ c0.toInt ∧ c0.toInt ≤ 3) := h30
    refine lv_if_eq (tgt := 21) hx hb dX8_blurred_4 (by decide) (fun c31 => ?_) (fun c31 => ?_)
    · skip
      refine lv_iconst (v := (-1)) hx hb dX8_blurred_21 (by decide) ?_
      exact W.iret (v := (-1)) hx hb hr (fun t ht hW => ⟨(-1), rfl, by first | exact Or.inl ⟨rfl, by omega⟩ | exact Or.inr (Or.inl ⟨rfl, by omega, by omega⟩) | exact Or.inr (Or.inr ⟨rfl, by omega, by omega⟩), ht⟩) (fun q hq => by cases hq) dX8_blurred_22
    · skip
      exact absurd c31 (by decide)

set_option maxHeartbeats 4000000 in
set_option maxRecDepth 100000 in
theorem c_X8_size (l : Launch) (g : zG) (h0 : Nat) (aC : Nat) (aW : Value) (aT : Value) (aB : Value) (aL : Value) (aG : Value) (aM : Value) (aA : Value) (aU : Value) (aE : Value) (aD : Value) (c0_ : Nat) (c0_1 : Nat) (c0_2 : Nat) (c0_3 : Nat) (c0_4 : Nat) (f0_1 : Nat → Int32) (f0_2 : Nat → Int32) (f0_3 : Nat → Int32) (f0_4 : Nat → Int32) (we0 : Int32) (se0 : Int32) (c1_ : Nat) (c1_1 : Nat) (c1_2 : Nat) (c1_3 : Nat) (c1_4 : Nat) (f1_1 : Nat → Int32) (f1_2 : Nat → Int32) (f1_3 : Nat → Int32) (f1_4 : Nat → Int32) (we1 : Int32) (se1 : Int32) (c2_ : Nat) (c2_1 : Nat) (c2_2 : Nat) (c2_3 : Nat) (c2_4 : Nat) (f2_1 : Nat → Int32) (f2_2 : Nat → Int32) (f2_3 : Nat → Int32) (f2_4 : Nat → Int32) (we2 : Int32) (se2 : Int32) (c3_ : Nat) (c3_1 : Nat) (c3_2 : Nat) (c3_3 : Nat) (c3_4 : Nat) (f3_1 : Nat → Int32) (f3_2 : Nat → Int32) (f3_3 : Nat → Int32) (f3_4 : Nat → Int32) (we3 : Int32) (se3 : Int32) (c0 : Int32) (nd : Int32) (hg0a : ∀ j, j < 16 → f0_2 j = 1) (hg0b : ∀ j, 16 ≤ j → j < 32 → f0_2 j = 0) (hg0c : f0_2 32 = 16) (hg1a : ∀ j, j < 16 → f1_2 j = 1) (hg1b : ∀ j, 16 ≤ j → j < 32 → f1_2 j = 0) (hg1c : f1_2 32 = 16) (hg2a : ∀ j, j < 16 → f2_2 j = 1) (hg2b : ∀ j, 16 ≤ j → j < 32 → f2_2 j = 0) (hg2c : f2_2 32 = 16) (hg3a : ∀ j, j < 16 → f3_2 j = 1) (hg3b : ∀ j, 16 ≤ j → j < 32 → f3_2 j = 0) (hg3c : f3_2 32 = 16) : Met l yX8_size (zW yX8_size cX8_size 3 (some .int)) ({ frames := 1, cells := 0, slots := 0, locals := 22 }) (va_Pc [.ref h0, .int c0, .int nd] (zR g [(h0, .inr (8, [.ref aC, aW, aT, aB, aL, aG, aM, aA, aU, aE, aD, .int 0, .int 0])), (aC, .inl (g.2 4, 4, .inr (.inr (.inr (.inr (zS [some c0_, some c1_, some c2_, some c3_])))))), (c0_, .inr (3, [.int we0, .ref c0_1, .ref c0_2, .ref c0_3, .ref c0_4, .int se0])), (c0_1, .inl (g.2 0, 32, .inl f0_1)), (c0_2, .inl (g.2 0, 33, .inl f0_2)), (c0_3, .inl (g.2 0, 33, .inl f0_3)), (c0_4, .inl (g.2 0, 16, .inl f0_4)), (c1_, .inr (3, [.int we1, .ref c1_1, .ref c1_2, .ref c1_3, .ref c1_4, .int se1])), (c1_1, .inl (g.2 0, 32, .inl f1_1)), (c1_2, .inl (g.2 0, 33, .inl f1_2)), (c1_3, .inl (g.2 0, 33, .inl f1_3)), (c1_4, .inl (g.2 0, 16, .inl f1_4)), (c2_, .inr (3, [.int we2, .ref c2_1, .ref c2_2, .ref c2_3, .ref c2_4, .int se2])), (c2_1, .inl (g.2 0, 32, .inl f2_1)), (c2_2, .inl (g.2 0, 33, .inl f2_2)), (c2_3, .inl (g.2 0, 33, .inl f2_3)), (c2_4, .inl (g.2 0, 16, .inl f2_4)), (c3_, .inr (3, [.int we3, .ref c3_1, .ref c3_2, .ref c3_3, .ref c3_4, .int se3])), (c3_1, .inl (g.2 0, 32, .inl f3_1)), (c3_2, .inl (g.2 0, 33, .inl f3_2)), (c3_3, .inl (g.2 0, 33, .inl f3_3)), (c3_4, .inl (g.2 0, 16, .inl f3_4))])) (vp_Si (fun r : Int32 => (r = (-1) ∧ (¬ (0 ≤ c0.toInt ∧ c0.toInt ≤ 3 ∧ (0 ≤ nd.toInt ∧ nd.toInt ≤ 32)))) ∨ (r = 1 ∧ (0 ≤ c0.toInt ∧ c0.toInt ≤ 3 ∧ (0 ≤ nd.toInt ∧ nd.toInt ≤ 32)) ∧ (nd.toInt < 16)) ∨ (r = 0 ∧ (0 ≤ c0.toInt ∧ c0.toInt ≤ 3 ∧ (0 ≤ nd.toInt ∧ nd.toInt ≤ 32)) ∧ (16 ≤ nd.toInt ∧ nd.toInt < 32)) ∨ (r = 16 ∧ (0 ≤ c0.toInt ∧ c0.toInt ≤ 3 ∧ (0 ≤ nd.toInt ∧ nd.toInt ≤ 32)) ∧ (nd.toInt = 32)))) 0 0 (fun _ => False) := by
  refine Met.ofW (cc := cX8_size) (maxL := 3) (ret := (some .int)) (by decide) rfl ?_
  intro p e s m args below meth c s₁ B hml hv
  obtain ⟨rfl, hP, hK, hN⟩ := hv
  have hx := B.exec
  have hb := B.bytes
  have hr := B.returns
  have hg := zW.law (atoms_spec (ws := (zW yX8_size cX8_size 3 (some .int))) B.pre)
  have hown : s.vm.findClass RX8 = some m.cls := findClass_of_methodNamed B.named
  have hlocks := B.notSynchronized
  have hl := lv_entry ([.ref h0, .int c0, .int nd]) (n := 3) (Nat.le_of_ble_eq_true rfl)
  rw [lg_entry_eq]
  generalize (lg_sl ([.ref h0, .int c0, .int nd]) ++ List.replicate (3 - (lg_sl ([.ref h0, .int c0, .int nd])).length) Slot.unset).toArray = ls at hl ⊢
  have hl : lv_has ls 3 [(0, .ref h0), (1, .int c0), (2, .int nd)] := hl
  refine lv_iload_n hx hb dX8_size_0 rfl (lv_at hl 1 rfl) ?_
  have hPc := hP.sub (ws' := []) [] rfl
  refine zc_i (va_runS (As := [.int c0]) (rest := []) ⟨hx, hb, hml, hown, hg⟩ (c_X8_isColumn l g c0 ) (va_cwS 1 hg (z_gS mm_404 mm_405 mm_108 mm_406) rfl rfl rfl (by decide +kernel) ⟨Nat.le_of_ble_eq_true rfl, Nat.le_of_ble_eq_true rfl⟩) (zR.pre [.int c0] hPc hK hN) rfl rfl hl.1 rfl (lv_room (Nat.le_of_ble_eq_true rfl)) dX8_size_1 ⟨Nat.le_of_ble_eq_true rfl, Nat.le_of_ble_eq_true rfl⟩) (fun r1 hr1 => ?_)
  rcases hr1 with hr1 | hr1
  · skip
    obtain ⟨rfl, h2, h3⟩ := hr1
    have h2 : 0 ≤ c0.toInt := h2
    have h3 : c0.toInt ≤ 3 := h3
    refine lv_if_eq (tgt := 17) hx hb dX8_size_4 (by decide) (fun c4 => ?_) (fun c4 => ?_)
    · skip
      exact absurd c4 (by decide)
    · skip
      refine lv_iload_n hx hb dX8_size_7 rfl (lv_at hl 2 rfl) ?_
      refine lv_iconst (v := 0) hx hb dX8_size_8 (by decide) ?_
      refine lv_bipush (v := 32) hx hb dX8_size_9 (by decide) ?_
      have hPc := hP.sub (ws' := []) [] rfl
      refine zc_i (va_runS (As := [.int nd, .int 0, .int 32]) (rest := []) ⟨hx, hb, hml, hown, hg⟩ (c_X8_within l g nd (0 : Int32) (32 : Int32) ) (va_cwS 3 hg (z_gS mm_407 mm_408 mm_108 mm_409) rfl rfl rfl (by decide +kernel) ⟨Nat.le_of_ble_eq_true rfl, Nat.le_of_ble_eq_true rfl⟩) (zR.pre [.int nd, .int 0, .int 32] hPc hK hN) rfl rfl hl.1 rfl (lv_room (Nat.le_of_ble_eq_true rfl)) dX8_size_11 ⟨Nat.le_of_ble_eq_true rfl, Nat.le_of_ble_eq_true rfl⟩) (fun r5 hr5 => ?_)
      rcases hr5 with hr5 | hr5
      · skip
        obtain ⟨rfl, h6, h7⟩ := hr5
        have h6 : (0 : Int) ≤ nd.toInt := h6
        have h7 : nd.toInt ≤ (32 : Int) := h7
        refine lv_if_ne (tgt := 19) hx hb dX8_size_14 (by decide) (fun c8 => ?_) (fun c8 => ?_)
        · skip
          refine lv_aload_n hx hb dX8_size_19 rfl (lv_at hl 0 rfl) ?_
          refine va_get (D := g.1) (ci := 8) (v := .ref aC) (C := RX8) (T := TX8) (N := 13) hx hb hg inG8 hown hK hP 0 rfl rfl 0 (by decide) (hg _ mm_360) (fun _ h9 => h9) rfl dX8_size_20 ?_
          refine lv_iload_n hx hb dX8_size_23 rfl (lv_at hl 1 rfl) ?_
          rcases z_c4 c0 (by omega) (by omega) with hs9 | hs9 | hs9 | hs9
          · skip
            have ehs9 : c0.toInt = 0 := by rw [hs9]; rfl
            have qhs9 : (0 : Int32).toInt = 0 := rfl
            subst hs9
            refine va_aldq hx hb hK hP 1 4 rfl rfl (z_in (by decide : (0 : Int32).toInt = 0) (by omega) (by omega)) dX8_size_24 ?_
            refine W.eq (g2 := F0 m 25 ls [.ref c0_]) rfl ?_
            refine lv_iload_n hx hb dX8_size_25 rfl (lv_at hl 2 rfl) ?_
            have hPc := hP.sub (ws' := [(c0_, .inr (3, [.int we0, .ref c0_1, .ref c0_2, .ref c0_3, .ref c0_4, .int se0])), (c0_1, .inl (g.2 0, 32, .inl f0_1)), (c0_2, .inl (g.2 0, 33, .inl f0_2)), (c0_3, .inl (g.2 0, 33, .inl f0_3)), (c0_4, .inl (g.2 0, 16, .inl f0_4))]) [2, 3, 4, 5, 6] rfl
            refine zc_i (va_runV (As := [.int nd]) (rest := []) ⟨hx, hb, hml, hown, hg⟩ (c_X3_valuesBelow l g c0_ c0_1 c0_2 c0_3 c0_4 f0_1 f0_2 f0_3 f0_4 we0 se0 nd (by first | assumption | omega) (by first | assumption | omega) (by first | assumption | omega) (by first | omega | assumption | decide)) (cwV 1 hg (z_gV mm_540 mm_541 mm_542 mm_115 mm_543) rfl rfl rfl (by decide +kernel) ⟨Nat.le_of_ble_eq_true rfl, Nat.le_of_ble_eq_true rfl⟩) ⟨(zR.pre [.ref c0_, .int nd] hPc hK hN).1, va_recv hK hPc (ci := 3) (q0 := 0) rfl rfl, (zR.pre [.ref c0_, .int nd] hPc hK hN).2⟩ rfl rfl hl.1 rfl (lv_room (Nat.le_of_ble_eq_true rfl)) dX8_size_26 ⟨Nat.le_of_ble_eq_true rfl, Nat.le_of_ble_eq_true rfl⟩) (fun r10 hr10 => ?_)
            rcases hr10 with hr10 | hr10 | hr10
            · skip
              obtain ⟨rfl, h11⟩ := hr10
              have h11 : nd.toInt < 16 := h11
              exact W.iret (v := 1) hx hb hr (fun t ht hW => ⟨1, rfl, by first | exact Or.inl ⟨rfl, by omega⟩ | exact Or.inr (Or.inl ⟨rfl, by omega, by omega⟩) | exact Or.inr (Or.inr (Or.inl ⟨rfl, by omega, by omega⟩)) | exact Or.inr (Or.inr (Or.inr ⟨rfl, by omega, by omega⟩)), ht⟩) (fun q hq => by cases hq) dX8_size_29
            · skip
              obtain ⟨rfl, h12, h13⟩ := hr10
              have h12 : 16 ≤ nd.toInt := h12
              have h13 : nd.toInt < 32 := h13
              exact W.iret (v := 0) hx hb hr (fun t ht hW => ⟨0, rfl, by first | exact Or.inl ⟨rfl, by omega⟩ | exact Or.inr (Or.inl ⟨rfl, by omega, by omega⟩) | exact Or.inr (Or.inr (Or.inl ⟨rfl, by omega, by omega⟩)) | exact Or.inr (Or.inr (Or.inr ⟨rfl, by omega, by omega⟩)), ht⟩) (fun q hq => by cases hq) dX8_size_29
            · skip
              obtain ⟨rfl, h14⟩ := hr10
              have h14 : nd.toInt = 32 := h14
              exact W.iret (v := 16) hx hb hr (fun t ht hW => ⟨16, rfl, by first | exact Or.inl ⟨rfl, by omega⟩ | exact Or.inr (Or.inl ⟨rfl, by omega, by omega⟩) | exact Or.inr (Or.inr (Or.inl ⟨rfl, by omega, by omega⟩)) | exact Or.inr (Or.inr (Or.inr ⟨rfl, by omega, by omega⟩)), ht⟩) (fun q hq => by cases hq) dX8_size_29
          · skip
            have ehs9 : c0.toInt = 1 := by rw [hs9]; rfl
            have qhs9 : (1 : Int32).toInt = 1 := rfl
            subst hs9
            refine va_aldq hx hb hK hP 1 4 rfl rfl (z_in (by decide : (1 : Int32).toInt = 1) (by omega) (by omega)) dX8_size_24 ?_
            refine W.eq (g2 := F0 m 25 ls [.ref c1_]) rfl ?_
            refine lv_iload_n hx hb dX8_size_25 rfl (lv_at hl 2 rfl) ?_
            have hPc := hP.sub (ws' := [(c1_, .inr (3, [.int we1, .ref c1_1, .ref c1_2, .ref c1_3, .ref c1_4, .int se1])), (c1_1, .inl (g.2 0, 32, .inl f1_1)), (c1_2, .inl (g.2 0, 33, .inl f1_2)), (c1_3, .inl (g.2 0, 33, .inl f1_3)), (c1_4, .inl (g.2 0, 16, .inl f1_4))]) [7, 8, 9, 10, 11] rfl
            refine zc_i (va_runV (As := [.int nd]) (rest := []) ⟨hx, hb, hml, hown, hg⟩ (c_X3_valuesBelow l g c1_ c1_1 c1_2 c1_3 c1_4 f1_1 f1_2 f1_3 f1_4 we1 se1 nd (by first | assumption | omega) (by first | assumption | omega) (by first | assumption | omega) (by first | omega | assumption | decide)) (cwV 1 hg (z_gV mm_540 mm_541 mm_542 mm_115 mm_543) rfl rfl rfl (by decide +kernel) ⟨Nat.le_of_ble_eq_true rfl, Nat.le_of_ble_eq_true rfl⟩) ⟨(zR.pre [.ref c1_, .int nd] hPc hK hN).1, va_recv hK hPc (ci := 3) (q0 := 0) rfl rfl, (zR.pre [.ref c1_, .int nd] hPc hK hN).2⟩ rfl rfl hl.1 rfl (lv_room (Nat.le_of_ble_eq_true rfl)) dX8_size_26 ⟨Nat.le_of_ble_eq_true rfl, Nat.le_of_ble_eq_true rfl⟩) (fun r15 hr15 => ?_)
            rcases hr15 with hr15 | hr15 | hr15
            · skip
              obtain ⟨rfl, h16⟩ := hr15
              have h16 : nd.toInt < 16 := h16
              exact W.iret (v := 1) hx hb hr (fun t ht hW => ⟨1, rfl, by first | exact Or.inl ⟨rfl, by omega⟩ | exact Or.inr (Or.inl ⟨rfl, by omega, by omega⟩) | exact Or.inr (Or.inr (Or.inl ⟨rfl, by omega, by omega⟩)) | exact Or.inr (Or.inr (Or.inr ⟨rfl, by omega, by omega⟩)), ht⟩) (fun q hq => by cases hq) dX8_size_29
            · skip
              obtain ⟨rfl, h17, h18⟩ := hr15
              have h17 : 16 ≤ nd.toInt := h17
              have h18 : nd.toInt < 32 := h18
              exact W.iret (v := 0) hx hb hr (fun t ht hW => ⟨0, rfl, by first | exact Or.inl ⟨rfl, by omega⟩ | exact Or.inr (Or.inl ⟨rfl, by omega, by omega⟩) | exact Or.inr (Or.inr (Or.inl ⟨rfl, by omega, by omega⟩)) | exact Or.inr (Or.inr (Or.inr ⟨rfl, by omega, by omega⟩)), ht⟩) (fun q hq => by cases hq) dX8_size_29
            · skip
              obtain ⟨rfl, h19⟩ := hr15
              have h19 : nd.toInt = 32 := h19
              exact W.iret (v := 16) hx hb hr (fun t ht hW => ⟨16, rfl, by first | exact Or.inl ⟨rfl, by omega⟩ | exact Or.inr (Or.inl ⟨rfl, by omega, by omega⟩) | exact Or.inr (Or.inr (Or.inl ⟨rfl, by omega, by omega⟩)) | exact Or.inr (Or.inr (Or.inr ⟨rfl, by omega, by omega⟩)), ht⟩) (fun q hq => by cases hq) dX8_size_29
          · skip
            have ehs9 : c0.toInt = 2 := by rw [hs9]; rfl
            have qhs9 : (2 : Int32).toInt = 2 := rfl
            subst hs9
            refine va_aldq hx hb hK hP 1 4 rfl rfl (z_in (by decide : (2 : Int32).toInt = 2) (by omega) (by omega)) dX8_size_24 ?_
            refine W.eq (g2 := F0 m 25 ls [.ref c2_]) rfl ?_
            refine lv_iload_n hx hb dX8_size_25 rfl (lv_at hl 2 rfl) ?_
            have hPc := hP.sub (ws' := [(c2_, .inr (3, [.int we2, .ref c2_1, .ref c2_2, .ref c2_3, .ref c2_4, .int se2])), (c2_1, .inl (g.2 0, 32, .inl f2_1)), (c2_2, .inl (g.2 0, 33, .inl f2_2)), (c2_3, .inl (g.2 0, 33, .inl f2_3)), (c2_4, .inl (g.2 0, 16, .inl f2_4))]) [12, 13, 14, 15, 16] rfl
            refine zc_i (va_runV (As := [.int nd]) (rest := []) ⟨hx, hb, hml, hown, hg⟩ (c_X3_valuesBelow l g c2_ c2_1 c2_2 c2_3 c2_4 f2_1 f2_2 f2_3 f2_4 we2 se2 nd (by first | assumption | omega) (by first | assumption | omega) (by first | assumption | omega) (by first | omega | assumption | decide)) (cwV 1 hg (z_gV mm_540 mm_541 mm_542 mm_115 mm_543) rfl rfl rfl (by decide +kernel) ⟨Nat.le_of_ble_eq_true rfl, Nat.le_of_ble_eq_true rfl⟩) ⟨(zR.pre [.ref c2_, .int nd] hPc hK hN).1, va_recv hK hPc (ci := 3) (q0 := 0) rfl rfl, (zR.pre [.ref c2_, .int nd] hPc hK hN).2⟩ rfl rfl hl.1 rfl (lv_room (Nat.le_of_ble_eq_true rfl)) dX8_size_26 ⟨Nat.le_of_ble_eq_true rfl, Nat.le_of_ble_eq_true rfl⟩) (fun r20 hr20 => ?_)
            rcases hr20 with hr20 | hr20 | hr20
            · skip
              obtain ⟨rfl, h21⟩ := hr20
              have h21 : nd.toInt < 16 := h21
              exact W.iret (v := 1) hx hb hr (fun t ht hW => ⟨1, rfl, by first | exact Or.inl ⟨rfl, by omega⟩ | exact Or.inr (Or.inl ⟨rfl, by omega, by omega⟩) | exact Or.inr (Or.inr (Or.inl ⟨rfl, by omega, by omega⟩)) | exact Or.inr (Or.inr (Or.inr ⟨rfl, by omega, by omega⟩)), ht⟩) (fun q hq => by cases hq) dX8_size_29
            · skip
              obtain ⟨rfl, h22, h23⟩ := hr20
              have h22 : 16 ≤ nd.toInt := h22
              have h23 : nd.toInt < 32 := h23
              exact W.iret (v := 0) hx hb hr (fun t ht hW => ⟨0, rfl, by first | exact Or.inl ⟨rfl, by omega⟩ | exact Or.inr (Or.inl ⟨rfl, by omega, by omega⟩) | exact Or.inr (Or.inr (Or.inl ⟨rfl, by omega, by omega⟩)) | exact Or.inr (Or.inr (Or.inr ⟨rfl, by omega, by omega⟩)), ht⟩) (fun q hq => by cases hq) dX8_size_29
            · skip
              obtain ⟨rfl, h24⟩ := hr20
              have h24 : nd.toInt = 32 := h24
              exact W.iret (v := 16) hx hb hr (fun t ht hW => ⟨16, rfl, by first | exact Or.inl ⟨rfl, by omega⟩ | exact Or.inr (Or.inl ⟨rfl, by omega, by omega⟩) | exact Or.inr (Or.inr (Or.inl ⟨rfl, by omega, by omega⟩)) | exact Or.inr (Or.inr (Or.inr ⟨rfl, by omega, by omega⟩)), ht⟩) (fun q hq => by cases hq) dX8_size_29
          · skip
            have ehs9 : c0.toInt = 3 := by rw [hs9]; rfl
            have qhs9 : (3 : Int32).toInt = 3 := rfl
            subst hs9
            refine va_aldq hx hb hK hP 1 4 rfl rfl (z_in (by decide : (3 : Int32).toInt = 3) (by omega) (by omega)) dX8_size_24 ?_
            refine W.eq (g2 := F0 m 25 ls [.ref c3_]) rfl ?_
            refine lv_iload_n hx hb dX8_size_25 rfl (lv_at hl 2 rfl) ?_
            have hPc := hP.sub (ws' := [(c3_, .inr (3, [.int we3, .ref c3_1, .ref c3_2, .ref c3_3, .ref c3_4, .int se3])), (c3_1, .inl (g.2 0, 32, .inl f3_1)), (c3_2, .inl (g.2 0, 33, .inl f3_2)), (c3_3, .inl (g.2 0, 33, .inl f3_3)), (c3_4, .inl (g.2 0, 16, .inl f3_4))]) [17, 18, 19, 20, 21] rfl
            refine zc_i (va_runV (As := [.int nd]) (rest := []) ⟨hx, hb, hml, hown, hg⟩ (c_X3_valuesBelow l g c3_ c3_1 c3_2 c3_3 c3_4 f3_1 f3_2 f3_3 f3_4 we3 se3 nd (by first | assumption | omega) (by first | assumption | omega) (by first | assumption | omega) (by first | omega | assumption | decide)) (cwV 1 hg (z_gV mm_540 mm_541 mm_542 mm_115 mm_543) rfl rfl rfl (by decide +kernel) ⟨Nat.le_of_ble_eq_true rfl, Nat.le_of_ble_eq_true rfl⟩) ⟨(zR.pre [.ref c3_, .int nd] hPc hK hN).1, va_recv hK hPc (ci := 3) (q0 := 0) rfl rfl, (zR.pre [.ref c3_, .int nd] hPc hK hN).2⟩ rfl rfl hl.1 rfl (lv_room (Nat.le_of_ble_eq_true rfl)) dX8_size_26 ⟨Nat.le_of_ble_eq_true rfl, Nat.le_of_ble_eq_true rfl⟩) (fun r25 hr25 => ?_)
            rcases hr25 with hr25 | hr25 | hr25
            · skip
              obtain ⟨rfl, h26⟩ := hr25
              have h26 : nd.toInt < 16 := h26
              exact W.iret (v := 1) hx hb hr (fun t ht hW => ⟨1, rfl, by first | exact Or.inl ⟨rfl, by omega⟩ | exact Or.inr (Or.inl ⟨rfl, by omega, by omega⟩) | exact Or.inr (Or.inr (Or.inl ⟨rfl, by omega, by omega⟩)) | exact Or.inr (Or.inr (Or.inr ⟨rfl, by omega, by omega⟩)), ht⟩) (fun q hq => by cases hq) dX8_size_29
            · skip
              obtain ⟨rfl, h27, h28⟩ := hr25
              have h27 : 16 ≤ nd.toInt := h27
              have h28 : nd.toInt < 32 := h28
              exact W.iret (v := 0) hx hb hr (fun t ht hW => ⟨0, rfl, by first | exact Or.inl ⟨rfl, by omega⟩ | exact Or.inr (Or.inl ⟨rfl, by omega, by omega⟩) | exact Or.inr (Or.inr (Or.inl ⟨rfl, by omega, by omega⟩)) | exact Or.inr (Or.inr (Or.inr ⟨rfl, by omega, by omega⟩)), ht⟩) (fun q hq => by cases hq) dX8_size_29
            · skip
              obtain ⟨rfl, h29⟩ := hr25
              have h29 : nd.toInt = 32 := h29
              exact W.iret (v := 16) hx hb hr (fun t ht hW => ⟨16, rfl, by first | exact Or.inl ⟨rfl, by omega⟩ | exact Or.inr (Or.inl ⟨rfl, by omega, by omega⟩) | exact Or.inr (Or.inr (Or.inl ⟨rfl, by omega, by omega⟩)) | exact Or.inr (Or.inr (Or.inr ⟨rfl, by omega, by omega⟩)), ht⟩) (fun q hq => by cases hq) dX8_size_29
        · skip
          exact absurd c8 (by decide)
      · skip
        obtain ⟨rfl, h30⟩ := hr5
        have h30 : ¬ ((0 : Int) ≤ nd.toInt ∧ nd.toInt ≤ (32 : Int)) := h30
        refine lv_if_ne (tgt := 19) hx hb dX8_size_14 (by decide) (fun c31 => ?_) (fun c31 => ?_)
        · skip
          exact absurd c31 (by decide)
        · skip
          refine lv_iconst (v := (-1)) hx hb dX8_size_17 (by decide) ?_
          exact W.iret (v := (-1)) hx hb hr (fun t ht hW => ⟨(-1), rfl, by first | exact Or.inl ⟨rfl, by omega⟩ | exact Or.inr (Or.inl ⟨rfl, by omega, by omega⟩) | exact Or.inr (Or.inr (Or.inl ⟨rfl, by omega, by omega⟩)) | exact Or.inr (Or.inr (Or.inr ⟨rfl, by omega, by omega⟩)), ht⟩) (fun q hq => by cases hq) dX8_size_18
  · skip
    obtain ⟨rfl, h32⟩ := hr1
    have h32 : ¬ (0 ≤ c0.toInt ∧ c0.toInt ≤ 3) := h32
    refine lv_if_eq (tgt := 17) hx hb dX8_size_4 (by decide) (fun c33 => ?_) (fun c33 => ?_)
    · skip
      refine lv_iconst (v := (-1)) hx hb dX8_size_17 (by decide) ?_
      exact W.iret (v := (-1)) hx hb hr (fun t ht hW => ⟨(-1), rfl, by first | exact Or.inl ⟨rfl, by omega⟩ | exact Or.inr (Or.inl ⟨rfl, by omega, by omega⟩) | exact Or.inr (Or.inr (Or.inl ⟨rfl, by omega, by omega⟩)) | exact Or.inr (Or.inr (Or.inr ⟨rfl, by omega, by omega⟩)), ht⟩) (fun q hq => by cases hq) dX8_size_18
    · skip
      exact absurd c33 (by decide)

set_option maxHeartbeats 4000000 in
set_option maxRecDepth 100000 in
theorem c_X8_book (l : Launch) (g : zG) (h0 : Nat) (aC : Value) (aW : Value) (aT : Nat) (aB : Value) (aL : Value) (aG : Value) (aM : Value) (aA : Value) (aU : Value) (aE : Value) (aD : Value) (aTb : Nat) (ft : Nat → Int32) (n : Int32) (l0 : Int32) (l1 : Int32) (l2 : Int32) (l3 : Int32) : Met l yX8_book (zW yX8_book cX8_book 9 (some .int)) ({ frames := 1, cells := 0, slots := 0, locals := 22 }) (va_Pc [.ref h0, .int n, .int l0, .int l1, .int l2, .int l3] (zR g [(h0, .inr (8, [aC, aW, .ref aT, aB, aL, aG, aM, aA, aU, aE, aD, .int 0, .int 0])), (aT, .inr (7, [.int 0, .ref aTb])), (aTb, .inl (g.2 0, 200, .inl ft))])) (vp_Si (fun r : Int32 => (r = (-1)))) 0 0 (fun _ => False) := by
  refine Met.ofW (cc := cX8_book) (maxL := 9) (ret := (some .int)) (by decide) rfl ?_
  intro p e s m args below meth c s₁ B hml hv
  obtain ⟨rfl, hP, hK, hN⟩ := hv
  have hx := B.exec
  have hb := B.bytes
  have hr := B.returns
  have hg := zW.law (atoms_spec (ws := (zW yX8_book cX8_book 9 (some .int))) B.pre)
  have hown : s.vm.findClass RX8 = some m.cls := findClass_of_methodNamed B.named
  have hlocks := B.notSynchronized
  have hl := lv_entry ([.ref h0, .int n, .int l0, .int l1, .int l2, .int l3]) (n := 9) (Nat.le_of_ble_eq_true rfl)
  rw [lg_entry_eq]
  generalize (lg_sl ([.ref h0, .int n, .int l0, .int l1, .int l2, .int l3]) ++ List.replicate (9 - (lg_sl ([.ref h0, .int n, .int l0, .int l1, .int l2, .int l3])).length) Slot.unset).toArray = ls at hl ⊢
  have hl : lv_has ls 9 [(0, .ref h0), (1, .int n), (2, .int l0), (3, .int l1), (4, .int l2), (5, .int l3)] := hl
  refine lv_iload_n hx hb dX8_book_0 rfl (lv_at hl 1 rfl) ?_
  refine lv_iconst (v := 1) hx hb dX8_book_1 (by decide) ?_
  refine lv_bipush (v := 8) hx hb dX8_book_2 (by decide) ?_
  have hPc := hP.sub (ws' := []) [] rfl
  refine zc_i (va_runS (As := [.int n, .int 1, .int 8]) (rest := []) ⟨hx, hb, hml, hown, hg⟩ (c_X8_within l g n (1 : Int32) (8 : Int32) ) (va_cwS 3 hg (z_gS mm_407 mm_408 mm_108 mm_409) rfl rfl rfl (by decide +kernel) ⟨Nat.le_of_ble_eq_true rfl, Nat.le_of_ble_eq_true rfl⟩) (zR.pre [.int n, .int 1, .int 8] hPc hK hN) rfl rfl hl.1 rfl (lv_room (Nat.le_of_ble_eq_true rfl)) dX8_book_4 ⟨Nat.le_of_ble_eq_true rfl, Nat.le_of_ble_eq_true rfl⟩) (fun r1 hr1 => ?_)
  rcases hr1 with hr1 | hr1
  · skip
    obtain ⟨rfl, h2, h3⟩ := hr1
    have h2 : (1 : Int) ≤ n.toInt := h2
    have h3 : n.toInt ≤ (8 : Int) := h3
    refine lv_if_eq (tgt := 29) hx hb dX8_book_7 (by decide) (fun c4 => ?_) (fun c4 => ?_)
    · skip
      exact absurd c4 (by decide)
    · skip
      refine lv_aload_n hx hb dX8_book_10 rfl (lv_at hl 0 rfl) ?_
      refine va_get (D := g.1) (ci := 8) (v := .int 0) (C := RX8) (T := TX8) (N := 13) hx hb hg inG8 hown hK hP 0 rfl rfl 12 (by decide) (hg _ mm_372) (fun _ h9 => h9) rfl dX8_book_11 ?_
      refine lv_iconst (v := 4) hx hb dX8_book_14 (by decide) ?_
      refine lv_icmp_ge (tgt := 29) hx hb dX8_book_15 (by decide) (fun c5 => ?_) (fun c5 => ?_)
      · skip
        exact absurd c5 (by decide)
      · skip
        refine lv_aload_n hx hb dX8_book_18 rfl (lv_at hl 0 rfl) ?_
        refine va_get (D := g.1) (ci := 8) (v := .ref aT) (C := RX8) (T := TX8) (N := 13) hx hb hg inG8 hown hK hP 0 rfl rfl 2 (by decide) (hg _ mm_362) (fun _ h9 => h9) rfl dX8_book_19 ?_
        refine va_get (D := g.1) (ci := 7) (v := .int 0) (C := RX7) (T := TX7) (N := 2) hx hb hg inG7 hown hK hP 1 rfl rfl 0 (by decide) (hg _ mm_137) (fun _ h9 => h9) rfl dX8_book_22 ?_
        refine lv_iload_n hx hb dX8_book_25 rfl (lv_at hl 1 rfl) ?_
        refine lv_icmp_ge (tgt := 31) hx hb dX8_book_26 (by decide) (fun c6 => ?_) (fun c6 => ?_)
        · skip
          have c6 : n.toInt ≤ 0 := (z_le rfl (by decide : (0 : Int32).toInt = 0)).mp c6
          exfalso
          omega
        · skip
          have c6 : ¬ (n.toInt ≤ 0) := fun q => c6 ((z_le rfl (by decide : (0 : Int32).toInt = 0)).mpr q)
          refine lv_iconst (v := (-1)) hx hb dX8_book_29 (by decide) ?_
          exact W.iret (v := (-1)) hx hb hr (fun t ht hW => ⟨(-1), rfl, rfl, ht⟩) (fun q hq => by cases hq) dX8_book_30
  · skip
    obtain ⟨rfl, h7⟩ := hr1
    have h7 : ¬ ((1 : Int) ≤ n.toInt ∧ n.toInt ≤ (8 : Int)) := h7
    refine lv_if_eq (tgt := 29) hx hb dX8_book_7 (by decide) (fun c8 => ?_) (fun c8 => ?_)
    · skip
      refine lv_iconst (v := (-1)) hx hb dX8_book_29 (by decide) ?_
      exact W.iret (v := (-1)) hx hb hr (fun t ht hW => ⟨(-1), rfl, rfl, ht⟩) (fun q hq => by cases hq) dX8_book_30
    · skip
      exact absurd c8 (by decide)

set_option maxHeartbeats 4000000 in
set_option maxRecDepth 100000 in
theorem c_X8_blurring (l : Launch) (g : zG) (h0 : Nat) (aC : Value) (aW : Value) (aT : Nat) (aB : Value) (aL : Value) (aG : Value) (aM : Value) (aA : Value) (aU : Value) (aE : Value) (aD : Value) (aTb : Nat) (ft : Nat → Int32) (n : Int32) (k : Int32) (pr : Int32) (wh : Int32) : Met l yX8_blurring (zW yX8_blurring cX8_blurring 6 (some .int)) ({ frames := 2, cells := 0, slots := 0, locals := 42 }) (va_Pc [.ref h0, .int n, .int k, .int pr, .int wh] (zR g [(h0, .inr (8, [aC, aW, .ref aT, aB, aL, aG, aM, aA, aU, aE, aD, .int 0, .int 0])), (aT, .inr (7, [.int 0, .ref aTb])), (aTb, .inl (g.2 0, 200, .inl ft))])) (vp_Si (fun r : Int32 => (r = (-3)))) 0 0 (fun _ => False) := by
  refine Met.ofW (cc := cX8_blurring) (maxL := 6) (ret := (some .int)) (by decide) rfl ?_
  intro p e s m args below meth c s₁ B hml hv
  obtain ⟨rfl, hP, hK, hN⟩ := hv
  have hx := B.exec
  have hb := B.bytes
  have hr := B.returns
  have hg := zW.law (atoms_spec (ws := (zW yX8_blurring cX8_blurring 6 (some .int))) B.pre)
  have hown : s.vm.findClass RX8 = some m.cls := findClass_of_methodNamed B.named
  have hlocks := B.notSynchronized
  have hl := lv_entry ([.ref h0, .int n, .int k, .int pr, .int wh]) (n := 6) (Nat.le_of_ble_eq_true rfl)
  rw [lg_entry_eq]
  generalize (lg_sl ([.ref h0, .int n, .int k, .int pr, .int wh]) ++ List.replicate (6 - (lg_sl ([.ref h0, .int n, .int k, .int pr, .int wh])).length) Slot.unset).toArray = ls at hl ⊢
  have hl : lv_has ls 6 [(0, .ref h0), (1, .int n), (2, .int k), (3, .int pr), (4, .int wh)] := hl
  refine lv_iload_n hx hb dX8_blurring_0 rfl (lv_at hl 1 rfl) ?_
  refine lv_iconst (v := 1) hx hb dX8_blurring_1 (by decide) ?_
  refine lv_bipush (v := 8) hx hb dX8_blurring_2 (by decide) ?_
  have hPc := hP.sub (ws' := []) [] rfl
  refine zc_i (va_runS (As := [.int n, .int 1, .int 8]) (rest := []) ⟨hx, hb, hml, hown, hg⟩ (c_X8_within l g n (1 : Int32) (8 : Int32) ) (va_cwS 3 hg (z_gS mm_407 mm_408 mm_108 mm_409) rfl rfl rfl (by decide +kernel) ⟨Nat.le_of_ble_eq_true rfl, Nat.le_of_ble_eq_true rfl⟩) (zR.pre [.int n, .int 1, .int 8] hPc hK hN) rfl rfl hl.1 rfl (lv_room (Nat.le_of_ble_eq_true rfl)) dX8_blurring_4 ⟨Nat.le_of_ble_eq_true rfl, Nat.le_of_ble_eq_true rfl⟩) (fun r1 hr1 => ?_)
  rcases hr1 with hr1 | hr1
  · skip
    obtain ⟨rfl, h2, h3⟩ := hr1
    have h2 : (1 : Int) ≤ n.toInt := h2
    have h3 : n.toInt ≤ (8 : Int) := h3
    refine lv_if_eq (tgt := 28) hx hb dX8_blurring_7 (by decide) (fun c4 => ?_) (fun c4 => ?_)
    · skip
      exact absurd c4 (by decide)
    · skip
      refine lv_iload_n hx hb dX8_blurring_10 rfl (lv_at hl 2 rfl) ?_
      have hPc := hP.sub (ws' := []) [] rfl
      refine zc_i (va_runS (As := [.int k]) (rest := []) ⟨hx, hb, hml, hown, hg⟩ (c_X8_isBar l g k ) (va_cwS 1 hg (z_gS mm_772 mm_773 mm_108 mm_774) rfl rfl rfl (by decide +kernel) ⟨Nat.le_of_ble_eq_true rfl, Nat.le_of_ble_eq_true rfl⟩) (zR.pre [.int k] hPc hK hN) rfl rfl hl.1 rfl (lv_room (Nat.le_of_ble_eq_true rfl)) dX8_blurring_11 ⟨Nat.le_of_ble_eq_true rfl, Nat.le_of_ble_eq_true rfl⟩) (fun r5 hr5 => ?_)
      rcases hr5 with hr5 | hr5
      · skip
        obtain ⟨rfl, h6, h7⟩ := hr5
        have h6 : 1 ≤ k.toInt := h6
        have h7 : k.toInt ≤ 16 := h7
        refine lv_if_eq (tgt := 28) hx hb dX8_blurring_14 (by decide) (fun c8 => ?_) (fun c8 => ?_)
        · skip
          exact absurd c8 (by decide)
        · skip
          refine lv_iload_n hx hb dX8_blurring_17 rfl (lv_at hl 3 rfl) ?_
          refine lv_iconst (v := 0) hx hb dX8_blurring_18 (by decide) ?_
          refine lv_sipush (v := 9999) hx hb dX8_blurring_19 (by decide) ?_
          have hPc := hP.sub (ws' := []) [] rfl
          refine zc_i (va_runS (As := [.int pr, .int 0, .int 9999]) (rest := []) ⟨hx, hb, hml, hown, hg⟩ (c_X8_within l g pr (0 : Int32) (9999 : Int32) ) (va_cwS 3 hg (z_gS mm_407 mm_408 mm_108 mm_409) rfl rfl rfl (by decide +kernel) ⟨Nat.le_of_ble_eq_true rfl, Nat.le_of_ble_eq_true rfl⟩) (zR.pre [.int pr, .int 0, .int 9999] hPc hK hN) rfl rfl hl.1 rfl (lv_room (Nat.le_of_ble_eq_true rfl)) dX8_blurring_22 ⟨Nat.le_of_ble_eq_true rfl, Nat.le_of_ble_eq_true rfl⟩) (fun r9 hr9 => ?_)
          rcases hr9 with hr9 | hr9
          · skip
            obtain ⟨rfl, h10, h11⟩ := hr9
            have h10 : (0 : Int) ≤ pr.toInt := h10
            have h11 : pr.toInt ≤ (9999 : Int) := h11
            refine lv_if_ne (tgt := 31) hx hb dX8_blurring_25 (by decide) (fun c12 => ?_) (fun c12 => ?_)
            · skip
              refine lv_iload hx hb dX8_blurring_31 (lv_at hl 4 rfl) ?_
              refine lv_iconst (v := (-1)) hx hb dX8_blurring_33 (by decide) ?_
              refine lv_iconst (v := 4) hx hb dX8_blurring_34 (by decide) ?_
              have hPc := hP.sub (ws' := []) [] rfl
              refine zc_i (va_runS (As := [.int wh, .int (-1), .int 4]) (rest := []) ⟨hx, hb, hml, hown, hg⟩ (c_X8_within l g wh (-1 : Int32) (4 : Int32) ) (va_cwS 3 hg (z_gS mm_407 mm_408 mm_108 mm_409) rfl rfl rfl (by decide +kernel) ⟨Nat.le_of_ble_eq_true rfl, Nat.le_of_ble_eq_true rfl⟩) (zR.pre [.int wh, .int (-1), .int 4] hPc hK hN) rfl rfl hl.1 rfl (lv_room (Nat.le_of_ble_eq_true rfl)) dX8_blurring_35 ⟨Nat.le_of_ble_eq_true rfl, Nat.le_of_ble_eq_true rfl⟩) (fun r13 hr13 => ?_)
              rcases hr13 with hr13 | hr13
              · skip
                obtain ⟨rfl, h14, h15⟩ := hr13
                have h14 : (-1 : Int) ≤ wh.toInt := h14
                have h15 : wh.toInt ≤ (4 : Int) := h15
                refine lv_if_eq (tgt := 52) hx hb dX8_blurring_38 (by decide) (fun c16 => ?_) (fun c16 => ?_)
                · skip
                  exact absurd c16 (by decide)
                · skip
                  refine lv_aload_n hx hb dX8_blurring_41 rfl (lv_at hl 0 rfl) ?_
                  refine va_get (D := g.1) (ci := 8) (v := .ref aT) (C := RX8) (T := TX8) (N := 13) hx hb hg inG8 hown hK hP 0 rfl rfl 2 (by decide) (hg _ mm_362) (fun _ h9 => h9) rfl dX8_blurring_42 ?_
                  refine va_get (D := g.1) (ci := 7) (v := .int 0) (C := RX7) (T := TX7) (N := 2) hx hb hg inG7 hown hK hP 1 rfl rfl 0 (by decide) (hg _ mm_137) (fun _ h9 => h9) rfl dX8_blurring_45 ?_
                  refine lv_iload_n hx hb dX8_blurring_48 rfl (lv_at hl 1 rfl) ?_
                  refine lv_icmp_ge (tgt := 55) hx hb dX8_blurring_49 (by decide) (fun c17 => ?_) (fun c17 => ?_)
                  · skip
                    have c17 : n.toInt ≤ 0 := (z_le rfl (by decide : (0 : Int32).toInt = 0)).mp c17
                    exfalso
                    omega
                  · skip
                    have c17 : ¬ (n.toInt ≤ 0) := fun q => c17 ((z_le rfl (by decide : (0 : Int32).toInt = 0)).mpr q)
                    refine lv_bipush (v := (-3)) hx hb dX8_blurring_52 (by decide) ?_
                    exact W.iret (v := (-3)) hx hb hr (fun t ht hW => ⟨(-3), rfl, rfl, ht⟩) (fun q hq => by cases hq) dX8_blurring_54
              · skip
                obtain ⟨rfl, h18⟩ := hr13
                have h18 : ¬ ((-1 : Int) ≤ wh.toInt ∧ wh.toInt ≤ (4 : Int)) := h18
                refine lv_if_eq (tgt := 52) hx hb dX8_blurring_38 (by decide) (fun c19 => ?_) (fun c19 => ?_)
                · skip
                  refine lv_bipush (v := (-3)) hx hb dX8_blurring_52 (by decide) ?_
                  exact W.iret (v := (-3)) hx hb hr (fun t ht hW => ⟨(-3), rfl, rfl, ht⟩) (fun q hq => by cases hq) dX8_blurring_54
                · skip
                  exact absurd c19 (by decide)
            · skip
              exact absurd c12 (by decide)
          · skip
            obtain ⟨rfl, h20⟩ := hr9
            have h20 : ¬ ((0 : Int) ≤ pr.toInt ∧ pr.toInt ≤ (9999 : Int)) := h20
            refine lv_if_ne (tgt := 31) hx hb dX8_blurring_25 (by decide) (fun c21 => ?_) (fun c21 => ?_)
            · skip
              exact absurd c21 (by decide)
            · skip
              refine lv_bipush (v := (-3)) hx hb dX8_blurring_28 (by decide) ?_
              exact W.iret (v := (-3)) hx hb hr (fun t ht hW => ⟨(-3), rfl, rfl, ht⟩) (fun q hq => by cases hq) dX8_blurring_30
      · skip
        obtain ⟨rfl, h22⟩ := hr5
        have h22 : ¬ (1 ≤ k.toInt ∧ k.toInt ≤ 16) := h22
        refine lv_if_eq (tgt := 28) hx hb dX8_blurring_14 (by decide) (fun c23 => ?_) (fun c23 => ?_)
        · skip
          refine lv_bipush (v := (-3)) hx hb dX8_blurring_28 (by decide) ?_
          exact W.iret (v := (-3)) hx hb hr (fun t ht hW => ⟨(-3), rfl, rfl, ht⟩) (fun q hq => by cases hq) dX8_blurring_30
        · skip
          exact absurd c23 (by decide)
  · skip
    obtain ⟨rfl, h24⟩ := hr1
    have h24 : ¬ ((1 : Int) ≤ n.toInt ∧ n.toInt ≤ (8 : Int)) := h24
    refine lv_if_eq (tgt := 28) hx hb dX8_blurring_7 (by decide) (fun c25 => ?_) (fun c25 => ?_)
    · skip
      refine lv_bipush (v := (-3)) hx hb dX8_blurring_28 (by decide) ?_
      exact W.iret (v := (-3)) hx hb hr (fun t ht hW => ⟨(-3), rfl, rfl, ht⟩) (fun q hq => by cases hq) dX8_blurring_30
    · skip
      exact absurd c25 (by decide)

set_option maxHeartbeats 4000000 in
set_option maxRecDepth 100000 in
theorem c_X8_toldGossips (l : Launch) (g : zG) (h0 : Nat) (aC : Value) (aW : Value) (aT : Value) (aB : Value) (aL : Value) (aG : Nat) (aM : Value) (aA : Value) (aU : Value) (aE : Value) (aD : Value) (g0_ : Nat) (g0v1 : Value) (g0v2 : Value) (g0v3 : Value) (g0v4 : Value) (g0v5 : Value) (g0v6 : Value) (g0v7 : Value) (g0v8 : Value) (g0v9 : Value) (g0v10 : Value) (g1_ : Nat) (g1v1 : Value) (g1v2 : Value) (g1v3 : Value) (g1v4 : Value) (g1v5 : Value) (g1v6 : Value) (g1v7 : Value) (g1v8 : Value) (g1v9 : Value) (g1v10 : Value) (g2_ : Nat) (g2v1 : Value) (g2v2 : Value) (g2v3 : Value) (g2v4 : Value) (g2v5 : Value) (g2v6 : Value) (g2v7 : Value) (g2v8 : Value) (g2v9 : Value) (g2v10 : Value) (g3_ : Nat) (g3v1 : Value) (g3v2 : Value) (g3v3 : Value) (g3v4 : Value) (g3v5 : Value) (g3v6 : Value) (g3v7 : Value) (g3v8 : Value) (g3v9 : Value) (g3v10 : Value) (g4_ : Nat) (g4v1 : Value) (g4v2 : Value) (g4v3 : Value) (g4v4 : Value) (g4v5 : Value) (g4v6 : Value) (g4v7 : Value) (g4v8 : Value) (g4v9 : Value) (g4v10 : Value) (g5_ : Nat) (g5v1 : Value) (g5v2 : Value) (g5v3 : Value) (g5v4 : Value) (g5v5 : Value) (g5v6 : Value) (g5v7 : Value) (g5v8 : Value) (g5v9 : Value) (g5v10 : Value) (g6_ : Nat) (g6v1 : Value) (g6v2 : Value) (g6v3 : Value) (g6v4 : Value) (g6v5 : Value) (g6v6 : Value) (g6v7 : Value) (g6v8 : Value) (g6v9 : Value) (g6v10 : Value) (g7_ : Nat) (g7v1 : Value) (g7v2 : Value) (g7v3 : Value) (g7v4 : Value) (g7v5 : Value) (g7v6 : Value) (g7v7 : Value) (g7v8 : Value) (g7v9 : Value) (g7v10 : Value) : Met l yX8_toldGossips (zW yX8_toldGossips cX8_toldGossips 3 (some .int)) ({ frames := 0, cells := 0, slots := 0, locals := 0 }) (va_Pc [.ref h0] (zR g [(h0, .inr (8, [aC, aW, aT, aB, aL, .ref aG, aM, aA, aU, aE, aD, .int 0, .int 0])), (aG, .inl (g.2 6, 8, .inr (.inr (.inr (.inr (zS [some g0_, some g1_, some g2_, some g3_, some g4_, some g5_, some g6_, some g7_])))))), (g0_, .inr (4, [.int 0, g0v1, g0v2, g0v3, g0v4, g0v5, g0v6, g0v7, g0v8, g0v9, g0v10])), (g1_, .inr (4, [.int 0, g1v1, g1v2, g1v3, g1v4, g1v5, g1v6, g1v7, g1v8, g1v9, g1v10])), (g2_, .inr (4, [.int 0, g2v1, g2v2, g2v3, g2v4, g2v5, g2v6, g2v7, g2v8, g2v9, g2v10])), (g3_, .inr (4, [.int 0, g3v1, g3v2, g3v3, g3v4, g3v5, g3v6, g3v7, g3v8, g3v9, g3v10])), (g4_, .inr (4, [.int 0, g4v1, g4v2, g4v3, g4v4, g4v5, g4v6, g4v7, g4v8, g4v9, g4v10])), (g5_, .inr (4, [.int 0, g5v1, g5v2, g5v3, g5v4, g5v5, g5v6, g5v7, g5v8, g5v9, g5v10])), (g6_, .inr (4, [.int 0, g6v1, g6v2, g6v3, g6v4, g6v5, g6v6, g6v7, g6v8, g6v9, g6v10])), (g7_, .inr (4, [.int 0, g7v1, g7v2, g7v3, g7v4, g7v5, g7v6, g7v7, g7v8, g7v9, g7v10]))])) (vp_Si (fun r : Int32 => (r = 0))) 0 0 (fun _ => False) := by
  refine Met.ofW (cc := cX8_toldGossips) (maxL := 3) (ret := (some .int)) (by decide) rfl ?_
  intro p e s m args below meth c s₁ B hml hv
  obtain ⟨rfl, hP, hK, hN⟩ := hv
  have hx := B.exec
  have hb := B.bytes
  have hr := B.returns
  have hg := zW.law (atoms_spec (ws := (zW yX8_toldGossips cX8_toldGossips 3 (some .int))) B.pre)
  have hown : s.vm.findClass RX8 = some m.cls := findClass_of_methodNamed B.named
  have hlocks := B.notSynchronized
  have hl := lv_entry ([.ref h0]) (n := 3) (Nat.le_of_ble_eq_true rfl)
  rw [lg_entry_eq]
  generalize (lg_sl ([.ref h0]) ++ List.replicate (3 - (lg_sl ([.ref h0])).length) Slot.unset).toArray = ls at hl ⊢
  have hl : lv_has ls 3 [(0, .ref h0)] := hl
  refine lv_iconst (v := 0) hx hb dX8_toldGossips_0 (by decide) ?_
  refine lv_istore_n (lv' := [(1, .int 0), (0, .ref h0)]) hx hb dX8_toldGossips_1 rfl hl (by decide) rfl (fun ls hl => ?_)
  refine lv_iconst (v := 0) hx hb dX8_toldGossips_2 (by decide) ?_
  refine lv_istore_n (lv' := [(2, .int 0), (1, .int 0), (0, .ref h0)]) hx hb dX8_toldGossips_3 rfl hl (by decide) rfl (fun ls hl => ?_)
  refine lv_iload_n hx hb dX8_toldGossips_4 rfl (lv_at hl 0 rfl) ?_
  refine lv_bipush (v := 8) hx hb dX8_toldGossips_5 (by decide) ?_
  refine lv_icmp_ge (tgt := 34) hx hb dX8_toldGossips_7 (by decide) (fun c1 => ?_) (fun c1 => ?_)
  · skip
    exact absurd c1 (by decide)
  · skip
    refine lv_aload_n hx hb dX8_toldGossips_10 rfl (lv_at hl 2 rfl) ?_
    refine va_get (D := g.1) (ci := 8) (v := .ref aG) (C := RX8) (T := TX8) (N := 13) hx hb hg inG8 hown hK hP 0 rfl rfl 5 (by decide) (hg _ mm_365) (fun _ h9 => h9) rfl dX8_toldGossips_11 ?_
    refine lv_iload_n hx hb dX8_toldGossips_14 rfl (lv_at hl 0 rfl) ?_
    refine va_aldq hx hb hK hP 1 6 rfl rfl (z_in (by decide : (0 : Int32).toInt = 0) (by omega) (by omega)) dX8_toldGossips_15 ?_
    refine W.eq (g2 := F0 m 16 ls [.ref g0_]) rfl ?_
    refine va_get (D := g.1) (ci := 4) (v := .int 0) (C := RX4) (T := TX4) (N := 11) hx hb hg inG4 hown hK hP 2 rfl rfl 0 (by decide) (hg _ mm_272) (fun _ h9 => h9) rfl dX8_toldGossips_16 ?_
    refine lv_if_eq (tgt := 28) hx hb dX8_toldGossips_19 (by decide) (fun c2 => ?_) (fun c2 => ?_)
    · skip
      refine lv_iinc (v := 1) (lv' := [(2, .int 1), (1, .int 0), (0, .ref h0)]) hx hb dX8_toldGossips_28 hl (k := 0) rfl (by decide) (by decide) rfl (fun ls hl => ?_)
      refine lv_goto (tgt := 4) hx hb dX8_toldGossips_31 (by decide) ?_
      refine lv_iload_n hx hb dX8_toldGossips_4 rfl (lv_at hl 0 rfl) ?_
      refine lv_bipush (v := 8) hx hb dX8_toldGossips_5 (by decide) ?_
      refine lv_icmp_ge (tgt := 34) hx hb dX8_toldGossips_7 (by decide) (fun c3 => ?_) (fun c3 => ?_)
      · skip
        exact absurd c3 (by decide)
      · skip
        refine lv_aload_n hx hb dX8_toldGossips_10 rfl (lv_at hl 2 rfl) ?_
        refine va_get (D := g.1) (ci := 8) (v := .ref aG) (C := RX8) (T := TX8) (N := 13) hx hb hg inG8 hown hK hP 0 rfl rfl 5 (by decide) (hg _ mm_365) (fun _ h9 => h9) rfl dX8_toldGossips_11 ?_
        refine lv_iload_n hx hb dX8_toldGossips_14 rfl (lv_at hl 0 rfl) ?_
        refine va_aldq hx hb hK hP 1 6 rfl rfl (z_in (by decide : (1 : Int32).toInt = 1) (by omega) (by omega)) dX8_toldGossips_15 ?_
        refine W.eq (g2 := F0 m 16 ls [.ref g1_]) rfl ?_
        refine va_get (D := g.1) (ci := 4) (v := .int 0) (C := RX4) (T := TX4) (N := 11) hx hb hg inG4 hown hK hP 3 rfl rfl 0 (by decide) (hg _ mm_272) (fun _ h9 => h9) rfl dX8_toldGossips_16 ?_
        refine lv_if_eq (tgt := 28) hx hb dX8_toldGossips_19 (by decide) (fun c4 => ?_) (fun c4 => ?_)
        · skip
          refine lv_iinc (v := 2) (lv' := [(2, .int 2), (1, .int 0), (0, .ref h0)]) hx hb dX8_toldGossips_28 hl (k := 0) rfl (by decide) (by decide) rfl (fun ls hl => ?_)
          refine lv_goto (tgt := 4) hx hb dX8_toldGossips_31 (by decide) ?_
          refine lv_iload_n hx hb dX8_toldGossips_4 rfl (lv_at hl 0 rfl) ?_
          refine lv_bipush (v := 8) hx hb dX8_toldGossips_5 (by decide) ?_
          refine lv_icmp_ge (tgt := 34) hx hb dX8_toldGossips_7 (by decide) (fun c5 => ?_) (fun c5 => ?_)
          · skip
            exact absurd c5 (by decide)
          · skip
            refine lv_aload_n hx hb dX8_toldGossips_10 rfl (lv_at hl 2 rfl) ?_
            refine va_get (D := g.1) (ci := 8) (v := .ref aG) (C := RX8) (T := TX8) (N := 13) hx hb hg inG8 hown hK hP 0 rfl rfl 5 (by decide) (hg _ mm_365) (fun _ h9 => h9) rfl dX8_toldGossips_11 ?_
            refine lv_iload_n hx hb dX8_toldGossips_14 rfl (lv_at hl 0 rfl) ?_
            refine va_aldq hx hb hK hP 1 6 rfl rfl (z_in (by decide : (2 : Int32).toInt = 2) (by omega) (by omega)) dX8_toldGossips_15 ?_
            refine W.eq (g2 := F0 m 16 ls [.ref g2_]) rfl ?_
            refine va_get (D := g.1) (ci := 4) (v := .int 0) (C := RX4) (T := TX4) (N := 11) hx hb hg inG4 hown hK hP 4 rfl rfl 0 (by decide) (hg _ mm_272) (fun _ h9 => h9) rfl dX8_toldGossips_16 ?_
            refine lv_if_eq (tgt := 28) hx hb dX8_toldGossips_19 (by decide) (fun c6 => ?_) (fun c6 => ?_)
            · skip
              refine lv_iinc (v := 3) (lv' := [(2, .int 3), (1, .int 0), (0, .ref h0)]) hx hb dX8_toldGossips_28 hl (k := 0) rfl (by decide) (by decide) rfl (fun ls hl => ?_)
              refine lv_goto (tgt := 4) hx hb dX8_toldGossips_31 (by decide) ?_
              refine lv_iload_n hx hb dX8_toldGossips_4 rfl (lv_at hl 0 rfl) ?_
              refine lv_bipush (v := 8) hx hb dX8_toldGossips_5 (by decide) ?_
              refine lv_icmp_ge (tgt := 34) hx hb dX8_toldGossips_7 (by decide) (fun c7 => ?_) (fun c7 => ?_)
              · skip
                exact absurd c7 (by decide)
              · skip
                refine lv_aload_n hx hb dX8_toldGossips_10 rfl (lv_at hl 2 rfl) ?_
                refine va_get (D := g.1) (ci := 8) (v := .ref aG) (C := RX8) (T := TX8) (N := 13) hx hb hg inG8 hown hK hP 0 rfl rfl 5 (by decide) (hg _ mm_365) (fun _ h9 => h9) rfl dX8_toldGossips_11 ?_
                refine lv_iload_n hx hb dX8_toldGossips_14 rfl (lv_at hl 0 rfl) ?_
                refine va_aldq hx hb hK hP 1 6 rfl rfl (z_in (by decide : (3 : Int32).toInt = 3) (by omega) (by omega)) dX8_toldGossips_15 ?_
                refine W.eq (g2 := F0 m 16 ls [.ref g3_]) rfl ?_
                refine va_get (D := g.1) (ci := 4) (v := .int 0) (C := RX4) (T := TX4) (N := 11) hx hb hg inG4 hown hK hP 5 rfl rfl 0 (by decide) (hg _ mm_272) (fun _ h9 => h9) rfl dX8_toldGossips_16 ?_
                refine lv_if_eq (tgt := 28) hx hb dX8_toldGossips_19 (by decide) (fun c8 => ?_) (fun c8 => ?_)
                · skip
                  refine lv_iinc (v := 4) (lv' := [(2, .int 4), (1, .int 0), (0, .ref h0)]) hx hb dX8_toldGossips_28 hl (k := 0) rfl (by decide) (by decide) rfl (fun ls hl => ?_)
                  refine lv_goto (tgt := 4) hx hb dX8_toldGossips_31 (by decide) ?_
                  refine lv_iload_n hx hb dX8_toldGossips_4 rfl (lv_at hl 0 rfl) ?_
                  refine lv_bipush (v := 8) hx hb dX8_toldGossips_5 (by decide) ?_
                  refine lv_icmp_ge (tgt := 34) hx hb dX8_toldGossips_7 (by decide) (fun c9 => ?_) (fun c9 => ?_)
                  · skip
                    exact absurd c9 (by decide)
                  · skip
                    refine lv_aload_n hx hb dX8_toldGossips_10 rfl (lv_at hl 2 rfl) ?_
                    refine va_get (D := g.1) (ci := 8) (v := .ref aG) (C := RX8) (T := TX8) (N := 13) hx hb hg inG8 hown hK hP 0 rfl rfl 5 (by decide) (hg _ mm_365) (fun _ h9 => h9) rfl dX8_toldGossips_11 ?_
                    refine lv_iload_n hx hb dX8_toldGossips_14 rfl (lv_at hl 0 rfl) ?_
                    refine va_aldq hx hb hK hP 1 6 rfl rfl (z_in (by decide : (4 : Int32).toInt = 4) (by omega) (by omega)) dX8_toldGossips_15 ?_
                    refine W.eq (g2 := F0 m 16 ls [.ref g4_]) rfl ?_
                    refine va_get (D := g.1) (ci := 4) (v := .int 0) (C := RX4) (T := TX4) (N := 11) hx hb hg inG4 hown hK hP 6 rfl rfl 0 (by decide) (hg _ mm_272) (fun _ h9 => h9) rfl dX8_toldGossips_16 ?_
                    refine lv_if_eq (tgt := 28) hx hb dX8_toldGossips_19 (by decide) (fun c10 => ?_) (fun c10 => ?_)
                    · skip
                      refine lv_iinc (v := 5) (lv' := [(2, .int 5), (1, .int 0), (0, .ref h0)]) hx hb dX8_toldGossips_28 hl (k := 0) rfl (by decide) (by decide) rfl (fun ls hl => ?_)
                      refine lv_goto (tgt := 4) hx hb dX8_toldGossips_31 (by decide) ?_
                      refine lv_iload_n hx hb dX8_toldGossips_4 rfl (lv_at hl 0 rfl) ?_
                      refine lv_bipush (v := 8) hx hb dX8_toldGossips_5 (by decide) ?_
                      refine lv_icmp_ge (tgt := 34) hx hb dX8_toldGossips_7 (by decide) (fun c11 => ?_) (fun c11 => ?_)
                      · skip
                        exact absurd c11 (by decide)
                      · skip
                        refine lv_aload_n hx hb dX8_toldGossips_10 rfl (lv_at hl 2 rfl) ?_
                        refine va_get (D := g.1) (ci := 8) (v := .ref aG) (C := RX8) (T := TX8) (N := 13) hx hb hg inG8 hown hK hP 0 rfl rfl 5 (by decide) (hg _ mm_365) (fun _ h9 => h9) rfl dX8_toldGossips_11 ?_
                        refine lv_iload_n hx hb dX8_toldGossips_14 rfl (lv_at hl 0 rfl) ?_
                        refine va_aldq hx hb hK hP 1 6 rfl rfl (z_in (by decide : (5 : Int32).toInt = 5) (by omega) (by omega)) dX8_toldGossips_15 ?_
                        refine W.eq (g2 := F0 m 16 ls [.ref g5_]) rfl ?_
                        refine va_get (D := g.1) (ci := 4) (v := .int 0) (C := RX4) (T := TX4) (N := 11) hx hb hg inG4 hown hK hP 7 rfl rfl 0 (by decide) (hg _ mm_272) (fun _ h9 => h9) rfl dX8_toldGossips_16 ?_
                        refine lv_if_eq (tgt := 28) hx hb dX8_toldGossips_19 (by decide) (fun c12 => ?_) (fun c12 => ?_)
                        · skip
                          refine lv_iinc (v := 6) (lv' := [(2, .int 6), (1, .int 0), (0, .ref h0)]) hx hb dX8_toldGossips_28 hl (k := 0) rfl (by decide) (by decide) rfl (fun ls hl => ?_)
                          refine lv_goto (tgt := 4) hx hb dX8_toldGossips_31 (by decide) ?_
                          refine lv_iload_n hx hb dX8_toldGossips_4 rfl (lv_at hl 0 rfl) ?_
                          refine lv_bipush (v := 8) hx hb dX8_toldGossips_5 (by decide) ?_
                          refine lv_icmp_ge (tgt := 34) hx hb dX8_toldGossips_7 (by decide) (fun c13 => ?_) (fun c13 => ?_)
                          · skip
                            exact absurd c13 (by decide)
                          · skip
                            refine lv_aload_n hx hb dX8_toldGossips_10 rfl (lv_at hl 2 rfl) ?_
                            refine va_get (D := g.1) (ci := 8) (v := .ref aG) (C := RX8) (T := TX8) (N := 13) hx hb hg inG8 hown hK hP 0 rfl rfl 5 (by decide) (hg _ mm_365) (fun _ h9 => h9) rfl dX8_toldGossips_11 ?_
                            refine lv_iload_n hx hb dX8_toldGossips_14 rfl (lv_at hl 0 rfl) ?_
                            refine va_aldq hx hb hK hP 1 6 rfl rfl (z_in (by decide : (6 : Int32).toInt = 6) (by omega) (by omega)) dX8_toldGossips_15 ?_
                            refine W.eq (g2 := F0 m 16 ls [.ref g6_]) rfl ?_
                            refine va_get (D := g.1) (ci := 4) (v := .int 0) (C := RX4) (T := TX4) (N := 11) hx hb hg inG4 hown hK hP 8 rfl rfl 0 (by decide) (hg _ mm_272) (fun _ h9 => h9) rfl dX8_toldGossips_16 ?_
                            refine lv_if_eq (tgt := 28) hx hb dX8_toldGossips_19 (by decide) (fun c14 => ?_) (fun c14 => ?_)
                            · skip
                              refine lv_iinc (v := 7) (lv' := [(2, .int 7), (1, .int 0), (0, .ref h0)]) hx hb dX8_toldGossips_28 hl (k := 0) rfl (by decide) (by decide) rfl (fun ls hl => ?_)
                              refine lv_goto (tgt := 4) hx hb dX8_toldGossips_31 (by decide) ?_
                              refine lv_iload_n hx hb dX8_toldGossips_4 rfl (lv_at hl 0 rfl) ?_
                              refine lv_bipush (v := 8) hx hb dX8_toldGossips_5 (by decide) ?_
                              refine lv_icmp_ge (tgt := 34) hx hb dX8_toldGossips_7 (by decide) (fun c15 => ?_) (fun c15 => ?_)
                              · skip
                                exact absurd c15 (by decide)
                              · skip
                                refine lv_aload_n hx hb dX8_toldGossips_10 rfl (lv_at hl 2 rfl) ?_
                                refine va_get (D := g.1) (ci := 8) (v := .ref aG) (C := RX8) (T := TX8) (N := 13) hx hb hg inG8 hown hK hP 0 rfl rfl 5 (by decide) (hg _ mm_365) (fun _ h9 => h9) rfl dX8_toldGossips_11 ?_
                                refine lv_iload_n hx hb dX8_toldGossips_14 rfl (lv_at hl 0 rfl) ?_
                                refine va_aldq hx hb hK hP 1 6 rfl rfl (z_in (by decide : (7 : Int32).toInt = 7) (by omega) (by omega)) dX8_toldGossips_15 ?_
                                refine W.eq (g2 := F0 m 16 ls [.ref g7_]) rfl ?_
                                refine va_get (D := g.1) (ci := 4) (v := .int 0) (C := RX4) (T := TX4) (N := 11) hx hb hg inG4 hown hK hP 9 rfl rfl 0 (by decide) (hg _ mm_272) (fun _ h9 => h9) rfl dX8_toldGossips_16 ?_
                                refine lv_if_eq (tgt := 28) hx hb dX8_toldGossips_19 (by decide) (fun c16 => ?_) (fun c16 => ?_)
                                · skip
                                  refine lv_iinc (v := 8) (lv' := [(2, .int 8), (1, .int 0), (0, .ref h0)]) hx hb dX8_toldGossips_28 hl (k := 0) rfl (by decide) (by decide) rfl (fun ls hl => ?_)
                                  refine lv_goto (tgt := 4) hx hb dX8_toldGossips_31 (by decide) ?_
                                  refine lv_iload_n hx hb dX8_toldGossips_4 rfl (lv_at hl 0 rfl) ?_
                                  refine lv_bipush (v := 8) hx hb dX8_toldGossips_5 (by decide) ?_
                                  refine lv_icmp_ge (tgt := 34) hx hb dX8_toldGossips_7 (by decide) (fun c17 => ?_) (fun c17 => ?_)
                                  · skip
                                    refine lv_iload_n hx hb dX8_toldGossips_34 rfl (lv_at hl 1 rfl) ?_
                                    exact W.iret (v := 0) hx hb hr (fun t ht hW => ⟨0, rfl, rfl, ht⟩) (fun q hq => by cases hq) dX8_toldGossips_35
                                  · skip
                                    exact absurd c17 (by decide)
                                · skip
                                  exact absurd c16 (by decide)
                            · skip
                              exact absurd c14 (by decide)
                        · skip
                          exact absurd c12 (by decide)
                    · skip
                      exact absurd c10 (by decide)
                · skip
                  exact absurd c8 (by decide)
            · skip
              exact absurd c6 (by decide)
        · skip
          exact absurd c4 (by decide)
    · skip
      exact absurd c2 (by decide)

set_option maxHeartbeats 4000000 in
set_option maxRecDepth 100000 in
theorem c_X8_count (l : Launch) (g : zG) (h0 : Nat) (aC : Nat) (aW : Value) (aT : Nat) (aB : Value) (aL : Nat) (aG : Nat) (aM : Value) (aA : Value) (aU : Value) (aE : Value) (aD : Value) (c0_ : Nat) (c0_1 : Nat) (c0_2 : Nat) (c0_3 : Nat) (c0_4 : Nat) (f0_1 : Nat → Int32) (f0_2 : Nat → Int32) (f0_3 : Nat → Int32) (f0_4 : Nat → Int32) (we0 : Int32) (se0 : Int32) (c1_ : Nat) (c1_1 : Nat) (c1_2 : Nat) (c1_3 : Nat) (c1_4 : Nat) (f1_1 : Nat → Int32) (f1_2 : Nat → Int32) (f1_3 : Nat → Int32) (f1_4 : Nat → Int32) (we1 : Int32) (se1 : Int32) (c2_ : Nat) (c2_1 : Nat) (c2_2 : Nat) (c2_3 : Nat) (c2_4 : Nat) (f2_1 : Nat → Int32) (f2_2 : Nat → Int32) (f2_3 : Nat → Int32) (f2_4 : Nat → Int32) (we2 : Int32) (se2 : Int32) (c3_ : Nat) (c3_1 : Nat) (c3_2 : Nat) (c3_3 : Nat) (c3_4 : Nat) (f3_1 : Nat → Int32) (f3_2 : Nat → Int32) (f3_3 : Nat → Int32) (f3_4 : Nat → Int32) (we3 : Int32) (se3 : Int32) (aTb : Nat) (ft : Nat → Int32) (l1 : Value) (l2 : Value) (g0_ : Nat) (g0v1 : Value) (g0v2 : Value) (g0v3 : Value) (g0v4 : Value) (g0v5 : Value) (g0v6 : Value) (g0v7 : Value) (g0v8 : Value) (g0v9 : Value) (g0v10 : Value) (g1_ : Nat) (g1v1 : Value) (g1v2 : Value) (g1v3 : Value) (g1v4 : Value) (g1v5 : Value) (g1v6 : Value) (g1v7 : Value) (g1v8 : Value) (g1v9 : Value) (g1v10 : Value) (g2_ : Nat) (g2v1 : Value) (g2v2 : Value) (g2v3 : Value) (g2v4 : Value) (g2v5 : Value) (g2v6 : Value) (g2v7 : Value) (g2v8 : Value) (g2v9 : Value) (g2v10 : Value) (g3_ : Nat) (g3v1 : Value) (g3v2 : Value) (g3v3 : Value) (g3v4 : Value) (g3v5 : Value) (g3v6 : Value) (g3v7 : Value) (g3v8 : Value) (g3v9 : Value) (g3v10 : Value) (g4_ : Nat) (g4v1 : Value) (g4v2 : Value) (g4v3 : Value) (g4v4 : Value) (g4v5 : Value) (g4v6 : Value) (g4v7 : Value) (g4v8 : Value) (g4v9 : Value) (g4v10 : Value) (g5_ : Nat) (g5v1 : Value) (g5v2 : Value) (g5v3 : Value) (g5v4 : Value) (g5v5 : Value) (g5v6 : Value) (g5v7 : Value) (g5v8 : Value) (g5v9 : Value) (g5v10 : Value) (g6_ : Nat) (g6v1 : Value) (g6v2 : Value) (g6v3 : Value) (g6v4 : Value) (g6v5 : Value) (g6v6 : Value) (g6v7 : Value) (g6v8 : Value) (g6v9 : Value) (g6v10 : Value) (g7_ : Nat) (g7v1 : Value) (g7v2 : Value) (g7v3 : Value) (g7v4 : Value) (g7v5 : Value) (g7v6 : Value) (g7v7 : Value) (g7v8 : Value) (g7v9 : Value) (g7v10 : Value) (wh : Int32) (hwe0 : we0 = 1) (hwe1 : we1 = 1) (hwe2 : we2 = 1) (hwe3 : we3 = 1) : Met l yX8_count (zW yX8_count cX8_count 2 (some .int)) ({ frames := 1, cells := 0, slots := 0, locals := 22 }) (va_Pc [.ref h0, .int wh] (zR g [(h0, .inr (8, [.ref aC, aW, .ref aT, aB, .ref aL, .ref aG, aM, aA, aU, aE, aD, .int 0, .int 0])), (aC, .inl (g.2 4, 4, .inr (.inr (.inr (.inr (zS [some c0_, some c1_, some c2_, some c3_])))))), (c0_, .inr (3, [.int we0, .ref c0_1, .ref c0_2, .ref c0_3, .ref c0_4, .int se0])), (c0_1, .inl (g.2 0, 32, .inl f0_1)), (c0_2, .inl (g.2 0, 33, .inl f0_2)), (c0_3, .inl (g.2 0, 33, .inl f0_3)), (c0_4, .inl (g.2 0, 16, .inl f0_4)), (c1_, .inr (3, [.int we1, .ref c1_1, .ref c1_2, .ref c1_3, .ref c1_4, .int se1])), (c1_1, .inl (g.2 0, 32, .inl f1_1)), (c1_2, .inl (g.2 0, 33, .inl f1_2)), (c1_3, .inl (g.2 0, 33, .inl f1_3)), (c1_4, .inl (g.2 0, 16, .inl f1_4)), (c2_, .inr (3, [.int we2, .ref c2_1, .ref c2_2, .ref c2_3, .ref c2_4, .int se2])), (c2_1, .inl (g.2 0, 32, .inl f2_1)), (c2_2, .inl (g.2 0, 33, .inl f2_2)), (c2_3, .inl (g.2 0, 33, .inl f2_3)), (c2_4, .inl (g.2 0, 16, .inl f2_4)), (c3_, .inr (3, [.int we3, .ref c3_1, .ref c3_2, .ref c3_3, .ref c3_4, .int se3])), (c3_1, .inl (g.2 0, 32, .inl f3_1)), (c3_2, .inl (g.2 0, 33, .inl f3_2)), (c3_3, .inl (g.2 0, 33, .inl f3_3)), (c3_4, .inl (g.2 0, 16, .inl f3_4)), (aT, .inr (7, [.int 0, .ref aTb])), (aTb, .inl (g.2 0, 200, .inl ft)), (aL, .inr (5, [.int 0, l1, l2])), (aG, .inl (g.2 6, 8, .inr (.inr (.inr (.inr (zS [some g0_, some g1_, some g2_, some g3_, some g4_, some g5_, some g6_, some g7_])))))), (g0_, .inr (4, [.int 0, g0v1, g0v2, g0v3, g0v4, g0v5, g0v6, g0v7, g0v8, g0v9, g0v10])), (g1_, .inr (4, [.int 0, g1v1, g1v2, g1v3, g1v4, g1v5, g1v6, g1v7, g1v8, g1v9, g1v10])), (g2_, .inr (4, [.int 0, g2v1, g2v2, g2v3, g2v4, g2v5, g2v6, g2v7, g2v8, g2v9, g2v10])), (g3_, .inr (4, [.int 0, g3v1, g3v2, g3v3, g3v4, g3v5, g3v6, g3v7, g3v8, g3v9, g3v10])), (g4_, .inr (4, [.int 0, g4v1, g4v2, g4v3, g4v4, g4v5, g4v6, g4v7, g4v8, g4v9, g4v10])), (g5_, .inr (4, [.int 0, g5v1, g5v2, g5v3, g5v4, g5v5, g5v6, g5v7, g5v8, g5v9, g5v10])), (g6_, .inr (4, [.int 0, g6v1, g6v2, g6v3, g6v4, g6v5, g6v6, g6v7, g6v8, g6v9, g6v10])), (g7_, .inr (4, [.int 0, g7v1, g7v2, g7v3, g7v4, g7v5, g7v6, g7v7, g7v8, g7v9, g7v10]))])) (vp_Si (fun r : Int32 => (r = 0 ∧ ((0 ≤ wh.toInt ∧ wh.toInt ≤ 5))) ∨ (r = 1 ∧ ((20 ≤ wh.toInt ∧ wh.toInt ≤ 23))) ∨ (r = (-1) ∧ (¬ (0 ≤ wh.toInt ∧ wh.toInt ≤ 5)) ∧ (¬ (20 ≤ wh.toInt ∧ wh.toInt ≤ 23))))) 0 0 (fun _ => False) := by
  refine Met.ofW (cc := cX8_count) (maxL := 2) (ret := (some .int)) (by decide) rfl ?_
  intro p e s m args below meth c s₁ B hml hv
  obtain ⟨rfl, hP, hK, hN⟩ := hv
  have hx := B.exec
  have hb := B.bytes
  have hr := B.returns
  have hg := zW.law (atoms_spec (ws := (zW yX8_count cX8_count 2 (some .int))) B.pre)
  have hown : s.vm.findClass RX8 = some m.cls := findClass_of_methodNamed B.named
  have hlocks := B.notSynchronized
  have hl := lv_entry ([.ref h0, .int wh]) (n := 2) (Nat.le_of_ble_eq_true rfl)
  rw [lg_entry_eq]
  generalize (lg_sl ([.ref h0, .int wh]) ++ List.replicate (2 - (lg_sl ([.ref h0, .int wh])).length) Slot.unset).toArray = ls at hl ⊢
  have hl : lv_has ls 2 [(0, .ref h0), (1, .int wh)] := hl
  refine lv_iload_n hx hb dX8_count_0 rfl (lv_at hl 1 rfl) ?_
  rcases z_w6 wh with hw | hw | hw | hw | hw | hw | hw
  · skip
    have qw : wh.toInt = 0 := by rw [hw]; rfl
    refine lv_tableIn (tgt := 40) (off := 39) hx hb dX8_count_1 (by omega) (by omega) (by rw [qw]; rfl) (by decide) ?_
    refine lv_aload_n hx hb dX8_count_40 rfl (lv_at hl 0 rfl) ?_
    refine va_get (D := g.1) (ci := 8) (v := .int 0) (C := RX8) (T := TX8) (N := 13) hx hb hg inG8 hown hK hP 0 rfl rfl 11 (by decide) (hg _ mm_371) (fun _ h9 => h9) rfl dX8_count_41 ?_
    exact W.iret (v := 0) hx hb hr (fun t ht hW => ⟨0, rfl, by first | exact Or.inl ⟨rfl, by omega⟩ | exact Or.inr (Or.inl ⟨rfl, by omega⟩) | exact Or.inr (Or.inl ⟨by assumption, by omega⟩) | exact Or.inr (Or.inr ⟨rfl, by omega, by omega⟩), ht⟩) (fun q hq => by cases hq) dX8_count_44
  · skip
    have qw : wh.toInt = 1 := by rw [hw]; rfl
    refine lv_tableIn (tgt := 45) (off := 44) hx hb dX8_count_1 (by omega) (by omega) (by rw [qw]; rfl) (by decide) ?_
    refine lv_aload_n hx hb dX8_count_45 rfl (lv_at hl 0 rfl) ?_
    refine va_get (D := g.1) (ci := 8) (v := .int 0) (C := RX8) (T := TX8) (N := 13) hx hb hg inG8 hown hK hP 0 rfl rfl 12 (by decide) (hg _ mm_372) (fun _ h9 => h9) rfl dX8_count_46 ?_
    exact W.iret (v := 0) hx hb hr (fun t ht hW => ⟨0, rfl, by first | exact Or.inl ⟨rfl, by omega⟩ | exact Or.inr (Or.inl ⟨rfl, by omega⟩) | exact Or.inr (Or.inl ⟨by assumption, by omega⟩) | exact Or.inr (Or.inr ⟨rfl, by omega, by omega⟩), ht⟩) (fun q hq => by cases hq) dX8_count_49
  · skip
    have qw : wh.toInt = 2 := by rw [hw]; rfl
    refine lv_tableIn (tgt := 50) (off := 49) hx hb dX8_count_1 (by omega) (by omega) (by rw [qw]; rfl) (by decide) ?_
    refine lv_aload_n hx hb dX8_count_50 rfl (lv_at hl 0 rfl) ?_
    refine va_get (D := g.1) (ci := 8) (v := .ref aL) (C := RX8) (T := TX8) (N := 13) hx hb hg inG8 hown hK hP 0 rfl rfl 4 (by decide) (hg _ mm_364) (fun _ h9 => h9) rfl dX8_count_51 ?_
    refine va_get (D := g.1) (ci := 5) (v := .int 0) (C := RX5) (T := TX5) (N := 3) hx hb hg inG5 hown hK hP 24 rfl rfl 0 (by decide) (hg _ mm_154) (fun _ h9 => h9) rfl dX8_count_54 ?_
    exact W.iret (v := 0) hx hb hr (fun t ht hW => ⟨0, rfl, by first | exact Or.inl ⟨rfl, by omega⟩ | exact Or.inr (Or.inl ⟨rfl, by omega⟩) | exact Or.inr (Or.inl ⟨by assumption, by omega⟩) | exact Or.inr (Or.inr ⟨rfl, by omega, by omega⟩), ht⟩) (fun q hq => by cases hq) dX8_count_57
  · skip
    have qw : wh.toInt = 3 := by rw [hw]; rfl
    refine lv_tableIn (tgt := 58) (off := 57) hx hb dX8_count_1 (by omega) (by omega) (by rw [qw]; rfl) (by decide) ?_
    refine lv_aload_n hx hb dX8_count_58 rfl (lv_at hl 0 rfl) ?_
    have hPc := hP.sub (ws' := [(h0, .inr (8, [.ref aC, aW, .ref aT, aB, .ref aL, .ref aG, aM, aA, aU, aE, aD, .int 0, .int 0])), (aG, .inl (g.2 6, 8, .inr (.inr (.inr (.inr (zS [some g0_, some g1_, some g2_, some g3_, some g4_, some g5_, some g6_, some g7_])))))), (g0_, .inr (4, [.int 0, g0v1, g0v2, g0v3, g0v4, g0v5, g0v6, g0v7, g0v8, g0v9, g0v10])), (g1_, .inr (4, [.int 0, g1v1, g1v2, g1v3, g1v4, g1v5, g1v6, g1v7, g1v8, g1v9, g1v10])), (g2_, .inr (4, [.int 0, g2v1, g2v2, g2v3, g2v4, g2v5, g2v6, g2v7, g2v8, g2v9, g2v10])), (g3_, .inr (4, [.int 0, g3v1, g3v2, g3v3, g3v4, g3v5, g3v6, g3v7, g3v8, g3v9, g3v10])), (g4_, .inr (4, [.int 0, g4v1, g4v2, g4v3, g4v4, g4v5, g4v6, g4v7, g4v8, g4v9, g4v10])), (g5_, .inr (4, [.int 0, g5v1, g5v2, g5v3, g5v4, g5v5, g5v6, g5v7, g5v8, g5v9, g5v10])), (g6_, .inr (4, [.int 0, g6v1, g6v2, g6v3, g6v4, g6v5, g6v6, g6v7, g6v8, g6v9, g6v10])), (g7_, .inr (4, [.int 0, g7v1, g7v2, g7v3, g7v4, g7v5, g7v6, g7v7, g7v8, g7v9, g7v10]))]) [0, 25, 26, 27, 28, 29, 30, 31, 32, 33] rfl
    refine zc_i (va_runV (As := []) (rest := []) ⟨hx, hb, hml, hown, hg⟩ (c_X8_toldGossips l g h0 (.ref aC : Value) (aW : Value) (.ref aT : Value) (aB : Value) (.ref aL : Value) aG (aM : Value) (aA : Value) (aU : Value) (aE : Value) (aD : Value) g0_ (g0v1 : Value) (g0v2 : Value) (g0v3 : Value) (g0v4 : Value) (g0v5 : Value) (g0v6 : Value) (g0v7 : Value) (g0v8 : Value) (g0v9 : Value) (g0v10 : Value) g1_ (g1v1 : Value) (g1v2 : Value) (g1v3 : Value) (g1v4 : Value) (g1v5 : Value) (g1v6 : Value) (g1v7 : Value) (g1v8 : Value) (g1v9 : Value) (g1v10 : Value) g2_ (g2v1 : Value) (g2v2 : Value) (g2v3 : Value) (g2v4 : Value) (g2v5 : Value) (g2v6 : Value) (g2v7 : Value) (g2v8 : Value) (g2v9 : Value) (g2v10 : Value) g3_ (g3v1 : Value) (g3v2 : Value) (g3v3 : Value) (g3v4 : Value) (g3v5 : Value) (g3v6 : Value) (g3v7 : Value) (g3v8 : Value) (g3v9 : Value) (g3v10 : Value) g4_ (g4v1 : Value) (g4v2 : Value) (g4v3 : Value) (g4v4 : Value) (g4v5 : Value) (g4v6 : Value) (g4v7 : Value) (g4v8 : Value) (g4v9 : Value) (g4v10 : Value) g5_ (g5v1 : Value) (g5v2 : Value) (g5v3 : Value) (g5v4 : Value) (g5v5 : Value) (g5v6 : Value) (g5v7 : Value) (g5v8 : Value) (g5v9 : Value) (g5v10 : Value) g6_ (g6v1 : Value) (g6v2 : Value) (g6v3 : Value) (g6v4 : Value) (g6v5 : Value) (g6v6 : Value) (g6v7 : Value) (g6v8 : Value) (g6v9 : Value) (g6v10 : Value) g7_ (g7v1 : Value) (g7v2 : Value) (g7v3 : Value) (g7v4 : Value) (g7v5 : Value) (g7v6 : Value) (g7v7 : Value) (g7v8 : Value) (g7v9 : Value) (g7v10 : Value) ) (cwV 0 hg (z_gV mm_947 mm_949 mm_50 mm_108 mm_950) rfl rfl rfl (by decide +kernel) ⟨Nat.le_of_ble_eq_true rfl, Nat.le_of_ble_eq_true rfl⟩) ⟨(zR.pre [.ref h0] hPc hK hN).1, va_recv hK hPc (ci := 8) (q0 := 0) rfl rfl, (zR.pre [.ref h0] hPc hK hN).2⟩ rfl rfl hl.1 rfl (lv_room (Nat.le_of_ble_eq_true rfl)) dX8_count_59 ⟨Nat.le_of_ble_eq_true rfl, Nat.le_of_ble_eq_true rfl⟩) (fun r1 hr1 => ?_)
    obtain rfl := hr1
    exact W.iret (v := 0) hx hb hr (fun t ht hW => ⟨0, rfl, by first | exact Or.inl ⟨rfl, by omega⟩ | exact Or.inr (Or.inl ⟨rfl, by omega⟩) | exact Or.inr (Or.inl ⟨by assumption, by omega⟩) | exact Or.inr (Or.inr ⟨rfl, by omega, by omega⟩), ht⟩) (fun q hq => by cases hq) dX8_count_62
  · skip
    have qw : wh.toInt = 4 := by rw [hw]; rfl
    refine lv_tableIn (tgt := 63) (off := 62) hx hb dX8_count_1 (by omega) (by omega) (by rw [qw]; rfl) (by decide) ?_
    refine lv_aload_n hx hb dX8_count_63 rfl (lv_at hl 0 rfl) ?_
    refine va_get (D := g.1) (ci := 8) (v := .ref aT) (C := RX8) (T := TX8) (N := 13) hx hb hg inG8 hown hK hP 0 rfl rfl 2 (by decide) (hg _ mm_362) (fun _ h9 => h9) rfl dX8_count_64 ?_
    refine va_get (D := g.1) (ci := 7) (v := .int 0) (C := RX7) (T := TX7) (N := 2) hx hb hg inG7 hown hK hP 22 rfl rfl 0 (by decide) (hg _ mm_137) (fun _ h9 => h9) rfl dX8_count_67 ?_
    exact W.iret (v := 0) hx hb hr (fun t ht hW => ⟨0, rfl, by first | exact Or.inl ⟨rfl, by omega⟩ | exact Or.inr (Or.inl ⟨rfl, by omega⟩) | exact Or.inr (Or.inl ⟨by assumption, by omega⟩) | exact Or.inr (Or.inr ⟨rfl, by omega, by omega⟩), ht⟩) (fun q hq => by cases hq) dX8_count_70
  · skip
    have qw : wh.toInt = 5 := by rw [hw]; rfl
    refine lv_tableIn (tgt := 71) (off := 70) hx hb dX8_count_1 (by omega) (by omega) (by rw [qw]; rfl) (by decide) ?_
    refine lv_aload_n hx hb dX8_count_71 rfl (lv_at hl 0 rfl) ?_
    have hPc := hP.sub (ws' := [(h0, .inr (8, [.ref aC, aW, .ref aT, aB, .ref aL, .ref aG, aM, aA, aU, aE, aD, .int 0, .int 0]))]) [0] rfl
    refine zc_i (va_runV (As := []) (rest := []) ⟨hx, hb, hml, hown, hg⟩ (c_X8_shownBooks l g h0 (.ref aC : Value) (aW : Value) (.ref aT : Value) (aB : Value) (.ref aL : Value) (.ref aG : Value) (aM : Value) (aA : Value) (aU : Value) (aE : Value) (aD : Value) ) (cwV 0 hg (z_gV mm_663 mm_665 mm_23 mm_108 mm_666) rfl rfl rfl (by decide +kernel) ⟨Nat.le_of_ble_eq_true rfl, Nat.le_of_ble_eq_true rfl⟩) ⟨(zR.pre [.ref h0] hPc hK hN).1, va_recv hK hPc (ci := 8) (q0 := 0) rfl rfl, (zR.pre [.ref h0] hPc hK hN).2⟩ rfl rfl hl.1 rfl (lv_room (Nat.le_of_ble_eq_true rfl)) dX8_count_72 ⟨Nat.le_of_ble_eq_true rfl, Nat.le_of_ble_eq_true rfl⟩) (fun r2 hr2 => ?_)
    obtain rfl := hr2
    exact W.iret (v := 0) hx hb hr (fun t ht hW => ⟨0, rfl, by first | exact Or.inl ⟨rfl, by omega⟩ | exact Or.inr (Or.inl ⟨rfl, by omega⟩) | exact Or.inr (Or.inl ⟨by assumption, by omega⟩) | exact Or.inr (Or.inr ⟨rfl, by omega, by omega⟩), ht⟩) (fun q hq => by cases hq) dX8_count_75
  · skip
    refine lv_tableOut (tgt := 76) hx hb dX8_count_1 hw (by decide) ?_
    refine lv_aload_n hx hb dX8_count_76 rfl (lv_at hl 0 rfl) ?_
    refine lv_iload_n hx hb dX8_count_77 rfl (lv_at hl 1 rfl) ?_
    refine lv_bipush (v := 10) hx hb dX8_count_78 (by decide) ?_
    refine lv_isub hx hb dX8_count_80 ?_
    refine lv_topi (fun x3 ex3 => ?_)
    have wx3 := z_subw wh 10
    rw [← ex3] at wx3
    have kx3 : (10 : Int32).toInt = 10 := rfl
    have rx3 := z_rng x3
    have rx3b := z_rng wh
    have hPc := hP.sub (ws' := [(h0, .inr (8, [.ref aC, aW, .ref aT, aB, .ref aL, .ref aG, aM, aA, aU, aE, aD, .int 0, .int 0]))]) [0] rfl
    refine zc_i (va_runV (As := [.int x3]) (rest := []) ⟨hx, hb, hml, hown, hg⟩ (c_X8_isBook l g h0 (.ref aC : Value) (aW : Value) (.ref aT : Value) (aB : Value) (.ref aL : Value) (.ref aG : Value) (aM : Value) (aA : Value) (aU : Value) (aE : Value) (aD : Value) x3 ) (cwV 1 hg (z_gV mm_591 mm_593 mm_20 mm_108 mm_594) rfl rfl rfl (by decide +kernel) ⟨Nat.le_of_ble_eq_true rfl, Nat.le_of_ble_eq_true rfl⟩) ⟨(zR.pre [.ref h0, .int x3] hPc hK hN).1, va_recv hK hPc (ci := 8) (q0 := 0) rfl rfl, (zR.pre [.ref h0, .int x3] hPc hK hN).2⟩ rfl rfl hl.1 rfl (lv_room (Nat.le_of_ble_eq_true rfl)) dX8_count_81 ⟨Nat.le_of_ble_eq_true rfl, Nat.le_of_ble_eq_true rfl⟩) (fun r4 hr4 => ?_)
    obtain rfl := hr4
    refine lv_if_eq (tgt := 100) hx hb dX8_count_84 (by decide) (fun c5 => ?_) (fun c5 => ?_)
    · skip
      refine lv_iload_n hx hb dX8_count_100 rfl (lv_at hl 1 rfl) ?_
      refine lv_bipush (v := 20) hx hb dX8_count_101 (by decide) ?_
      refine lv_isub hx hb dX8_count_103 ?_
      refine lv_topi (fun x6 ex6 => ?_)
      have wx6 := z_subw wh 20
      rw [← ex6] at wx6
      have kx6 : (20 : Int32).toInt = 20 := rfl
      have rx6 := z_rng x6
      have rx6b := z_rng wh
      have hPc := hP.sub (ws' := []) [] rfl
      refine zc_i (va_runS (As := [.int x6]) (rest := []) ⟨hx, hb, hml, hown, hg⟩ (c_X8_isColumn l g x6 ) (va_cwS 1 hg (z_gS mm_404 mm_405 mm_108 mm_406) rfl rfl rfl (by decide +kernel) ⟨Nat.le_of_ble_eq_true rfl, Nat.le_of_ble_eq_true rfl⟩) (zR.pre [.int x6] hPc hK hN) rfl rfl hl.1 rfl (lv_room (Nat.le_of_ble_eq_true rfl)) dX8_count_104 ⟨Nat.le_of_ble_eq_true rfl, Nat.le_of_ble_eq_true rfl⟩) (fun r7 hr7 => ?_)
      rcases hr7 with hr7 | hr7
      · skip
        obtain ⟨rfl, h8, h9⟩ := hr7
        have h8 : 0 ≤ x6.toInt := h8
        have h9 : x6.toInt ≤ 3 := h9
        refine lv_if_eq (tgt := 123) hx hb dX8_count_107 (by decide) (fun c10 => ?_) (fun c10 => ?_)
        · skip
          exact absurd c10 (by decide)
        · skip
          refine lv_aload_n hx hb dX8_count_110 rfl (lv_at hl 0 rfl) ?_
          refine va_get (D := g.1) (ci := 8) (v := .ref aC) (C := RX8) (T := TX8) (N := 13) hx hb hg inG8 hown hK hP 0 rfl rfl 0 (by decide) (hg _ mm_360) (fun _ h9 => h9) rfl dX8_count_111 ?_
          refine lv_iload_n hx hb dX8_count_114 rfl (lv_at hl 1 rfl) ?_
          refine lv_bipush (v := 20) hx hb dX8_count_115 (by decide) ?_
          refine lv_isub hx hb dX8_count_117 ?_
          refine lv_topi (fun x11 ex11 => ?_)
          have wx11 := z_subw wh 20
          rw [← ex11] at wx11
          have kx11 : (20 : Int32).toInt = 20 := rfl
          have rx11 := z_rng x11
          have rx11b := z_rng wh
          rcases z_c4 x11 (by omega) (by omega) with hs12 | hs12 | hs12 | hs12
          · skip
            have ehs12 : x11.toInt = 0 := by rw [hs12]; rfl
            have qhs12 : (0 : Int32).toInt = 0 := rfl
            subst hs12
            refine va_aldq hx hb hK hP 1 4 rfl rfl (z_in (by decide : (0 : Int32).toInt = 0) (by omega) (by omega)) dX8_count_118 ?_
            refine W.eq (g2 := F0 m 119 ls [.ref c0_]) rfl ?_
            refine va_get (D := g.1) (ci := 3) (v := .int we0) (C := RX3) (T := TX3) (N := 6) hx hb hg inG3 hown hK hP 2 rfl rfl 0 (by decide) (hg _ mm_316) (fun _ h9 => h9) rfl dX8_count_119 ?_
            exact W.iret (v := we0) hx hb hr (fun t ht hW => ⟨we0, rfl, by first | exact Or.inl ⟨rfl, by omega⟩ | exact Or.inr (Or.inl ⟨rfl, by omega⟩) | exact Or.inr (Or.inl ⟨by assumption, by omega⟩) | exact Or.inr (Or.inr ⟨rfl, by omega, by omega⟩), ht⟩) (fun q hq => by cases hq) dX8_count_122
          · skip
            have ehs12 : x11.toInt = 1 := by rw [hs12]; rfl
            have qhs12 : (1 : Int32).toInt = 1 := rfl
            subst hs12
            refine va_aldq hx hb hK hP 1 4 rfl rfl (z_in (by decide : (1 : Int32).toInt = 1) (by omega) (by omega)) dX8_count_118 ?_
            refine W.eq (g2 := F0 m 119 ls [.ref c1_]) rfl ?_
            refine va_get (D := g.1) (ci := 3) (v := .int we1) (C := RX3) (T := TX3) (N := 6) hx hb hg inG3 hown hK hP 7 rfl rfl 0 (by decide) (hg _ mm_316) (fun _ h9 => h9) rfl dX8_count_119 ?_
            exact W.iret (v := we1) hx hb hr (fun t ht hW => ⟨we1, rfl, by first | exact Or.inl ⟨rfl, by omega⟩ | exact Or.inr (Or.inl ⟨rfl, by omega⟩) | exact Or.inr (Or.inl ⟨by assumption, by omega⟩) | exact Or.inr (Or.inr ⟨rfl, by omega, by omega⟩), ht⟩) (fun q hq => by cases hq) dX8_count_122
          · skip
            have ehs12 : x11.toInt = 2 := by rw [hs12]; rfl
            have qhs12 : (2 : Int32).toInt = 2 := rfl
            subst hs12
            refine va_aldq hx hb hK hP 1 4 rfl rfl (z_in (by decide : (2 : Int32).toInt = 2) (by omega) (by omega)) dX8_count_118 ?_
            refine W.eq (g2 := F0 m 119 ls [.ref c2_]) rfl ?_
            refine va_get (D := g.1) (ci := 3) (v := .int we2) (C := RX3) (T := TX3) (N := 6) hx hb hg inG3 hown hK hP 12 rfl rfl 0 (by decide) (hg _ mm_316) (fun _ h9 => h9) rfl dX8_count_119 ?_
            exact W.iret (v := we2) hx hb hr (fun t ht hW => ⟨we2, rfl, by first | exact Or.inl ⟨rfl, by omega⟩ | exact Or.inr (Or.inl ⟨rfl, by omega⟩) | exact Or.inr (Or.inl ⟨by assumption, by omega⟩) | exact Or.inr (Or.inr ⟨rfl, by omega, by omega⟩), ht⟩) (fun q hq => by cases hq) dX8_count_122
          · skip
            have ehs12 : x11.toInt = 3 := by rw [hs12]; rfl
            have qhs12 : (3 : Int32).toInt = 3 := rfl
            subst hs12
            refine va_aldq hx hb hK hP 1 4 rfl rfl (z_in (by decide : (3 : Int32).toInt = 3) (by omega) (by omega)) dX8_count_118 ?_
            refine W.eq (g2 := F0 m 119 ls [.ref c3_]) rfl ?_
            refine va_get (D := g.1) (ci := 3) (v := .int we3) (C := RX3) (T := TX3) (N := 6) hx hb hg inG3 hown hK hP 17 rfl rfl 0 (by decide) (hg _ mm_316) (fun _ h9 => h9) rfl dX8_count_119 ?_
            exact W.iret (v := we3) hx hb hr (fun t ht hW => ⟨we3, rfl, by first | exact Or.inl ⟨rfl, by omega⟩ | exact Or.inr (Or.inl ⟨rfl, by omega⟩) | exact Or.inr (Or.inl ⟨by assumption, by omega⟩) | exact Or.inr (Or.inr ⟨rfl, by omega, by omega⟩), ht⟩) (fun q hq => by cases hq) dX8_count_122
      · skip
        obtain ⟨rfl, h13⟩ := hr7
        have h13 : ¬ (0 ≤ x6.toInt ∧ x6.toInt ≤ 3) := h13
        refine lv_if_eq (tgt := 123) hx hb dX8_count_107 (by decide) (fun c14 => ?_) (fun c14 => ?_)
        · skip
          refine lv_aload_n hx hb dX8_count_123 rfl (lv_at hl 0 rfl) ?_
          refine lv_iload_n hx hb dX8_count_124 rfl (lv_at hl 1 rfl) ?_
          refine lv_bipush (v := 30) hx hb dX8_count_125 (by decide) ?_
          refine lv_isub hx hb dX8_count_127 ?_
          refine lv_topi (fun x15 ex15 => ?_)
          have wx15 := z_subw wh 30
          rw [← ex15] at wx15
          have kx15 : (30 : Int32).toInt = 30 := rfl
          have rx15 := z_rng x15
          have rx15b := z_rng wh
          have hPc := hP.sub (ws' := [(h0, .inr (8, [.ref aC, aW, .ref aT, aB, .ref aL, .ref aG, aM, aA, aU, aE, aD, .int 0, .int 0]))]) [0] rfl
          refine zc_i (va_runV (As := [.int x15]) (rest := []) ⟨hx, hb, hml, hown, hg⟩ (c_X8_isPerson l g h0 (.ref aC : Value) (aW : Value) (.ref aT : Value) (aB : Value) (.ref aL : Value) (.ref aG : Value) (aM : Value) (aA : Value) (aU : Value) (aE : Value) (aD : Value) x15 ) (cwV 1 hg (z_gV mm_451 mm_453 mm_3 mm_108 mm_454) rfl rfl rfl (by decide +kernel) ⟨Nat.le_of_ble_eq_true rfl, Nat.le_of_ble_eq_true rfl⟩) ⟨(zR.pre [.ref h0, .int x15] hPc hK hN).1, va_recv hK hPc (ci := 8) (q0 := 0) rfl rfl, (zR.pre [.ref h0, .int x15] hPc hK hN).2⟩ rfl rfl hl.1 rfl (lv_room (Nat.le_of_ble_eq_true rfl)) dX8_count_128 ⟨Nat.le_of_ble_eq_true rfl, Nat.le_of_ble_eq_true rfl⟩) (fun r16 hr16 => ?_)
          obtain rfl := hr16
          refine lv_if_eq (tgt := 146) hx hb dX8_count_131 (by decide) (fun c17 => ?_) (fun c17 => ?_)
          · skip
            refine lv_iconst (v := (-1)) hx hb dX8_count_146 (by decide) ?_
            exact W.iret (v := (-1)) hx hb hr (fun t ht hW => ⟨(-1), rfl, by first | exact Or.inl ⟨rfl, by omega⟩ | exact Or.inr (Or.inl ⟨rfl, by omega⟩) | exact Or.inr (Or.inl ⟨by assumption, by omega⟩) | exact Or.inr (Or.inr ⟨rfl, by omega, by omega⟩), ht⟩) (fun q hq => by cases hq) dX8_count_147
          · skip
            exact absurd c17 (by decide)
        · skip
          exact absurd c14 (by decide)
    · skip
      exact absurd c5 (by decide)
end
