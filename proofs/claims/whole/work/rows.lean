section
-- ===== PART A: goes FIRST, ahead of the names: the tables' words, and 'selects' of the private methods out of them =====
/-- a private method of a class that the tables say can be made, by its rows of tables_1 -/
def lw_okq (q : MethodName × Nat) : Prop := (q.1.cls ≠ "java/lang/invoke/MethodHandle" ∧ q.1.cls ≠ "java/lang/invoke/VarHandle") ∧ Cond.instantiable q.1.cls q.2 ∈ tables_1 ∧ Cond.privateMethod q.1 ∈ tables_1 ∧ Cond.instanceMethod q.1 ∈ tables_1
theorem lw_p0 : lw_okq (⟨"Readingorder", "readingOf", "(I)LReadingorder$Reading;"⟩, 7) := ⟨⟨by decide +kernel, by decide +kernel⟩, List.mem_of_getElem? (i := 15) (by decide +kernel), List.mem_of_getElem? (i := 89) (by decide +kernel), List.mem_of_getElem? (i := 90) (by decide +kernel)⟩
theorem lw_p1 : lw_okq (⟨"java/lang/Throwable", "fillInStackTrace", "(I)Ljava/lang/Throwable;"⟩, 6) := ⟨⟨by decide +kernel, by decide +kernel⟩, List.mem_of_getElem? (i := 131) (by decide +kernel), List.mem_of_getElem? (i := 129) (by decide +kernel), List.mem_of_getElem? (i := 130) (by decide +kernel)⟩
theorem lw_p2 : lw_okq (⟨"Readingorder", "readAgain", "(I)I"⟩, 7) := ⟨⟨by decide +kernel, by decide +kernel⟩, List.mem_of_getElem? (i := 15) (by decide +kernel), List.mem_of_getElem? (i := 243) (by decide +kernel), List.mem_of_getElem? (i := 244) (by decide +kernel)⟩
theorem lw_p3 : lw_okq (⟨"Readingorder", "readByCuts", "(ILReadingorder$Reading;)V"⟩, 7) := ⟨⟨by decide +kernel, by decide +kernel⟩, List.mem_of_getElem? (i := 15) (by decide +kernel), List.mem_of_getElem? (i := 247) (by decide +kernel), List.mem_of_getElem? (i := 248) (by decide +kernel)⟩
theorem lw_p4 : lw_okq (⟨"Readingorder", "boxesThatFollowNone", "(I)I"⟩, 7) := ⟨⟨by decide +kernel, by decide +kernel⟩, List.mem_of_getElem? (i := 15) (by decide +kernel), List.mem_of_getElem? (i := 251) (by decide +kernel), List.mem_of_getElem? (i := 252) (by decide +kernel)⟩
theorem lw_p5 : lw_okq (⟨"Readingorder", "madeBox", "(I)LReadingorder$Box;"⟩, 7) := ⟨⟨by decide +kernel, by decide +kernel⟩, List.mem_of_getElem? (i := 15) (by decide +kernel), List.mem_of_getElem? (i := 255) (by decide +kernel), List.mem_of_getElem? (i := 256) (by decide +kernel)⟩
theorem lw_p6 : lw_okq (⟨"Readingorder", "readSet", "(ILReadingorder$Reading;I)V"⟩, 7) := ⟨⟨by decide +kernel, by decide +kernel⟩, List.mem_of_getElem? (i := 15) (by decide +kernel), List.mem_of_getElem? (i := 259) (by decide +kernel), List.mem_of_getElem? (i := 260) (by decide +kernel)⟩
theorem lw_p7 : lw_okq (⟨"Readingorder", "cutOff", "(I)I"⟩, 7) := ⟨⟨by decide +kernel, by decide +kernel⟩, List.mem_of_getElem? (i := 15) (by decide +kernel), List.mem_of_getElem? (i := 263) (by decide +kernel), List.mem_of_getElem? (i := 264) (by decide +kernel)⟩
theorem lw_p8 : lw_okq (⟨"Readingorder", "leastCut", "(IZ)I"⟩, 7) := ⟨⟨by decide +kernel, by decide +kernel⟩, List.mem_of_getElem? (i := 15) (by decide +kernel), List.mem_of_getElem? (i := 267) (by decide +kernel), List.mem_of_getElem? (i := 268) (by decide +kernel)⟩
theorem lw_p9 : lw_okq (⟨"Readingorder", "boxOfSet", "(II)LReadingorder$Box;"⟩, 7) := ⟨⟨by decide +kernel, by decide +kernel⟩, List.mem_of_getElem? (i := 15) (by decide +kernel), List.mem_of_getElem? (i := 271) (by decide +kernel), List.mem_of_getElem? (i := 272) (by decide +kernel)⟩
theorem lw_p10 : lw_okq (⟨"Readingorder", "endedBy", "(IIZ)I"⟩, 7) := ⟨⟨by decide +kernel, by decide +kernel⟩, List.mem_of_getElem? (i := 15) (by decide +kernel), List.mem_of_getElem? (i := 286) (by decide +kernel), List.mem_of_getElem? (i := 287) (by decide +kernel)⟩
theorem lw_p11 : lw_okq (⟨"Readingorder", "readUncut", "(ILReadingorder$Reading;)V"⟩, 7) := ⟨⟨by decide +kernel, by decide +kernel⟩, List.mem_of_getElem? (i := 15) (by decide +kernel), List.mem_of_getElem? (i := 290) (by decide +kernel), List.mem_of_getElem? (i := 291) (by decide +kernel)⟩
theorem lw_p12 : lw_okq (⟨"Readingorder", "firstByEdges", "(I)LReadingorder$Box;"⟩, 7) := ⟨⟨by decide +kernel, by decide +kernel⟩, List.mem_of_getElem? (i := 15) (by decide +kernel), List.mem_of_getElem? (i := 294) (by decide +kernel), List.mem_of_getElem? (i := 295) (by decide +kernel)⟩
theorem lw_p13 : lw_okq (⟨"Readingorder", "readParts", "(IILReadingorder$Reading;I)V"⟩, 7) := ⟨⟨by decide +kernel, by decide +kernel⟩, List.mem_of_getElem? (i := 15) (by decide +kernel), List.mem_of_getElem? (i := 306) (by decide +kernel), List.mem_of_getElem? (i := 307) (by decide +kernel)⟩
theorem lw_p14 : lw_okq (⟨"Readingorder", "letFall", "(I)I"⟩, 7) := ⟨⟨by decide +kernel, by decide +kernel⟩, List.mem_of_getElem? (i := 15) (by decide +kernel), List.mem_of_getElem? (i := 323) (by decide +kernel), List.mem_of_getElem? (i := 324) (by decide +kernel)⟩
theorem lw_p15 : lw_okq (⟨"Readingorder", "presentBox", "(I)LReadingorder$Box;"⟩, 7) := ⟨⟨by decide +kernel, by decide +kernel⟩, List.mem_of_getElem? (i := 15) (by decide +kernel), List.mem_of_getElem? (i := 338) (by decide +kernel), List.mem_of_getElem? (i := 339) (by decide +kernel)⟩
def lw_privs_1 : List (MethodName × Nat) := [(⟨"Readingorder", "readingOf", "(I)LReadingorder$Reading;"⟩, 7), (⟨"java/lang/Throwable", "fillInStackTrace", "(I)Ljava/lang/Throwable;"⟩, 6), (⟨"Readingorder", "readAgain", "(I)I"⟩, 7), (⟨"Readingorder", "readByCuts", "(ILReadingorder$Reading;)V"⟩, 7), (⟨"Readingorder", "boxesThatFollowNone", "(I)I"⟩, 7), (⟨"Readingorder", "madeBox", "(I)LReadingorder$Box;"⟩, 7), (⟨"Readingorder", "readSet", "(ILReadingorder$Reading;I)V"⟩, 7), (⟨"Readingorder", "cutOff", "(I)I"⟩, 7), (⟨"Readingorder", "leastCut", "(IZ)I"⟩, 7), (⟨"Readingorder", "boxOfSet", "(II)LReadingorder$Box;"⟩, 7), (⟨"Readingorder", "endedBy", "(IIZ)I"⟩, 7), (⟨"Readingorder", "readUncut", "(ILReadingorder$Reading;)V"⟩, 7), (⟨"Readingorder", "firstByEdges", "(I)LReadingorder$Box;"⟩, 7), (⟨"Readingorder", "readParts", "(IILReadingorder$Reading;I)V"⟩, 7), (⟨"Readingorder", "letFall", "(I)I"⟩, 7), (⟨"Readingorder", "presentBox", "(I)LReadingorder$Box;"⟩, 7)]
theorem lw_r1 : ∀ q ∈ lw_privs_1, lw_okq q := List.forall_mem_cons.mpr ⟨lw_p0, List.forall_mem_cons.mpr ⟨lw_p1, List.forall_mem_cons.mpr ⟨lw_p2, List.forall_mem_cons.mpr ⟨lw_p3, List.forall_mem_cons.mpr ⟨lw_p4, List.forall_mem_cons.mpr ⟨lw_p5, List.forall_mem_cons.mpr ⟨lw_p6, List.forall_mem_cons.mpr ⟨lw_p7, List.forall_mem_cons.mpr ⟨lw_p8, List.forall_mem_cons.mpr ⟨lw_p9, List.forall_mem_cons.mpr ⟨lw_p10, List.forall_mem_cons.mpr ⟨lw_p11, List.forall_mem_cons.mpr ⟨lw_p12, List.forall_mem_cons.mpr ⟨lw_p13, List.forall_mem_cons.mpr ⟨lw_p14, List.forall_mem_cons.mpr ⟨lw_p15, fun _ h => absurd h List.not_mem_nil⟩⟩⟩⟩⟩⟩⟩⟩⟩⟩⟩⟩⟩⟩⟩⟩
theorem lw_p16 : lw_okq (⟨"Readingorder", "readWithSetsAside", "(ILReadingorder$Reading;)V"⟩, 7) := ⟨⟨by decide +kernel, by decide +kernel⟩, List.mem_of_getElem? (i := 15) (by decide +kernel), List.mem_of_getElem? (i := 405) (by decide +kernel), List.mem_of_getElem? (i := 406) (by decide +kernel)⟩
theorem lw_p17 : lw_okq (⟨"Readingorder", "faultsAt", "(LReadingorder$Reading;I)I"⟩, 7) := ⟨⟨by decide +kernel, by decide +kernel⟩, List.mem_of_getElem? (i := 15) (by decide +kernel), List.mem_of_getElem? (i := 472) (by decide +kernel), List.mem_of_getElem? (i := 473) (by decide +kernel)⟩
theorem lw_p18 : lw_okq (⟨"Readingorder", "levelAhead", "(LReadingorder$Reading;I)I"⟩, 7) := ⟨⟨by decide +kernel, by decide +kernel⟩, List.mem_of_getElem? (i := 15) (by decide +kernel), List.mem_of_getElem? (i := 484) (by decide +kernel), List.mem_of_getElem? (i := 485) (by decide +kernel)⟩
theorem lw_p19 : lw_okq (⟨"Readingorder", "overlapsAny", "(LReadingorder$Box;LReadingorder$Reading;)Z"⟩, 7) := ⟨⟨by decide +kernel, by decide +kernel⟩, List.mem_of_getElem? (i := 15) (by decide +kernel), List.mem_of_getElem? (i := 491) (by decide +kernel), List.mem_of_getElem? (i := 492) (by decide +kernel)⟩
theorem lw_p20 : lw_okq (⟨"Readingorder", "countHolding", "(I)I"⟩, 7) := ⟨⟨by decide +kernel, by decide +kernel⟩, List.mem_of_getElem? (i := 15) (by decide +kernel), List.mem_of_getElem? (i := 559) (by decide +kernel), List.mem_of_getElem? (i := 560) (by decide +kernel)⟩
theorem lw_p21 : lw_okq (⟨"ReadingorderModel", "goes", "(ZZZ)Z"⟩, 21) := ⟨⟨by decide +kernel, by decide +kernel⟩, List.mem_of_getElem? (i := 563) (by decide +kernel), List.mem_of_getElem? (i := 651) (by decide +kernel), List.mem_of_getElem? (i := 652) (by decide +kernel)⟩
theorem lw_p22 : lw_okq (⟨"ReadingorderModel", "keeps", "(I)V"⟩, 21) := ⟨⟨by decide +kernel, by decide +kernel⟩, List.mem_of_getElem? (i := 563) (by decide +kernel), List.mem_of_getElem? (i := 655) (by decide +kernel), List.mem_of_getElem? (i := 656) (by decide +kernel)⟩
theorem lw_p23 : lw_okq (⟨"ReadingorderModel", "finds", "(I)V"⟩, 21) := ⟨⟨by decide +kernel, by decide +kernel⟩, List.mem_of_getElem? (i := 563) (by decide +kernel), List.mem_of_getElem? (i := 659) (by decide +kernel), List.mem_of_getElem? (i := 660) (by decide +kernel)⟩
theorem lw_p24 : lw_okq (⟨"ReadingorderModel", "puts", "(I)V"⟩, 21) := ⟨⟨by decide +kernel, by decide +kernel⟩, List.mem_of_getElem? (i := 563) (by decide +kernel), List.mem_of_getElem? (i := 663) (by decide +kernel), List.mem_of_getElem? (i := 664) (by decide +kernel)⟩
theorem lw_p25 : lw_okq (⟨"ReadingorderModel", "cut", "(IZ)I"⟩, 21) := ⟨⟨by decide +kernel, by decide +kernel⟩, List.mem_of_getElem? (i := 563) (by decide +kernel), List.mem_of_getElem? (i := 667) (by decide +kernel), List.mem_of_getElem? (i := 668) (by decide +kernel)⟩
theorem lw_p26 : lw_okq (⟨"ReadingorderModel", "cutAt", "(IIZ)I"⟩, 21) := ⟨⟨by decide +kernel, by decide +kernel⟩, List.mem_of_getElem? (i := 563) (by decide +kernel), List.mem_of_getElem? (i := 671) (by decide +kernel), List.mem_of_getElem? (i := 672) (by decide +kernel)⟩
theorem lw_p27 : lw_okq (⟨"ReadingorderModel", "far", "(IZ)I"⟩, 21) := ⟨⟨by decide +kernel, by decide +kernel⟩, List.mem_of_getElem? (i := 563) (by decide +kernel), List.mem_of_getElem? (i := 678) (by decide +kernel), List.mem_of_getElem? (i := 679) (by decide +kernel)⟩
theorem lw_p28 : lw_okq (⟨"ReadingorderModel", "near", "(IZ)I"⟩, 21) := ⟨⟨by decide +kernel, by decide +kernel⟩, List.mem_of_getElem? (i := 563) (by decide +kernel), List.mem_of_getElem? (i := 682) (by decide +kernel), List.mem_of_getElem? (i := 683) (by decide +kernel)⟩
theorem lw_p29 : lw_okq (⟨"ReadingorderModel", "readsAll", "(I)V"⟩, 21) := ⟨⟨by decide +kernel, by decide +kernel⟩, List.mem_of_getElem? (i := 563) (by decide +kernel), List.mem_of_getElem? (i := 686) (by decide +kernel), List.mem_of_getElem? (i := 687) (by decide +kernel)⟩
theorem lw_p30 : lw_okq (⟨"ReadingorderModel", "isAhead", "(II)Z"⟩, 21) := ⟨⟨by decide +kernel, by decide +kernel⟩, List.mem_of_getElem? (i := 563) (by decide +kernel), List.mem_of_getElem? (i := 690) (by decide +kernel), List.mem_of_getElem? (i := 691) (by decide +kernel)⟩
theorem lw_p31 : lw_okq (⟨"ReadingorderModel", "reads", "(I)V"⟩, 21) := ⟨⟨by decide +kernel, by decide +kernel⟩, List.mem_of_getElem? (i := 563) (by decide +kernel), List.mem_of_getElem? (i := 694) (by decide +kernel), List.mem_of_getElem? (i := 695) (by decide +kernel)⟩
def lw_privs_2 : List (MethodName × Nat) := [(⟨"Readingorder", "readWithSetsAside", "(ILReadingorder$Reading;)V"⟩, 7), (⟨"Readingorder", "faultsAt", "(LReadingorder$Reading;I)I"⟩, 7), (⟨"Readingorder", "levelAhead", "(LReadingorder$Reading;I)I"⟩, 7), (⟨"Readingorder", "overlapsAny", "(LReadingorder$Box;LReadingorder$Reading;)Z"⟩, 7), (⟨"Readingorder", "countHolding", "(I)I"⟩, 7), (⟨"ReadingorderModel", "goes", "(ZZZ)Z"⟩, 21), (⟨"ReadingorderModel", "keeps", "(I)V"⟩, 21), (⟨"ReadingorderModel", "finds", "(I)V"⟩, 21), (⟨"ReadingorderModel", "puts", "(I)V"⟩, 21), (⟨"ReadingorderModel", "cut", "(IZ)I"⟩, 21), (⟨"ReadingorderModel", "cutAt", "(IIZ)I"⟩, 21), (⟨"ReadingorderModel", "far", "(IZ)I"⟩, 21), (⟨"ReadingorderModel", "near", "(IZ)I"⟩, 21), (⟨"ReadingorderModel", "readsAll", "(I)V"⟩, 21), (⟨"ReadingorderModel", "isAhead", "(II)Z"⟩, 21), (⟨"ReadingorderModel", "reads", "(I)V"⟩, 21)]
theorem lw_r2 : ∀ q ∈ lw_privs_2, lw_okq q := List.forall_mem_cons.mpr ⟨lw_p16, List.forall_mem_cons.mpr ⟨lw_p17, List.forall_mem_cons.mpr ⟨lw_p18, List.forall_mem_cons.mpr ⟨lw_p19, List.forall_mem_cons.mpr ⟨lw_p20, List.forall_mem_cons.mpr ⟨lw_p21, List.forall_mem_cons.mpr ⟨lw_p22, List.forall_mem_cons.mpr ⟨lw_p23, List.forall_mem_cons.mpr ⟨lw_p24, List.forall_mem_cons.mpr ⟨lw_p25, List.forall_mem_cons.mpr ⟨lw_p26, List.forall_mem_cons.mpr ⟨lw_p27, List.forall_mem_cons.mpr ⟨lw_p28, List.forall_mem_cons.mpr ⟨lw_p29, List.forall_mem_cons.mpr ⟨lw_p30, List.forall_mem_cons.mpr ⟨lw_p31, fun _ h => absurd h List.not_mem_nil⟩⟩⟩⟩⟩⟩⟩⟩⟩⟩⟩⟩⟩⟩⟩⟩
theorem lw_p32 : lw_okq (⟨"ReadingorderModel", "falls", "(I)I"⟩, 21) := ⟨⟨by decide +kernel, by decide +kernel⟩, List.mem_of_getElem? (i := 563) (by decide +kernel), List.mem_of_getElem? (i := 698) (by decide +kernel), List.mem_of_getElem? (i := 699) (by decide +kernel)⟩
theorem lw_p33 : lw_okq (⟨"ReadingorderModel", "isOther", "(I)Z"⟩, 21) := ⟨⟨by decide +kernel, by decide +kernel⟩, List.mem_of_getElem? (i := 563) (by decide +kernel), List.mem_of_getElem? (i := 702) (by decide +kernel), List.mem_of_getElem? (i := 703) (by decide +kernel)⟩
theorem lw_p34 : lw_okq (⟨"ReadingorderModel", "standing", "(I)I"⟩, 21) := ⟨⟨by decide +kernel, by decide +kernel⟩, List.mem_of_getElem? (i := 563) (by decide +kernel), List.mem_of_getElem? (i := 706) (by decide +kernel), List.mem_of_getElem? (i := 707) (by decide +kernel)⟩
theorem lw_p35 : lw_okq (⟨"ReadingorderModel", "isBox", "(I)Z"⟩, 21) := ⟨⟨by decide +kernel, by decide +kernel⟩, List.mem_of_getElem? (i := 563) (by decide +kernel), List.mem_of_getElem? (i := 714) (by decide +kernel), List.mem_of_getElem? (i := 715) (by decide +kernel)⟩
theorem lw_p36 : lw_okq (⟨"ReadingorderModel", "unties", "(I)V"⟩, 21) := ⟨⟨by decide +kernel, by decide +kernel⟩, List.mem_of_getElem? (i := 563) (by decide +kernel), List.mem_of_getElem? (i := 726) (by decide +kernel), List.mem_of_getElem? (i := 727) (by decide +kernel)⟩
theorem lw_p37 : lw_okq (⟨"ReadingorderModel", "comesBehind", "(II)Z"⟩, 21) := ⟨⟨by decide +kernel, by decide +kernel⟩, List.mem_of_getElem? (i := 563) (by decide +kernel), List.mem_of_getElem? (i := 734) (by decide +kernel), List.mem_of_getElem? (i := 735) (by decide +kernel)⟩
theorem lw_p38 : lw_okq (⟨"ReadingorderModel", "place", "(I)I"⟩, 21) := ⟨⟨by decide +kernel, by decide +kernel⟩, List.mem_of_getElem? (i := 563) (by decide +kernel), List.mem_of_getElem? (i := 755) (by decide +kernel), List.mem_of_getElem? (i := 756) (by decide +kernel)⟩
theorem lw_p39 : lw_okq (⟨"ReadingorderModel", "faultsAt", "(I)I"⟩, 21) := ⟨⟨by decide +kernel, by decide +kernel⟩, List.mem_of_getElem? (i := 563) (by decide +kernel), List.mem_of_getElem? (i := 778) (by decide +kernel), List.mem_of_getElem? (i := 779) (by decide +kernel)⟩
theorem lw_p40 : lw_okq (⟨"ReadingorderModel", "skips", "(I)Z"⟩, 21) := ⟨⟨by decide +kernel, by decide +kernel⟩, List.mem_of_getElem? (i := 563) (by decide +kernel), List.mem_of_getElem? (i := 782) (by decide +kernel), List.mem_of_getElem? (i := 783) (by decide +kernel)⟩
theorem lw_p41 : lw_okq (⟨"ReadingorderModel", "isHead", "(I)Z"⟩, 21) := ⟨⟨by decide +kernel, by decide +kernel⟩, List.mem_of_getElem? (i := 563) (by decide +kernel), List.mem_of_getElem? (i := 786) (by decide +kernel), List.mem_of_getElem? (i := 787) (by decide +kernel)⟩
theorem lw_p42 : lw_okq (⟨"ReadingorderModel", "isKind", "(II)Z"⟩, 21) := ⟨⟨by decide +kernel, by decide +kernel⟩, List.mem_of_getElem? (i := 563) (by decide +kernel), List.mem_of_getElem? (i := 790) (by decide +kernel), List.mem_of_getElem? (i := 791) (by decide +kernel)⟩
theorem lw_p43 : lw_okq (⟨"ReadingorderModel", "meetsAny", "(I)Z"⟩, 21) := ⟨⟨by decide +kernel, by decide +kernel⟩, List.mem_of_getElem? (i := 563) (by decide +kernel), List.mem_of_getElem? (i := 794) (by decide +kernel), List.mem_of_getElem? (i := 795) (by decide +kernel)⟩
theorem lw_p44 : lw_okq (⟨"ReadingorderModel", "meet", "(II)Z"⟩, 21) := ⟨⟨by decide +kernel, by decide +kernel⟩, List.mem_of_getElem? (i := 563) (by decide +kernel), List.mem_of_getElem? (i := 798) (by decide +kernel), List.mem_of_getElem? (i := 799) (by decide +kernel)⟩
theorem lw_p45 : lw_okq (⟨"ReadingorderModel", "hasBox", "(I)Z"⟩, 21) := ⟨⟨by decide +kernel, by decide +kernel⟩, List.mem_of_getElem? (i := 563) (by decide +kernel), List.mem_of_getElem? (i := 810) (by decide +kernel), List.mem_of_getElem? (i := 811) (by decide +kernel)⟩
def lw_privs_3 : List (MethodName × Nat) := [(⟨"ReadingorderModel", "falls", "(I)I"⟩, 21), (⟨"ReadingorderModel", "isOther", "(I)Z"⟩, 21), (⟨"ReadingorderModel", "standing", "(I)I"⟩, 21), (⟨"ReadingorderModel", "isBox", "(I)Z"⟩, 21), (⟨"ReadingorderModel", "unties", "(I)V"⟩, 21), (⟨"ReadingorderModel", "comesBehind", "(II)Z"⟩, 21), (⟨"ReadingorderModel", "place", "(I)I"⟩, 21), (⟨"ReadingorderModel", "faultsAt", "(I)I"⟩, 21), (⟨"ReadingorderModel", "skips", "(I)Z"⟩, 21), (⟨"ReadingorderModel", "isHead", "(I)Z"⟩, 21), (⟨"ReadingorderModel", "isKind", "(II)Z"⟩, 21), (⟨"ReadingorderModel", "meetsAny", "(I)Z"⟩, 21), (⟨"ReadingorderModel", "meet", "(II)Z"⟩, 21), (⟨"ReadingorderModel", "hasBox", "(I)Z"⟩, 21)]
theorem lw_r3 : ∀ q ∈ lw_privs_3, lw_okq q := List.forall_mem_cons.mpr ⟨lw_p32, List.forall_mem_cons.mpr ⟨lw_p33, List.forall_mem_cons.mpr ⟨lw_p34, List.forall_mem_cons.mpr ⟨lw_p35, List.forall_mem_cons.mpr ⟨lw_p36, List.forall_mem_cons.mpr ⟨lw_p37, List.forall_mem_cons.mpr ⟨lw_p38, List.forall_mem_cons.mpr ⟨lw_p39, List.forall_mem_cons.mpr ⟨lw_p40, List.forall_mem_cons.mpr ⟨lw_p41, List.forall_mem_cons.mpr ⟨lw_p42, List.forall_mem_cons.mpr ⟨lw_p43, List.forall_mem_cons.mpr ⟨lw_p44, List.forall_mem_cons.mpr ⟨lw_p45, fun _ h => absurd h List.not_mem_nil⟩⟩⟩⟩⟩⟩⟩⟩⟩⟩⟩⟩⟩⟩
def lw_privs : List (MethodName × Nat) := lw_privs_1 ++ (lw_privs_2 ++ (lw_privs_3))
def lw_tbl : List Cond := k2_sels lw_privs ++ tables_1
theorem lw_privs_ok : ∀ q ∈ lw_privs, lw_okq q := by
  show ∀ q ∈ lw_privs_1 ++ (lw_privs_2 ++ (lw_privs_3)), lw_okq q
  exact List.forall_mem_append.mpr ⟨lw_r1, List.forall_mem_append.mpr ⟨lw_r2, lw_r3⟩⟩
-- ===== end of PART A; then your names; then what follows =====
/-! ===== BEGIN words of one list among another's, by their places ===== -/
theorem goodIn_r {big : List Cond} (ws : List Cond) (ps : List Nat) (hp : ws = ps.filterMap (fun i => big[i]?)) (h : ws.all goodWord = true) : GoodIn big ws := by
  intro w hw
  have h1 := List.all_eq_true.mp h w hw
  rw [hp] at hw
  obtain ⟨i, -, hi⟩ := List.mem_filterMap.mp hw
  have hm : w ∈ big := by first | exact List.mem_of_getElem? hi | exact List.getElem?_mem hi
  exact ⟨hm, good_of_word h1⟩
theorem goodIn_app {big a b : List Cond} (ha : GoodIn big a) (hb : GoodIn big b) : GoodIn big (a ++ b) := fun w h => (List.mem_append.mp h).elim (ha w) (hb w)
theorem goodIn_ca {big a b : List Cond} {c : Cond} (ha : GoodIn big (c :: a)) (hb : GoodIn big b) : GoodIn big (c :: (a ++ b)) := fun w h => (List.mem_cons.mp h).elim (fun e => ha w (List.mem_cons.mpr (Or.inl e))) (fun h => (List.mem_append.mp h).elim (fun h => ha w (List.mem_cons.mpr (Or.inr h))) (hb w))
theorem goodIn_sub {big ws : List Cond} (hm : ∀ w ∈ ws, w ∈ big) (h : ws.all goodWord = true) : GoodIn big ws := fun w hw => ⟨hm w hw, good_of_word (List.all_eq_true.mp h w hw)⟩
/-! ===== END ===== -/

/-! ===== BEGIN exceptions that leave a method, and their catching by the caller (launches without stack traces) ===== -/
section VXA
/-! The laws vx_back, vx_callV, vx_callS, vx_callSW, vx_throw0, vx_throwS follow proofs of the library, with one case more: JvmDerived/Free/Laws.lean (Back.of_free), Shelf42/LK1.lean (callV, callS), Shelf/KitTraced.lean (throwNew0V, throwNewS). -/
/-- where a method has thrown q: the class by its name, the cell, what was written, the world -/
def vx_T (XC : String → State → State → Prop) (st : State) (q : Addr) (t : State) (mc ms : Nat) (free : Addr → Prop) : Prop :=
  ∃ (E : String) (ce : Cell) (L : List Loc), XC E st t ∧ t.heap[q]? = some ce ∧ ce.vm = .none ∧ st.vm.findClass E = some ce.cls ∧ st.WarmedH t.vm ∧ st.sameButNew ({ t with vm := st.vm } : State) L mc ms ∧ ∀ z ∈ L, free z.base
def vx_Q (Qc : Array Value → State → Outcome → State → Prop) (XC : String → State → State → Prop) (mc ms : Nat) (free : Addr → Prop) : Array Value → State → Outcome → State → Prop := fun a st o t =>
  (Qc a st o t ∧ ∃ L, FrameEnd st o t L mc ms ∧ ∀ q ∈ L, free q.base) ∨ ∃ q, o = .threw q ∧ vx_T XC st q t mc ms free
/-- a callee that returns or throws -/
def vx_Met (l : Launch) (y : MethodName) (ws : List Cond) (rm : Room) (Pc : Array Value → State → Prop) (Qc : Array Value → State → Outcome → State → Prop) (XC : String → State → State → Prop) (mc ms : Nat) (free : Addr → Prop) : Prop :=
  MetFree l y (headSpec ws rm) Pc (fun _ _ _ _ _ => True) (vx_Q Qc XC mc ms free)
def vx_Post (XC : String → State → State → Prop) (mc ms : Nat) (free : Addr → Prop) : Pt → Array Value → Addr → Pt → Prop := fun A a q B =>
  ∃ (g : JFrame) (mk : MethodId) (t : State) (L : List Loc) (E : String) (ce : Cell), B.U.heap = t.heap ∧ B.U.vm = t.vm ∧ XC E (A.U.calling g mk a) t ∧ t.heap[q]? = some ce ∧ ce.vm = .none ∧ A.U.vm.findClass E = some ce.cls ∧ B.locs = A.locs ++ L ∧ (∀ z ∈ L, free z.base) ∧ B.cells = A.cells + mc ∧ B.slots = A.slots + ms
def vx_Back (l : Launch) (R : Room) (p : Program) (e : Env) (below : List Frame) (s : State) (sargs : Array Value) (y : MethodName) (len W9 : Nat)
    (Pre : Pt → Array Value → Prop) (Post : Pt → Array Value → Option Value → Pt → Prop) (PostX : Pt → Array Value → Addr → Pt → Prop) : Prop :=
  ∀ (m : MethodId) (meth : Method) (c : Code) (A : Pt) (g : JFrame) (ig : Instr) (mk : MethodId) (a : Array Value),
    Stand p l e R s m sargs below meth c A.U A.locs A.cells A.slots → g.method = m → g.locals.size = c.maxLocals → decode c.code g.pc = .ok (ig, len) →
    2 * g.monitorRoom + (g.stack.map fun v => v.category).sum ≤ W9 → A.U.methodNamed? y = some mk → Pre A a →
    (∃ (v : Option Value) (B : Pt), Stand p l e R s m sargs below meth c B.U B.locs B.cells B.slots ∧ Post A a v B ∧
      Steps p.tables e below (doInvoke e (A.U.setTop g) [] mk a).1 (B.U.setTop { g with pc := g.pc + len, stack := v.toList ++ g.stack })) ∨
    (∃ (q : Addr) (B : Pt), Stand p l e R s m sargs below meth c B.U B.locs B.cells B.slots ∧ PostX A a q B ∧
      Steps p.tables e below (doInvoke e (A.U.setTop g) [] mk a).1 ((B.U.setTop g).pushFrame (.throwing q)))
section Payer
variable {l : Launch} {R : Room} {p : Program} {e : Env} {below : List Frame} {s : State} {sargs : Array Value} {y : MethodName} {len W9 : Nat}
theorem vx_back {ws : List Cond} {rm : Room} {Pc : Array Value → State → Prop} {Qc : Array Value → State → Outcome → State → Prop} {XC : String → State → State → Prop} {mc ms : Nat} {free : Addr → Prop} {bytes : ByteArray} {maxL : Nat} {ret : Option FieldType}
    (hM : vx_Met l y ws rm Pc Qc XC mc ms free) (hblind : FrameBlind Pc) (hrc : rm.cells = mc) (hrs : rm.slots = ms)
    (hframes : rm.frames + 1 ≤ R.frames) (hlocals : W9 + (maxL + 11) + rm.locals ≤ R.locals)
    (hws : ∀ w ∈ ws, ∀ a' U, s.WarmedH U.vm → w.before a' U = true) (hcode : Cond.code y bytes maxL ret ∈ ws) (hinit : ∀ a' U, s.WarmedH U.vm → (Cond.initialized y.cls).before a' U = true) :
    vx_Back l R p e below s sargs y len W9 (PreOf R mc ms Pc) (PostOf Qc mc ms free) (vx_Post XC mc ms free) := by
  intro m meth c A g ig mk a X hg hsize hdg hW hn hp
  have h1 : (headSpec ws rm).pre.before a A.U = true := atoms_intro fun w hw => hws w hw _ _ X.warmed
  have h2 : (Cond.code y bytes maxL ret).before a A.U = true := hws _ hcode _ _ X.warmed
  have h3 : (Cond.initialized y.cls).before a A.U = true := hinit _ _ X.warmed
  have h4 : A.cells + (headSpec ws rm).room.cells ≤ R.cells := by rw [show (headSpec ws rm).room.cells = mc from hrc]; exact hp.1
  have h5 : A.slots + (headSpec ws rm).room.slots ≤ R.slots := by rw [show (headSpec ws rm).room.slots = ms from hrs]; exact hp.2.1
  have hPc : Pc a (A.U.calling g mk a) := hblind _ _ _ _ hp.2.2
  obtain ⟨U, Ls, c0, s0⟩ := A
  dsimp only [Pt.U, Pt.locs, Pt.cells, Pt.slots] at h1 h2 h3 h4 h5 X hn hPc ⊢
  obtain ⟨methY, cY, hmY, hcY, -, hlY, -, -, -, -⟩ := Cond.code_spec hn h2
  obtain ⟨kY, hkY, -⟩ := className_of_methodNamed hn
  have hinitY : kY.init = .initialized := Cond.initialized_spec (findClass_of_methodNamed hn) hkY h3
  have h : At U g.method c below := by rw [hg]; exact X.here
  have hlocals9 : W9 + (maxL + 11) + (headSpec ws rm).room.locals ≤ R.locals := hlocals
  have happ : (headSpec ws rm).appliesLoose y e.platform (U.calling g mk a) = true :=
    Spec.appliesLoose_calling (g := g) h hdg hn hkY hinitY
      (X.room_calling (g := g) (R' := (headSpec ws rm).room) hsize hmY hcY hframes (by rw [hlY]; omega) h4 h5) h1
  obtain ⟨mid, hmid⟩ := h.above
  have hfr : (U.setTop g).frames = (.java g :: mid) ++ below := by rw [State.frames_setTop' g h.top, hmid]; rfl
  obtain ⟨o, s₂, hsteps, -, hend, hq⟩ := Steps.callFree hM p X.admits X.cas X.clock (acts := []) hfr happ hPc trivial
  have hq' : vx_Q Qc XC mc ms free a (U.calling g mk a) o s₂ := hq
  rw [State.frames_setTop' g h.top] at hend
  obtain ⟨g₀, hg0⟩ := Option.isSome_iff_exists.mp h.top
  obtain ⟨r, hr⟩ := State.topJava?_eq_some.mp hg0
  have hr' : (({ U with heap := s₂.heap, slotsUsed := s₂.slotsUsed } : State).setVm s₂.vm).frames = .java g₀ :: r := hr
  rcases hq' with ⟨hqc, L, hfe, hL⟩ | ⟨q, rfl, E, ce, L, hx, hce, hcv, hcl, hW₂, hsm, hL⟩
  · obtain ⟨⟨v, rfl⟩, hW₂, e2, q2, q3, q4, q5, q6⟩ := id hfe
    have e3 : s₂ = ({ (U.calling g mk a).setFrames s₂.frames with heap := s₂.heap, slotsUsed := s₂.slotsUsed } : State).setVm s₂.vm := by
      have : s₂ = ({ s₂ with vm := (U.calling g mk a).vm } : State).setVm s₂.vm := rfl
      rw [e2] at this
      exact this
    obtain ⟨c₂, i₂, len₂, hc₂, hd₂, hf₂⟩ := hend
    have hW' : U.WarmedH s₂.vm := hW₂
    have hcc : c₂ = c := by
      have h1 : s₂.code? g.method = U.code? g.method := by
        rw [State.code?_eq, State.code?_eq, hW'.alike.method?]
      exact Option.some.inj (hc₂.symm.trans (h1.trans h.code))
    subst hcc
    have hlen : len₂ = len := by rw [hdg] at hd₂; cases hd₂; rfl
    subst hlen
    have hs₂ : s₂ = (({ U with heap := s₂.heap, slotsUsed := s₂.slotsUsed } : State).setVm s₂.vm).setTop { g with pc := g.pc + len₂, stack := v.toList ++ g.stack } := by
      refine e3.trans ?_
      rw [hf₂, State.calling_eq h.top, State.setFrames_setFrames, State.setTop_of_frames _ hr', hr]
      rfl
    have hsame : U.sameButNew ({ U with heap := s₂.heap, slotsUsed := s₂.slotsUsed } : State) L mc ms := by
      refine ⟨?_, q2, q3, q4, q5, q6⟩
      obtain ⟨t, ht, -⟩ := State.frames_cons hr
      show ({ U with heap := s₂.heap, slotsUsed := s₂.slotsUsed } : State) = { U.setFrames U.frames with heap := s₂.heap, slotsUsed := s₂.slotsUsed }
      rw [State.setFrames_self ht]
    subst hg
    refine Or.inl ⟨v, ⟨(({ U with heap := s₂.heap, slotsUsed := s₂.slotsUsed } : State).setVm s₂.vm), Ls ++ L, c0 + mc, s0 + ms⟩,
      ⟨X.admits, X.cas, X.clock, X.frames, X.room, X.hears, X.method, X.code, (X.here.setHeapUsed s₂.heap s₂.slotsUsed).setVm hW'.alike, X.tail, State.WarmedH.trans X.warmed hW', X.limits, X.bytes, X.same.trans (hsame.setVm s.vm)⟩,
      ⟨g, mk, s₂, L, rfl, rfl, hqc, rfl, hL, rfl, rfl⟩, ?_⟩
    show Steps p.tables e below _ ((({ U with heap := s₂.heap, slotsUsed := s₂.slotsUsed } : State).setVm s₂.vm).setTop { g with pc := g.pc + len₂, stack := v.toList ++ g.stack })
    rw [← hs₂]
    exact hsteps
  · obtain ⟨e2, q2, q3, q4, q5, q6⟩ := id hsm
    have e3 : s₂ = ({ (U.calling g mk a).setFrames s₂.frames with heap := s₂.heap, slotsUsed := s₂.slotsUsed } : State).setVm s₂.vm := by
      have : s₂ = ({ s₂ with vm := (U.calling g mk a).vm } : State).setVm s₂.vm := rfl
      rw [e2] at this
      exact this
    have hf₂ : s₂.frames = .throwing q :: .java g :: U.frames.tail := hend
    have hW' : U.WarmedH s₂.vm := hW₂
    have hs₂ : s₂ = ((({ U with heap := s₂.heap, slotsUsed := s₂.slotsUsed } : State).setVm s₂.vm).setTop g).pushFrame (.throwing q) := by
      refine e3.trans ?_
      rw [hf₂, State.calling_eq h.top, State.setFrames_setFrames, State.pushFrame, State.frames_setTop _ hr', State.setTop_of_frames _ hr', State.setFrames_setFrames, hr]
      rfl
    have hsame : U.sameButNew ({ U with heap := s₂.heap, slotsUsed := s₂.slotsUsed } : State) L mc ms := by
      refine ⟨?_, q2, q3, q4, q5, q6⟩
      obtain ⟨t, ht, -⟩ := State.frames_cons hr
      show ({ U with heap := s₂.heap, slotsUsed := s₂.slotsUsed } : State) = { U.setFrames U.frames with heap := s₂.heap, slotsUsed := s₂.slotsUsed }
      rw [State.setFrames_self ht]
    subst hg
    refine Or.inr ⟨q, ⟨(({ U with heap := s₂.heap, slotsUsed := s₂.slotsUsed } : State).setVm s₂.vm), Ls ++ L, c0 + mc, s0 + ms⟩,
      ⟨X.admits, X.cas, X.clock, X.frames, X.room, X.hears, X.method, X.code, (X.here.setHeapUsed s₂.heap s₂.slotsUsed).setVm hW'.alike, X.tail, State.WarmedH.trans X.warmed hW', X.limits, X.bytes, X.same.trans (hsame.setVm s.vm)⟩,
      ⟨g, mk, s₂, L, E, ce, rfl, rfl, hx, hce, hcv, hcl, rfl, hL, rfl, rfl⟩, ?_⟩
    show Steps p.tables e below _ (((({ U with heap := s₂.heap, slotsUsed := s₂.slotsUsed } : State).setVm s₂.vm).setTop g).pushFrame (.throwing q))
    rw [← hs₂]
    exact hsteps
end Payer
section Calls
variable {p : Program} {l : Launch} {e : Env} {R : Room} {s : State} {m : MethodId} {args : Array Value} {below : List Frame} {meth : Method} {c : Code} {T : State} {locs : List Loc} {cells slots : Nat}
theorem vx_callV (X : Stand p l e R s m args below meth c T locs cells slots) (hexec : p.tables.exec = Jvm.exec) {own C : String} {index : Nat} {y : MethodName} {bytes : ByteArray} {maxL : Nat} {ret : Option FieldType}
    (hown : s.vm.findClass own = some m.cls) (hlink : (Cond.methodLink own index y).before args s = true) (hinst : (Cond.instanceMethod y).before args s = true) (hsel : (Cond.selects C y y).before args s = true)
    (hcode : (Cond.code y bytes maxL ret).before args s = true) (hy : y.cls ≠ "java/lang/invoke/MethodHandle" ∧ y.cls ≠ "java/lang/invoke/VarHandle")
    {W9 : Nat} {Pre : Pt → Array Value → Prop} {Post : Pt → Array Value → Option Value → Pt → Prop} {PostX : Pt → Array Value → Addr → Pt → Prop} (hK : vx_Back l R p e below s args y 3 W9 Pre Post PostX)
    {b : Addr} {cellB : Cell} (hcell : T.heap[b]? = some cellB) (hobj : cellB.vm.isStatics = false) (hcls : s.vm.findClass C = some cellB.cls)
    {g : JFrame} (hg : g.method = m) (hsize : g.locals.size = c.maxLocals) {argsL rest : List Value} (hlen : ∀ sig, parseMethodDescriptor y.desc = some sig → argsL.length = sig.parameters.length)
    (hstack : g.stack = argsL.reverse ++ .ref b :: rest) (hW : 2 * g.monitorRoom + (rest.map fun v => v.category).sum ≤ W9) (hdg : decode c.code g.pc = .ok (.invokevirtual index, 3))
    (hpre : ∀ vm₁, s.WarmedH vm₁ → Pre ⟨T.setVm vm₁, locs, cells, slots⟩ (Value.ref b :: argsL).toArray) :
    (∃ (v : Option Value) (vm₁ : Vm) (B : Pt), s.WarmedH vm₁ ∧ Stand p l e R s m args below meth c B.U B.locs B.cells B.slots ∧ Post ⟨T.setVm vm₁, locs, cells, slots⟩ (Value.ref b :: argsL).toArray v B ∧
      ∀ target, Steps p.tables e below (B.U.setTop { g with pc := g.pc + 3, stack := v.toList ++ rest }) target → Steps p.tables e below (T.setTop g) target) ∨
    (∃ (q : Addr) (vm₁ : Vm) (B : Pt), s.WarmedH vm₁ ∧ Stand p l e R s m args below meth c B.U B.locs B.cells B.slots ∧ PostX ⟨T.setVm vm₁, locs, cells, slots⟩ (Value.ref b :: argsL).toArray q B ∧
      Steps p.tables e below (T.setTop g) ((B.U.setTop { g with stack := rest }).pushFrame (.throwing q))) := by
  obtain ⟨mk, methM, hnamed, hmethM, hstM, habM⟩ := Cond.instanceMethod_spec hinst
  obtain ⟨methM', cM, hmethM', -, -, -, -, -, -, hsigM⟩ := Cond.code_spec hnamed hcode
  cases hmethM.symm.trans hmethM'
  obtain ⟨c2, r2, m2, q1, q2, q3, q4, kP, hkP, hkPi⟩ := Cond.selects_spec hsel
  cases hcls.symm.trans q1
  cases (State.methodFound?_of_named hnamed hy).symm.trans q2
  cases hnamed.symm.trans q3
  have hselP : selectMethod e.platform s.vm cellB.cls mk = .method mk := by rw [Launch.admits_selectMethod X.admits]; exact q4
  obtain ⟨vm₁, X₁, hstep₁⟩ := X.invokevirtual hexec hown hlink hnamed hmethM hstM hkP hkPi hy (a := b) (cell := cellB) hcell
    (fun z h => by rw [h] at hobj; cases hobj) hselP hmethM habM hkP hkPi (g := g) hg (argsL := argsL) (rest := rest) (hlen _ hsigM) hstack hdg
  rcases hK m meth c ⟨T.setVm vm₁, locs, cells, slots⟩ { g with stack := rest } (.invokevirtual index) mk (Value.ref b :: argsL).toArray X₁ hg hsize hdg hW (X₁.named hnamed) (hpre vm₁ X₁.warmed) with ⟨v, B, X', hpost, hsteps⟩ | ⟨q, B, X', hpost, hsteps⟩
  · exact Or.inl ⟨v, vm₁, B, X₁.warmed, X', hpost, fun target h => hstep₁ _ fun acts => by rw [doInvoke_state]; exact hsteps.trans h⟩
  · exact Or.inr ⟨q, vm₁, B, X₁.warmed, X', hpost, hstep₁ _ fun acts => by rw [doInvoke_state]; exact hsteps⟩
theorem vx_callS (X : Stand p l e R s m args below meth c T locs cells slots) (hexec : p.tables.exec = Jvm.exec) {own : String} {index : Nat} {y : MethodName} {bytes : ByteArray} {maxL : Nat} {ret : Option FieldType}
    (hown : s.vm.findClass own = some m.cls) (hlink : (Cond.methodLink own index y).before args s = true) (hstat : (Cond.static y).before args s = true) (hinit : (Cond.initialized y.cls).before args s = true)
    (hcode : (Cond.code y bytes maxL ret).before args s = true) (hy : y.cls ≠ "java/lang/invoke/MethodHandle" ∧ y.cls ≠ "java/lang/invoke/VarHandle")
    {W9 : Nat} {Pre : Pt → Array Value → Prop} {Post : Pt → Array Value → Option Value → Pt → Prop} {PostX : Pt → Array Value → Addr → Pt → Prop} (hK : vx_Back l R p e below s args y 3 W9 Pre Post PostX)
    {g : JFrame} (hg : g.method = m) (hsize : g.locals.size = c.maxLocals) {argsL rest : List Value} (hlen : ∀ sig, parseMethodDescriptor y.desc = some sig → argsL.length = sig.parameters.length)
    (hstack : g.stack = argsL.reverse ++ rest) (hW : 2 * g.monitorRoom + (rest.map fun v => v.category).sum ≤ W9) (hdg : decode c.code g.pc = .ok (.invokestatic index, 3))
    (hpre : ∀ vm₁, s.WarmedH vm₁ → Pre ⟨T.setVm vm₁, locs, cells, slots⟩ argsL.toArray) :
    (∃ (v : Option Value) (vm₁ : Vm) (B : Pt), s.WarmedH vm₁ ∧ Stand p l e R s m args below meth c B.U B.locs B.cells B.slots ∧ Post ⟨T.setVm vm₁, locs, cells, slots⟩ argsL.toArray v B ∧
      ∀ target, Steps p.tables e below (B.U.setTop { g with pc := g.pc + 3, stack := v.toList ++ rest }) target → Steps p.tables e below (T.setTop g) target) ∨
    (∃ (q : Addr) (vm₁ : Vm) (B : Pt), s.WarmedH vm₁ ∧ Stand p l e R s m args below meth c B.U B.locs B.cells B.slots ∧ PostX ⟨T.setVm vm₁, locs, cells, slots⟩ argsL.toArray q B ∧
      Steps p.tables e below (T.setTop g) ((B.U.setTop { g with stack := rest }).pushFrame (.throwing q))) := by
  obtain ⟨mk, hnamed⟩ := Cond.code_named hcode
  obtain ⟨methM, cM, hmethM, -, -, -, -, -, -, hsigM⟩ := Cond.code_spec hnamed hcode
  have hstatic : methM.isStatic = true := Cond.static_spec hnamed hmethM hstat
  obtain ⟨kP, hkP, -⟩ := className_of_methodNamed hnamed
  have hinitP : kP.init = .initialized := Cond.initialized_spec (findClass_of_methodNamed hnamed) hkP hinit
  obtain ⟨vm₁, X₁, hstep₁⟩ := X.invokestatic hexec hown hlink hnamed hmethM hstatic hkP hinitP hy (g := g) hg (argsL := argsL) (rest := rest) (hlen _ hsigM) hstack hdg
  rcases hK m meth c ⟨T.setVm vm₁, locs, cells, slots⟩ { g with stack := rest } (.invokestatic index) mk argsL.toArray X₁ hg hsize hdg hW (X₁.named hnamed) (hpre vm₁ X₁.warmed) with ⟨v, B, X', hpost, hsteps⟩ | ⟨q, B, X', hpost, hsteps⟩
  · exact Or.inl ⟨v, vm₁, B, X₁.warmed, X', hpost, fun target h => hstep₁ _ fun acts => by rw [doInvoke_state]; exact hsteps.trans h⟩
  · exact Or.inr ⟨q, vm₁, B, X₁.warmed, X', hpost, hstep₁ _ fun acts => by rw [doInvoke_state]; exact hsteps⟩
end Calls
theorem vx_cls {s : State} {T : State} {vm₁ : Vm} {E : String} {k : ClassId} (hW : s.WarmedH vm₁) (h : (T.setVm vm₁).vm.findClass E = some k) : s.vm.findClass E = some k := by
  have h1 : vm₁.findClass E = some k := h
  rw [hW.alike.findClass] at h1
  exact h1
/-- the method's frame g, with q thrown over it -/
def vx_W (p : Program) (l : Launch) (e : Env) (R : Room) (s : State) (m : MethodId) (args : Array Value) (below : List Frame) (meth : Method) (c : Code) (H : Heap) (locs : List Loc) (cells slots : Nat) (Q : State → Prop) (g : JFrame) (q : Addr) : Prop :=
  ∀ T : State, T.heap = H → Stand p l e R s m args below meth c T locs cells slots → ∃ t, Steps p.tables e below ((T.setTop g).pushFrame (.throwing q)) t ∧ Q t
def vx_Run (p : Program) (l : Launch) (e : Env) (R : Room) (s : State) (m : MethodId) (args : Array Value) (below : List Frame) (meth : Method) (c : Code) (H : Heap) (locs : List Loc) (cells slots mc ms : Nat) (g : JFrame) (rest : List Value) (Qa : State → Outcome → State → Prop) (XC : String → State → State → Prop) (free : Addr → Prop) : Prop :=
  ∀ T : State, T.heap = H → Stand p l e R s m args below meth c T locs cells slots →
    (∃ (v : Option Value) (st₀ t T' : State) (L : List Loc), st₀.heap = H ∧ Stand p l e R s m args below meth c T' (locs ++ L) (cells + mc) (slots + ms) ∧ (∀ q ∈ L, free q.base) ∧ T'.heap = t.heap ∧ T'.vm = t.vm ∧ Qa st₀ (.returned v) t ∧
      Goes p e below T g T' { g with pc := g.pc + 3, stack := v.toList ++ rest }) ∨
    (∃ (q : Addr) (st₀ t T' : State) (L : List Loc) (E : String) (ce : Cell), st₀.heap = H ∧ Stand p l e R s m args below meth c T' (locs ++ L) (cells + mc) (slots + ms) ∧ (∀ z ∈ L, free z.base) ∧ T'.heap = t.heap ∧ T'.vm = t.vm ∧ XC E st₀ t ∧ t.heap[q]? = some ce ∧ ce.vm = .none ∧ s.vm.findClass E = some ce.cls ∧
      Steps p.tables e below (T.setTop g) ((T'.setTop { g with stack := rest }).pushFrame (.throwing q)))
def vx_X {S : Type} (px : S → Prop) (B : String → S → State → Prop) (A : Nat → Prop) : String → State → State → Prop := fun E st t => ∃ u : S, px u ∧ B E u t ∧ va_F A st t
section Runs
variable {p : Program} {l : Launch} {e : Env} {R : Room} {s : State} {m : MethodId} {args : Array Value} {below : List Frame} {meth : Method} {c : Code} {H : Heap} {locs : List Loc} {cells slots : Nat}
variable {y : MethodName} {bytes cc : ByteArray} {maxL nL mc ms n index : Nat} {ret : Option FieldType} {ws : List Cond} {rm : Room} {Pc : Array Value → State → Prop} {Qc : Array Value → State → Outcome → State → Prop} {XC : String → State → State → Prop} {free : Addr → Prop} {Ts : List Cond} {own C : String} {b : Addr} {As rest : List Value} {g : JFrame}
theorem vx_callBack (cb : CallB R s args own index y bytes maxL ret ws rm mc ms n) (hM : vx_Met l y ws rm Pc Qc XC mc ms free) (hbl : FrameBlind Pc) : vx_Back l R p e below s args y 3 8 (PreOf R mc ms Pc) (PostOf Qc mc ms free) (vx_Post XC mc ms free) := by
  obtain ⟨hrc, hrs, hfr, hlo, hws, hcw, -, hini, -⟩ := cb
  exact vx_back (bytes := bytes) (maxL := maxL) (ret := ret) hM hbl hrc hrs hfr hlo hws hcw (fun a' U hW => word_at hW (Or.inl (by first | rfl | simp [Cond.onTables, Cond.keeps, Cond.steady])) hini)
theorem vx_runV (S : CallFix p m c cc nL s args Ts own) (hM : vx_Met l y ws rm Pc Qc XC mc ms free) (cw : CallW R s args own C index y bytes maxL ret ws rm mc ms n) (hp : PreV s H C b Pc As)
    (hg : g.method = m) (hn : As.length = n) (hsize : g.locals.size = nL) (hstack : g.stack = As.reverse ++ .ref b :: rest) (hW : 2 * g.monitorRoom + (rest.map fun v => v.category).sum ≤ 8) (hdg : decode cc g.pc = .ok (.invokevirtual index, 3)) (hf : cells + mc ≤ R.cells ∧ slots + ms ≤ R.slots) :
    vx_Run p l e R s m args below meth c H locs cells slots mc ms g rest (Qc (Value.ref b :: As).toArray) XC free := by
  have hK : vx_Back l R p e below s args y 3 8 (PreOf R mc ms Pc) (PostOf Qc mc ms free) (vx_Post XC mc ms free) := vx_callBack cw.1 hM hp.1
  obtain ⟨⟨-, -, -, -, -, -, hcode, -, hy, hlen, hl⟩, hin, hse⟩ := cw
  obtain ⟨hx, hb, hml, ho, -⟩ := S
  obtain ⟨-, ⟨cellB, hcB, hoB, hclB⟩, hPc⟩ := hp
  intro T hT X
  rcases vx_callV X hx (C := C) (bytes := bytes) (maxL := maxL) (ret := ret) ho hl hin hse hcode hy hK (by rw [hT]; exact hcB) hoB hclB hg (hsize.trans hml.symm) (argsL := As) (rest := rest) (fun sig h => hn.trans (hlen sig h)) hstack hW (by rw [hb]; exact hdg)
    (fun vm₁ hW₁ => ⟨hf.1, hf.2, hPc (T.setVm vm₁) hT hW₁⟩) with ⟨v, vm₁, ⟨U', l2, c2, s2⟩, hW₁, X', ⟨g', mk, t, L, e1, e2, hq, h1, hL, h2, h3⟩, st⟩ | ⟨q, vm₁, ⟨U', l2, c2, s2⟩, hW₁, X', ⟨g', mk, t, L, E, ce, e1, e2, hq, hce, hcv, hcl, h1, hL, h2, h3⟩, st⟩
  · dsimp only [Pt.U, Pt.locs, Pt.cells, Pt.slots] at X' e1 e2 h1 h2 h3 st
    subst h1; subst h2; subst h3
    exact Or.inl ⟨v, (T.setVm vm₁).calling g' mk (Value.ref b :: As).toArray, t, U', L, hT, X', hL, e1, e2, hq, st⟩
  · dsimp only [Pt.U, Pt.locs, Pt.cells, Pt.slots] at X' e1 e2 h1 h2 h3 st hcl
    subst h1; subst h2; subst h3
    exact Or.inr ⟨q, (T.setVm vm₁).calling g' mk (Value.ref b :: As).toArray, t, U', L, E, ce, hT, X', hL, e1, e2, hq, hce, hcv, vx_cls hW₁ hcl, st⟩
theorem vx_runS (S : CallFix p m c cc nL s args Ts own) (hM : vx_Met l y ws rm Pc Qc XC mc ms free) (cw : CallB R s args own index y bytes maxL ret ws rm mc ms n ∧ (Cond.static y).before args s = true) (hp : PreS s H Pc As)
    (hg : g.method = m) (hn : As.length = n) (hsize : g.locals.size = nL) (hstack : g.stack = As.reverse ++ rest) (hW : 2 * g.monitorRoom + (rest.map fun v => v.category).sum ≤ 8) (hdg : decode cc g.pc = .ok (.invokestatic index, 3)) (hf : cells + mc ≤ R.cells ∧ slots + ms ≤ R.slots) :
    vx_Run p l e R s m args below meth c H locs cells slots mc ms g rest (Qc As.toArray) XC free := by
  have hK : vx_Back l R p e below s args y 3 8 (PreOf R mc ms Pc) (PostOf Qc mc ms free) (vx_Post XC mc ms free) := vx_callBack cw.1 hM hp.1
  obtain ⟨⟨-, -, -, -, -, -, hcode, hini, hy, hlen, hl⟩, hstt⟩ := cw
  obtain ⟨hx, hb, hml, ho, -⟩ := S
  intro T hT X
  rcases vx_callS X hx (bytes := bytes) (maxL := maxL) (ret := ret) ho hl hstt hini hcode hy hK hg (hsize.trans hml.symm) (argsL := As) (rest := rest) (fun sig h => hn.trans (hlen sig h)) hstack hW (by rw [hb]; exact hdg)
    (fun vm₁ hW₁ => ⟨hf.1, hf.2, hp.2 (T.setVm vm₁) hT hW₁⟩) with ⟨v, vm₁, ⟨U', l2, c2, s2⟩, hW₁, X', ⟨g', mk, t, L, e1, e2, hq, h1, hL, h2, h3⟩, st⟩ | ⟨q, vm₁, ⟨U', l2, c2, s2⟩, hW₁, X', ⟨g', mk, t, L, E, ce, e1, e2, hq, hce, hcv, hcl, h1, hL, h2, h3⟩, st⟩
  · dsimp only [Pt.U, Pt.locs, Pt.cells, Pt.slots] at X' e1 e2 h1 h2 h3 st
    subst h1; subst h2; subst h3
    exact Or.inl ⟨v, (T.setVm vm₁).calling g' mk As.toArray, t, U', L, hT, X', hL, e1, e2, hq, st⟩
  · dsimp only [Pt.U, Pt.locs, Pt.cells, Pt.slots] at X' e1 e2 h1 h2 h3 st hcl
    subst h1; subst h2; subst h3
    exact Or.inr ⟨q, (T.setVm vm₁).calling g' mk As.toArray, t, U', L, E, ce, hT, X', hL, e1, e2, hq, hce, hcv, vx_cls hW₁ hcl, st⟩
end Runs
section Rows
variable {p : Program} {l : Launch} {e : Env} {R : Room} {s : State} {m : MethodId} {args : Array Value} {below : List Frame} {meth : Method} {c : Code} {H : Heap} {locs : List Loc} {cells slots : Nat} {Q : State → Prop}
variable {mc ms : Nat} {free : Addr → Prop} {A0 A1 : Nat → Prop} {H0 : Heap} {a : Array Value} {pc : Nat} {ls : Array Slot} {st0 rest : List Value}
theorem vx_keep {st₀ t T' : State} {L : List Loc} (h0 : st₀.heap = H) (e1 : T'.heap = t.heap) (hS : va_S A0 H0 H locs) (hA : ∀ q, q < H.size → A1 q → A0 q) (hf : ∀ q, free q → A0 q) (hL : ∀ q ∈ L, free q.base) (hF : va_F A1 st₀ t) :
    H.size ≤ T'.heap.size ∧ (∀ q : Nat, q < H.size → ¬ A1 q → T'.heap[q]? = H[q]?) ∧ va_S A0 H0 T'.heap (locs ++ L) := by
  obtain ⟨hz, hk⟩ := hF
  rw [h0] at hz hk
  exact ⟨by rw [e1]; exact hz, fun q h1 h2 => by rw [e1]; exact hk q h1 h2,
    ⟨Nat.le_trans hS.1 (by rw [e1]; exact hz), fun q h1 h2 => by rw [e1, hk q (Nat.lt_of_lt_of_le h1 hS.1) (fun z => h2 (hA q (Nat.lt_of_lt_of_le h1 hS.1) z))]; exact hS.2.1 q h1 h2, fun q hq => by
      rcases List.mem_append.mp hq with h | h
      · exact hS.2.2 q h
      · exact hf _ (hL q h)⟩⟩
theorem vx_calli {S SX : Type} {post : Int32 → S → Prop} {px : SX → Prop} {B : S → State → Prop} {BX : String → SX → State → Prop} {AX : Nat → Prop} (hr : vx_Run p l e R s m args below meth c H locs cells slots mc ms (F0 m pc ls st0) rest (va_Qi post B A1 a) (vx_X px BX AX) free) (hS : va_S A0 H0 H locs) (hA : ∀ q, q < H.size → A1 q → A0 q) (hf : ∀ q, free q → A0 q) (hAX : ∀ q, q < H.size → AX q → A0 q)
    (kx : ∀ (E : String) (ce : Cell) (q9 : Addr) (u : SX) (t : State) (H1 : Heap) (locs1 : List Loc), t.heap = H1 → s.vm.Alike t.vm → px u → BX E u t → H.size ≤ H1.size → (∀ q : Nat, q < H.size → ¬ AX q → H1[q]? = H[q]?) → va_S A0 H0 H1 locs1 → H1[q9]? = some ce → ce.vm = .none → s.vm.findClass E = some ce.cls → vx_W p l e R s m args below meth c H1 locs1 (cells + mc) (slots + ms) Q (F0 m pc ls rest) q9)
    (kk : ∀ (r : Int32) (u : S) (t : State) (H1 : Heap) (locs1 : List Loc), t.heap = H1 → s.vm.Alike t.vm → post r u → B u t → H.size ≤ H1.size → (∀ q : Nat, q < H.size → ¬ A1 q → H1[q]? = H[q]?) → va_S A0 H0 H1 locs1 → W p l e R s m args below meth c H1 locs1 (cells + mc) (slots + ms) Q (F0 m (pc + 3) ls (.int r :: rest))) : W p l e R s m args below meth c H locs cells slots Q (F0 m pc ls st0) := by
  intro T hT X
  rcases hr T hT X with ⟨v, st₀, t, T', L, h0, X', hL, e1, e2, ⟨⟨r, u, hv, hp, hb⟩, hF⟩, st⟩ | ⟨q, st₀, t, T', L, E, ce, h0, X', hL, e1, e2, ⟨u, hp, hb, hF⟩, hce, hcv, hcl, st⟩
  · cases hv
    obtain ⟨k1, k2, k3⟩ := vx_keep h0 e1 hS hA hf hL hF
    obtain ⟨t2, a1, b1⟩ := kk r u t T'.heap (locs ++ L) e1.symm (by rw [← e2]; exact X'.warmed.alike) hp hb k1 k2 k3 T' rfl X'
    exact ⟨t2, st t2 a1, b1⟩
  · obtain ⟨k1, k2, k3⟩ := vx_keep h0 e1 hS hAX hf hL hF
    obtain ⟨t2, a1, b1⟩ := kx E ce q u t T'.heap (locs ++ L) e1.symm (by rw [← e2]; exact X'.warmed.alike) hp hb k1 k2 k3 (by rw [e1]; exact hce) hcv hcl T' rfl X'
    exact ⟨t2, st.trans a1, b1⟩
theorem vx_calll {S SX : Type} {post : Int64 → S → Prop} {px : SX → Prop} {B : S → State → Prop} {BX : String → SX → State → Prop} {AX : Nat → Prop} (hr : vx_Run p l e R s m args below meth c H locs cells slots mc ms (F0 m pc ls st0) rest (va_Ql post B A1 a) (vx_X px BX AX) free) (hS : va_S A0 H0 H locs) (hA : ∀ q, q < H.size → A1 q → A0 q) (hf : ∀ q, free q → A0 q) (hAX : ∀ q, q < H.size → AX q → A0 q)
    (kx : ∀ (E : String) (ce : Cell) (q9 : Addr) (u : SX) (t : State) (H1 : Heap) (locs1 : List Loc), t.heap = H1 → s.vm.Alike t.vm → px u → BX E u t → H.size ≤ H1.size → (∀ q : Nat, q < H.size → ¬ AX q → H1[q]? = H[q]?) → va_S A0 H0 H1 locs1 → H1[q9]? = some ce → ce.vm = .none → s.vm.findClass E = some ce.cls → vx_W p l e R s m args below meth c H1 locs1 (cells + mc) (slots + ms) Q (F0 m pc ls rest) q9)
    (kk : ∀ (r : Int64) (u : S) (t : State) (H1 : Heap) (locs1 : List Loc), t.heap = H1 → s.vm.Alike t.vm → post r u → B u t → H.size ≤ H1.size → (∀ q : Nat, q < H.size → ¬ A1 q → H1[q]? = H[q]?) → va_S A0 H0 H1 locs1 → W p l e R s m args below meth c H1 locs1 (cells + mc) (slots + ms) Q (F0 m (pc + 3) ls (.long r :: rest))) : W p l e R s m args below meth c H locs cells slots Q (F0 m pc ls st0) := by
  intro T hT X
  rcases hr T hT X with ⟨v, st₀, t, T', L, h0, X', hL, e1, e2, ⟨⟨r, u, hv, hp, hb⟩, hF⟩, st⟩ | ⟨q, st₀, t, T', L, E, ce, h0, X', hL, e1, e2, ⟨u, hp, hb, hF⟩, hce, hcv, hcl, st⟩
  · cases hv
    obtain ⟨k1, k2, k3⟩ := vx_keep h0 e1 hS hA hf hL hF
    obtain ⟨t2, a1, b1⟩ := kk r u t T'.heap (locs ++ L) e1.symm (by rw [← e2]; exact X'.warmed.alike) hp hb k1 k2 k3 T' rfl X'
    exact ⟨t2, st t2 a1, b1⟩
  · obtain ⟨k1, k2, k3⟩ := vx_keep h0 e1 hS hAX hf hL hF
    obtain ⟨t2, a1, b1⟩ := kx E ce q u t T'.heap (locs ++ L) e1.symm (by rw [← e2]; exact X'.warmed.alike) hp hb k1 k2 k3 (by rw [e1]; exact hce) hcv hcl T' rfl X'
    exact ⟨t2, st.trans a1, b1⟩
theorem vx_callf {S SX : Type} {post : UInt32 → S → Prop} {px : SX → Prop} {B : S → State → Prop} {BX : String → SX → State → Prop} {AX : Nat → Prop} (hr : vx_Run p l e R s m args below meth c H locs cells slots mc ms (F0 m pc ls st0) rest (va_Qf post B A1 a) (vx_X px BX AX) free) (hS : va_S A0 H0 H locs) (hA : ∀ q, q < H.size → A1 q → A0 q) (hf : ∀ q, free q → A0 q) (hAX : ∀ q, q < H.size → AX q → A0 q)
    (kx : ∀ (E : String) (ce : Cell) (q9 : Addr) (u : SX) (t : State) (H1 : Heap) (locs1 : List Loc), t.heap = H1 → s.vm.Alike t.vm → px u → BX E u t → H.size ≤ H1.size → (∀ q : Nat, q < H.size → ¬ AX q → H1[q]? = H[q]?) → va_S A0 H0 H1 locs1 → H1[q9]? = some ce → ce.vm = .none → s.vm.findClass E = some ce.cls → vx_W p l e R s m args below meth c H1 locs1 (cells + mc) (slots + ms) Q (F0 m pc ls rest) q9)
    (kk : ∀ (r : UInt32) (u : S) (t : State) (H1 : Heap) (locs1 : List Loc), t.heap = H1 → s.vm.Alike t.vm → post r u → B u t → H.size ≤ H1.size → (∀ q : Nat, q < H.size → ¬ A1 q → H1[q]? = H[q]?) → va_S A0 H0 H1 locs1 → W p l e R s m args below meth c H1 locs1 (cells + mc) (slots + ms) Q (F0 m (pc + 3) ls (.float r :: rest))) : W p l e R s m args below meth c H locs cells slots Q (F0 m pc ls st0) := by
  intro T hT X
  rcases hr T hT X with ⟨v, st₀, t, T', L, h0, X', hL, e1, e2, ⟨⟨r, u, hv, hp, hb⟩, hF⟩, st⟩ | ⟨q, st₀, t, T', L, E, ce, h0, X', hL, e1, e2, ⟨u, hp, hb, hF⟩, hce, hcv, hcl, st⟩
  · cases hv
    obtain ⟨k1, k2, k3⟩ := vx_keep h0 e1 hS hA hf hL hF
    obtain ⟨t2, a1, b1⟩ := kk r u t T'.heap (locs ++ L) e1.symm (by rw [← e2]; exact X'.warmed.alike) hp hb k1 k2 k3 T' rfl X'
    exact ⟨t2, st t2 a1, b1⟩
  · obtain ⟨k1, k2, k3⟩ := vx_keep h0 e1 hS hAX hf hL hF
    obtain ⟨t2, a1, b1⟩ := kx E ce q u t T'.heap (locs ++ L) e1.symm (by rw [← e2]; exact X'.warmed.alike) hp hb k1 k2 k3 (by rw [e1]; exact hce) hcv hcl T' rfl X'
    exact ⟨t2, st.trans a1, b1⟩
theorem vx_calld {S SX : Type} {post : UInt64 → S → Prop} {px : SX → Prop} {B : S → State → Prop} {BX : String → SX → State → Prop} {AX : Nat → Prop} (hr : vx_Run p l e R s m args below meth c H locs cells slots mc ms (F0 m pc ls st0) rest (va_Qd post B A1 a) (vx_X px BX AX) free) (hS : va_S A0 H0 H locs) (hA : ∀ q, q < H.size → A1 q → A0 q) (hf : ∀ q, free q → A0 q) (hAX : ∀ q, q < H.size → AX q → A0 q)
    (kx : ∀ (E : String) (ce : Cell) (q9 : Addr) (u : SX) (t : State) (H1 : Heap) (locs1 : List Loc), t.heap = H1 → s.vm.Alike t.vm → px u → BX E u t → H.size ≤ H1.size → (∀ q : Nat, q < H.size → ¬ AX q → H1[q]? = H[q]?) → va_S A0 H0 H1 locs1 → H1[q9]? = some ce → ce.vm = .none → s.vm.findClass E = some ce.cls → vx_W p l e R s m args below meth c H1 locs1 (cells + mc) (slots + ms) Q (F0 m pc ls rest) q9)
    (kk : ∀ (r : UInt64) (u : S) (t : State) (H1 : Heap) (locs1 : List Loc), t.heap = H1 → s.vm.Alike t.vm → post r u → B u t → H.size ≤ H1.size → (∀ q : Nat, q < H.size → ¬ A1 q → H1[q]? = H[q]?) → va_S A0 H0 H1 locs1 → W p l e R s m args below meth c H1 locs1 (cells + mc) (slots + ms) Q (F0 m (pc + 3) ls (.double r :: rest))) : W p l e R s m args below meth c H locs cells slots Q (F0 m pc ls st0) := by
  intro T hT X
  rcases hr T hT X with ⟨v, st₀, t, T', L, h0, X', hL, e1, e2, ⟨⟨r, u, hv, hp, hb⟩, hF⟩, st⟩ | ⟨q, st₀, t, T', L, E, ce, h0, X', hL, e1, e2, ⟨u, hp, hb, hF⟩, hce, hcv, hcl, st⟩
  · cases hv
    obtain ⟨k1, k2, k3⟩ := vx_keep h0 e1 hS hA hf hL hF
    obtain ⟨t2, a1, b1⟩ := kk r u t T'.heap (locs ++ L) e1.symm (by rw [← e2]; exact X'.warmed.alike) hp hb k1 k2 k3 T' rfl X'
    exact ⟨t2, st t2 a1, b1⟩
  · obtain ⟨k1, k2, k3⟩ := vx_keep h0 e1 hS hAX hf hL hF
    obtain ⟨t2, a1, b1⟩ := kx E ce q u t T'.heap (locs ++ L) e1.symm (by rw [← e2]; exact X'.warmed.alike) hp hb k1 k2 k3 (by rw [e1]; exact hce) hcv hcl T' rfl X'
    exact ⟨t2, st.trans a1, b1⟩
theorem vx_callv {S SX : Type} {post : S → Prop} {px : SX → Prop} {B : S → State → Prop} {BX : String → SX → State → Prop} {AX : Nat → Prop} (hr : vx_Run p l e R s m args below meth c H locs cells slots mc ms (F0 m pc ls st0) rest (va_Qv post B A1 a) (vx_X px BX AX) free) (hS : va_S A0 H0 H locs) (hA : ∀ q, q < H.size → A1 q → A0 q) (hf : ∀ q, free q → A0 q) (hAX : ∀ q, q < H.size → AX q → A0 q)
    (kx : ∀ (E : String) (ce : Cell) (q9 : Addr) (u : SX) (t : State) (H1 : Heap) (locs1 : List Loc), t.heap = H1 → s.vm.Alike t.vm → px u → BX E u t → H.size ≤ H1.size → (∀ q : Nat, q < H.size → ¬ AX q → H1[q]? = H[q]?) → va_S A0 H0 H1 locs1 → H1[q9]? = some ce → ce.vm = .none → s.vm.findClass E = some ce.cls → vx_W p l e R s m args below meth c H1 locs1 (cells + mc) (slots + ms) Q (F0 m pc ls rest) q9)
    (kk : ∀ (u : S) (t : State) (H1 : Heap) (locs1 : List Loc), t.heap = H1 → s.vm.Alike t.vm → post u → B u t → H.size ≤ H1.size → (∀ q : Nat, q < H.size → ¬ A1 q → H1[q]? = H[q]?) → va_S A0 H0 H1 locs1 → W p l e R s m args below meth c H1 locs1 (cells + mc) (slots + ms) Q (F0 m (pc + 3) ls (rest))) : W p l e R s m args below meth c H locs cells slots Q (F0 m pc ls st0) := by
  intro T hT X
  rcases hr T hT X with ⟨v, st₀, t, T', L, h0, X', hL, e1, e2, ⟨⟨u, hv, hp, hb⟩, hF⟩, st⟩ | ⟨q, st₀, t, T', L, E, ce, h0, X', hL, e1, e2, ⟨u, hp, hb, hF⟩, hce, hcv, hcl, st⟩
  · cases hv
    obtain ⟨k1, k2, k3⟩ := vx_keep h0 e1 hS hA hf hL hF
    obtain ⟨t2, a1, b1⟩ := kk u t T'.heap (locs ++ L) e1.symm (by rw [← e2]; exact X'.warmed.alike) hp hb k1 k2 k3 T' rfl X'
    exact ⟨t2, st t2 a1, b1⟩
  · obtain ⟨k1, k2, k3⟩ := vx_keep h0 e1 hS hAX hf hL hF
    obtain ⟨t2, a1, b1⟩ := kx E ce q u t T'.heap (locs ++ L) e1.symm (by rw [← e2]; exact X'.warmed.alike) hp hb k1 k2 k3 (by rw [e1]; exact hce) hcv hcl T' rfl X'
    exact ⟨t2, st.trans a1, b1⟩
/-- caught by the row x of this method's table; the rows ahead don't take it -/
theorem vx_catch {own name : String} {E : String} {ce : Cell} {q : Addr} (hown : s.vm.findClass own = some m.cls) (pre : List ExceptionTableEntry) (x : ExceptionTableEntry) (suf : List ExceptionTableEntry) (hsplit : c.exceptionTable.toList = pre ++ x :: suf)
    (hpass : ∀ z ∈ pre, covers z pc = false ∨ (z.catchType ≠ 0 ∧ ∃ nm : String, (Cond.classLink own z.catchType nm).before args s = true ∧ va_Nc E nm s)) (hx : covers x pc = true) (h0 : x.catchType ≠ 0)
    (hlink : (Cond.classLink own x.catchType name).before args s = true) (hcast : (Cond.castable E name).before args s = true) (hcell : H[q]? = some ce) (hv : ce.vm = .none) (hcl : s.vm.findClass E = some ce.cls)
    (kk : W p l e R s m args below meth c H locs cells slots Q (F0 m x.handlerPc ls [.ref q])) : vx_W p l e R s m args below meth c H locs cells slots Q (F0 m pc ls rest) q := by
  intro T hT X
  have hpl : e.platform.magicAccessors = ({} : Platform).magicAccessors := by rw [X.admits.platform]
  obtain ⟨c3, c4, hc3, hc4, hasg⟩ := Cond.castable_spec hcast
  cases Option.some.inj (hc3.symm.trans hcl)
  obtain ⟨c5, hc5, hcl5⟩ := Cond.classLink_spec hown hlink e.platform hpl
  cases Option.some.inj (hc4.symm.trans hc5)
  obtain ⟨vm', X', st⟩ := X.thenCaughtThrough q (g := F0 m pc ls rest) rfl (Steps.refl _) (by rw [hT]; exact hcell) (by rw [hv]; rfl) (by obtain ⟨k9, h9, -⟩ := Vm.findClass_spec hcl; exact ⟨k9, h9⟩) pre x suf hsplit
    (fun z hz => by
      rcases hpass z hz with h | ⟨hz0, nm, hl1, hn1⟩
      · exact Or.inl h
      · obtain ⟨c6, hc6, hcl6⟩ := Cond.classLink_spec hown hl1 e.platform hpl
        obtain ⟨a8, b8, h1, h2, h3⟩ := hn1
        cases Option.some.inj (h1.symm.trans hcl)
        cases Option.some.inj (h2.symm.trans hc6)
        exact Or.inr ⟨hz0, _, hcl6, h3⟩) hx (Or.inr ⟨h0, c4, hcl5, hasg⟩)
  obtain ⟨t, a1, b1⟩ := kk (T.setVm vm') hT X'
  exact ⟨t, st.trans a1, b1⟩
end Rows
section Ends
variable {p : Program} {l : Launch} {e : Env} {R : Room} {s : State} {m : MethodId} {args : Array Value} {below : List Frame} {meth : Method} {c : Code} {H : Heap} {locs : List Loc} {cells slots : Nat} {Q : State → Prop}
variable {mc ms : Nat} {free : Addr → Prop} {A0 A1 : Nat → Prop} {H0 : Heap} {a : Array Value} {ls : Array Slot} {st0 rest : List Value}
variable {Qc : Array Value → State → Outcome → State → Prop} {XC : String → State → State → Prop}
/-- what a body that may throw owes at its end -/
def vx_MQ (below : List Frame) (Qc : Array Value → State → Outcome → State → Prop) (XC : String → State → State → Prop) (a : Array Value) (s : State) (mc ms : Nat) (free : Addr → Prop) : State → Prop := fun t =>
  ∃ o, t.status = .running ∧ Ended t below o ∧ vx_Q Qc XC mc ms free a s o t
theorem vx_ret {g : JFrame} {mc ms : Nat} (k : W p l e R s m args below meth c H locs cells slots (MQ below Qc args s mc ms free) g) : W p l e R s m args below meth c H locs cells slots (vx_MQ below Qc XC args s mc ms free) g := by
  intro T hT X
  obtain ⟨t, a1, o, b1, b2, b3, b4⟩ := k T hT X
  exact ⟨t, a1, o, b1, b2, Or.inl ⟨b3, b4⟩⟩
/-- not caught here: it goes on to the caller -/
theorem vx_widen {g : JFrame} {q : Addr} {k n : Nat} (h1 : cells ≤ k) (h2 : slots ≤ n) (kk : vx_W p l e R s m args below meth c H locs k n Q g q) : vx_W p l e R s m args below meth c H locs cells slots Q g q := fun T hT X => kk T hT (stand_widen X h1 h2)
theorem vx_out {pc : Nat} {E : String} {ce : Cell} {q : Addr} {mc ms : Nat} (hout : ∀ x ∈ c.exceptionTable.toList, covers x pc = false) (hlocks : meth.locks = false) (hcell : H[q]? = some ce) (hv : ce.vm = .none) (hcl : s.vm.findClass E = some ce.cls)
    (hx : ∀ t : State, t.heap = H → s.vm.Alike t.vm → XC E s t) (hf : ∀ z ∈ locs, free z.base) (hc : cells ≤ mc) (hs : slots ≤ ms) :
    vx_W p l e R s m args below meth c H locs cells slots (vx_MQ below Qc XC args s mc ms free) (F0 m pc ls rest) q := by
  intro T hT X
  obtain ⟨st1, hrun, hend, hW, hsm⟩ := X.leaveThrown q (g := F0 m pc ls rest) rfl rfl rfl hout hlocks
  have hcell9 : (T.setFrames (.throwing q :: below)).heap[q]? = some ce := by
    show T.heap[q]? = some ce
    rw [hT]; exact hcell
  exact ⟨_, st1, .threw q, hrun, hend, Or.inr ⟨q, rfl, E, ce, locs, hx _ hT hW.alike, hcell9, hv, hcl, hW, hsm.mono hc hs, hf⟩⟩
theorem vx_frame {U : State} {k n : Nat} (h : s.sameButNew ({ U with vm := s.vm } : State) locs k n) : s.heap.size ≤ U.heap.size ∧ ∀ q : Nat, q < s.heap.size → (∀ z ∈ locs, z.base ≠ q) → U.heap[q]? = s.heap[q]? := by
  obtain ⟨-, h2, -, -, -, h6⟩ := h
  refine ⟨h2, fun q hq hz => ?_⟩
  obtain ⟨c9, e1, e2, e3, e4⟩ := h6 q _ (Array.getElem?_eq_getElem hq)
  have hs : c9.slots = (s.heap[q]).slots := Array.ext_getElem? fun i => e4 i fun hm => hz _ hm rfl
  have h9 : c9 = s.heap[q] := by
    rw [hs] at e2
    exact e2
  have e5 : U.heap[q]? = some c9 := e1
  rw [e5, h9, Array.getElem?_eq_getElem hq]
/-- the words of a throw but the four that speak of the heap -/
def vx_no (w : Cond) : Bool := decide (w ≠ .isRef (.static Bundle.tN "UNASSIGNED_STACK" Bundle.steD)) && decide (w ≠ .isRef (.static Bundle.tN "SUPPRESSED_SENTINEL" Bundle.listD)) && decide (w ≠ .laysStatic Bundle.tN "UNASSIGNED_STACK" Bundle.steD) && decide (w ≠ .laysStatic Bundle.tN "SUPPRESSED_SENTINEL" Bundle.listD)
def vx_at0 (own : String) (ic : Nat) (X : String) (names : List String) : List Cond := (Bundle.ownAtoms0 own ic X names).filter vx_no
def vx_atS (own : String) (ic : Nat) (X : String) (names : List String) : List Cond := (Bundle.ownAtoms own ic X names).filter vx_no
/-- a word that the tables alone decide, or a good one -/
def vx_ot (w : Cond) : Bool := w.onTables || goodWord w
theorem vx_ot_at {args a' : Array Value} {s U : State} {w : Cond} (hW : s.WarmedH U.vm) (hvm : s.vm = U.vm) (hg : vx_ot w = true) (h : w.before args s = true) : w.before a' U = true := by
  simp only [vx_ot, Bool.or_eq_true] at hg
  rcases hg with hg | hg
  · exact va_tabs hg hvm h
  · exact word_at hW (good_of_word hg) h
/-- a list's words: the good ones out of the method's own list, the others by premises of their own -/
theorem vx_hat {args : Array Value} {s : State} {L B : List Cond} (h1 : ∀ w ∈ L.filter goodWord, w.before args s = true) (h2 : ∀ w ∈ L.filter (fun w => !goodWord w), w ∈ B) (h3 : ∀ w ∈ B, w.before args s = true) : ∀ w ∈ L, w.before args s = true := by
  intro w hw
  by_cases g : goodWord w = true
  · exact h1 w (List.mem_filter.mpr ⟨hw, g⟩)
  · refine h3 w (h2 w (List.mem_filter.mpr ⟨hw, ?_⟩))
    show (!goodWord w) = true
    cases hgw : goodWord w
    · rfl
    · exact absurd hgw g
theorem vx_c {args : Array Value} {s : State} {w : Cond} {B : List Cond} (h : w.before args s = true) (t : ∀ w ∈ B, w.before args s = true) : ∀ w' ∈ w :: B, w'.before args s = true := fun w' h' => (List.mem_cons.mp h').elim (fun e => by rw [e]; exact h) (t w')
theorem vx_n {args : Array Value} {s : State} : ∀ w ∈ ([] : List Cond), w.before args s = true := fun _ h => nomatch h
theorem vx_own {args : Array Value} {s : State} {L : List Cond} (h1 : ∀ w ∈ L.filter vx_no, w.before args s = true)
    (hU : (Cond.isRef (.static Bundle.tN "UNASSIGNED_STACK" Bundle.steD)).before args s = true) (hN : (Cond.isRef (.static Bundle.tN "SUPPRESSED_SENTINEL" Bundle.listD)).before args s = true)
    (lU : (Cond.laysStatic Bundle.tN "UNASSIGNED_STACK" Bundle.steD).before args s = true) (lN : (Cond.laysStatic Bundle.tN "SUPPRESSED_SENTINEL" Bundle.listD).before args s = true) : ∀ w ∈ L, w.before args s = true := by
  intro w hw
  by_cases e1 : w = .isRef (.static Bundle.tN "UNASSIGNED_STACK" Bundle.steD)
  · rw [e1]; exact hU
  · by_cases e2 : w = .isRef (.static Bundle.tN "SUPPRESSED_SENTINEL" Bundle.listD)
    · rw [e2]; exact hN
    · by_cases e3 : w = .laysStatic Bundle.tN "UNASSIGNED_STACK" Bundle.steD
      · rw [e3]; exact lU
      · by_cases e4 : w = .laysStatic Bundle.tN "SUPPRESSED_SENTINEL" Bundle.listD
        · rw [e4]; exact lN
        · exact h1 w (List.mem_filter.mpr ⟨hw, by unfold vx_no; rw [decide_eq_true e1, decide_eq_true e2, decide_eq_true e3, decide_eq_true e4]; rfl⟩)
/-- where a static field lies, its class's statics cell in H -/
def vx_L (C n d : String) (A : Nat → Prop) (U : State) (H : Heap) : Prop := ∃ (c : ClassId) (k : Class) (i : Nat) (f : Field) (a : Nat) (cell : Cell), U.vm.findClass C = some c ∧ U.fieldFound? C n d = some (c, k, i, f) ∧ f.isStatic = true ∧ k.statics = some a ∧ H[a]? = some cell ∧ cell.vm.isStatics = true ∧ cell.cls = c ∧ f.slot < cell.slots.size ∧ k.staticTypes[f.slot]? = some f.type ∧ ¬ A a
theorem vx_L.moved {C n d : String} {A : Nat → Prop} {u U : State} {H : Heap} (hvm : u.vm.Alike U.vm) (h : vx_L C n d A u H) : vx_L C n d A U H := by
  obtain ⟨c, k, i, f, a, cell, h1, h2, h3, h4, h5, h6, h7, h8, h9, h10⟩ := h
  obtain ⟨k', hi', he⟩ := State.fieldFound?_setVm hvm h2
  exact ⟨c, k', i, f, a, cell, by rw [hvm.findClass]; exact h1, hi', h3, by rw [he]; exact h4, h5, h6, h7, h8, by rw [he]; exact h9, h10⟩
theorem vx_L.kept {C n d : String} {A : Nat → Prop} {U : State} {H H1 : Heap} (h : vx_L C n d A U H) (hq : ∀ a : Nat, a < H.size → ¬ A a → H1[a]? = H[a]?) : vx_L C n d A U H1 := by
  obtain ⟨c, k, i, f, a, cell, h1, h2, h3, h4, h5, h6, h7, h8, h9, h10⟩ := h
  exact ⟨c, k, i, f, a, cell, h1, h2, h3, h4, by rw [hq a (Array.getElem?_eq_some_iff.mp h5).1 h10]; exact h5, h6, h7, h8, h9, h10⟩
theorem vx_L.narrow {C n d : String} {A B : Nat → Prop} {U : State} {H : Heap} (h : vx_L C n d A U H) (hAB : ∀ q, B q → A q) : vx_L C n d B U H := by
  obtain ⟨c, k, i, f, a, cell, h1, h2, h3, h4, h5, h6, h7, h8, h9, h10⟩ := h
  exact ⟨c, k, i, f, a, cell, h1, h2, h3, h4, h5, h6, h7, h8, h9, fun z => h10 (hAB _ z)⟩
theorem vx_L.word {C n d : String} {A : Nat → Prop} {s : State} {args : Array Value} (h : vx_L C n d A s s.heap) : (Cond.laysStatic C n d).before args s = true := by
  obtain ⟨c, k, i, f, a, cell, h1, h2, h3, h4, h5, h6, h7, h8, h9, -⟩ := h
  show (Cond.laysStatic C n d).holds args s none s [] = true
  exact Cond.laysStatic_of h1 h2 h3 h4 h5 h6 h7 h8 h9
/-- .. and what it holds: null or some reference -/
def vx_Zq (C n d : String) (A : Nat → Prop) (U : State) (H : Heap) : Prop := va_Zq C n d A U H ∧ vx_L C n d A U H
theorem vx_Zq.moved {C n d : String} {A : Nat → Prop} {u U : State} {H : Heap} (hvm : u.vm.Alike U.vm) (h : vx_Zq C n d A u H) : vx_Zq C n d A U H := ⟨va_Zq.moved hvm h.1, vx_L.moved hvm h.2⟩
theorem vx_Zq.kept {C n d : String} {A : Nat → Prop} {U : State} {H H1 : Heap} (h : vx_Zq C n d A U H) (hq : ∀ a : Nat, a < H.size → ¬ A a → H1[a]? = H[a]?) : vx_Zq C n d A U H1 := ⟨va_Zq.kept h.1 hq, vx_L.kept h.2 hq⟩
theorem vx_Zq.narrow {C n d : String} {A B : Nat → Prop} {U : State} {H : Heap} (h : vx_Zq C n d A U H) (hAB : ∀ q, B q → A q) : vx_Zq C n d B U H := ⟨va_Zq.narrow h.1 hAB, vx_L.narrow h.2 hAB⟩
theorem vx_Zqof {args : Array Value} {s : State} {C n d : String} {A : Nat → Prop} (hl : (Cond.laysStatic C n d).before args s = true) (hini : (Cond.initialized C).before args s = true) (h : (Cond.isRef (.static C n d)).before args s = true) (hA : ∀ a : Nat, a < s.heap.size → ¬ A a) : vx_Zq C n d A s s.heap := by
  refine ⟨va_Zqof hl hini h hA, ?_⟩
  obtain ⟨c, k, i, f, a, cell, h1, h2, h3, h4, h5, h6, h7, h8, h9⟩ := Cond.laysStatic_spec hl
  exact ⟨c, k, i, f, a, cell, h1, h2, h3, h4, h5, h6, h7, h8, h9, hA a (Array.getElem?_eq_some_iff.mp h5).1⟩
theorem vx_isRef {C n d : String} {v : Value} {A : Nat → Prop} {s : State} {args : Array Value} (h : va_Z C n d v A s s.heap) (hv : v.isRef = true) : (Cond.isRef (.static C n d)).before args s = true := by
  obtain ⟨cf, kf, fi, f, a, cell, h1, h2, h3, h4, h5, h6, h7, -⟩ := h
  have he : (Term.static C n d).eval args s none [] s = some v := by
    simp [Term.eval, State.fieldNamed?, h1, h2, h4, h5, h6, h7]
  simp only [Cond.before, Cond.holds, Cond.value, he]
  cases v <;> simp_all [Value.isRef]
theorem vx_isRefq {C n d : String} {A : Nat → Prop} {s : State} {args : Array Value} (h : va_Zq C n d A s s.heap) : (Cond.isRef (.static C n d)).before args s = true := by
  rcases h with h | ⟨t, h⟩
  · exact vx_isRef h rfl
  · exact vx_isRef h rfl
/-- the same frame, seen from here: as if the method were called anew in this heap -/
theorem vx_rebase {T : State} (X : Stand p l e R s m args below meth c T locs cells slots) {R' : Room} (hf : R'.frames ≤ R.frames) (hl : R'.locals ≤ R.locals) (hc : cells + R'.cells ≤ R.cells) (hs : slots + R'.slots ≤ R.slots) :
    Stand p l e R' ((T.setVm s.vm).setFrames (.invoking m args :: below)) m args below meth c T [] 0 0 := by
  have htop : (T.setVm s.vm).topJava?.isSome := X.here.top
  have hF : ((T.setVm s.vm).setFrames (.invoking m args :: below)).frames = .invoking m args :: below := State.frames_setFrames _ (State.cur_lt_of_top htop)
  obtain ⟨g₀, hg0⟩ := Option.isSome_iff_exists.mp htop
  obtain ⟨r, hr⟩ := State.topJava?_eq_some.mp hg0
  have hl9 : e.platform.stackLimits (T.setVm s.vm).me = e.platform.stackLimits s.me := X.limits
  have hb9 : (T.setVm s.vm).me.stackBytes = s.me.stackBytes := X.bytes
  refine ⟨X.admits, X.cas, X.clock, hF, ?_, X.hears, X.method, X.code, X.here, X.tail, X.warmed, ?_, ?_, ?_⟩
  · have h := X.room
    have hU : ((T.setVm s.vm).setFrames (.invoking m args :: below)).localsInUse = s.localsInUse := by
      rw [State.localsInUse_invoking hF (meth := meth) (c := c) X.method X.code, State.localsInUse_invoking X.frames X.method X.code]
    simp only [State.hasRoom, Bool.and_eq_true, decide_eq_true_eq] at h ⊢
    obtain ⟨⟨⟨⟨h1, h2, h3, h4, h5, h6⟩, h7⟩, h8⟩, h9⟩ := h
    rw [X.frames, List.length_cons] at h2 h3
    have q1 := X.heapSize
    have q2 := X.used
    simp only [hF, hU, List.length_cons, State.stackLimits_setFrames, State.stackBytes_setFrames, hl9, hb9]
    refine ⟨⟨⟨⟨by omega, by omega, by omega, by omega, by omega, h6⟩, ?_⟩, ?_⟩, X.book⟩
    · show T.heap.size + R'.cells ≤ e.platform.maxCells
      omega
    · show T.slotsUsed + R'.slots ≤ e.platform.maxSlots
      omega
  · rw [State.stackLimits_setFrames]; rfl
  · rw [State.stackBytes_setFrames]; rfl
  · refine ⟨?_, Nat.le_refl _, Nat.le_refl _, ?_, ?_, fun a c9 h9 => ⟨c9, h9, rfl, rfl, fun _ _ => rfl⟩⟩
    · obtain ⟨t, ht, -⟩ := State.frames_cons hr
      show T.setVm s.vm = { ((T.setVm s.vm).setFrames (.invoking m args :: below)).setFrames (T.setVm s.vm).frames with heap := T.heap, slotsUsed := T.slotsUsed }
      rw [State.setFrames_setFrames, State.setFrames_self ht]
      rfl
    · show T.slotsUsed = T.slotsUsed + ((T.heap.toList.drop T.heap.size).map (·.slots.size)).sum
      rw [List.drop_eq_nil_of_le (Nat.le_of_eq Array.length_toList)]
      rfl
    · show ((T.heap.toList.drop T.heap.size).map (·.slots.size)).sum ≤ 0
      rw [List.drop_eq_nil_of_le (Nat.le_of_eq Array.length_toList)]
      exact Nat.le_refl _
/-- 'throw new E()': new; dup; invokespecial; athrow -/
theorem vx_throw0 {cc : ByteArray} {pc : Nat} (hexec : p.tables.exec = Jvm.exec) (hb : c.code = cc) (hl : l.stackTraces = false) {own cls : String} {names : List String} {ik ic mc ms : Nat} {A : Nat → Prop}
    (hown : s.vm.findClass own = some m.cls) (hcls : Bundle.fit cls = true) (hnames : ∀ n ∈ names, Bundle.fit n = true)
    (hk : (Cond.classLink own ik cls).before args s = true) (hini : (Cond.initialized cls).before args s = true) (hat : ∀ w ∈ vx_at0 own ic cls names, w.before args s = true)
    (hgood : ∀ w ∈ Cond.classLink own ik cls :: Cond.initialized cls :: vx_at0 own ic cls names, vx_ot w = true)
    (hU : vx_Zq Bundle.tN "UNASSIGNED_STACK" Bundle.steD A s s.heap) (hN : vx_Zq Bundle.tN "SUPPRESSED_SENTINEL" Bundle.listD A s s.heap) (hS : va_S A s.heap H locs) (hsize : ls.size = c.maxLocals)
    (d0 : decode cc pc = .ok (.new ik, 3)) (d3 : decode cc (pc + 3) = .ok (.dup, 1)) (d4 : decode cc (pc + 4) = .ok (.invokespecial ic, 3)) (d7 : decode cc (pc + 7) = .ok (.athrow, 1))
    (hout : ∀ x ∈ c.exceptionTable.toList, covers x (pc + 7) = false)
    (hRframes : names.length + 3 < R.frames) (hRlocals : (rest.map fun v => v.category).sum + (13 * (names.length + 1) + 42) ≤ R.locals) (hRcells : cells + 1 ≤ R.cells) (hRslots : slots + 6 ≤ R.slots) (hlocks : meth.locks = false)
    (hx : ∀ t : State, s.vm.Alike t.vm → H.size ≤ t.heap.size → (∀ q : Nat, q < H.size → t.heap[q]? = H[q]?) → XC cls s t)
    (hf : ∀ z ∈ locs, free z.base) (hc : cells + 1 ≤ mc) (hs : slots + 6 ≤ ms) :
    W p l e R s m args below meth c H locs cells slots (vx_MQ below Qc XC args s mc ms free) (F0 m pc ls rest) := by
  intro T hT X
  have htr : e.platform.stackTraces = false := (show e.platform.stackTraces = l.stackTraces by rw [X.admits.platform]).trans hl
  have Y := vx_rebase X (R' := { frames := R.frames, locals := R.locals, cells := 1, slots := 6 }) (Nat.le_refl _) (Nat.le_refl _) hRcells hRslots
  obtain ⟨s', hA⟩ : ∃ z, z = (T.setVm s.vm).setFrames (.invoking m args :: below) := ⟨_, rfl⟩
  rw [← hA] at Y
  have hvm : s'.vm = s.vm := by rw [hA]; rfl
  have hhp : s'.heap = H := by rw [hA]; exact hT
  have hW0 : s.WarmedH s'.vm := by rw [hvm]; exact State.WarmedH.refl s
  have hat' : ∀ w ∈ vx_at0 own ic cls names, w.before args s' = true := fun w hw => vx_ot_at hW0 hvm.symm (hgood w (List.mem_cons_of_mem _ (List.mem_cons_of_mem _ hw))) (hat w hw)
  have hk' : (Cond.classLink own ik cls).before args s' = true := vx_ot_at hW0 hvm.symm (hgood _ List.mem_cons_self) hk
  have hini' : (Cond.initialized cls).before args s' = true := vx_ot_at hW0 hvm.symm (hgood _ (List.mem_cons_of_mem _ List.mem_cons_self)) hini
  have hU' : vx_Zq Bundle.tN "UNASSIGNED_STACK" Bundle.steD A s' s'.heap := by rw [hhp]; exact vx_Zq.moved hW0.alike (hU.kept hS.2.1)
  have hN' : vx_Zq Bundle.tN "SUPPRESSED_SENTINEL" Bundle.listD A s' s'.heap := by rw [hhp]; exact vx_Zq.moved hW0.alike (hN.kept hS.2.1)
  have h : ∀ w ∈ Bundle.ownAtoms0 own ic cls names, w.before args s' = true := vx_own hat' (vx_isRefq hU'.1) (vx_isRefq hN'.1) hU'.2.word hN'.2.word
  have hown' : s'.vm.findClass own = some m.cls := by rw [hvm]; exact hown
  have hins : (Cond.instantiable cls 6).before args s' = true := h _ (by simp [Bundle.ownAtoms0])
  obtain ⟨vm₁, cX, kX, hfX, hkX, -, -, X₁, st1⟩ := Y.newCold hexec (own := own) (C := cls) (index := ik) (n := 6) hown' hk' hins hini'
    (g := F0 m pc ls rest) rfl (by rw [hb]; exact d0) (Nat.le_refl _) (Nat.le_refl _)
  generalize hT1 : (T.setVm vm₁).pushCell { cls := cX, slots := kX.instanceTypes.map defaultValue, vm := .none } = T1 at X₁ st1
  have hcat : (Value.ref T.heap.size).category = 1 := rfl
  have hcellA : T1.heap[T.heap.size]? = some (freshCell cX kX) := by rw [← hT1]; exact State.heap_pushCell_size _ _
  have d3' : decode c.code (pc + 3) = .ok (.dup, 1) := by rw [hb]; exact d3
  obtain ⟨U, hsteps, hrun, hend, hW, hsame, ce, hce, hO⟩ := X₁.ctorThrow0 hexec htr (own := own) (cls := cls) (names := names) (ic := ic) hown' hcls hnames h (fun x hx => nomatch hx) hfX hkX hcellA (by rw [hhp, hT]; exact Nat.le_refl _)
    (g := { method := m, pc := pc + 4, locals := ls, stack := .ref T.heap.size :: .ref T.heap.size :: rest, locked := none }) rfl hsize rfl rfl (rest := rest) rfl
    (by rw [hb]; exact d4) (by rw [hb]; exact d7) hout hRframes (by simp only [List.map_cons, List.sum_cons, hcat]; omega) hlocks
  obtain ⟨f1, f2⟩ := vx_frame hsame
  rw [hhp] at f1 f2
  have hWs : s.WarmedH U.vm := State.WarmedH.trans hW0 hW
  have hcl : s.vm.findClass cls = some ce.cls := by
    have h9 := hO.cls
    rw [hvm] at h9
    exact h9
  have hall : s.sameButNew ({ U with vm := s.vm } : State) locs mc ms := by
    subst hA
    obtain ⟨e1, e2⟩ := hsame
    rw [State.setFrames_setFrames] at e1
    have h2 : (T.setVm s.vm).sameButNew ({ U with vm := s.vm } : State) [] (0 + 1) (0 + 6) := ⟨e1, e2⟩
    have h3 := X.same.trans h2
    rw [List.append_nil] at h3
    exact h3.mono hc hs
  refine ⟨U, ?_, .threw T.heap.size, hrun, hend, Or.inr ⟨T.heap.size, rfl, cls, ce, locs, hx U hWs.alike f1 (fun q hq => f2 q hq (fun z hz => nomatch hz)), hce, hO.vm, hcl, hWs, hall, hf⟩⟩
  refine st1 _ ?_
  show Steps p.tables e below (T1.setTop { method := m, pc := pc + 3, locals := ls, stack := .ref T.heap.size :: rest, locked := none }) _
  jvm_step X₁.here [X₁.here.top, hexec, d3', Value.category]
  exact hsteps
/-- 'throw new E("text")': new; dup; ldc; invokespecial; athrow -/
theorem vx_throwS {cc : ByteArray} {pc : Nat} (hexec : p.tables.exec = Jvm.exec) (hb : c.code = cc) (hl : l.stackTraces = false) {own cls text : String} {names : List String} {ik is ic mc ms sa : Nat} {A : Nat → Prop}
    (hown : s.vm.findClass own = some m.cls) (hcls : Bundle.fit cls = true) (hnames : ∀ n ∈ names, Bundle.fit n = true)
    (hk : (Cond.classLink own ik cls).before args s = true) (hini : (Cond.initialized cls).before args s = true) (hstr : vk_R own is text sa s) (hat : ∀ w ∈ vx_atS own ic cls names, w.before args s = true)
    (hgood : ∀ w ∈ Cond.classLink own ik cls :: Cond.initialized cls :: vx_atS own ic cls names, vx_ot w = true)
    (hU : vx_Zq Bundle.tN "UNASSIGNED_STACK" Bundle.steD A s s.heap) (hN : vx_Zq Bundle.tN "SUPPRESSED_SENTINEL" Bundle.listD A s s.heap) (hS : va_S A s.heap H locs) (hsize : ls.size = c.maxLocals)
    (d0 : decode cc pc = .ok (.new ik, 3)) (d3 : decode cc (pc + 3) = .ok (.dup, 1)) (d4 : decode cc (pc + 4) = .ok (.ldc is, 2)) (d6 : decode cc (pc + 6) = .ok (.invokespecial ic, 3)) (d9 : decode cc (pc + 9) = .ok (.athrow, 1))
    (hout : ∀ x ∈ c.exceptionTable.toList, covers x (pc + 9) = false)
    (hRframes : names.length + 3 < R.frames) (hRlocals : (rest.map fun v => v.category).sum + (13 * (names.length + 1) + 43) ≤ R.locals) (hRcells : cells + 1 ≤ R.cells) (hRslots : slots + 6 ≤ R.slots) (hlocks : meth.locks = false)
    (hx : ∀ t : State, s.vm.Alike t.vm → H.size ≤ t.heap.size → (∀ q : Nat, q < H.size → t.heap[q]? = H[q]?) → XC cls s t)
    (hf : ∀ z ∈ locs, free z.base) (hc : cells + 1 ≤ mc) (hs : slots + 6 ≤ ms) :
    W p l e R s m args below meth c H locs cells slots (vx_MQ below Qc XC args s mc ms free) (F0 m pc ls rest) := by
  intro T hT X
  have htr : e.platform.stackTraces = false := (show e.platform.stackTraces = l.stackTraces by rw [X.admits.platform]).trans hl
  have Y := vx_rebase X (R' := { frames := R.frames, locals := R.locals, cells := 1, slots := 6 }) (Nat.le_refl _) (Nat.le_refl _) hRcells hRslots
  obtain ⟨s', hA⟩ : ∃ z, z = (T.setVm s.vm).setFrames (.invoking m args :: below) := ⟨_, rfl⟩
  rw [← hA] at Y
  have hvm : s'.vm = s.vm := by rw [hA]; rfl
  have hhp : s'.heap = H := by rw [hA]; exact hT
  have hW0 : s.WarmedH s'.vm := by rw [hvm]; exact State.WarmedH.refl s
  have hat' : ∀ w ∈ vx_atS own ic cls names, w.before args s' = true := fun w hw => vx_ot_at hW0 hvm.symm (hgood w (List.mem_cons_of_mem _ (List.mem_cons_of_mem _ hw))) (hat w hw)
  have hk' : (Cond.classLink own ik cls).before args s' = true := vx_ot_at hW0 hvm.symm (hgood _ List.mem_cons_self) hk
  have hini' : (Cond.initialized cls).before args s' = true := vx_ot_at hW0 hvm.symm (hgood _ (List.mem_cons_of_mem _ List.mem_cons_self)) hini
  have hU' : vx_Zq Bundle.tN "UNASSIGNED_STACK" Bundle.steD A s' s'.heap := by rw [hhp]; exact vx_Zq.moved hW0.alike (hU.kept hS.2.1)
  have hN' : vx_Zq Bundle.tN "SUPPRESSED_SENTINEL" Bundle.listD A s' s'.heap := by rw [hhp]; exact vx_Zq.moved hW0.alike (hN.kept hS.2.1)
  have h : ∀ w ∈ Bundle.ownAtoms own ic cls names, w.before args s' = true := vx_own hat' (vx_isRefq hU'.1) (vx_isRefq hN'.1) hU'.2.word hN'.2.word
  have hown' : s'.vm.findClass own = some m.cls := by rw [hvm]; exact hown
  have hins : (Cond.instantiable cls 6).before args s' = true := h _ (by simp [Bundle.ownAtoms])
  obtain ⟨vm₁, cX, kX, hfX, hkX, -, -, X₁, st1⟩ := Y.newCold hexec (own := own) (C := cls) (index := ik) (n := 6) hown' hk' hins hini'
    (g := F0 m pc ls rest) rfl (by rw [hb]; exact d0) (Nat.le_refl _) (Nat.le_refl _)
  generalize hT1 : (T.setVm vm₁).pushCell { cls := cX, slots := kX.instanceTypes.map defaultValue, vm := .none } = T1 at X₁ st1
  have hcat : (Value.ref T.heap.size).category = 1 := rfl
  have hcellA : T1.heap[T.heap.size]? = some (freshCell cX kX) := by rw [← hT1]; exact State.heap_pushCell_size _ _
  have d3' : decode c.code (pc + 3) = .ok (.dup, 1) := by rw [hb]; exact d3
  have d4' : decode c.code (pc + 4) = .ok (.ldc is, 2) := by rw [hb]; exact d4
  have hstr' : vk_R own is text sa s' := vk_R.warm hW0 hstr
  obtain ⟨U, hsteps, hrun, hend, hW, hsame, ce, hce, hO⟩ := X₁.ctorThrowS hexec htr (own := own) (cls := cls) (names := names) (ic := ic) hown' hcls hnames h (fun x hx => nomatch hx) hfX hkX hcellA (by rw [hhp, hT]; exact Nat.le_refl _) (msg := .ref sa) rfl
    (g := { method := m, pc := pc + 6, locals := ls, stack := .ref sa :: .ref T.heap.size :: .ref T.heap.size :: rest, locked := none }) rfl hsize rfl rfl (rest := rest) rfl
    (by rw [hb]; exact d6) (by rw [hb]; exact d9) hout hRframes (by simp only [List.map_cons, List.sum_cons, hcat]; omega) hlocks
  obtain ⟨f1, f2⟩ := vx_frame hsame
  rw [hhp] at f1 f2
  have hWs : s.WarmedH U.vm := State.WarmedH.trans hW0 hW
  have hcl : s.vm.findClass cls = some ce.cls := by
    have h9 := hO.cls
    rw [hvm] at h9
    exact h9
  have hall : s.sameButNew ({ U with vm := s.vm } : State) locs mc ms := by
    subst hA
    obtain ⟨e1, e2⟩ := hsame
    rw [State.setFrames_setFrames] at e1
    have h2 : (T.setVm s.vm).sameButNew ({ U with vm := s.vm } : State) [] (0 + 1) (0 + 6) := ⟨e1, e2⟩
    have h3 := X.same.trans h2
    rw [List.append_nil] at h3
    exact h3.mono hc hs
  refine ⟨U, ?_, .threw T.heap.size, hrun, hend, Or.inr ⟨T.heap.size, rfl, cls, ce, locs, hx U hWs.alike f1 (fun q hq => f2 q hq (fun z hz => nomatch hz)), hce, hO.vm, hcl, hWs, hall, hf⟩⟩
  refine st1 _ ?_
  show Steps p.tables e below (T1.setTop { method := m, pc := pc + 3, locals := ls, stack := .ref T.heap.size :: rest, locked := none }) _
  jvm_step X₁.here [X₁.here.top, hexec, d3', Value.category]
  exact X₁.ldcString hexec (own := own) (text := text) (index := is) (a := sa) hown' hstr'.1 hstr'.2
    (g := { method := m, pc := pc + 4, locals := ls, stack := .ref T.heap.size :: .ref T.heap.size :: rest, locked := none }) rfl d4' _ hsteps
/-- 'throw new E("text")', the text by a wide index -/
theorem vx_throwSW {cc : ByteArray} {pc : Nat} (hexec : p.tables.exec = Jvm.exec) (hb : c.code = cc) (hl : l.stackTraces = false) {own cls text : String} {names : List String} {ik is ic mc ms sa : Nat} {A : Nat → Prop}
    (hown : s.vm.findClass own = some m.cls) (hcls : Bundle.fit cls = true) (hnames : ∀ n ∈ names, Bundle.fit n = true)
    (hk : (Cond.classLink own ik cls).before args s = true) (hini : (Cond.initialized cls).before args s = true) (hstr : vk_R own is text sa s) (hat : ∀ w ∈ vx_atS own ic cls names, w.before args s = true)
    (hgood : ∀ w ∈ Cond.classLink own ik cls :: Cond.initialized cls :: vx_atS own ic cls names, vx_ot w = true)
    (hU : vx_Zq Bundle.tN "UNASSIGNED_STACK" Bundle.steD A s s.heap) (hN : vx_Zq Bundle.tN "SUPPRESSED_SENTINEL" Bundle.listD A s s.heap) (hS : va_S A s.heap H locs) (hsize : ls.size = c.maxLocals)
    (d0 : decode cc pc = .ok (.new ik, 3)) (d3 : decode cc (pc + 3) = .ok (.dup, 1)) (d4 : decode cc (pc + 4) = .ok (.ldc_w is, 3)) (d7 : decode cc (pc + 7) = .ok (.invokespecial ic, 3)) (d10 : decode cc (pc + 10) = .ok (.athrow, 1))
    (hout : ∀ x ∈ c.exceptionTable.toList, covers x (pc + 10) = false)
    (hRframes : names.length + 3 < R.frames) (hRlocals : (rest.map fun v => v.category).sum + (13 * (names.length + 1) + 43) ≤ R.locals) (hRcells : cells + 1 ≤ R.cells) (hRslots : slots + 6 ≤ R.slots) (hlocks : meth.locks = false)
    (hx : ∀ t : State, s.vm.Alike t.vm → H.size ≤ t.heap.size → (∀ q : Nat, q < H.size → t.heap[q]? = H[q]?) → XC cls s t)
    (hf : ∀ z ∈ locs, free z.base) (hc : cells + 1 ≤ mc) (hs : slots + 6 ≤ ms) :
    W p l e R s m args below meth c H locs cells slots (vx_MQ below Qc XC args s mc ms free) (F0 m pc ls rest) := by
  intro T hT X
  have htr : e.platform.stackTraces = false := (show e.platform.stackTraces = l.stackTraces by rw [X.admits.platform]).trans hl
  have Y := vx_rebase X (R' := { frames := R.frames, locals := R.locals, cells := 1, slots := 6 }) (Nat.le_refl _) (Nat.le_refl _) hRcells hRslots
  obtain ⟨s', hA⟩ : ∃ z, z = (T.setVm s.vm).setFrames (.invoking m args :: below) := ⟨_, rfl⟩
  rw [← hA] at Y
  have hvm : s'.vm = s.vm := by rw [hA]; rfl
  have hhp : s'.heap = H := by rw [hA]; exact hT
  have hW0 : s.WarmedH s'.vm := by rw [hvm]; exact State.WarmedH.refl s
  have hat' : ∀ w ∈ vx_atS own ic cls names, w.before args s' = true := fun w hw => vx_ot_at hW0 hvm.symm (hgood w (List.mem_cons_of_mem _ (List.mem_cons_of_mem _ hw))) (hat w hw)
  have hk' : (Cond.classLink own ik cls).before args s' = true := vx_ot_at hW0 hvm.symm (hgood _ List.mem_cons_self) hk
  have hini' : (Cond.initialized cls).before args s' = true := vx_ot_at hW0 hvm.symm (hgood _ (List.mem_cons_of_mem _ List.mem_cons_self)) hini
  have hU' : vx_Zq Bundle.tN "UNASSIGNED_STACK" Bundle.steD A s' s'.heap := by rw [hhp]; exact vx_Zq.moved hW0.alike (hU.kept hS.2.1)
  have hN' : vx_Zq Bundle.tN "SUPPRESSED_SENTINEL" Bundle.listD A s' s'.heap := by rw [hhp]; exact vx_Zq.moved hW0.alike (hN.kept hS.2.1)
  have h : ∀ w ∈ Bundle.ownAtoms own ic cls names, w.before args s' = true := vx_own hat' (vx_isRefq hU'.1) (vx_isRefq hN'.1) hU'.2.word hN'.2.word
  have hown' : s'.vm.findClass own = some m.cls := by rw [hvm]; exact hown
  have hins : (Cond.instantiable cls 6).before args s' = true := h _ (by simp [Bundle.ownAtoms])
  obtain ⟨vm₁, cX, kX, hfX, hkX, -, -, X₁, st1⟩ := Y.newCold hexec (own := own) (C := cls) (index := ik) (n := 6) hown' hk' hins hini'
    (g := F0 m pc ls rest) rfl (by rw [hb]; exact d0) (Nat.le_refl _) (Nat.le_refl _)
  generalize hT1 : (T.setVm vm₁).pushCell { cls := cX, slots := kX.instanceTypes.map defaultValue, vm := .none } = T1 at X₁ st1
  have hcat : (Value.ref T.heap.size).category = 1 := rfl
  have hcellA : T1.heap[T.heap.size]? = some (freshCell cX kX) := by rw [← hT1]; exact State.heap_pushCell_size _ _
  have d3' : decode c.code (pc + 3) = .ok (.dup, 1) := by rw [hb]; exact d3
  have d4' : decode c.code (pc + 4) = .ok (.ldc_w is, 3) := by rw [hb]; exact d4
  have hstr' : vk_R own is text sa s' := vk_R.warm hW0 hstr
  obtain ⟨U, hsteps, hrun, hend, hW, hsame, ce, hce, hO⟩ := X₁.ctorThrowS hexec htr (own := own) (cls := cls) (names := names) (ic := ic) hown' hcls hnames h (fun x hx => nomatch hx) hfX hkX hcellA (by rw [hhp, hT]; exact Nat.le_refl _) (msg := .ref sa) rfl
    (g := { method := m, pc := pc + 7, locals := ls, stack := .ref sa :: .ref T.heap.size :: .ref T.heap.size :: rest, locked := none }) rfl hsize rfl rfl (rest := rest) rfl
    (by rw [hb]; exact d7) (by rw [hb]; exact d10) hout hRframes (by simp only [List.map_cons, List.sum_cons, hcat]; omega) hlocks
  obtain ⟨f1, f2⟩ := vx_frame hsame
  rw [hhp] at f1 f2
  have hWs : s.WarmedH U.vm := State.WarmedH.trans hW0 hW
  have hcl : s.vm.findClass cls = some ce.cls := by
    have h9 := hO.cls
    rw [hvm] at h9
    exact h9
  have hall : s.sameButNew ({ U with vm := s.vm } : State) locs mc ms := by
    subst hA
    obtain ⟨e1, e2⟩ := hsame
    rw [State.setFrames_setFrames] at e1
    have h2 : (T.setVm s.vm).sameButNew ({ U with vm := s.vm } : State) [] (0 + 1) (0 + 6) := ⟨e1, e2⟩
    have h3 := X.same.trans h2
    rw [List.append_nil] at h3
    exact h3.mono hc hs
  refine ⟨U, ?_, .threw T.heap.size, hrun, hend, Or.inr ⟨T.heap.size, rfl, cls, ce, locs, hx U hWs.alike f1 (fun q hq => f2 q hq (fun z hz => nomatch hz)), hce, hO.vm, hcl, hWs, hall, hf⟩⟩
  refine st1 _ ?_
  show Steps p.tables e below (T1.setTop { method := m, pc := pc + 3, locals := ls, stack := .ref T.heap.size :: rest, locked := none }) _
  jvm_step X₁.here [X₁.here.top, hexec, d3', Value.category]
  exact X₁.ldcStringW hexec (own := own) (text := text) (index := is) (a := sa) hown' hstr'.1 hstr'.2
    (g := { method := m, pc := pc + 4, locals := ls, stack := .ref T.heap.size :: .ref T.heap.size :: rest, locked := none }) rfl d4' _ hsteps
end Ends
section Bodies
variable {l : Launch}
theorem vx_ofW {y : MethodName} {ws ws' : List Cond} {rm : Room} {Pc : Array Value → State → Prop} {Qc : Array Value → State → Outcome → State → Prop} {XC : String → State → State → Prop} {mc ms : Nat} {free : Addr → Prop} {cc : ByteArray} {maxL : Nat} {ret : Option FieldType}
    (hy : plainName y.cls = true) (hw : ws = Cond.code y cc maxL ret :: ws')
    (body : ∀ p e s m args below meth c s₁, BodyLoose p l y (headSpec ws rm) cc maxL ret e s m args below meth c s₁ → c.maxLocals = maxL → (∀ x ∈ c.exceptionTable.toList, False) → Pc args s →
      W p l e (headSpec ws rm).room s m args below meth c s.heap [] 0 0 (vx_MQ below Qc XC args s mc ms free) (entryFrame m args maxL)) : vx_Met l y ws rm Pc Qc XC mc ms free := by
  refine MetFree.of_bodyS (code := cc) (maxLocals := maxL) (ret := ret) hy ?_ ?_
  · intro args s m h hn
    obtain ⟨meth, c, h1, h2, h3, h4, h5, h6, -, -⟩ := Cond.code_spec hn (atoms_spec (ws := ws) h _ (by rw [hw]; exact List.mem_cons_self))
    exact ⟨meth, c, h1, h2, h3, h4, h5, h6⟩
  · intro p e s m args below meth c s₁ B hml hP _
    have hh0 : s₁.heap = s.heap := by rw [B.state]; rfl
    have ht : ∀ x ∈ c.exceptionTable.toList, False := by
      obtain ⟨meth9, c9, h1, h2, -, -, -, -, h7, -⟩ := Cond.code_spec B.named (atoms_spec (ws := ws) B.pre _ (by rw [hw]; exact List.mem_cons_self))
      cases Option.some.inj (h1.symm.trans B.method)
      cases Option.some.inj (h2.symm.trans (Stand.of_body B).code)
      intro x hx
      rw [Array.isEmpty_iff.mp h7] at hx
      cases hx
    obtain ⟨t, a1, o, b1, b2, b3⟩ := body p e s m args below meth c s₁ B hml ht hP s₁ hh0 (Stand.of_body B)
    exact ⟨t, o, a1, b1, b2, b3⟩
/-- the table of a body with handlers -/
theorem vx_table {p : Program} {x y : MethodName} {S : Spec} {cc bytes : ByteArray} {maxL maxL' : Nat} {ret ret' : Option FieldType} {e : Env} {s s₁ : State} {m : MethodId} {args : Array Value} {below : List Frame} {meth : Method} {c : Code} {hh : List (Nat × Nat × Nat × Nat)}
    (B : BodyLoose p l y S cc maxL ret e s m args below meth c s₁) (h : (Cond.codeWith y bytes maxL' ret' hh).before args s = true) : c.exceptionTable.toList = tableOf hh := by
  obtain ⟨m9, meth9, c9, hn9, h1, h2, -, -, h6, -⟩ := Cond.codeWith_spec h
  cases Option.some.inj (hn9.symm.trans B.named)
  cases Option.some.inj (h1.symm.trans B.method)
  cases Option.some.inj (h2.symm.trans (Stand.of_body B).code)
  rw [← h6, table_eq]
end Bodies
end VXA
/-! ===== END ===== -/
/-! ===== BEGIN a static call of a method with an exception table ===== -/
section VXS
variable {p : Program} {l : Launch} {e : Env} {R : Room} {s : State} {m : MethodId} {args : Array Value} {below : List Frame} {meth : Method} {c : Code} {T : State} {H : Heap} {locs : List Loc} {cells slots : Nat}
abbrev vx_CSW (R : Room) (s : State) (args : Array Value) (own : String) (index : Nat) (y : MethodName) (bytes : ByteArray) (maxL : Nat) (ret : Option FieldType) (hh : List (Nat × Nat × Nat × Nat)) (ws : List Cond) (rm : Room) (mc ms n : Nat) : Prop :=
  (rm.cells = mc ∧ rm.slots = ms ∧ rm.frames + 1 ≤ R.frames ∧ 8 + (maxL + 11) + rm.locals ≤ R.locals ∧ (∀ w ∈ ws, ∀ (a' : Array Value) (U : State), s.WarmedH U.vm → w.before a' U = true) ∧ Cond.codeWith y bytes maxL ret hh ∈ ws) ∧
  (Cond.codeWith y bytes maxL ret hh).before args s = true ∧ (Cond.initialized y.cls).before args s = true ∧ (y.cls ≠ "java/lang/invoke/MethodHandle" ∧ y.cls ≠ "java/lang/invoke/VarHandle") ∧
  (∀ sig, parseMethodDescriptor y.desc = some sig → n = sig.parameters.length) ∧ (Cond.methodLink own index y).before args s = true ∧ (Cond.static y).before args s = true
theorem vx_cwSW {own : String} {index maxL mc ms : Nat} {y : MethodName} {bytes : ByteArray} {ret : Option FieldType} {hh : List (Nat × Nat × Nat × Nat)} {Ts ws ws' : List Cond} {rm : Room} (n : Nat) (ht : ∀ w ∈ Ts, w.before args s = true) (hT : GoodIn Ts (va_wsS own index y ws)) (hw : ws = Cond.codeWith y bytes maxL ret hh :: ws') (hrc : rm.cells = mc) (hrs : rm.slots = ms)
    (hd : y.cls ≠ "java/lang/invoke/MethodHandle" ∧ y.cls ≠ "java/lang/invoke/VarHandle" ∧ (parseMethodDescriptor y.desc).map (fun d => d.parameters.length) = some n) (hR : rm.frames + 1 ≤ R.frames ∧ 8 + (maxL + 11) + rm.locals ≤ R.locals) :
    vx_CSW R s args own index y bytes maxL ret hh ws rm mc ms n := by
  have ok : ∀ w ∈ va_wsS own index y ws, w.before args s = true := fun w h => ht w (hT w h).1
  have hG : GoodIn Ts ws := fun w h => hT w (by unfold va_wsS; exact List.mem_append_right _ h)
  have hc : Cond.codeWith y bytes maxL ret hh ∈ ws := by rw [hw]; exact List.mem_cons_self
  refine ⟨⟨hrc, hrs, hR.1, hR.2, pay_in ht hG, hc⟩, ht _ (hG _ hc).1, ok _ (by simp [va_wsS]), ⟨hd.1, hd.2.1⟩, fun sig h => ?_, ok _ (by simp [va_wsS]), ok _ (by simp [va_wsS])⟩
  have h2 := hd.2.2
  rw [h] at h2
  exact (Option.some.inj h2).symm
theorem vx_callSW (X : Stand p l e R s m args below meth c T locs cells slots) (hexec : p.tables.exec = Jvm.exec) {own : String} {index : Nat} {y : MethodName} {bytes : ByteArray} {maxL : Nat} {ret : Option FieldType} {hh : List (Nat × Nat × Nat × Nat)}
    (hown : s.vm.findClass own = some m.cls) (hlink : (Cond.methodLink own index y).before args s = true) (hstat : (Cond.static y).before args s = true) (hinit : (Cond.initialized y.cls).before args s = true)
    (hcode : (Cond.codeWith y bytes maxL ret hh).before args s = true) (hy : y.cls ≠ "java/lang/invoke/MethodHandle" ∧ y.cls ≠ "java/lang/invoke/VarHandle")
    {W9 : Nat} {Pre : Pt → Array Value → Prop} {Post : Pt → Array Value → Option Value → Pt → Prop} (hK : Back l R p e below s args y 3 W9 Pre Post)
    {g : JFrame} (hg : g.method = m) (hsize : g.locals.size = c.maxLocals) {argsL rest : List Value} (hlen : ∀ sig, parseMethodDescriptor y.desc = some sig → argsL.length = sig.parameters.length)
    (hstack : g.stack = argsL.reverse ++ rest) (hW : 2 * g.monitorRoom + (rest.map fun v => v.category).sum ≤ W9) (hdg : decode c.code g.pc = .ok (.invokestatic index, 3))
    (hpre : ∀ vm₁, s.WarmedH vm₁ → Pre ⟨T.setVm vm₁, locs, cells, slots⟩ argsL.toArray) :
    ∃ (v : Option Value) (vm₁ : Vm) (B : Pt), s.WarmedH vm₁ ∧ Stand p l e R s m args below meth c B.U B.locs B.cells B.slots ∧ Post ⟨T.setVm vm₁, locs, cells, slots⟩ argsL.toArray v B ∧
      ∀ target, Steps p.tables e below (B.U.setTop { g with pc := g.pc + 3, stack := v.toList ++ rest }) target → Steps p.tables e below (T.setTop g) target := by
  obtain ⟨mk, methM, cM, hnamed, hmethM, -, -, -, -, -, -, hsigM⟩ := Cond.codeWith_spec hcode
  have hstatic : methM.isStatic = true := Cond.static_spec hnamed hmethM hstat
  obtain ⟨kP, hkP, -⟩ := className_of_methodNamed hnamed
  have hinitP : kP.init = .initialized := Cond.initialized_spec (findClass_of_methodNamed hnamed) hkP hinit
  obtain ⟨vm₁, X₁, hstep₁⟩ := X.invokestatic hexec hown hlink hnamed hmethM hstatic hkP hinitP hy (g := g) hg (argsL := argsL) (rest := rest) (hlen _ hsigM) hstack hdg
  obtain ⟨v, B, X', hpost, hsteps⟩ := hK m meth c ⟨T.setVm vm₁, locs, cells, slots⟩ { g with stack := rest } (.invokestatic index) mk argsL.toArray X₁ hg hsize hdg hW (X₁.named hnamed) (hpre vm₁ X₁.warmed)
  exact ⟨v, vm₁, B, X₁.warmed, X', hpost, fun target h => hstep₁ _ fun acts => by rw [doInvoke_state]; exact hsteps.trans h⟩
theorem vx_runSW {y : MethodName} {bytes cc : ByteArray} {maxL nL mc ms n index : Nat} {ret : Option FieldType} {hh : List (Nat × Nat × Nat × Nat)} {ws : List Cond} {rm : Room} {Pc : Array Value → State → Prop} {Qc : Array Value → State → Outcome → State → Prop} {free : Addr → Prop} {Ts : List Cond} {own : String} {As rest : List Value} {g : JFrame}
    (S : CallFix p m c cc nL s args Ts own) (hM : Met l y ws rm Pc Qc mc ms free) (cw : vx_CSW R s args own index y bytes maxL ret hh ws rm mc ms n) (hp : PreS s H Pc As)
    (hg : g.method = m) (hn : As.length = n) (hsize : g.locals.size = nL) (hstack : g.stack = As.reverse ++ rest) (hW : 2 * g.monitorRoom + (rest.map fun v => v.category).sum ≤ 8) (hdg : decode cc g.pc = .ok (.invokestatic index, 3)) (hf : cells + mc ≤ R.cells ∧ slots + ms ≤ R.slots) :
    va_Run p l e R s m args below meth c H locs cells slots mc ms g rest (Qc As.toArray) (free) := by
  obtain ⟨⟨hrc, hrs, hfr, hlo, hws, hcw⟩, hcode, hini, hy, hlen, hl, hstt⟩ := cw
  have hK : Back l R p e below s args y 3 8 (PreOf R mc ms Pc) (PostOf Qc mc ms free) := va_backW (hh := hh) (bytes := bytes) (maxL := maxL) (ret := ret) hM hp.1 hrc hrs hfr hlo hws hcw (fun a' U hW => word_at hW (Or.inl (by first | rfl | simp [Cond.onTables, Cond.keeps, Cond.steady])) hini)
  obtain ⟨hx, hb, hml, ho, -⟩ := S
  intro T hT X
  obtain ⟨v, vm₁, ⟨U', l2, c2, s2⟩, hW₁, X', ⟨g', mk, t, L, e1, e2, hq, h1, hL, h2, h3⟩, st⟩ := vx_callSW X hx (hh := hh) (bytes := bytes) (maxL := maxL) (ret := ret) ho hl hstt hini hcode hy hK hg (hsize.trans hml.symm) (argsL := As) (rest := rest) (fun sig h => hn.trans (hlen sig h)) hstack hW (by rw [hb]; exact hdg)
    (fun vm₁ hW₁ => ⟨hf.1, hf.2, hp.2 (T.setVm vm₁) hT hW₁⟩)
  dsimp only [Pt.U, Pt.locs, Pt.cells, Pt.slots] at X' e1 e2 h1 h2 h3 st
  subst h1; subst h2; subst h3
  exact ⟨v, (T.setVm vm₁).calling g' mk As.toArray, t, U', L, hT, X', hL, e1, e2, hq, st⟩
/-- not caught here, past rows that name other classes: it goes on to the caller -/
theorem vx_outP {p : Program} {l : Launch} {e : Env} {R : Room} {s : State} {m : MethodId} {args : Array Value} {below : List Frame} {meth : Method} {c : Code} {H : Heap} {locs : List Loc} {cells slots : Nat} {free : Addr → Prop} {ls : Array Slot} {rest : List Value} {Qc : Array Value → State → Outcome → State → Prop} {XC : String → State → State → Prop}
    {pc : Nat} {own E : String} {ce : Cell} {q : Addr} {mc ms : Nat} (hown : s.vm.findClass own = some m.cls) (hlocks : meth.locks = false)
    (hpass : ∀ z ∈ c.exceptionTable.toList, covers z pc = false ∨ (z.catchType ≠ 0 ∧ ∃ nm : String, (Cond.classLink own z.catchType nm).before args s = true ∧ va_Nc E nm s)) (hcell : H[q]? = some ce) (hv : ce.vm = .none) (hcl : s.vm.findClass E = some ce.cls)
    (hx : ∀ t : State, t.heap = H → s.vm.Alike t.vm → XC E s t) (hf : ∀ z ∈ locs, free z.base) (hc : cells ≤ mc) (hs : slots ≤ ms) :
    vx_W p l e R s m args below meth c H locs cells slots (vx_MQ below Qc XC args s mc ms free) (F0 m pc ls rest) q := by
  intro T hT X
  have hpl : e.platform.magicAccessors = ({} : Platform).magicAccessors := by rw [X.admits.platform]
  obtain ⟨vm', hW', X', st⟩ := X.outThrough hlocks q (g := F0 m pc ls rest) rfl rfl rfl (cell := ce) (by rw [hT]; exact hcell) (by rw [hv]; rfl)
    (by obtain ⟨k9, h9, -⟩ := Vm.findClass_spec hcl; exact ⟨k9, h9⟩) (fun z hz => by
      rcases hpass z hz with h | ⟨hz0, nm, hl1, hn1⟩
      · exact Or.inl h
      · obtain ⟨c6, hc6, hcl6⟩ := Cond.classLink_spec hown hl1 e.platform hpl
        obtain ⟨a8, b8, h1, h2, h3⟩ := hn1
        cases Option.some.inj (h1.symm.trans hcl)
        cases Option.some.inj (h2.symm.trans hc6)
        exact Or.inr ⟨hz0, _, hcl6, h3⟩)
  obtain ⟨g₀, hfr⟩ := X'.frames_eq
  have hcell9 : ((T.setVm vm').setFrames (.throwing q :: below)).heap[q]? = some ce := by
    show T.heap[q]? = some ce
    rw [hT]; exact hcell
  have hend : Ended ((T.setVm vm').setFrames (.throwing q :: below)) below (.threw q) := State.frames_setFrames _ (State.cur_lt_of_frames hfr)
  refine ⟨(T.setVm vm').setFrames (.throwing q :: below), ?_, .threw q, X'.here.running, hend, Or.inr ⟨q, rfl, E, ce, locs, hx _ hT (X'.ends _).1.alike, hcell9, hv, hcl, (X'.ends _).1, (X'.ends _).2.mono hc hs, hf⟩⟩
  rw [X.pushThrowing_eq]
  exact st
/-- a thing of a world lies in the heap -/
theorem vx_lt {D : va_G} {cl : List vw_C} {ws : va_W} {H1 : Heap} (h : va_P D cl ws H1) {k : Nat} {q : Nat × va_E} (hk : ws[k]? = some q) : q.1 < H1.size := (h k q hk).lt
end VXS
/-! ===== END ===== -/
/-! ===== BEGIN methods with a table of their own: called by a name, returning or throwing ===== -/
section VXH
/-! vx_backW, vx_callVX, vx_callSX, vx_callVW, vx_runVW, vx_runVX, vx_runSX, vx_ofWH follow the same proofs as their sisters above (Free/Laws.lean, Shelf42/LK1.lean); vx_outP calls Shelf42/NT130.lean (outThrough). -/
section
variable {l : Launch} {R : Room} {p : Program} {e : Env} {below : List Frame} {s : State} {sargs : Array Value} {y : MethodName} {len W9 : Nat}
theorem vx_backW {ws : List Cond} {rm : Room} {Pc : Array Value → State → Prop} {Qc : Array Value → State → Outcome → State → Prop} {XC : String → State → State → Prop} {mc ms : Nat} {free : Addr → Prop} {bytes : ByteArray} {maxL : Nat} {ret : Option FieldType} {hh : List (Nat × Nat × Nat × Nat)}
    (hM : vx_Met l y ws rm Pc Qc XC mc ms free) (hblind : FrameBlind Pc) (hrc : rm.cells = mc) (hrs : rm.slots = ms)
    (hframes : rm.frames + 1 ≤ R.frames) (hlocals : W9 + (maxL + 11) + rm.locals ≤ R.locals)
    (hws : ∀ w ∈ ws, ∀ a' U, s.WarmedH U.vm → w.before a' U = true) (hcode : Cond.codeWith y bytes maxL ret hh ∈ ws) (hinit : ∀ a' U, s.WarmedH U.vm → (Cond.initialized y.cls).before a' U = true) :
    vx_Back l R p e below s sargs y len W9 (PreOf R mc ms Pc) (PostOf Qc mc ms free) (vx_Post XC mc ms free) := by
  intro m meth c A g ig mk a X hg hsize hdg hW hn hp
  have h1 : (headSpec ws rm).pre.before a A.U = true := atoms_intro fun w hw => hws w hw _ _ X.warmed
  have h2 : (Cond.codeWith y bytes maxL ret hh).before a A.U = true := hws _ hcode _ _ X.warmed
  have h3 : (Cond.initialized y.cls).before a A.U = true := hinit _ _ X.warmed
  have h4 : A.cells + (headSpec ws rm).room.cells ≤ R.cells := by rw [show (headSpec ws rm).room.cells = mc from hrc]; exact hp.1
  have h5 : A.slots + (headSpec ws rm).room.slots ≤ R.slots := by rw [show (headSpec ws rm).room.slots = ms from hrs]; exact hp.2.1
  have hPc : Pc a (A.U.calling g mk a) := hblind _ _ _ _ hp.2.2
  obtain ⟨U, Ls, c0, s0⟩ := A
  dsimp only [Pt.U, Pt.locs, Pt.cells, Pt.slots] at h1 h2 h3 h4 h5 X hn hPc ⊢
  obtain ⟨m9, methY, cY, hn9, hmY, hcY, -, hlY, -⟩ := Cond.codeWith_spec h2
  cases Option.some.inj (hn9.symm.trans hn)
  obtain ⟨kY, hkY, -⟩ := className_of_methodNamed hn
  have hinitY : kY.init = .initialized := Cond.initialized_spec (findClass_of_methodNamed hn) hkY h3
  have h : At U g.method c below := by rw [hg]; exact X.here
  have hlocals9 : W9 + (maxL + 11) + (headSpec ws rm).room.locals ≤ R.locals := hlocals
  have happ : (headSpec ws rm).appliesLoose y e.platform (U.calling g mk a) = true :=
    Spec.appliesLoose_calling (g := g) h hdg hn hkY hinitY
      (X.room_calling (g := g) (R' := (headSpec ws rm).room) hsize hmY hcY hframes (by rw [hlY]; omega) h4 h5) h1
  obtain ⟨mid, hmid⟩ := h.above
  have hfr : (U.setTop g).frames = (.java g :: mid) ++ below := by rw [State.frames_setTop' g h.top, hmid]; rfl
  obtain ⟨o, s₂, hsteps, -, hend, hq⟩ := Steps.callFree hM p X.admits X.cas X.clock (acts := []) hfr happ hPc trivial
  have hq' : vx_Q Qc XC mc ms free a (U.calling g mk a) o s₂ := hq
  rw [State.frames_setTop' g h.top] at hend
  obtain ⟨g₀, hg0⟩ := Option.isSome_iff_exists.mp h.top
  obtain ⟨r, hr⟩ := State.topJava?_eq_some.mp hg0
  have hr' : (({ U with heap := s₂.heap, slotsUsed := s₂.slotsUsed } : State).setVm s₂.vm).frames = .java g₀ :: r := hr
  rcases hq' with ⟨hqc, L, hfe, hL⟩ | ⟨q, rfl, E, ce, L, hx, hce, hcv, hcl, hW₂, hsm, hL⟩
  · obtain ⟨⟨v, rfl⟩, hW₂, e2, q2, q3, q4, q5, q6⟩ := id hfe
    have e3 : s₂ = ({ (U.calling g mk a).setFrames s₂.frames with heap := s₂.heap, slotsUsed := s₂.slotsUsed } : State).setVm s₂.vm := by
      have : s₂ = ({ s₂ with vm := (U.calling g mk a).vm } : State).setVm s₂.vm := rfl
      rw [e2] at this
      exact this
    obtain ⟨c₂, i₂, len₂, hc₂, hd₂, hf₂⟩ := hend
    have hW' : U.WarmedH s₂.vm := hW₂
    have hcc : c₂ = c := by
      have h1 : s₂.code? g.method = U.code? g.method := by
        rw [State.code?_eq, State.code?_eq, hW'.alike.method?]
      exact Option.some.inj (hc₂.symm.trans (h1.trans h.code))
    subst hcc
    have hlen : len₂ = len := by rw [hdg] at hd₂; cases hd₂; rfl
    subst hlen
    have hs₂ : s₂ = (({ U with heap := s₂.heap, slotsUsed := s₂.slotsUsed } : State).setVm s₂.vm).setTop { g with pc := g.pc + len₂, stack := v.toList ++ g.stack } := by
      refine e3.trans ?_
      rw [hf₂, State.calling_eq h.top, State.setFrames_setFrames, State.setTop_of_frames _ hr', hr]
      rfl
    have hsame : U.sameButNew ({ U with heap := s₂.heap, slotsUsed := s₂.slotsUsed } : State) L mc ms := by
      refine ⟨?_, q2, q3, q4, q5, q6⟩
      obtain ⟨t, ht, -⟩ := State.frames_cons hr
      show ({ U with heap := s₂.heap, slotsUsed := s₂.slotsUsed } : State) = { U.setFrames U.frames with heap := s₂.heap, slotsUsed := s₂.slotsUsed }
      rw [State.setFrames_self ht]
    subst hg
    refine Or.inl ⟨v, ⟨(({ U with heap := s₂.heap, slotsUsed := s₂.slotsUsed } : State).setVm s₂.vm), Ls ++ L, c0 + mc, s0 + ms⟩,
      ⟨X.admits, X.cas, X.clock, X.frames, X.room, X.hears, X.method, X.code, (X.here.setHeapUsed s₂.heap s₂.slotsUsed).setVm hW'.alike, X.tail, State.WarmedH.trans X.warmed hW', X.limits, X.bytes, X.same.trans (hsame.setVm s.vm)⟩,
      ⟨g, mk, s₂, L, rfl, rfl, hqc, rfl, hL, rfl, rfl⟩, ?_⟩
    show Steps p.tables e below _ ((({ U with heap := s₂.heap, slotsUsed := s₂.slotsUsed } : State).setVm s₂.vm).setTop { g with pc := g.pc + len₂, stack := v.toList ++ g.stack })
    rw [← hs₂]
    exact hsteps
  · obtain ⟨e2, q2, q3, q4, q5, q6⟩ := id hsm
    have e3 : s₂ = ({ (U.calling g mk a).setFrames s₂.frames with heap := s₂.heap, slotsUsed := s₂.slotsUsed } : State).setVm s₂.vm := by
      have : s₂ = ({ s₂ with vm := (U.calling g mk a).vm } : State).setVm s₂.vm := rfl
      rw [e2] at this
      exact this
    have hf₂ : s₂.frames = .throwing q :: .java g :: U.frames.tail := hend
    have hW' : U.WarmedH s₂.vm := hW₂
    have hs₂ : s₂ = ((({ U with heap := s₂.heap, slotsUsed := s₂.slotsUsed } : State).setVm s₂.vm).setTop g).pushFrame (.throwing q) := by
      refine e3.trans ?_
      rw [hf₂, State.calling_eq h.top, State.setFrames_setFrames, State.pushFrame, State.frames_setTop _ hr', State.setTop_of_frames _ hr', State.setFrames_setFrames, hr]
      rfl
    have hsame : U.sameButNew ({ U with heap := s₂.heap, slotsUsed := s₂.slotsUsed } : State) L mc ms := by
      refine ⟨?_, q2, q3, q4, q5, q6⟩
      obtain ⟨t, ht, -⟩ := State.frames_cons hr
      show ({ U with heap := s₂.heap, slotsUsed := s₂.slotsUsed } : State) = { U.setFrames U.frames with heap := s₂.heap, slotsUsed := s₂.slotsUsed }
      rw [State.setFrames_self ht]
    subst hg
    refine Or.inr ⟨q, ⟨(({ U with heap := s₂.heap, slotsUsed := s₂.slotsUsed } : State).setVm s₂.vm), Ls ++ L, c0 + mc, s0 + ms⟩,
      ⟨X.admits, X.cas, X.clock, X.frames, X.room, X.hears, X.method, X.code, (X.here.setHeapUsed s₂.heap s₂.slotsUsed).setVm hW'.alike, X.tail, State.WarmedH.trans X.warmed hW', X.limits, X.bytes, X.same.trans (hsame.setVm s.vm)⟩,
      ⟨g, mk, s₂, L, E, ce, rfl, rfl, hx, hce, hcv, hcl, rfl, hL, rfl, rfl⟩, ?_⟩
    show Steps p.tables e below _ (((({ U with heap := s₂.heap, slotsUsed := s₂.slotsUsed } : State).setVm s₂.vm).setTop g).pushFrame (.throwing q))
    rw [← hs₂]
    exact hsteps
end
variable {p : Program} {l : Launch} {e : Env} {R : Room} {s : State} {m : MethodId} {args : Array Value} {below : List Frame} {meth : Method} {c : Code} {T : State} {H : Heap} {locs : List Loc} {cells slots : Nat}
theorem vx_callVX (X : Stand p l e R s m args below meth c T locs cells slots) (hexec : p.tables.exec = Jvm.exec) {own C : String} {index : Nat} {y : MethodName} {bytes : ByteArray} {maxL : Nat} {ret : Option FieldType} {hh : List (Nat × Nat × Nat × Nat)}
    (hown : s.vm.findClass own = some m.cls) (hlink : (Cond.methodLink own index y).before args s = true) (hinst : (Cond.instanceMethod y).before args s = true) (hsel : (Cond.selects C y y).before args s = true)
    (hcode : (Cond.codeWith y bytes maxL ret hh).before args s = true) (hy : y.cls ≠ "java/lang/invoke/MethodHandle" ∧ y.cls ≠ "java/lang/invoke/VarHandle")
    {W9 : Nat} {Pre : Pt → Array Value → Prop} {Post : Pt → Array Value → Option Value → Pt → Prop} {PostX : Pt → Array Value → Addr → Pt → Prop} (hK : vx_Back l R p e below s args y 3 W9 Pre Post PostX)
    {b : Addr} {cellB : Cell} (hcell : T.heap[b]? = some cellB) (hobj : cellB.vm.isStatics = false) (hcls : s.vm.findClass C = some cellB.cls)
    {g : JFrame} (hg : g.method = m) (hsize : g.locals.size = c.maxLocals) {argsL rest : List Value} (hlen : ∀ sig, parseMethodDescriptor y.desc = some sig → argsL.length = sig.parameters.length)
    (hstack : g.stack = argsL.reverse ++ .ref b :: rest) (hW : 2 * g.monitorRoom + (rest.map fun v => v.category).sum ≤ W9) (hdg : decode c.code g.pc = .ok (.invokevirtual index, 3))
    (hpre : ∀ vm₁, s.WarmedH vm₁ → Pre ⟨T.setVm vm₁, locs, cells, slots⟩ (Value.ref b :: argsL).toArray) :
    (∃ (v : Option Value) (vm₁ : Vm) (B : Pt), s.WarmedH vm₁ ∧ Stand p l e R s m args below meth c B.U B.locs B.cells B.slots ∧ Post ⟨T.setVm vm₁, locs, cells, slots⟩ (Value.ref b :: argsL).toArray v B ∧
      ∀ target, Steps p.tables e below (B.U.setTop { g with pc := g.pc + 3, stack := v.toList ++ rest }) target → Steps p.tables e below (T.setTop g) target) ∨
    (∃ (q : Addr) (vm₁ : Vm) (B : Pt), s.WarmedH vm₁ ∧ Stand p l e R s m args below meth c B.U B.locs B.cells B.slots ∧ PostX ⟨T.setVm vm₁, locs, cells, slots⟩ (Value.ref b :: argsL).toArray q B ∧
      Steps p.tables e below (T.setTop g) ((B.U.setTop { g with stack := rest }).pushFrame (.throwing q))) := by
  obtain ⟨mk, methM, hnamed, hmethM, hstM, habM⟩ := Cond.instanceMethod_spec hinst
  obtain ⟨m8, methM', cM, hn8, hmethM', -, -, -, -, -, -, hsigM⟩ := Cond.codeWith_spec hcode
  cases Option.some.inj (hn8.symm.trans hnamed)
  cases hmethM.symm.trans hmethM'
  obtain ⟨c2, r2, m2, q1, q2, q3, q4, kP, hkP, hkPi⟩ := Cond.selects_spec hsel
  cases hcls.symm.trans q1
  cases (State.methodFound?_of_named hnamed hy).symm.trans q2
  cases hnamed.symm.trans q3
  have hselP : selectMethod e.platform s.vm cellB.cls mk = .method mk := by rw [Launch.admits_selectMethod X.admits]; exact q4
  obtain ⟨vm₁, X₁, hstep₁⟩ := X.invokevirtual hexec hown hlink hnamed hmethM hstM hkP hkPi hy (a := b) (cell := cellB) hcell
    (fun z h => by rw [h] at hobj; cases hobj) hselP hmethM habM hkP hkPi (g := g) hg (argsL := argsL) (rest := rest) (hlen _ hsigM) hstack hdg
  rcases hK m meth c ⟨T.setVm vm₁, locs, cells, slots⟩ { g with stack := rest } (.invokevirtual index) mk (Value.ref b :: argsL).toArray X₁ hg hsize hdg hW (X₁.named hnamed) (hpre vm₁ X₁.warmed) with ⟨v, B, X', hpost, hsteps⟩ | ⟨q, B, X', hpost, hsteps⟩
  · exact Or.inl ⟨v, vm₁, B, X₁.warmed, X', hpost, fun target h => hstep₁ _ fun acts => by rw [doInvoke_state]; exact hsteps.trans h⟩
  · exact Or.inr ⟨q, vm₁, B, X₁.warmed, X', hpost, hstep₁ _ fun acts => by rw [doInvoke_state]; exact hsteps⟩
theorem vx_callSX (X : Stand p l e R s m args below meth c T locs cells slots) (hexec : p.tables.exec = Jvm.exec) {own : String} {index : Nat} {y : MethodName} {bytes : ByteArray} {maxL : Nat} {ret : Option FieldType} {hh : List (Nat × Nat × Nat × Nat)}
    (hown : s.vm.findClass own = some m.cls) (hlink : (Cond.methodLink own index y).before args s = true) (hstat : (Cond.static y).before args s = true) (hinit : (Cond.initialized y.cls).before args s = true)
    (hcode : (Cond.codeWith y bytes maxL ret hh).before args s = true) (hy : y.cls ≠ "java/lang/invoke/MethodHandle" ∧ y.cls ≠ "java/lang/invoke/VarHandle")
    {W9 : Nat} {Pre : Pt → Array Value → Prop} {Post : Pt → Array Value → Option Value → Pt → Prop} {PostX : Pt → Array Value → Addr → Pt → Prop} (hK : vx_Back l R p e below s args y 3 W9 Pre Post PostX)
    {g : JFrame} (hg : g.method = m) (hsize : g.locals.size = c.maxLocals) {argsL rest : List Value} (hlen : ∀ sig, parseMethodDescriptor y.desc = some sig → argsL.length = sig.parameters.length)
    (hstack : g.stack = argsL.reverse ++ rest) (hW : 2 * g.monitorRoom + (rest.map fun v => v.category).sum ≤ W9) (hdg : decode c.code g.pc = .ok (.invokestatic index, 3))
    (hpre : ∀ vm₁, s.WarmedH vm₁ → Pre ⟨T.setVm vm₁, locs, cells, slots⟩ argsL.toArray) :
    (∃ (v : Option Value) (vm₁ : Vm) (B : Pt), s.WarmedH vm₁ ∧ Stand p l e R s m args below meth c B.U B.locs B.cells B.slots ∧ Post ⟨T.setVm vm₁, locs, cells, slots⟩ argsL.toArray v B ∧
      ∀ target, Steps p.tables e below (B.U.setTop { g with pc := g.pc + 3, stack := v.toList ++ rest }) target → Steps p.tables e below (T.setTop g) target) ∨
    (∃ (q : Addr) (vm₁ : Vm) (B : Pt), s.WarmedH vm₁ ∧ Stand p l e R s m args below meth c B.U B.locs B.cells B.slots ∧ PostX ⟨T.setVm vm₁, locs, cells, slots⟩ argsL.toArray q B ∧
      Steps p.tables e below (T.setTop g) ((B.U.setTop { g with stack := rest }).pushFrame (.throwing q))) := by
  obtain ⟨mk, methM, cM, hnamed, hmethM, -, -, -, -, -, -, hsigM⟩ := Cond.codeWith_spec hcode
  have hstatic : methM.isStatic = true := Cond.static_spec hnamed hmethM hstat
  obtain ⟨kP, hkP, -⟩ := className_of_methodNamed hnamed
  have hinitP : kP.init = .initialized := Cond.initialized_spec (findClass_of_methodNamed hnamed) hkP hinit
  obtain ⟨vm₁, X₁, hstep₁⟩ := X.invokestatic hexec hown hlink hnamed hmethM hstatic hkP hinitP hy (g := g) hg (argsL := argsL) (rest := rest) (hlen _ hsigM) hstack hdg
  rcases hK m meth c ⟨T.setVm vm₁, locs, cells, slots⟩ { g with stack := rest } (.invokestatic index) mk argsL.toArray X₁ hg hsize hdg hW (X₁.named hnamed) (hpre vm₁ X₁.warmed) with ⟨v, B, X', hpost, hsteps⟩ | ⟨q, B, X', hpost, hsteps⟩
  · exact Or.inl ⟨v, vm₁, B, X₁.warmed, X', hpost, fun target h => hstep₁ _ fun acts => by rw [doInvoke_state]; exact hsteps.trans h⟩
  · exact Or.inr ⟨q, vm₁, B, X₁.warmed, X', hpost, hstep₁ _ fun acts => by rw [doInvoke_state]; exact hsteps⟩
theorem vx_callVW (X : Stand p l e R s m args below meth c T locs cells slots) (hexec : p.tables.exec = Jvm.exec) {own C : String} {index : Nat} {y : MethodName} {bytes : ByteArray} {maxL : Nat} {ret : Option FieldType} {hh : List (Nat × Nat × Nat × Nat)}
    (hown : s.vm.findClass own = some m.cls) (hlink : (Cond.methodLink own index y).before args s = true) (hinst : (Cond.instanceMethod y).before args s = true) (hsel : (Cond.selects C y y).before args s = true)
    (hcode : (Cond.codeWith y bytes maxL ret hh).before args s = true) (hy : y.cls ≠ "java/lang/invoke/MethodHandle" ∧ y.cls ≠ "java/lang/invoke/VarHandle")
    {W9 : Nat} {Pre : Pt → Array Value → Prop} {Post : Pt → Array Value → Option Value → Pt → Prop} (hK : Back l R p e below s args y 3 W9 Pre Post)
    {b : Addr} {cellB : Cell} (hcell : T.heap[b]? = some cellB) (hobj : cellB.vm.isStatics = false) (hcls : s.vm.findClass C = some cellB.cls)
    {g : JFrame} (hg : g.method = m) (hsize : g.locals.size = c.maxLocals) {argsL rest : List Value} (hlen : ∀ sig, parseMethodDescriptor y.desc = some sig → argsL.length = sig.parameters.length)
    (hstack : g.stack = argsL.reverse ++ .ref b :: rest) (hW : 2 * g.monitorRoom + (rest.map fun v => v.category).sum ≤ W9) (hdg : decode c.code g.pc = .ok (.invokevirtual index, 3))
    (hpre : ∀ vm₁, s.WarmedH vm₁ → Pre ⟨T.setVm vm₁, locs, cells, slots⟩ (Value.ref b :: argsL).toArray) :
    ∃ (v : Option Value) (vm₁ : Vm) (B : Pt), s.WarmedH vm₁ ∧ Stand p l e R s m args below meth c B.U B.locs B.cells B.slots ∧ Post ⟨T.setVm vm₁, locs, cells, slots⟩ (Value.ref b :: argsL).toArray v B ∧
      ∀ target, Steps p.tables e below (B.U.setTop { g with pc := g.pc + 3, stack := v.toList ++ rest }) target → Steps p.tables e below (T.setTop g) target := by
  obtain ⟨mk, methM, hnamed, hmethM, hstM, habM⟩ := Cond.instanceMethod_spec hinst
  obtain ⟨m8, methM', cM, hn8, hmethM', -, -, -, -, -, -, hsigM⟩ := Cond.codeWith_spec hcode
  cases Option.some.inj (hn8.symm.trans hnamed)
  cases hmethM.symm.trans hmethM'
  obtain ⟨c2, r2, m2, q1, q2, q3, q4, kP, hkP, hkPi⟩ := Cond.selects_spec hsel
  cases hcls.symm.trans q1
  cases (State.methodFound?_of_named hnamed hy).symm.trans q2
  cases hnamed.symm.trans q3
  have hselP : selectMethod e.platform s.vm cellB.cls mk = .method mk := by rw [Launch.admits_selectMethod X.admits]; exact q4
  obtain ⟨vm₁, X₁, hstep₁⟩ := X.invokevirtual hexec hown hlink hnamed hmethM hstM hkP hkPi hy (a := b) (cell := cellB) hcell
    (fun z h => by rw [h] at hobj; cases hobj) hselP hmethM habM hkP hkPi (g := g) hg (argsL := argsL) (rest := rest) (hlen _ hsigM) hstack hdg
  obtain ⟨v, B, X', hpost, hsteps⟩ := hK m meth c ⟨T.setVm vm₁, locs, cells, slots⟩ { g with stack := rest } (.invokevirtual index) mk (Value.ref b :: argsL).toArray X₁ hg hsize hdg hW (X₁.named hnamed) (hpre vm₁ X₁.warmed)
  exact ⟨v, vm₁, B, X₁.warmed, X', hpost, fun target h => hstep₁ _ fun acts => by rw [doInvoke_state]; exact hsteps.trans h⟩
abbrev vx_CVW (R : Room) (s : State) (args : Array Value) (own C : String) (index : Nat) (y : MethodName) (bytes : ByteArray) (maxL : Nat) (ret : Option FieldType) (hh : List (Nat × Nat × Nat × Nat)) (ws : List Cond) (rm : Room) (mc ms n : Nat) : Prop :=
  (rm.cells = mc ∧ rm.slots = ms ∧ rm.frames + 1 ≤ R.frames ∧ 8 + (maxL + 11) + rm.locals ≤ R.locals ∧ (∀ w ∈ ws, ∀ (a' : Array Value) (U : State), s.WarmedH U.vm → w.before a' U = true) ∧ Cond.codeWith y bytes maxL ret hh ∈ ws) ∧
  (Cond.codeWith y bytes maxL ret hh).before args s = true ∧ (Cond.initialized y.cls).before args s = true ∧ (y.cls ≠ "java/lang/invoke/MethodHandle" ∧ y.cls ≠ "java/lang/invoke/VarHandle") ∧
  (∀ sig, parseMethodDescriptor y.desc = some sig → n = sig.parameters.length) ∧ (Cond.methodLink own index y).before args s = true ∧ (Cond.instanceMethod y).before args s = true ∧ (Cond.selects C y y).before args s = true
theorem vx_cwVW {own C : String} {index maxL mc ms : Nat} {y : MethodName} {bytes : ByteArray} {ret : Option FieldType} {hh : List (Nat × Nat × Nat × Nat)} {Ts ws ws' : List Cond} {rm : Room} (n : Nat) (ht : ∀ w ∈ Ts, w.before args s = true) (hT : GoodIn Ts (wsV own index C y ws)) (hw : ws = Cond.codeWith y bytes maxL ret hh :: ws') (hrc : rm.cells = mc) (hrs : rm.slots = ms)
    (hd : y.cls = C ∧ y.cls ≠ "java/lang/invoke/MethodHandle" ∧ y.cls ≠ "java/lang/invoke/VarHandle" ∧ (parseMethodDescriptor y.desc).map (fun d => d.parameters.length) = some n) (hR : rm.frames + 1 ≤ R.frames ∧ 8 + (maxL + 11) + rm.locals ≤ R.locals) :
    vx_CVW R s args own C index y bytes maxL ret hh ws rm mc ms n := by
  obtain ⟨hC, hd⟩ := hd
  subst hC
  have ok : ∀ w ∈ wsV own index y.cls y ws, w.before args s = true := fun w h => ht w (hT w h).1
  have hG : GoodIn Ts ws := fun w h => hT w (by unfold wsV; exact List.mem_append_right _ h)
  have hc : Cond.codeWith y bytes maxL ret hh ∈ ws := by rw [hw]; exact List.mem_cons_self
  refine ⟨⟨hrc, hrs, hR.1, hR.2, pay_in ht hG, hc⟩, ht _ (hG _ hc).1, ok _ (by simp [wsV]), ⟨hd.1, hd.2.1⟩, fun sig h => ?_, ok _ (by simp [wsV]), ok _ (by simp [wsV]), ok _ (by simp [wsV])⟩
  have h2 := hd.2.2
  rw [h] at h2
  exact (Option.some.inj h2).symm
theorem vx_runVW {y : MethodName} {bytes cc : ByteArray} {maxL nL mc ms n index : Nat} {ret : Option FieldType} {hh : List (Nat × Nat × Nat × Nat)} {ws : List Cond} {rm : Room} {Pc : Array Value → State → Prop} {Qc : Array Value → State → Outcome → State → Prop} {free : Addr → Prop} {Ts : List Cond} {own C : String} {b : Addr} {As rest : List Value} {g : JFrame}
    (S : CallFix p m c cc nL s args Ts own) (hM : Met l y ws rm Pc Qc mc ms free) (cw : vx_CVW R s args own C index y bytes maxL ret hh ws rm mc ms n) (hp : PreV s H C b Pc As)
    (hg : g.method = m) (hn : As.length = n) (hsize : g.locals.size = nL) (hstack : g.stack = As.reverse ++ .ref b :: rest) (hW : 2 * g.monitorRoom + (rest.map fun v => v.category).sum ≤ 8) (hdg : decode cc g.pc = .ok (.invokevirtual index, 3)) (hf : cells + mc ≤ R.cells ∧ slots + ms ≤ R.slots) :
    va_Run p l e R s m args below meth c H locs cells slots mc ms g rest (Qc (Value.ref b :: As).toArray) free := by
  obtain ⟨⟨hrc, hrs, hfr, hlo, hws, hcw⟩, hcode, hini, hy, hlen, hl, hin, hse⟩ := cw
  have hK : Back l R p e below s args y 3 8 (PreOf R mc ms Pc) (PostOf Qc mc ms free) := va_backW (hh := hh) (bytes := bytes) (maxL := maxL) (ret := ret) hM hp.1 hrc hrs hfr hlo hws hcw (fun a' U hW => word_at hW (Or.inl (by first | rfl | simp [Cond.onTables, Cond.keeps, Cond.steady])) hini)
  obtain ⟨hx, hb, hml, ho, -⟩ := S
  obtain ⟨-, ⟨cellB, hcB, hoB, hclB⟩, hPc⟩ := hp
  intro T hT X
  obtain ⟨v, vm₁, ⟨U', l2, c2, s2⟩, hW₁, X', ⟨g', mk, t, L, e1, e2, hq, h1, hL, h2, h3⟩, st⟩ := vx_callVW X hx (C := C) (hh := hh) (bytes := bytes) (maxL := maxL) (ret := ret) ho hl hin hse hcode hy hK (by rw [hT]; exact hcB) hoB hclB hg (hsize.trans hml.symm) (argsL := As) (rest := rest) (fun sig h => hn.trans (hlen sig h)) hstack hW (by rw [hb]; exact hdg)
    (fun vm₁ hW₁ => ⟨hf.1, hf.2, hPc (T.setVm vm₁) hT hW₁⟩)
  dsimp only [Pt.U, Pt.locs, Pt.cells, Pt.slots] at X' e1 e2 h1 h2 h3 st
  subst h1; subst h2; subst h3
  exact ⟨v, (T.setVm vm₁).calling g' mk (Value.ref b :: As).toArray, t, U', L, hT, X', hL, e1, e2, hq, st⟩
section
variable {y : MethodName} {bytes cc : ByteArray} {maxL nL mc ms n index : Nat} {ret : Option FieldType} {ws : List Cond} {rm : Room} {Pc : Array Value → State → Prop} {Qc : Array Value → State → Outcome → State → Prop} {XC : String → State → State → Prop} {free : Addr → Prop} {Ts : List Cond} {own C : String} {b : Addr} {As rest : List Value} {g : JFrame}
theorem vx_runVX {hh : List (Nat × Nat × Nat × Nat)} (S : CallFix p m c cc nL s args Ts own) (hM : vx_Met l y ws rm Pc Qc XC mc ms free) (cw : vx_CVW R s args own C index y bytes maxL ret hh ws rm mc ms n) (hp : PreV s H C b Pc As)
    (hg : g.method = m) (hn : As.length = n) (hsize : g.locals.size = nL) (hstack : g.stack = As.reverse ++ .ref b :: rest) (hW : 2 * g.monitorRoom + (rest.map fun v => v.category).sum ≤ 8) (hdg : decode cc g.pc = .ok (.invokevirtual index, 3)) (hf : cells + mc ≤ R.cells ∧ slots + ms ≤ R.slots) :
    vx_Run p l e R s m args below meth c H locs cells slots mc ms g rest (Qc (Value.ref b :: As).toArray) XC free := by
  obtain ⟨⟨hrc, hrs, hfr, hlo, hws, hcw⟩, hcode, hini, hy, hlen, hl, hin, hse⟩ := cw
  have hK : vx_Back l R p e below s args y 3 8 (PreOf R mc ms Pc) (PostOf Qc mc ms free) (vx_Post XC mc ms free) := vx_backW (hh := hh) (bytes := bytes) (maxL := maxL) (ret := ret) hM hp.1 hrc hrs hfr hlo hws hcw (fun a' U hW => word_at hW (Or.inl (by first | rfl | simp [Cond.onTables, Cond.keeps, Cond.steady])) hini)
  obtain ⟨hx, hb, hml, ho, -⟩ := S
  obtain ⟨-, ⟨cellB, hcB, hoB, hclB⟩, hPc⟩ := hp
  intro T hT X
  rcases vx_callVX X hx (C := C) (hh := hh) (bytes := bytes) (maxL := maxL) (ret := ret) ho hl hin hse hcode hy hK (by rw [hT]; exact hcB) hoB hclB hg (hsize.trans hml.symm) (argsL := As) (rest := rest) (fun sig h => hn.trans (hlen sig h)) hstack hW (by rw [hb]; exact hdg)
    (fun vm₁ hW₁ => ⟨hf.1, hf.2, hPc (T.setVm vm₁) hT hW₁⟩) with ⟨v, vm₁, ⟨U', l2, c2, s2⟩, hW₁, X', ⟨g', mk, t, L, e1, e2, hq, h1, hL, h2, h3⟩, st⟩ | ⟨q, vm₁, ⟨U', l2, c2, s2⟩, hW₁, X', ⟨g', mk, t, L, E, ce, e1, e2, hq, hce, hcv, hcl, h1, hL, h2, h3⟩, st⟩
  · dsimp only [Pt.U, Pt.locs, Pt.cells, Pt.slots] at X' e1 e2 h1 h2 h3 st
    subst h1; subst h2; subst h3
    exact Or.inl ⟨v, (T.setVm vm₁).calling g' mk (Value.ref b :: As).toArray, t, U', L, hT, X', hL, e1, e2, hq, st⟩
  · dsimp only [Pt.U, Pt.locs, Pt.cells, Pt.slots] at X' e1 e2 h1 h2 h3 st hcl
    subst h1; subst h2; subst h3
    exact Or.inr ⟨q, (T.setVm vm₁).calling g' mk (Value.ref b :: As).toArray, t, U', L, E, ce, hT, X', hL, e1, e2, hq, hce, hcv, vx_cls hW₁ hcl, st⟩
theorem vx_runSX {hh : List (Nat × Nat × Nat × Nat)} (S : CallFix p m c cc nL s args Ts own) (hM : vx_Met l y ws rm Pc Qc XC mc ms free) (cw : vx_CSW R s args own index y bytes maxL ret hh ws rm mc ms n) (hp : PreS s H Pc As)
    (hg : g.method = m) (hn : As.length = n) (hsize : g.locals.size = nL) (hstack : g.stack = As.reverse ++ rest) (hW : 2 * g.monitorRoom + (rest.map fun v => v.category).sum ≤ 8) (hdg : decode cc g.pc = .ok (.invokestatic index, 3)) (hf : cells + mc ≤ R.cells ∧ slots + ms ≤ R.slots) :
    vx_Run p l e R s m args below meth c H locs cells slots mc ms g rest (Qc As.toArray) XC free := by
  obtain ⟨⟨hrc, hrs, hfr, hlo, hws, hcw⟩, hcode, hini, hy, hlen, hl, hstt⟩ := cw
  have hK : vx_Back l R p e below s args y 3 8 (PreOf R mc ms Pc) (PostOf Qc mc ms free) (vx_Post XC mc ms free) := vx_backW (hh := hh) (bytes := bytes) (maxL := maxL) (ret := ret) hM hp.1 hrc hrs hfr hlo hws hcw (fun a' U hW => word_at hW (Or.inl (by first | rfl | simp [Cond.onTables, Cond.keeps, Cond.steady])) hini)
  obtain ⟨hx, hb, hml, ho, -⟩ := S
  intro T hT X
  rcases vx_callSX X hx (hh := hh) (bytes := bytes) (maxL := maxL) (ret := ret) ho hl hstt hini hcode hy hK hg (hsize.trans hml.symm) (argsL := As) (rest := rest) (fun sig h => hn.trans (hlen sig h)) hstack hW (by rw [hb]; exact hdg)
    (fun vm₁ hW₁ => ⟨hf.1, hf.2, hp.2 (T.setVm vm₁) hT hW₁⟩) with ⟨v, vm₁, ⟨U', l2, c2, s2⟩, hW₁, X', ⟨g', mk, t, L, e1, e2, hq, h1, hL, h2, h3⟩, st⟩ | ⟨q, vm₁, ⟨U', l2, c2, s2⟩, hW₁, X', ⟨g', mk, t, L, E, ce, e1, e2, hq, hce, hcv, hcl, h1, hL, h2, h3⟩, st⟩
  · dsimp only [Pt.U, Pt.locs, Pt.cells, Pt.slots] at X' e1 e2 h1 h2 h3 st
    subst h1; subst h2; subst h3
    exact Or.inl ⟨v, (T.setVm vm₁).calling g' mk As.toArray, t, U', L, hT, X', hL, e1, e2, hq, st⟩
  · dsimp only [Pt.U, Pt.locs, Pt.cells, Pt.slots] at X' e1 e2 h1 h2 h3 st hcl
    subst h1; subst h2; subst h3
    exact Or.inr ⟨q, (T.setVm vm₁).calling g' mk As.toArray, t, U', L, E, ce, hT, X', hL, e1, e2, hq, hce, hcv, vx_cls hW₁ hcl, st⟩
end
end VXH
theorem vx_ofWH {l : Launch} {y : MethodName} {ws ws' : List Cond} {rm : Room} {Pc : Array Value → State → Prop} {Qc : Array Value → State → Outcome → State → Prop} {XC : String → State → State → Prop} {mc ms : Nat} {free : Addr → Prop} {cc : ByteArray} {maxL : Nat} {ret : Option FieldType} {hh : List (Nat × Nat × Nat × Nat)}
    (hy : plainName y.cls = true) (hw : ws = Cond.codeWith y cc maxL ret hh :: ws')
    (body : ∀ p e s m args below meth c s₁, BodyLoose p l y (headSpec ws rm) cc maxL ret e s m args below meth c s₁ → c.maxLocals = maxL → Pc args s →
      W p l e (headSpec ws rm).room s m args below meth c s.heap [] 0 0 (vx_MQ below Qc XC args s mc ms free) (entryFrame m args maxL)) : vx_Met l y ws rm Pc Qc XC mc ms free := by
  refine MetFree.of_bodyS (code := cc) (maxLocals := maxL) (ret := ret) hy ?_ ?_
  · intro args s m h hn
    obtain ⟨m9, meth, c, hn9, h1, h2, h3, h4, -, h5, h6, -⟩ := Cond.codeWith_spec (atoms_spec (ws := ws) h _ (by rw [hw]; exact List.mem_cons_self))
    cases hn.symm.trans hn9
    exact ⟨meth, c, h1, h2, h3, h4, h5, h6⟩
  · intro p e s m args below meth c s₁ B hml hP _
    have hh0 : s₁.heap = s.heap := by rw [B.state]; rfl
    obtain ⟨t, a1, o, b1, b2, b3⟩ := body p e s m args below meth c s₁ B hml hP s₁ hh0 (Stand.of_body B)
    exact ⟨t, o, a1, b1, b2, b3⟩
/-! ===== END ===== -/
end
section
/-! ===== BEGIN printed: names, fields, word lists, decode rows ===== -/
def RX0 : String := "Readingorder$Approval"
def TX0 : u_T := fun k => match k with
  | 0 => ("Readingorder$Approval", "person", "I", true)
  | 1 => ("Readingorder$Approval", "page", "I", true)
  | _ => ("Readingorder$Approval", "holds", "Z", false)
def tyX0 : Nat → FieldType := fun k => match k with
  | 0 => .int
  | 1 => .int
  | _ => .boolean
abbrev wsX00 : List Cond := u_ws RX0 TX0 3
theorem nmX0 : ∀ a, a < 3 → ∀ b, b < 3 → a ≠ b → (TX0 a).2.1 ≠ (TX0 b).2.1 := by decide +kernel
theorem tyX0_ok : ∀ k, k < 3 → parseFieldDescriptor (TX0 k).2.2.1 = some (tyX0 k) := by decide +kernel
abbrev cX0_init : ByteArray := prog_2_method_1_code
def yX0_init : MethodName := ⟨RX0, "<init>", "(II)V"⟩
abbrev cX0_holdsFor : ByteArray := prog_2_method_2_code
def yX0_holdsFor : MethodName := ⟨RX0, "holdsFor", "(I)Z"⟩
def RX1 : String := "Readingorder$Box"
def TX1 : u_T := fun k => match k with
  | 0 => ("Readingorder$Box", "number", "I", true)
  | 1 => ("Readingorder$Box", "page", "I", true)
  | 2 => ("Readingorder$Box", "kind", "I", true)
  | 3 => ("Readingorder$Box", "left", "I", false)
  | 4 => ("Readingorder$Box", "top", "I", false)
  | 5 => ("Readingorder$Box", "width", "I", false)
  | 6 => ("Readingorder$Box", "height", "I", false)
  | 7 => ("Readingorder$Box", "gone", "Z", false)
  | 8 => ("Readingorder$Box", "leader", "LReadingorder$Box;", false)
  | _ => ("Readingorder$Box", "follower", "LReadingorder$Box;", false)
def tyX1 : Nat → FieldType := fun k => match k with
  | 0 => .int
  | 1 => .int
  | 2 => .int
  | 3 => .int
  | 4 => .int
  | 5 => .int
  | 6 => .int
  | 7 => .boolean
  | 8 => .object "Readingorder$Box"
  | _ => .object "Readingorder$Box"
abbrev wsX10 : List Cond := u_ws RX1 TX1 10
theorem nmX1 : ∀ a, a < 10 → ∀ b, b < 10 → a ≠ b → (TX1 a).2.1 ≠ (TX1 b).2.1 := by decide +kernel
theorem tyX1_ok : ∀ k, k < 10 → parseFieldDescriptor (TX1 k).2.2.1 = some (tyX1 k) := by decide +kernel
abbrev cX1_init : ByteArray := prog_3_method_1_code
def yX1_init : MethodName := ⟨RX1, "<init>", "(IIIIIII)V"⟩
abbrev cX1_bottom : ByteArray := prog_3_method_2_code
def yX1_bottom : MethodName := ⟨RX1, "bottom", "()I"⟩
abbrev cX1_begin : ByteArray := prog_3_method_3_code
def yX1_begin : MethodName := ⟨RX1, "begin", "(Z)I"⟩
abbrev cX1_end : ByteArray := prog_3_method_4_code
def yX1_end : MethodName := ⟨RX1, "end", "(Z)I"⟩
abbrev cX1_middleAcross : ByteArray := prog_3_method_5_code
def yX1_middleAcross : MethodName := ⟨RX1, "middleAcross", "()I"⟩
abbrev cX1_middleDown : ByteArray := prog_3_method_6_code
def yX1_middleDown : MethodName := ⟨RX1, "middleDown", "()I"⟩
abbrev cX1_isHead : ByteArray := prog_3_method_7_code
def yX1_isHead : MethodName := ⟨RX1, "isHead", "()Z"⟩
abbrev cX1_level : ByteArray := prog_3_method_8_code
def yX1_level : MethodName := ⟨RX1, "level", "()I"⟩
abbrev cX1_overlaps : ByteArray := prog_3_method_9_code
def yX1_overlaps : MethodName := ⟨RX1, "overlaps", "(LReadingorder$Box;)Z"⟩
abbrev cX1_isAheadByEdges : ByteArray := prog_3_method_10_code
def yX1_isAheadByEdges : MethodName := ⟨RX1, "isAheadByEdges", "(LReadingorder$Box;)Z"⟩
abbrev cX1_comesBehind : ByteArray := prog_3_method_11_code
def yX1_comesBehind : MethodName := ⟨RX1, "comesBehind", "(LReadingorder$Box;)Z"⟩
abbrev cX1_loosenFromLeader : ByteArray := prog_3_method_12_code
def yX1_loosenFromLeader : MethodName := ⟨RX1, "loosenFromLeader", "()V"⟩
abbrev cX1_loosenFromFollower : ByteArray := prog_3_method_13_code
def yX1_loosenFromFollower : MethodName := ⟨RX1, "loosenFromFollower", "()V"⟩
def RX2 : String := "Readingorder$Pile"
def TX2 : u_T := fun k => match k with
  | 0 => ("Readingorder$Pile", "sets", "[I", true)
  | _ => ("Readingorder$Pile", "height", "I", false)
def tyX2 : Nat → FieldType := fun k => match k with
  | 0 => .array .int
  | _ => .int
abbrev wsX20 : List Cond := u_ws RX2 TX2 2
theorem nmX2 : ∀ a, a < 2 → ∀ b, b < 2 → a ≠ b → (TX2 a).2.1 ≠ (TX2 b).2.1 := by decide +kernel
theorem tyX2_ok : ∀ k, k < 2 → parseFieldDescriptor (TX2 k).2.2.1 = some (tyX2 k) := by decide +kernel
abbrev cX2_init : ByteArray := prog_4_method_1_code
def yX2_init : MethodName := ⟨RX2, "<init>", "()V"⟩
abbrev cX2_put : ByteArray := prog_4_method_2_code
def yX2_put : MethodName := ⟨RX2, "put", "(I)V"⟩
abbrev cX2_take : ByteArray := prog_4_method_3_code
def yX2_take : MethodName := ⟨RX2, "take", "()I"⟩
def RX3 : String := "Readingorder$Reading"
def TX3 : u_T := fun k => match k with
  | 0 => ("Readingorder$Reading", "numbers", "[I", true)
  | _ => ("Readingorder$Reading", "length", "I", false)
def tyX3 : Nat → FieldType := fun k => match k with
  | 0 => .array .int
  | _ => .int
abbrev wsX30 : List Cond := u_ws RX3 TX3 2
theorem nmX3 : ∀ a, a < 2 → ∀ b, b < 2 → a ≠ b → (TX3 a).2.1 ≠ (TX3 b).2.1 := by decide +kernel
theorem tyX3_ok : ∀ k, k < 2 → parseFieldDescriptor (TX3 k).2.2.1 = some (tyX3 k) := by decide +kernel
abbrev cX3_init : ByteArray := prog_5_method_1_code
def yX3_init : MethodName := ⟨RX3, "<init>", "()V"⟩
abbrev cX3_add : ByteArray := prog_5_method_2_code
def yX3_add : MethodName := ⟨RX3, "add", "(I)V"⟩
abbrev cX3_at : ByteArray := prog_5_method_3_code
def yX3_at : MethodName := ⟨RX3, "at", "(I)I"⟩
abbrev cX3_placeFor : ByteArray := prog_5_method_4_code
def yX3_placeFor : MethodName := ⟨RX3, "placeFor", "(I)I"⟩
abbrev cX3_isSameAs : ByteArray := prog_5_method_5_code
def yX3_isSameAs : MethodName := ⟨RX3, "isSameAs", "(LReadingorder$Reading;)Z"⟩
abbrev cX3_become : ByteArray := prog_5_method_6_code
def yX3_become : MethodName := ⟨RX3, "become", "(LReadingorder$Reading;)V"⟩
def RX4 : String := "Readingorder"
def TX4 : u_T := fun k => match k with
  | 0 => ("Readingorder", "made", "[LReadingorder$Box;", true)
  | 1 => ("Readingorder", "madeCount", "I", false)
  | 2 => ("Readingorder", "readings", "[LReadingorder$Reading;", true)
  | 3 => ("Readingorder", "trial", "LReadingorder$Reading;", true)
  | 4 => ("Readingorder", "aside", "LReadingorder$Pile;", true)
  | 5 => ("Readingorder", "given", "[LReadingorder$Approval;", true)
  | _ => ("Readingorder", "givenCount", "I", false)
def tyX4 : Nat → FieldType := fun k => match k with
  | 0 => .array (.object "Readingorder$Box")
  | 1 => .int
  | 2 => .array (.object "Readingorder$Reading")
  | 3 => .object "Readingorder$Reading"
  | 4 => .object "Readingorder$Pile"
  | 5 => .array (.object "Readingorder$Approval")
  | _ => .int
abbrev wsX40 : List Cond := u_ws RX4 TX4 7
theorem nmX4 : ∀ a, a < 7 → ∀ b, b < 7 → a ≠ b → (TX4 a).2.1 ≠ (TX4 b).2.1 := by decide +kernel
theorem tyX4_ok : ∀ k, k < 7 → parseFieldDescriptor (TX4 k).2.2.1 = some (tyX4 k) := by decide +kernel
abbrev cX4_init : ByteArray := prog_1_method_1_code
def yX4_init : MethodName := ⟨RX4, "<init>", "()V"⟩
abbrev cX4_box : ByteArray := prog_1_method_2_code
def yX4_box : MethodName := ⟨RX4, "box", "(IIIIII)I"⟩
abbrev cX4_move : ByteArray := prog_1_method_3_code
def yX4_move : MethodName := ⟨RX4, "move", "(III)I"⟩
abbrev cX4_resize : ByteArray := prog_1_method_4_code
def yX4_resize : MethodName := ⟨RX4, "resize", "(III)I"⟩
abbrev cX4_remove : ByteArray := prog_1_method_5_code
def yX4_remove : MethodName := ⟨RX4, "remove", "(I)I"⟩
abbrev cX4_tie : ByteArray := prog_1_method_6_code
def yX4_tie : MethodName := ⟨RX4, "tie", "(II)I"⟩
abbrev cX4_untie : ByteArray := prog_1_method_7_code
def yX4_untie : MethodName := ⟨RX4, "untie", "(I)I"⟩
abbrev cX4_order : ByteArray := prog_1_method_8_code
def yX4_order : MethodName := ⟨RX4, "order", "(II)I"⟩
abbrev cX4_orderAnew : ByteArray := prog_1_method_9_code
def yX4_orderAnew : MethodName := ⟨RX4, "orderAnew", "(II)I"⟩
abbrev cX4_placeOf : ByteArray := prog_1_method_10_code
def yX4_placeOf : MethodName := ⟨RX4, "placeOf", "(I)I"⟩
abbrev cX4_boxes : ByteArray := prog_1_method_11_code
def yX4_boxes : MethodName := ⟨RX4, "boxes", "(I)I"⟩
abbrev cX4_about : ByteArray := prog_1_method_12_code
def yX4_about : MethodName := ⟨RX4, "about", "(II)I"⟩
abbrev cX4_way : ByteArray := prog_1_method_13_code
def yX4_way : MethodName := ⟨RX4, "way", "(I)I"⟩
abbrev cX4_faults : ByteArray := prog_1_method_14_code
def yX4_faults : MethodName := ⟨RX4, "faults", "(I)I"⟩
abbrev cX4_faulty : ByteArray := prog_1_method_15_code
def yX4_faulty : MethodName := ⟨RX4, "faulty", "(I)I"⟩
abbrev cX4_approve : ByteArray := prog_1_method_16_code
def yX4_approve : MethodName := ⟨RX4, "approve", "(II)I"⟩
abbrev cX4_stands : ByteArray := prog_1_method_17_code
def yX4_stands : MethodName := ⟨RX4, "stands", "(I)Z"⟩
abbrev cX4_approvers : ByteArray := prog_1_method_18_code
def yX4_approvers : MethodName := ⟨RX4, "approvers", "(I)I"⟩
abbrev cX4_breaks : ByteArray := prog_1_method_19_code
def yX4_breaks : MethodName := ⟨RX4, "breaks", "(III)I"⟩
abbrev cX4_readingOf : ByteArray := prog_1_method_20_code
def yX4_readingOf : MethodName := ⟨RX4, "readingOf", "(I)LReadingorder$Reading;"⟩
abbrev cX4_presentBox : ByteArray := prog_1_method_21_code
def yX4_presentBox : MethodName := ⟨RX4, "presentBox", "(I)LReadingorder$Box;"⟩
abbrev cX4_checkPlace : ByteArray := prog_1_method_22_code
def yX4_checkPlace : MethodName := ⟨RX4, "checkPlace", "(I)V"⟩
abbrev cX4_checkWithinPage : ByteArray := prog_1_method_23_code
def yX4_checkWithinPage : MethodName := ⟨RX4, "checkWithinPage", "(IIII)V"⟩
abbrev cX4_madeBox : ByteArray := prog_1_method_24_code
def yX4_madeBox : MethodName := ⟨RX4, "madeBox", "(I)LReadingorder$Box;"⟩
abbrev cX4_numberOf : ByteArray := prog_1_method_25_code
def yX4_numberOf : MethodName := ⟨RX4, "numberOf", "(LReadingorder$Box;)I"⟩
abbrev cX4_readAgain : ByteArray := prog_1_method_26_code
def yX4_readAgain : MethodName := ⟨RX4, "readAgain", "(I)I"⟩
abbrev cX4_readByCuts : ByteArray := prog_1_method_27_code
def yX4_readByCuts : MethodName := ⟨RX4, "readByCuts", "(ILReadingorder$Reading;)V"⟩
abbrev cX4_readSet : ByteArray := prog_1_method_28_code
def yX4_readSet : MethodName := ⟨RX4, "readSet", "(ILReadingorder$Reading;I)V"⟩
abbrev cX4_readParts : ByteArray := prog_1_method_29_code
def yX4_readParts : MethodName := ⟨RX4, "readParts", "(IILReadingorder$Reading;I)V"⟩
abbrev cX4_readWithSetsAside : ByteArray := prog_1_method_30_code
def yX4_readWithSetsAside : MethodName := ⟨RX4, "readWithSetsAside", "(ILReadingorder$Reading;)V"⟩
abbrev cX4_boxesThatFollowNone : ByteArray := prog_1_method_31_code
def yX4_boxesThatFollowNone : MethodName := ⟨RX4, "boxesThatFollowNone", "(I)I"⟩
abbrev cX4_cutOff : ByteArray := prog_1_method_32_code
def yX4_cutOff : MethodName := ⟨RX4, "cutOff", "(I)I"⟩
abbrev cX4_leastCut : ByteArray := prog_1_method_33_code
def yX4_leastCut : MethodName := ⟨RX4, "leastCut", "(IZ)I"⟩
abbrev cX4_endedBy : ByteArray := prog_1_method_34_code
def yX4_endedBy : MethodName := ⟨RX4, "endedBy", "(IIZ)I"⟩
abbrev cX4_readUncut : ByteArray := prog_1_method_35_code
def yX4_readUncut : MethodName := ⟨RX4, "readUncut", "(ILReadingorder$Reading;)V"⟩
abbrev cX4_firstByEdges : ByteArray := prog_1_method_36_code
def yX4_firstByEdges : MethodName := ⟨RX4, "firstByEdges", "(I)LReadingorder$Box;"⟩
abbrev cX4_boxOfSet : ByteArray := prog_1_method_37_code
def yX4_boxOfSet : MethodName := ⟨RX4, "boxOfSet", "(II)LReadingorder$Box;"⟩
abbrev cX4_faultsAt : ByteArray := prog_1_method_38_code
def yX4_faultsAt : MethodName := ⟨RX4, "faultsAt", "(LReadingorder$Reading;I)I"⟩
abbrev cX4_levelAhead : ByteArray := prog_1_method_39_code
def yX4_levelAhead : MethodName := ⟨RX4, "levelAhead", "(LReadingorder$Reading;I)I"⟩
abbrev cX4_isOfKind : ByteArray := prog_1_method_40_code
def yX4_isOfKind : MethodName := ⟨RX4, "isOfKind", "(LReadingorder$Box;I)Z"⟩
abbrev cX4_overlapsAny : ByteArray := prog_1_method_41_code
def yX4_overlapsAny : MethodName := ⟨RX4, "overlapsAny", "(LReadingorder$Box;LReadingorder$Reading;)Z"⟩
abbrev cX4_letFall : ByteArray := prog_1_method_42_code
def yX4_letFall : MethodName := ⟨RX4, "letFall", "(I)I"⟩
abbrev cX4_countHolding : ByteArray := prog_1_method_43_code
def yX4_countHolding : MethodName := ⟨RX4, "countHolding", "(I)I"⟩
def RX5 : String := "ReadingorderModel"
def TX5 : u_T := fun k => match k with
  | 0 => ("ReadingorderModel", "boxes", "I", false)
  | 1 => ("ReadingorderModel", "page", "[I", true)
  | 2 => ("ReadingorderModel", "left", "[I", true)
  | 3 => ("ReadingorderModel", "top", "[I", true)
  | 4 => ("ReadingorderModel", "width", "[I", true)
  | 5 => ("ReadingorderModel", "height", "[I", true)
  | 6 => ("ReadingorderModel", "kind", "[I", true)
  | 7 => ("ReadingorderModel", "follows", "[I", true)
  | 8 => ("ReadingorderModel", "leads", "[I", true)
  | 9 => ("ReadingorderModel", "isGone", "[Z", true)
  | 10 => ("ReadingorderModel", "approvals", "I", false)
  | 11 => ("ReadingorderModel", "who", "[I", true)
  | 12 => ("ReadingorderModel", "which", "[I", true)
  | 13 => ("ReadingorderModel", "isFallen", "[Z", true)
  | 14 => ("ReadingorderModel", "many", "I", false)
  | 15 => ("ReadingorderModel", "order", "[I", true)
  | 16 => ("ReadingorderModel", "manyAhead", "I", false)
  | 17 => ("ReadingorderModel", "ahead", "[I", true)
  | 18 => ("ReadingorderModel", "aside", "I", false)
  | 19 => ("ReadingorderModel", "set", "[I", true)
  | _ => ("ReadingorderModel", "thrown", "I", false)
def tyX5 : Nat → FieldType := fun k => match k with
  | 0 => .int
  | 1 => .array .int
  | 2 => .array .int
  | 3 => .array .int
  | 4 => .array .int
  | 5 => .array .int
  | 6 => .array .int
  | 7 => .array .int
  | 8 => .array .int
  | 9 => .array .boolean
  | 10 => .int
  | 11 => .array .int
  | 12 => .array .int
  | 13 => .array .boolean
  | 14 => .int
  | 15 => .array .int
  | 16 => .int
  | 17 => .array .int
  | 18 => .int
  | 19 => .array .int
  | _ => .int
abbrev wsX50 : List Cond := u_ws RX5 TX5 21
theorem nmX5 : ∀ a, a < 21 → ∀ b, b < 21 → a ≠ b → (TX5 a).2.1 ≠ (TX5 b).2.1 := by decide +kernel
theorem tyX5_ok : ∀ k, k < 21 → parseFieldDescriptor (TX5 k).2.2.1 = some (tyX5 k) := by decide +kernel
abbrev cX5_init : ByteArray := prog_7_method_1_code
def yX5_init : MethodName := ⟨RX5, "<init>", "()V"⟩
abbrev cX5_thrown : ByteArray := prog_7_method_2_code
def yX5_thrown : MethodName := ⟨RX5, "thrown", "()I"⟩
abbrev cX5_in : ByteArray := prog_7_method_3_code
def yX5_in : MethodName := ⟨RX5, "in", "(III)Z"⟩
abbrev cX5_goes : ByteArray := prog_7_method_4_code
def yX5_goes : MethodName := ⟨RX5, "goes", "(ZZZ)Z"⟩
abbrev cX5_isPage : ByteArray := prog_7_method_5_code
def yX5_isPage : MethodName := ⟨RX5, "isPage", "(I)Z"⟩
abbrev cX5_isBox : ByteArray := prog_7_method_6_code
def yX5_isBox : MethodName := ⟨RX5, "isBox", "(I)Z"⟩
abbrev cX5_isWithin : ByteArray := prog_7_method_7_code
def yX5_isWithin : MethodName := ⟨RX5, "isWithin", "(IIII)Z"⟩
abbrev cX5_has : ByteArray := prog_7_method_8_code
def yX5_has : MethodName := ⟨RX5, "has", "(II)Z"⟩
abbrev cX5_near : ByteArray := prog_7_method_9_code
def yX5_near : MethodName := ⟨RX5, "near", "(IZ)I"⟩
abbrev cX5_far : ByteArray := prog_7_method_10_code
def yX5_far : MethodName := ⟨RX5, "far", "(IZ)I"⟩
abbrev cX5_cutAt : ByteArray := prog_7_method_11_code
def yX5_cutAt : MethodName := ⟨RX5, "cutAt", "(IIZ)I"⟩
abbrev cX5_cut : ByteArray := prog_7_method_12_code
def yX5_cut : MethodName := ⟨RX5, "cut", "(IZ)I"⟩
abbrev cX5_isAhead : ByteArray := prog_7_method_13_code
def yX5_isAhead : MethodName := ⟨RX5, "isAhead", "(II)Z"⟩
abbrev cX5_reads : ByteArray := prog_7_method_14_code
def yX5_reads : MethodName := ⟨RX5, "reads", "(I)V"⟩
abbrev cX5_readsAll : ByteArray := prog_7_method_15_code
def yX5_readsAll : MethodName := ⟨RX5, "readsAll", "(I)V"⟩
abbrev cX5_puts : ByteArray := prog_7_method_16_code
def yX5_puts : MethodName := ⟨RX5, "puts", "(I)V"⟩
abbrev cX5_finds : ByteArray := prog_7_method_17_code
def yX5_finds : MethodName := ⟨RX5, "finds", "(I)V"⟩
abbrev cX5_keeps : ByteArray := prog_7_method_18_code
def yX5_keeps : MethodName := ⟨RX5, "keeps", "(I)V"⟩
abbrev cX5_isOther : ByteArray := prog_7_method_19_code
def yX5_isOther : MethodName := ⟨RX5, "isOther", "(I)Z"⟩
abbrev cX5_standing : ByteArray := prog_7_method_20_code
def yX5_standing : MethodName := ⟨RX5, "standing", "(I)I"⟩
abbrev cX5_falls : ByteArray := prog_7_method_21_code
def yX5_falls : MethodName := ⟨RX5, "falls", "(I)I"⟩
abbrev cX5_box : ByteArray := prog_7_method_22_code
def yX5_box : MethodName := ⟨RX5, "box", "(IIIIII)I"⟩
abbrev cX5_move : ByteArray := prog_7_method_23_code
def yX5_move : MethodName := ⟨RX5, "move", "(III)I"⟩
abbrev cX5_resize : ByteArray := prog_7_method_24_code
def yX5_resize : MethodName := ⟨RX5, "resize", "(III)I"⟩
abbrev cX5_unties : ByteArray := prog_7_method_25_code
def yX5_unties : MethodName := ⟨RX5, "unties", "(I)V"⟩
abbrev cX5_remove : ByteArray := prog_7_method_26_code
def yX5_remove : MethodName := ⟨RX5, "remove", "(I)I"⟩
abbrev cX5_comesBehind : ByteArray := prog_7_method_27_code
def yX5_comesBehind : MethodName := ⟨RX5, "comesBehind", "(II)Z"⟩
abbrev cX5_tie : ByteArray := prog_7_method_28_code
def yX5_tie : MethodName := ⟨RX5, "tie", "(II)I"⟩
abbrev cX5_untie : ByteArray := prog_7_method_29_code
def yX5_untie : MethodName := ⟨RX5, "untie", "(I)I"⟩
abbrev cX5_order : ByteArray := prog_7_method_30_code
def yX5_order : MethodName := ⟨RX5, "order", "(II)I"⟩
abbrev cX5_orderAnew : ByteArray := prog_7_method_31_code
def yX5_orderAnew : MethodName := ⟨RX5, "orderAnew", "(II)I"⟩
abbrev cX5_place : ByteArray := prog_7_method_32_code
def yX5_place : MethodName := ⟨RX5, "place", "(I)I"⟩
abbrev cX5_placeOf : ByteArray := prog_7_method_33_code
def yX5_placeOf : MethodName := ⟨RX5, "placeOf", "(I)I"⟩
abbrev cX5_boxes : ByteArray := prog_7_method_34_code
def yX5_boxes : MethodName := ⟨RX5, "boxes", "(I)I"⟩
abbrev cX5_about : ByteArray := prog_7_method_35_code
def yX5_about : MethodName := ⟨RX5, "about", "(II)I"⟩
abbrev cX5_between : ByteArray := prog_7_method_36_code
def yX5_between : MethodName := ⟨RX5, "between", "(II)I"⟩
abbrev cX5_way : ByteArray := prog_7_method_37_code
def yX5_way : MethodName := ⟨RX5, "way", "(I)I"⟩
abbrev cX5_isHead : ByteArray := prog_7_method_38_code
def yX5_isHead : MethodName := ⟨RX5, "isHead", "(I)Z"⟩
abbrev cX5_skips : ByteArray := prog_7_method_39_code
def yX5_skips : MethodName := ⟨RX5, "skips", "(I)Z"⟩
abbrev cX5_isKind : ByteArray := prog_7_method_40_code
def yX5_isKind : MethodName := ⟨RX5, "isKind", "(II)Z"⟩
abbrev cX5_meet : ByteArray := prog_7_method_41_code
def yX5_meet : MethodName := ⟨RX5, "meet", "(II)Z"⟩
abbrev cX5_meetsAny : ByteArray := prog_7_method_42_code
def yX5_meetsAny : MethodName := ⟨RX5, "meetsAny", "(I)Z"⟩
abbrev cX5_faultsAt : ByteArray := prog_7_method_43_code
def yX5_faultsAt : MethodName := ⟨RX5, "faultsAt", "(I)I"⟩
abbrev cX5_faults : ByteArray := prog_7_method_44_code
def yX5_faults : MethodName := ⟨RX5, "faults", "(I)I"⟩
abbrev cX5_faulty : ByteArray := prog_7_method_45_code
def yX5_faulty : MethodName := ⟨RX5, "faulty", "(I)I"⟩
abbrev cX5_hasBox : ByteArray := prog_7_method_46_code
def yX5_hasBox : MethodName := ⟨RX5, "hasBox", "(I)Z"⟩
abbrev cX5_approve : ByteArray := prog_7_method_47_code
def yX5_approve : MethodName := ⟨RX5, "approve", "(II)I"⟩
abbrev cX5_stands : ByteArray := prog_7_method_48_code
def yX5_stands : MethodName := ⟨RX5, "stands", "(I)Z"⟩
abbrev cX5_approvers : ByteArray := prog_7_method_49_code
def yX5_approvers : MethodName := ⟨RX5, "approvers", "(I)I"⟩
abbrev cX5_breaks : ByteArray := prog_7_method_50_code
def yX5_breaks : MethodName := ⟨RX5, "breaks", "(III)I"⟩
def RJ9 : String := "java/lang/Math"
def TJ9 : u_T := fun k => match k with
  | _ => ("", "", "", false)
def tyJ9 : Nat → FieldType := fun k => match k with
  | _ => .int
abbrev wsJ90 : List Cond := u_ws RJ9 TJ9 0
theorem nmJ9 : ∀ a, a < 0 → ∀ b, b < 0 → a ≠ b → (TJ9 a).2.1 ≠ (TJ9 b).2.1 := by decide +kernel
theorem tyJ9_ok : ∀ k, k < 0 → parseFieldDescriptor (TJ9 k).2.2.1 = some (tyJ9 k) := by decide +kernel
abbrev cJ9_abs_0f7a4 : ByteArray := prog_12_method_59_code
def yJ9_abs_0f7a4 : MethodName := ⟨RJ9, "abs", "(I)I"⟩
abbrev cJ9_min_7cf53 : ByteArray := prog_12_method_69_code
def yJ9_min_7cf53 : MethodName := ⟨RJ9, "min", "(II)I"⟩
def RJ0 : String := "java/lang/String"
def TJ0 : u_T := fun k => match k with
  | _ => ("", "", "", false)
def tyJ0 : Nat → FieldType := fun k => match k with
  | _ => .int
abbrev wsJ00 : List Cond := u_ws RJ0 TJ0 0
theorem nmJ0 : ∀ a, a < 0 → ∀ b, b < 0 → a ≠ b → (TJ0 a).2.1 ≠ (TJ0 b).2.1 := by decide +kernel
theorem tyJ0_ok : ∀ k, k < 0 → parseFieldDescriptor (TJ0 k).2.2.1 = some (tyJ0 k) := by decide +kernel
def RL : String := "ReadingorderLaw"
abbrev cL_box : ByteArray := method_3_code
def yL_box : MethodName := ⟨RL, "box", "(LReadingorder;IIIIII[J)I"⟩
abbrev cL_move : ByteArray := method_4_code
def yL_move : MethodName := ⟨RL, "move", "(LReadingorder;III[J)I"⟩
abbrev cL_resize : ByteArray := method_5_code
def yL_resize : MethodName := ⟨RL, "resize", "(LReadingorder;III[J)I"⟩
abbrev cL_remove : ByteArray := method_6_code
def yL_remove : MethodName := ⟨RL, "remove", "(LReadingorder;I[J)I"⟩
abbrev cL_tie : ByteArray := method_7_code
def yL_tie : MethodName := ⟨RL, "tie", "(LReadingorder;II[J)I"⟩
abbrev cL_untie : ByteArray := method_8_code
def yL_untie : MethodName := ⟨RL, "untie", "(LReadingorder;I[J)I"⟩
abbrev cL_order : ByteArray := method_9_code
def yL_order : MethodName := ⟨RL, "order", "(LReadingorder;II[J)I"⟩
abbrev cL_orderAnew : ByteArray := method_10_code
def yL_orderAnew : MethodName := ⟨RL, "orderAnew", "(LReadingorder;II[J)I"⟩
abbrev cL_placeOf : ByteArray := method_11_code
def yL_placeOf : MethodName := ⟨RL, "placeOf", "(LReadingorder;I[J)I"⟩
abbrev cL_boxes : ByteArray := method_12_code
def yL_boxes : MethodName := ⟨RL, "boxes", "(LReadingorder;I[J)I"⟩
abbrev cL_about : ByteArray := method_13_code
def yL_about : MethodName := ⟨RL, "about", "(LReadingorder;II[J)I"⟩
abbrev cL_way : ByteArray := method_14_code
def yL_way : MethodName := ⟨RL, "way", "(LReadingorder;I[J)I"⟩
abbrev cL_faults : ByteArray := method_15_code
def yL_faults : MethodName := ⟨RL, "faults", "(LReadingorder;I[J)I"⟩
abbrev cL_faulty : ByteArray := method_16_code
def yL_faulty : MethodName := ⟨RL, "faulty", "(LReadingorder;I[J)I"⟩
abbrev cL_approve : ByteArray := method_17_code
def yL_approve : MethodName := ⟨RL, "approve", "(LReadingorder;II[J)I"⟩
abbrev cL_stands : ByteArray := method_18_code
def yL_stands : MethodName := ⟨RL, "stands", "(LReadingorder;I[J)I"⟩
abbrev cL_approvers : ByteArray := method_19_code
def yL_approvers : MethodName := ⟨RL, "approvers", "(LReadingorder;I[J)I"⟩
abbrev cL_breaks : ByteArray := method_20_code
def yL_breaks : MethodName := ⟨RL, "breaks", "(LReadingorder;III[J)I"⟩
abbrev cL_law : ByteArray := code
def yL_law : MethodName := ⟨RL, "law", "([I)Z"⟩
def wsX0_init : List Cond := .code yX0_init cX0_init 3 none :: ([.methodLink RX0 1 objectInit, .instanceMethod objectInit, .code objectInit ⟨#[0xb1]⟩ 1 none, .fieldLink RX0 7 "Readingorder$Approval" "holds" "Z", .fieldLink RX0 13 "Readingorder$Approval" "person" "I", .fieldLink RX0 17 "Readingorder$Approval" "page" "I"] ++ wsX00)
def wsX0_holdsFor : List Cond := .code yX0_holdsFor cX0_holdsFor 2 (some .boolean) :: ([.fieldLink RX0 7 "Readingorder$Approval" "holds" "Z", .fieldLink RX0 17 "Readingorder$Approval" "page" "I"] ++ wsX00)
def wsX1_init : List Cond := .code yX1_init cX1_init 8 none :: ([.methodLink RX1 3 objectInit, .instanceMethod objectInit, .code objectInit ⟨#[0xb1]⟩ 1 none, .fieldLink RX1 9 "Readingorder$Box" "gone" "Z", .fieldLink RX1 15 "Readingorder$Box" "leader" "LReadingorder$Box;", .fieldLink RX1 19 "Readingorder$Box" "follower" "LReadingorder$Box;", .fieldLink RX1 22 "Readingorder$Box" "number" "I", .fieldLink RX1 26 "Readingorder$Box" "page" "I", .fieldLink RX1 29 "Readingorder$Box" "left" "I", .fieldLink RX1 32 "Readingorder$Box" "top" "I", .fieldLink RX1 35 "Readingorder$Box" "width" "I", .fieldLink RX1 38 "Readingorder$Box" "height" "I", .fieldLink RX1 41 "Readingorder$Box" "kind" "I"] ++ wsX10)
def wsX1_bottom : List Cond := .code yX1_bottom cX1_bottom 1 (some .int) :: ([.fieldLink RX1 32 "Readingorder$Box" "top" "I", .fieldLink RX1 38 "Readingorder$Box" "height" "I"] ++ wsX10)
def wsX1_begin : List Cond := .code yX1_begin cX1_begin 2 (some .int) :: ([.fieldLink RX1 32 "Readingorder$Box" "top" "I", .fieldLink RX1 29 "Readingorder$Box" "left" "I"] ++ wsX10)
def wsX1_end : List Cond := .code yX1_end cX1_end 2 (some .int) :: ([.fieldLink RX1 32 "Readingorder$Box" "top" "I", .fieldLink RX1 38 "Readingorder$Box" "height" "I", .fieldLink RX1 29 "Readingorder$Box" "left" "I", .fieldLink RX1 35 "Readingorder$Box" "width" "I"] ++ wsX10)
def wsX1_middleAcross : List Cond := .code yX1_middleAcross cX1_middleAcross 1 (some .int) :: ([.fieldLink RX1 29 "Readingorder$Box" "left" "I", .fieldLink RX1 35 "Readingorder$Box" "width" "I"] ++ wsX10)
def wsX1_middleDown : List Cond := .code yX1_middleDown cX1_middleDown 1 (some .int) :: ([.fieldLink RX1 32 "Readingorder$Box" "top" "I", .fieldLink RX1 38 "Readingorder$Box" "height" "I"] ++ wsX10)
def wsX1_isHead : List Cond := .code yX1_isHead cX1_isHead 1 (some .boolean) :: ([.fieldLink RX1 41 "Readingorder$Box" "kind" "I"] ++ wsX10)
def wsX1_level : List Cond := .code yX1_level cX1_level 1 (some .int) :: ([.fieldLink RX1 41 "Readingorder$Box" "kind" "I"] ++ wsX10)
def wsX1_overlaps : List Cond := .code yX1_overlaps cX1_overlaps 2 (some .boolean) :: ([.fieldLink RX1 29 "Readingorder$Box" "left" "I", .fieldLink RX1 35 "Readingorder$Box" "width" "I", .fieldLink RX1 32 "Readingorder$Box" "top" "I", .methodLink RX1 44 yX1_bottom, .instanceMethod yX1_bottom, .selects RX1 yX1_bottom yX1_bottom, .initialized RX1, .code yX1_bottom cX1_bottom 1 (some .int), .fieldLink RX1 38 "Readingorder$Box" "height" "I"] ++ wsX10)
def wsX1_isAheadByEdges : List Cond := .code yX1_isAheadByEdges cX1_isAheadByEdges 2 (some .boolean) :: ([.fieldLink RX1 32 "Readingorder$Box" "top" "I", .fieldLink RX1 29 "Readingorder$Box" "left" "I", .fieldLink RX1 22 "Readingorder$Box" "number" "I"] ++ wsX10)
def wsX1_comesBehind : List Cond := .code yX1_comesBehind cX1_comesBehind 3 (some .boolean) :: ([.fieldLink RX1 15 "Readingorder$Box" "leader" "LReadingorder$Box;"] ++ wsX10)
def wsX1_loosenFromLeader : List Cond := .code yX1_loosenFromLeader cX1_loosenFromLeader 1 none :: ([.fieldLink RX1 15 "Readingorder$Box" "leader" "LReadingorder$Box;", .fieldLink RX1 19 "Readingorder$Box" "follower" "LReadingorder$Box;"] ++ wsX10)
def wsX1_loosenFromFollower : List Cond := .code yX1_loosenFromFollower cX1_loosenFromFollower 1 none :: ([.fieldLink RX1 19 "Readingorder$Box" "follower" "LReadingorder$Box;", .fieldLink RX1 15 "Readingorder$Box" "leader" "LReadingorder$Box;"] ++ wsX10)
def wsX2_init : List Cond := .code yX2_init cX2_init 1 none :: ([.methodLink RX2 3 objectInit, .instanceMethod objectInit, .code objectInit ⟨#[0xb1]⟩ 1 none, .arrayClass .int, .fieldLink RX2 9 "Readingorder$Pile" "sets" "[I", .fieldLink RX2 15 "Readingorder$Pile" "height" "I"] ++ wsX20)
def wsX2_put : List Cond := .code yX2_put cX2_put 2 none :: ([.fieldLink RX2 15 "Readingorder$Pile" "height" "I", .fieldLink RX2 9 "Readingorder$Pile" "sets" "[I"] ++ wsX20)
def wsX2_take : List Cond := .code yX2_take cX2_take 2 (some .int) :: ([.fieldLink RX2 15 "Readingorder$Pile" "height" "I", .fieldLink RX2 9 "Readingorder$Pile" "sets" "[I"] ++ wsX20)
def wsX3_init : List Cond := .code yX3_init cX3_init 1 none :: ([.methodLink RX3 3 objectInit, .instanceMethod objectInit, .code objectInit ⟨#[0xb1]⟩ 1 none, .arrayClass .int, .fieldLink RX3 9 "Readingorder$Reading" "numbers" "[I", .fieldLink RX3 15 "Readingorder$Reading" "length" "I"] ++ wsX30)
def wsX3_add : List Cond := .code yX3_add cX3_add 2 none :: ([.fieldLink RX3 15 "Readingorder$Reading" "length" "I", .fieldLink RX3 9 "Readingorder$Reading" "numbers" "[I"] ++ wsX30)
def wsX3_at : List Cond := .code yX3_at cX3_at 2 (some .int) :: ([.fieldLink RX3 15 "Readingorder$Reading" "length" "I", .fieldLink RX3 9 "Readingorder$Reading" "numbers" "[I"] ++ wsX30)
def wsX3_placeFor : List Cond := .code yX3_placeFor cX3_placeFor 3 (some .int) :: ([.fieldLink RX3 15 "Readingorder$Reading" "length" "I", .methodLink RX3 19 yX3_at, .instanceMethod yX3_at, .selects RX3 yX3_at yX3_at, .initialized RX3, .code yX3_at cX3_at 2 (some .int), .fieldLink RX3 9 "Readingorder$Reading" "numbers" "[I"] ++ wsX30)
def wsX3_isSameAs : List Cond := .code yX3_isSameAs cX3_isSameAs 3 (some .boolean) :: ([.fieldLink RX3 15 "Readingorder$Reading" "length" "I", .methodLink RX3 19 yX3_at, .instanceMethod yX3_at, .selects RX3 yX3_at yX3_at, .initialized RX3, .code yX3_at cX3_at 2 (some .int), .fieldLink RX3 9 "Readingorder$Reading" "numbers" "[I"] ++ wsX30)
def wsX3_become : List Cond := .code yX3_become cX3_become 3 none :: ([.fieldLink RX3 15 "Readingorder$Reading" "length" "I", .methodLink RX3 19 yX3_at, .instanceMethod yX3_at, .selects RX3 yX3_at yX3_at, .initialized RX3, .code yX3_at cX3_at 2 (some .int), .fieldLink RX3 9 "Readingorder$Reading" "numbers" "[I", .methodLink RX3 23 yX3_add, .instanceMethod yX3_add, .selects RX3 yX3_add yX3_add, .code yX3_add cX3_add 2 none] ++ wsX30)
def wsX4_init_r1 : List Cond := [Cond.methodLink RX4 1 objectInit, Cond.instanceMethod objectInit, Cond.code objectInit ⟨#[0xb1]⟩ 1 none, Cond.classLink RX4 9 RX1, Cond.fieldLink RX4 11 "Readingorder" "made" "[LReadingorder$Box;", Cond.fieldLink RX4 15 "Readingorder" "madeCount" "I", Cond.classLink RX4 19 RX3, Cond.fieldLink RX4 21 "Readingorder" "readings" "[LReadingorder$Reading;", Cond.instantiable RX3 2, Cond.initialized RX3, Cond.fieldLink RX4 26 "Readingorder" "trial" "LReadingorder$Reading;", Cond.classLink RX4 30 RX2, Cond.instantiable RX2 2, Cond.initialized RX2, Cond.fieldLink RX4 33 "Readingorder" "aside" "LReadingorder$Pile;", Cond.classLink RX4 37 RX0, Cond.fieldLink RX4 39 "Readingorder" "given" "[LReadingorder$Approval;", Cond.fieldLink RX4 43 "Readingorder" "givenCount" "I", Cond.instanceMethod yX3_init, Cond.code yX3_init cX3_init 1 none, Cond.methodLink RX3 3 objectInit, Cond.arrayClass .int, Cond.fieldLink RX3 9 "Readingorder$Reading" "numbers" "[I", Cond.fieldLink RX3 15 "Readingorder$Reading" "length" "I"]
def wsX4_init_r2 : List Cond := [Cond.instanceMethod yX2_init, Cond.code yX2_init cX2_init 1 none, Cond.methodLink RX2 3 objectInit, Cond.fieldLink RX2 9 "Readingorder$Pile" "sets" "[I", Cond.fieldLink RX2 15 "Readingorder$Pile" "height" "I"]
def wsX4_init : List Cond := .code yX4_init cX4_init 2 none :: ((wsX4_init_r1 ++ wsX4_init_r2) ++ wsX40 ++ wsX30 ++ wsX20)
def wsX4_readingOf : List Cond := .code yX4_readingOf cX4_readingOf 3 (some (.object "Readingorder$Reading")) :: ([.classLink RX4 142 "java/lang/IndexOutOfBoundsException", .initialized "java/lang/IndexOutOfBoundsException", .fieldLink RX4 21 "Readingorder" "readings" "[LReadingorder$Reading;"] ++ wsX40 ++ (vx_atS RX4 146 "java/lang/IndexOutOfBoundsException" ["java/lang/RuntimeException", "java/lang/Exception"]).filter goodWord)
def wsX4_checkWithinPage : List Cond := .code yX4_checkWithinPage cX4_checkWithinPage 4 none :: ([.classLink RX4 50 "java/lang/IllegalArgumentException", .initialized "java/lang/IllegalArgumentException"] ++ (vx_atS RX4 54 "java/lang/IllegalArgumentException" ["java/lang/RuntimeException", "java/lang/Exception"]).filter goodWord)
def wsX4_madeBox : List Cond := .code yX4_madeBox cX4_madeBox 2 (some (.object "Readingorder$Box")) :: ([.fieldLink RX4 11 "Readingorder" "made" "[LReadingorder$Box;"] ++ wsX40)
def wsX4_boxesThatFollowNone : List Cond := .code yX4_boxesThatFollowNone cX4_boxesThatFollowNone 5 (some .int) :: ([.fieldLink RX4 15 "Readingorder" "madeCount" "I", .fieldLink RX4 98 "Readingorder$Box" "gone" "Z", .fieldLink RX4 89 "Readingorder$Box" "page" "I", .fieldLink RX4 108 "Readingorder$Box" "leader" "LReadingorder$Box;", .methodLink RX4 139 yX4_madeBox, .instanceMethod yX4_madeBox, .selects RX4 yX4_madeBox yX4_madeBox, .initialized RX4, .code yX4_madeBox cX4_madeBox 2 (some (.object "Readingorder$Box")), .fieldLink RX4 11 "Readingorder" "made" "[LReadingorder$Box;"] ++ wsX40 ++ wsX10)
def wsX4_boxOfSet : List Cond := .code yX4_boxOfSet cX4_boxOfSet 4 (some (.object "Readingorder$Box")) :: ([.fieldLink RX4 11 "Readingorder" "made" "[LReadingorder$Box;"] ++ wsX40)
def wsX4_leastCut : List Cond := .code yX4_leastCut cX4_leastCut 8 (some .int) :: ([.fieldLink RX4 15 "Readingorder" "madeCount" "I", .methodLink RX4 256 Lib.Math.min.name, .static Lib.Math.min.name, .initialized "java/lang/Math", .code Lib.Math.min.name Lib.Math.min.code 2 (some .int), .methodLink RX4 248 yX4_boxOfSet, .instanceMethod yX4_boxOfSet, .selects RX4 yX4_boxOfSet yX4_boxOfSet, .initialized RX4, .code yX4_boxOfSet cX4_boxOfSet 4 (some (.object "Readingorder$Box")), .fieldLink RX4 11 "Readingorder" "made" "[LReadingorder$Box;", .methodLink RX4 252 yX1_end, .instanceMethod yX1_end, .selects RX1 yX1_end yX1_end, .initialized RX1, .code yX1_end cX1_end 2 (some .int), .fieldLink RX1 32 "Readingorder$Box" "top" "I", .fieldLink RX1 38 "Readingorder$Box" "height" "I", .fieldLink RX1 29 "Readingorder$Box" "left" "I", .fieldLink RX1 35 "Readingorder$Box" "width" "I", .methodLink RX4 260 yX1_begin, .instanceMethod yX1_begin, .selects RX1 yX1_begin yX1_begin, .code yX1_begin cX1_begin 2 (some .int)] ++ wsX40 ++ wsX10)
def wsX4_endedBy : List Cond := .code yX4_endedBy cX4_endedBy 7 (some .int) :: ([.fieldLink RX4 15 "Readingorder" "madeCount" "I", .methodLink RX4 248 yX4_boxOfSet, .instanceMethod yX4_boxOfSet, .selects RX4 yX4_boxOfSet yX4_boxOfSet, .initialized RX4, .code yX4_boxOfSet cX4_boxOfSet 4 (some (.object "Readingorder$Box")), .fieldLink RX4 11 "Readingorder" "made" "[LReadingorder$Box;", .methodLink RX4 252 yX1_end, .instanceMethod yX1_end, .selects RX1 yX1_end yX1_end, .initialized RX1, .code yX1_end cX1_end 2 (some .int), .fieldLink RX1 32 "Readingorder$Box" "top" "I", .fieldLink RX1 38 "Readingorder$Box" "height" "I", .fieldLink RX1 29 "Readingorder$Box" "left" "I", .fieldLink RX1 35 "Readingorder$Box" "width" "I"] ++ wsX40 ++ wsX10)
def wsX4_cutOff_r1 : List Cond := [Cond.methodLink RX4 240 yX4_leastCut, Cond.instanceMethod yX4_leastCut, Cond.selects RX4 yX4_leastCut yX4_leastCut, Cond.initialized RX4, Cond.code yX4_leastCut cX4_leastCut 8 (some .int), Cond.fieldLink RX4 15 "Readingorder" "madeCount" "I", Cond.methodLink RX4 256 Lib.Math.min.name, Cond.static Lib.Math.min.name, Cond.initialized "java/lang/Math", Cond.code Lib.Math.min.name Lib.Math.min.code 2 (some .int), Cond.methodLink RX4 248 yX4_boxOfSet, Cond.instanceMethod yX4_boxOfSet, Cond.selects RX4 yX4_boxOfSet yX4_boxOfSet, Cond.code yX4_boxOfSet cX4_boxOfSet 4 (some (.object "Readingorder$Box")), Cond.fieldLink RX4 11 "Readingorder" "made" "[LReadingorder$Box;", Cond.methodLink RX4 252 yX1_end, Cond.instanceMethod yX1_end, Cond.selects RX1 yX1_end yX1_end, Cond.initialized RX1, Cond.code yX1_end cX1_end 2 (some .int), Cond.fieldLink RX1 32 "Readingorder$Box" "top" "I", Cond.fieldLink RX1 38 "Readingorder$Box" "height" "I", Cond.fieldLink RX1 29 "Readingorder$Box" "left" "I", Cond.fieldLink RX1 35 "Readingorder$Box" "width" "I"]
def wsX4_cutOff_r2 : List Cond := [Cond.methodLink RX4 260 yX1_begin, Cond.instanceMethod yX1_begin, Cond.selects RX1 yX1_begin yX1_begin, Cond.code yX1_begin cX1_begin 2 (some .int), Cond.methodLink RX4 244 yX4_endedBy, Cond.instanceMethod yX4_endedBy, Cond.selects RX4 yX4_endedBy yX4_endedBy, Cond.code yX4_endedBy cX4_endedBy 7 (some .int)]
def wsX4_cutOff : List Cond := .code yX4_cutOff cX4_cutOff 4 (some .int) :: ((wsX4_cutOff_r1 ++ wsX4_cutOff_r2) ++ wsX40 ++ wsX10)
def wsX4_firstByEdges : List Cond := .code yX4_firstByEdges cX4_firstByEdges 5 (some (.object "Readingorder$Box")) :: ([.fieldLink RX4 15 "Readingorder" "madeCount" "I", .methodLink RX4 248 yX4_boxOfSet, .instanceMethod yX4_boxOfSet, .selects RX4 yX4_boxOfSet yX4_boxOfSet, .initialized RX4, .code yX4_boxOfSet cX4_boxOfSet 4 (some (.object "Readingorder$Box")), .fieldLink RX4 11 "Readingorder" "made" "[LReadingorder$Box;", .methodLink RX4 269 yX1_isAheadByEdges, .instanceMethod yX1_isAheadByEdges, .selects RX1 yX1_isAheadByEdges yX1_isAheadByEdges, .initialized RX1, .code yX1_isAheadByEdges cX1_isAheadByEdges 2 (some .boolean), .fieldLink RX1 32 "Readingorder$Box" "top" "I", .fieldLink RX1 29 "Readingorder$Box" "left" "I", .fieldLink RX1 22 "Readingorder$Box" "number" "I"] ++ wsX40 ++ wsX10)
def wsX4_readUncut_r1 : List Cond := [Cond.fieldLink RX4 130 "Readingorder$Box" "number" "I", Cond.fieldLink RX4 104 "Readingorder$Box" "follower" "LReadingorder$Box;", Cond.methodLink RX4 263 yX4_firstByEdges, Cond.instanceMethod yX4_firstByEdges, Cond.selects RX4 yX4_firstByEdges yX4_firstByEdges, Cond.initialized RX4, Cond.code yX4_firstByEdges cX4_firstByEdges 5 (some (.object "Readingorder$Box")), Cond.fieldLink RX4 15 "Readingorder" "madeCount" "I", Cond.methodLink RX4 248 yX4_boxOfSet, Cond.instanceMethod yX4_boxOfSet, Cond.selects RX4 yX4_boxOfSet yX4_boxOfSet, Cond.code yX4_boxOfSet cX4_boxOfSet 4 (some (.object "Readingorder$Box")), Cond.fieldLink RX4 11 "Readingorder" "made" "[LReadingorder$Box;", Cond.methodLink RX4 269 yX1_isAheadByEdges, Cond.instanceMethod yX1_isAheadByEdges, Cond.selects RX1 yX1_isAheadByEdges yX1_isAheadByEdges, Cond.initialized RX1, Cond.code yX1_isAheadByEdges cX1_isAheadByEdges 2 (some .boolean), Cond.fieldLink RX1 32 "Readingorder$Box" "top" "I", Cond.fieldLink RX1 29 "Readingorder$Box" "left" "I", Cond.fieldLink RX1 22 "Readingorder$Box" "number" "I", Cond.methodLink RX4 266 yX3_add, Cond.instanceMethod yX3_add, Cond.selects RX3 yX3_add yX3_add]
def wsX4_readUncut_r2 : List Cond := [Cond.initialized RX3, Cond.code yX3_add cX3_add 2 none, Cond.fieldLink RX3 15 "Readingorder$Reading" "length" "I", Cond.fieldLink RX3 9 "Readingorder$Reading" "numbers" "[I"]
def wsX4_readUncut : List Cond := .code yX4_readUncut cX4_readUncut 7 none :: ((wsX4_readUncut_r1 ++ wsX4_readUncut_r2) ++ wsX10 ++ wsX40 ++ wsX30)
def wsX4_readParts_r1 : List Cond := [Cond.methodLink RX4 219 yX4_readSet, Cond.instanceMethod yX4_readSet, Cond.selects RX4 yX4_readSet yX4_readSet, Cond.initialized RX4, Cond.code yX4_readSet cX4_readSet 5 none, Cond.methodLink RX4 223 yX4_cutOff, Cond.instanceMethod yX4_cutOff, Cond.selects RX4 yX4_cutOff yX4_cutOff, Cond.code yX4_cutOff cX4_cutOff 4 (some .int), Cond.methodLink RX4 240 yX4_leastCut, Cond.instanceMethod yX4_leastCut, Cond.selects RX4 yX4_leastCut yX4_leastCut, Cond.code yX4_leastCut cX4_leastCut 8 (some .int), Cond.fieldLink RX4 15 "Readingorder" "madeCount" "I", Cond.methodLink RX4 256 Lib.Math.min.name, Cond.static Lib.Math.min.name, Cond.initialized "java/lang/Math", Cond.code Lib.Math.min.name Lib.Math.min.code 2 (some .int), Cond.methodLink RX4 248 yX4_boxOfSet, Cond.instanceMethod yX4_boxOfSet, Cond.selects RX4 yX4_boxOfSet yX4_boxOfSet, Cond.code yX4_boxOfSet cX4_boxOfSet 4 (some (.object "Readingorder$Box")), Cond.fieldLink RX4 11 "Readingorder" "made" "[LReadingorder$Box;", Cond.methodLink RX4 252 yX1_end]
def wsX4_readParts_r2 : List Cond := [Cond.instanceMethod yX1_end, Cond.selects RX1 yX1_end yX1_end, Cond.initialized RX1, Cond.code yX1_end cX1_end 2 (some .int), Cond.fieldLink RX1 32 "Readingorder$Box" "top" "I", Cond.fieldLink RX1 38 "Readingorder$Box" "height" "I", Cond.fieldLink RX1 29 "Readingorder$Box" "left" "I", Cond.fieldLink RX1 35 "Readingorder$Box" "width" "I", Cond.methodLink RX4 260 yX1_begin, Cond.instanceMethod yX1_begin, Cond.selects RX1 yX1_begin yX1_begin, Cond.code yX1_begin cX1_begin 2 (some .int), Cond.methodLink RX4 244 yX4_endedBy, Cond.instanceMethod yX4_endedBy, Cond.selects RX4 yX4_endedBy yX4_endedBy, Cond.code yX4_endedBy cX4_endedBy 7 (some .int), Cond.methodLink RX4 226 yX4_readUncut, Cond.instanceMethod yX4_readUncut, Cond.selects RX4 yX4_readUncut yX4_readUncut, Cond.code yX4_readUncut cX4_readUncut 7 none, Cond.fieldLink RX4 130 "Readingorder$Box" "number" "I", Cond.fieldLink RX4 104 "Readingorder$Box" "follower" "LReadingorder$Box;", Cond.methodLink RX4 263 yX4_firstByEdges, Cond.instanceMethod yX4_firstByEdges]
def wsX4_readParts_r3 : List Cond := [Cond.selects RX4 yX4_firstByEdges yX4_firstByEdges, Cond.code yX4_firstByEdges cX4_firstByEdges 5 (some (.object "Readingorder$Box")), Cond.methodLink RX4 269 yX1_isAheadByEdges, Cond.instanceMethod yX1_isAheadByEdges, Cond.selects RX1 yX1_isAheadByEdges yX1_isAheadByEdges, Cond.code yX1_isAheadByEdges cX1_isAheadByEdges 2 (some .boolean), Cond.fieldLink RX1 22 "Readingorder$Box" "number" "I", Cond.methodLink RX4 266 yX3_add, Cond.instanceMethod yX3_add, Cond.selects RX3 yX3_add yX3_add, Cond.initialized RX3, Cond.code yX3_add cX3_add 2 none, Cond.fieldLink RX3 15 "Readingorder$Reading" "length" "I", Cond.fieldLink RX3 9 "Readingorder$Reading" "numbers" "[I", Cond.methodLink RX4 229 yX4_readParts, Cond.instanceMethod yX4_readParts, Cond.selects RX4 yX4_readParts yX4_readParts]
def wsX4_readParts : List Cond := .code yX4_readParts cX4_readParts 5 none :: ((wsX4_readParts_r1 ++ (wsX4_readParts_r2 ++ wsX4_readParts_r3)) ++ wsX40 ++ wsX10 ++ wsX30)
def wsX4_readSet_r1 : List Cond := [Cond.methodLink RX4 223 yX4_cutOff, Cond.instanceMethod yX4_cutOff, Cond.selects RX4 yX4_cutOff yX4_cutOff, Cond.initialized RX4, Cond.code yX4_cutOff cX4_cutOff 4 (some .int), Cond.methodLink RX4 240 yX4_leastCut, Cond.instanceMethod yX4_leastCut, Cond.selects RX4 yX4_leastCut yX4_leastCut, Cond.code yX4_leastCut cX4_leastCut 8 (some .int), Cond.fieldLink RX4 15 "Readingorder" "madeCount" "I", Cond.methodLink RX4 256 Lib.Math.min.name, Cond.static Lib.Math.min.name, Cond.initialized "java/lang/Math", Cond.code Lib.Math.min.name Lib.Math.min.code 2 (some .int), Cond.methodLink RX4 248 yX4_boxOfSet, Cond.instanceMethod yX4_boxOfSet, Cond.selects RX4 yX4_boxOfSet yX4_boxOfSet, Cond.code yX4_boxOfSet cX4_boxOfSet 4 (some (.object "Readingorder$Box")), Cond.fieldLink RX4 11 "Readingorder" "made" "[LReadingorder$Box;", Cond.methodLink RX4 252 yX1_end, Cond.instanceMethod yX1_end, Cond.selects RX1 yX1_end yX1_end, Cond.initialized RX1, Cond.code yX1_end cX1_end 2 (some .int)]
def wsX4_readSet_r2 : List Cond := [Cond.fieldLink RX1 32 "Readingorder$Box" "top" "I", Cond.fieldLink RX1 38 "Readingorder$Box" "height" "I", Cond.fieldLink RX1 29 "Readingorder$Box" "left" "I", Cond.fieldLink RX1 35 "Readingorder$Box" "width" "I", Cond.methodLink RX4 260 yX1_begin, Cond.instanceMethod yX1_begin, Cond.selects RX1 yX1_begin yX1_begin, Cond.code yX1_begin cX1_begin 2 (some .int), Cond.methodLink RX4 244 yX4_endedBy, Cond.instanceMethod yX4_endedBy, Cond.selects RX4 yX4_endedBy yX4_endedBy, Cond.code yX4_endedBy cX4_endedBy 7 (some .int), Cond.methodLink RX4 226 yX4_readUncut, Cond.instanceMethod yX4_readUncut, Cond.selects RX4 yX4_readUncut yX4_readUncut, Cond.code yX4_readUncut cX4_readUncut 7 none, Cond.fieldLink RX4 130 "Readingorder$Box" "number" "I", Cond.fieldLink RX4 104 "Readingorder$Box" "follower" "LReadingorder$Box;", Cond.methodLink RX4 263 yX4_firstByEdges, Cond.instanceMethod yX4_firstByEdges, Cond.selects RX4 yX4_firstByEdges yX4_firstByEdges, Cond.code yX4_firstByEdges cX4_firstByEdges 5 (some (.object "Readingorder$Box")), Cond.methodLink RX4 269 yX1_isAheadByEdges, Cond.instanceMethod yX1_isAheadByEdges]
def wsX4_readSet_r3 : List Cond := [Cond.selects RX1 yX1_isAheadByEdges yX1_isAheadByEdges, Cond.code yX1_isAheadByEdges cX1_isAheadByEdges 2 (some .boolean), Cond.fieldLink RX1 22 "Readingorder$Box" "number" "I", Cond.methodLink RX4 266 yX3_add, Cond.instanceMethod yX3_add, Cond.selects RX3 yX3_add yX3_add, Cond.initialized RX3, Cond.code yX3_add cX3_add 2 none, Cond.fieldLink RX3 15 "Readingorder$Reading" "length" "I", Cond.fieldLink RX3 9 "Readingorder$Reading" "numbers" "[I", Cond.methodLink RX4 229 yX4_readParts, Cond.instanceMethod yX4_readParts, Cond.selects RX4 yX4_readParts yX4_readParts, Cond.code yX4_readParts cX4_readParts 5 none, Cond.methodLink RX4 219 yX4_readSet, Cond.instanceMethod yX4_readSet, Cond.selects RX4 yX4_readSet yX4_readSet]
def wsX4_readSet : List Cond := .code yX4_readSet cX4_readSet 5 none :: ((wsX4_readSet_r1 ++ (wsX4_readSet_r2 ++ wsX4_readSet_r3)) ++ wsX40 ++ wsX10 ++ wsX30)
def wsX4_readByCuts_r1 : List Cond := [Cond.fieldLink RX4 136 "Readingorder$Reading" "length" "I", Cond.methodLink RX4 216 yX4_boxesThatFollowNone, Cond.instanceMethod yX4_boxesThatFollowNone, Cond.selects RX4 yX4_boxesThatFollowNone yX4_boxesThatFollowNone, Cond.initialized RX4, Cond.code yX4_boxesThatFollowNone cX4_boxesThatFollowNone 5 (some .int), Cond.fieldLink RX4 15 "Readingorder" "madeCount" "I", Cond.fieldLink RX4 98 "Readingorder$Box" "gone" "Z", Cond.fieldLink RX4 89 "Readingorder$Box" "page" "I", Cond.fieldLink RX4 108 "Readingorder$Box" "leader" "LReadingorder$Box;", Cond.methodLink RX4 139 yX4_madeBox, Cond.instanceMethod yX4_madeBox, Cond.selects RX4 yX4_madeBox yX4_madeBox, Cond.code yX4_madeBox cX4_madeBox 2 (some (.object "Readingorder$Box")), Cond.fieldLink RX4 11 "Readingorder" "made" "[LReadingorder$Box;", Cond.methodLink RX4 219 yX4_readSet, Cond.instanceMethod yX4_readSet, Cond.selects RX4 yX4_readSet yX4_readSet, Cond.code yX4_readSet cX4_readSet 5 none, Cond.methodLink RX4 223 yX4_cutOff, Cond.instanceMethod yX4_cutOff, Cond.selects RX4 yX4_cutOff yX4_cutOff, Cond.code yX4_cutOff cX4_cutOff 4 (some .int), Cond.methodLink RX4 240 yX4_leastCut]
def wsX4_readByCuts_r2 : List Cond := [Cond.instanceMethod yX4_leastCut, Cond.selects RX4 yX4_leastCut yX4_leastCut, Cond.code yX4_leastCut cX4_leastCut 8 (some .int), Cond.methodLink RX4 256 Lib.Math.min.name, Cond.static Lib.Math.min.name, Cond.initialized "java/lang/Math", Cond.code Lib.Math.min.name Lib.Math.min.code 2 (some .int), Cond.methodLink RX4 248 yX4_boxOfSet, Cond.instanceMethod yX4_boxOfSet, Cond.selects RX4 yX4_boxOfSet yX4_boxOfSet, Cond.code yX4_boxOfSet cX4_boxOfSet 4 (some (.object "Readingorder$Box")), Cond.methodLink RX4 252 yX1_end, Cond.instanceMethod yX1_end, Cond.selects RX1 yX1_end yX1_end, Cond.initialized RX1, Cond.code yX1_end cX1_end 2 (some .int), Cond.fieldLink RX1 32 "Readingorder$Box" "top" "I", Cond.fieldLink RX1 38 "Readingorder$Box" "height" "I", Cond.fieldLink RX1 29 "Readingorder$Box" "left" "I", Cond.fieldLink RX1 35 "Readingorder$Box" "width" "I", Cond.methodLink RX4 260 yX1_begin, Cond.instanceMethod yX1_begin, Cond.selects RX1 yX1_begin yX1_begin, Cond.code yX1_begin cX1_begin 2 (some .int)]
def wsX4_readByCuts_r3 : List Cond := [Cond.methodLink RX4 244 yX4_endedBy, Cond.instanceMethod yX4_endedBy, Cond.selects RX4 yX4_endedBy yX4_endedBy, Cond.code yX4_endedBy cX4_endedBy 7 (some .int), Cond.methodLink RX4 226 yX4_readUncut, Cond.instanceMethod yX4_readUncut, Cond.selects RX4 yX4_readUncut yX4_readUncut, Cond.code yX4_readUncut cX4_readUncut 7 none, Cond.fieldLink RX4 130 "Readingorder$Box" "number" "I", Cond.fieldLink RX4 104 "Readingorder$Box" "follower" "LReadingorder$Box;", Cond.methodLink RX4 263 yX4_firstByEdges, Cond.instanceMethod yX4_firstByEdges, Cond.selects RX4 yX4_firstByEdges yX4_firstByEdges, Cond.code yX4_firstByEdges cX4_firstByEdges 5 (some (.object "Readingorder$Box")), Cond.methodLink RX4 269 yX1_isAheadByEdges, Cond.instanceMethod yX1_isAheadByEdges, Cond.selects RX1 yX1_isAheadByEdges yX1_isAheadByEdges, Cond.code yX1_isAheadByEdges cX1_isAheadByEdges 2 (some .boolean), Cond.fieldLink RX1 22 "Readingorder$Box" "number" "I", Cond.methodLink RX4 266 yX3_add, Cond.instanceMethod yX3_add, Cond.selects RX3 yX3_add yX3_add, Cond.initialized RX3, Cond.code yX3_add cX3_add 2 none]
def wsX4_readByCuts_r4 : List Cond := [Cond.fieldLink RX3 15 "Readingorder$Reading" "length" "I", Cond.fieldLink RX3 9 "Readingorder$Reading" "numbers" "[I", Cond.methodLink RX4 229 yX4_readParts, Cond.instanceMethod yX4_readParts, Cond.selects RX4 yX4_readParts yX4_readParts, Cond.code yX4_readParts cX4_readParts 5 none]
def wsX4_readByCuts : List Cond := .code yX4_readByCuts cX4_readByCuts 3 none :: ((wsX4_readByCuts_r1 ++ (wsX4_readByCuts_r2 ++ (wsX4_readByCuts_r3 ++ wsX4_readByCuts_r4))) ++ wsX30 ++ wsX40 ++ wsX10)
def wsX4_letFall : List Cond := .code yX4_letFall cX4_letFall 5 (some .int) :: ([.fieldLink RX4 39 "Readingorder" "given" "[LReadingorder$Approval;", .fieldLink RX4 181 "Readingorder$Approval" "holds" "Z", .methodLink RX4 184 yX0_holdsFor, .instanceMethod yX0_holdsFor, .selects RX0 yX0_holdsFor yX0_holdsFor, .initialized RX0, .code yX0_holdsFor cX0_holdsFor 2 (some .boolean), .fieldLink RX0 7 "Readingorder$Approval" "holds" "Z", .fieldLink RX0 17 "Readingorder$Approval" "page" "I"] ++ wsX40 ++ wsX00)
def wsX4_readAgain_r1 : List Cond := [Cond.fieldLink RX4 26 "Readingorder" "trial" "LReadingorder$Reading;", Cond.methodLink RX4 46 yX4_readingOf, Cond.instanceMethod yX4_readingOf, Cond.selects RX4 yX4_readingOf yX4_readingOf, Cond.initialized RX4, Cond.code yX4_readingOf cX4_readingOf 3 (some (.object "Readingorder$Reading")), Cond.classLink RX4 142 "java/lang/IndexOutOfBoundsException", Cond.initialized "java/lang/IndexOutOfBoundsException", Cond.fieldLink RX4 21 "Readingorder" "readings" "[LReadingorder$Reading;", Cond.methodLink RX4 191 yX4_readByCuts, Cond.instanceMethod yX4_readByCuts, Cond.selects RX4 yX4_readByCuts yX4_readByCuts, Cond.code yX4_readByCuts cX4_readByCuts 3 none, Cond.fieldLink RX4 136 "Readingorder$Reading" "length" "I", Cond.methodLink RX4 216 yX4_boxesThatFollowNone, Cond.instanceMethod yX4_boxesThatFollowNone, Cond.selects RX4 yX4_boxesThatFollowNone yX4_boxesThatFollowNone, Cond.code yX4_boxesThatFollowNone cX4_boxesThatFollowNone 5 (some .int), Cond.fieldLink RX4 15 "Readingorder" "madeCount" "I", Cond.fieldLink RX4 98 "Readingorder$Box" "gone" "Z", Cond.fieldLink RX4 89 "Readingorder$Box" "page" "I", Cond.fieldLink RX4 108 "Readingorder$Box" "leader" "LReadingorder$Box;", Cond.methodLink RX4 139 yX4_madeBox, Cond.instanceMethod yX4_madeBox]
def wsX4_readAgain_r2 : List Cond := [Cond.selects RX4 yX4_madeBox yX4_madeBox, Cond.code yX4_madeBox cX4_madeBox 2 (some (.object "Readingorder$Box")), Cond.fieldLink RX4 11 "Readingorder" "made" "[LReadingorder$Box;", Cond.methodLink RX4 219 yX4_readSet, Cond.instanceMethod yX4_readSet, Cond.selects RX4 yX4_readSet yX4_readSet, Cond.code yX4_readSet cX4_readSet 5 none, Cond.methodLink RX4 223 yX4_cutOff, Cond.instanceMethod yX4_cutOff, Cond.selects RX4 yX4_cutOff yX4_cutOff, Cond.code yX4_cutOff cX4_cutOff 4 (some .int), Cond.methodLink RX4 240 yX4_leastCut, Cond.instanceMethod yX4_leastCut, Cond.selects RX4 yX4_leastCut yX4_leastCut, Cond.code yX4_leastCut cX4_leastCut 8 (some .int), Cond.methodLink RX4 256 Lib.Math.min.name, Cond.static Lib.Math.min.name, Cond.initialized "java/lang/Math", Cond.code Lib.Math.min.name Lib.Math.min.code 2 (some .int), Cond.methodLink RX4 248 yX4_boxOfSet, Cond.instanceMethod yX4_boxOfSet, Cond.selects RX4 yX4_boxOfSet yX4_boxOfSet, Cond.code yX4_boxOfSet cX4_boxOfSet 4 (some (.object "Readingorder$Box")), Cond.methodLink RX4 252 yX1_end]
def wsX4_readAgain_r3 : List Cond := [Cond.instanceMethod yX1_end, Cond.selects RX1 yX1_end yX1_end, Cond.initialized RX1, Cond.code yX1_end cX1_end 2 (some .int), Cond.fieldLink RX1 32 "Readingorder$Box" "top" "I", Cond.fieldLink RX1 38 "Readingorder$Box" "height" "I", Cond.fieldLink RX1 29 "Readingorder$Box" "left" "I", Cond.fieldLink RX1 35 "Readingorder$Box" "width" "I", Cond.methodLink RX4 260 yX1_begin, Cond.instanceMethod yX1_begin, Cond.selects RX1 yX1_begin yX1_begin, Cond.code yX1_begin cX1_begin 2 (some .int), Cond.methodLink RX4 244 yX4_endedBy, Cond.instanceMethod yX4_endedBy, Cond.selects RX4 yX4_endedBy yX4_endedBy, Cond.code yX4_endedBy cX4_endedBy 7 (some .int), Cond.methodLink RX4 226 yX4_readUncut, Cond.instanceMethod yX4_readUncut, Cond.selects RX4 yX4_readUncut yX4_readUncut, Cond.code yX4_readUncut cX4_readUncut 7 none, Cond.fieldLink RX4 130 "Readingorder$Box" "number" "I", Cond.fieldLink RX4 104 "Readingorder$Box" "follower" "LReadingorder$Box;", Cond.methodLink RX4 263 yX4_firstByEdges, Cond.instanceMethod yX4_firstByEdges]
def wsX4_readAgain_r4 : List Cond := [Cond.selects RX4 yX4_firstByEdges yX4_firstByEdges, Cond.code yX4_firstByEdges cX4_firstByEdges 5 (some (.object "Readingorder$Box")), Cond.methodLink RX4 269 yX1_isAheadByEdges, Cond.instanceMethod yX1_isAheadByEdges, Cond.selects RX1 yX1_isAheadByEdges yX1_isAheadByEdges, Cond.code yX1_isAheadByEdges cX1_isAheadByEdges 2 (some .boolean), Cond.fieldLink RX1 22 "Readingorder$Box" "number" "I", Cond.methodLink RX4 266 yX3_add, Cond.instanceMethod yX3_add, Cond.selects RX3 yX3_add yX3_add, Cond.initialized RX3, Cond.code yX3_add cX3_add 2 none, Cond.fieldLink RX3 15 "Readingorder$Reading" "length" "I", Cond.fieldLink RX3 9 "Readingorder$Reading" "numbers" "[I", Cond.methodLink RX4 229 yX4_readParts, Cond.instanceMethod yX4_readParts, Cond.selects RX4 yX4_readParts yX4_readParts, Cond.code yX4_readParts cX4_readParts 5 none, Cond.methodLink RX4 194 yX3_isSameAs, Cond.instanceMethod yX3_isSameAs, Cond.selects RX3 yX3_isSameAs yX3_isSameAs, Cond.code yX3_isSameAs cX3_isSameAs 3 (some .boolean), Cond.methodLink RX3 19 yX3_at, Cond.instanceMethod yX3_at]
def wsX4_readAgain_r5 : List Cond := [Cond.selects RX3 yX3_at yX3_at, Cond.code yX3_at cX3_at 2 (some .int), Cond.methodLink RX4 209 yX3_become, Cond.instanceMethod yX3_become, Cond.selects RX3 yX3_become yX3_become, Cond.code yX3_become cX3_become 3 none, Cond.methodLink RX3 23 yX3_add, Cond.methodLink RX4 213 yX4_letFall, Cond.instanceMethod yX4_letFall, Cond.selects RX4 yX4_letFall yX4_letFall, Cond.code yX4_letFall cX4_letFall 5 (some .int), Cond.fieldLink RX4 39 "Readingorder" "given" "[LReadingorder$Approval;", Cond.fieldLink RX4 181 "Readingorder$Approval" "holds" "Z", Cond.methodLink RX4 184 yX0_holdsFor, Cond.instanceMethod yX0_holdsFor, Cond.selects RX0 yX0_holdsFor yX0_holdsFor, Cond.initialized RX0, Cond.code yX0_holdsFor cX0_holdsFor 2 (some .boolean), Cond.fieldLink RX0 7 "Readingorder$Approval" "holds" "Z", Cond.fieldLink RX0 17 "Readingorder$Approval" "page" "I"]
def wsX4_readAgain : List Cond := .code yX4_readAgain cX4_readAgain 3 (some .int) :: ((wsX4_readAgain_r1 ++ (wsX4_readAgain_r2 ++ (wsX4_readAgain_r3 ++ (wsX4_readAgain_r4 ++ wsX4_readAgain_r5)))) ++ wsX40 ++ wsX30 ++ wsX10 ++ wsX00 ++ (vx_atS RX4 146 "java/lang/IndexOutOfBoundsException" ["java/lang/RuntimeException", "java/lang/Exception"]).filter goodWord)
def wsX4_box_r1 : List Cond := [Cond.classLink RX4 50 "java/lang/IllegalArgumentException", Cond.initialized "java/lang/IllegalArgumentException", Cond.classLink RX4 61 "java/lang/IllegalStateException", Cond.initialized "java/lang/IllegalStateException", Cond.fieldLink RX4 15 "Readingorder" "madeCount" "I", Cond.fieldLink RX4 11 "Readingorder" "made" "[LReadingorder$Box;", Cond.classLink RX4 9 RX1, Cond.instantiable RX1 10, Cond.initialized RX1, Cond.methodLink RX4 46 yX4_readingOf, Cond.instanceMethod yX4_readingOf, Cond.selects RX4 yX4_readingOf yX4_readingOf, Cond.initialized RX4, Cond.code yX4_readingOf cX4_readingOf 3 (some (.object "Readingorder$Reading")), Cond.classLink RX4 142 "java/lang/IndexOutOfBoundsException", Cond.initialized "java/lang/IndexOutOfBoundsException", Cond.fieldLink RX4 21 "Readingorder" "readings" "[LReadingorder$Reading;", Cond.methodLink RX4 57 yX4_checkWithinPage, Cond.static yX4_checkWithinPage, Cond.code yX4_checkWithinPage cX4_checkWithinPage 4 none, Cond.methodLink RX4 66 yX1_init, Cond.instanceMethod yX1_init, Cond.code yX1_init cX1_init 8 none, Cond.methodLink RX1 3 objectInit]
def wsX4_box_r2 : List Cond := [Cond.instanceMethod objectInit, Cond.code objectInit ⟨#[0xb1]⟩ 1 none, Cond.fieldLink RX1 9 "Readingorder$Box" "gone" "Z", Cond.fieldLink RX1 15 "Readingorder$Box" "leader" "LReadingorder$Box;", Cond.fieldLink RX1 19 "Readingorder$Box" "follower" "LReadingorder$Box;", Cond.fieldLink RX1 22 "Readingorder$Box" "number" "I", Cond.fieldLink RX1 26 "Readingorder$Box" "page" "I", Cond.fieldLink RX1 29 "Readingorder$Box" "left" "I", Cond.fieldLink RX1 32 "Readingorder$Box" "top" "I", Cond.fieldLink RX1 35 "Readingorder$Box" "width" "I", Cond.fieldLink RX1 38 "Readingorder$Box" "height" "I", Cond.fieldLink RX1 41 "Readingorder$Box" "kind" "I", Cond.methodLink RX4 69 yX4_readAgain, Cond.instanceMethod yX4_readAgain, Cond.selects RX4 yX4_readAgain yX4_readAgain, Cond.code yX4_readAgain cX4_readAgain 3 (some .int), Cond.fieldLink RX4 26 "Readingorder" "trial" "LReadingorder$Reading;", Cond.methodLink RX4 191 yX4_readByCuts, Cond.instanceMethod yX4_readByCuts, Cond.selects RX4 yX4_readByCuts yX4_readByCuts, Cond.code yX4_readByCuts cX4_readByCuts 3 none, Cond.fieldLink RX4 136 "Readingorder$Reading" "length" "I", Cond.methodLink RX4 216 yX4_boxesThatFollowNone, Cond.instanceMethod yX4_boxesThatFollowNone]
def wsX4_box_r3 : List Cond := [Cond.selects RX4 yX4_boxesThatFollowNone yX4_boxesThatFollowNone, Cond.code yX4_boxesThatFollowNone cX4_boxesThatFollowNone 5 (some .int), Cond.fieldLink RX4 98 "Readingorder$Box" "gone" "Z", Cond.fieldLink RX4 89 "Readingorder$Box" "page" "I", Cond.fieldLink RX4 108 "Readingorder$Box" "leader" "LReadingorder$Box;", Cond.methodLink RX4 139 yX4_madeBox, Cond.instanceMethod yX4_madeBox, Cond.selects RX4 yX4_madeBox yX4_madeBox, Cond.code yX4_madeBox cX4_madeBox 2 (some (.object "Readingorder$Box")), Cond.methodLink RX4 219 yX4_readSet, Cond.instanceMethod yX4_readSet, Cond.selects RX4 yX4_readSet yX4_readSet, Cond.code yX4_readSet cX4_readSet 5 none, Cond.methodLink RX4 223 yX4_cutOff, Cond.instanceMethod yX4_cutOff, Cond.selects RX4 yX4_cutOff yX4_cutOff, Cond.code yX4_cutOff cX4_cutOff 4 (some .int), Cond.methodLink RX4 240 yX4_leastCut, Cond.instanceMethod yX4_leastCut, Cond.selects RX4 yX4_leastCut yX4_leastCut, Cond.code yX4_leastCut cX4_leastCut 8 (some .int), Cond.methodLink RX4 256 Lib.Math.min.name, Cond.static Lib.Math.min.name, Cond.initialized "java/lang/Math"]
def wsX4_box_r4 : List Cond := [Cond.code Lib.Math.min.name Lib.Math.min.code 2 (some .int), Cond.methodLink RX4 248 yX4_boxOfSet, Cond.instanceMethod yX4_boxOfSet, Cond.selects RX4 yX4_boxOfSet yX4_boxOfSet, Cond.code yX4_boxOfSet cX4_boxOfSet 4 (some (.object "Readingorder$Box")), Cond.methodLink RX4 252 yX1_end, Cond.instanceMethod yX1_end, Cond.selects RX1 yX1_end yX1_end, Cond.code yX1_end cX1_end 2 (some .int), Cond.methodLink RX4 260 yX1_begin, Cond.instanceMethod yX1_begin, Cond.selects RX1 yX1_begin yX1_begin, Cond.code yX1_begin cX1_begin 2 (some .int), Cond.methodLink RX4 244 yX4_endedBy, Cond.instanceMethod yX4_endedBy, Cond.selects RX4 yX4_endedBy yX4_endedBy, Cond.code yX4_endedBy cX4_endedBy 7 (some .int), Cond.methodLink RX4 226 yX4_readUncut, Cond.instanceMethod yX4_readUncut, Cond.selects RX4 yX4_readUncut yX4_readUncut, Cond.code yX4_readUncut cX4_readUncut 7 none, Cond.fieldLink RX4 130 "Readingorder$Box" "number" "I", Cond.fieldLink RX4 104 "Readingorder$Box" "follower" "LReadingorder$Box;", Cond.methodLink RX4 263 yX4_firstByEdges]
def wsX4_box_r5 : List Cond := [Cond.instanceMethod yX4_firstByEdges, Cond.selects RX4 yX4_firstByEdges yX4_firstByEdges, Cond.code yX4_firstByEdges cX4_firstByEdges 5 (some (.object "Readingorder$Box")), Cond.methodLink RX4 269 yX1_isAheadByEdges, Cond.instanceMethod yX1_isAheadByEdges, Cond.selects RX1 yX1_isAheadByEdges yX1_isAheadByEdges, Cond.code yX1_isAheadByEdges cX1_isAheadByEdges 2 (some .boolean), Cond.methodLink RX4 266 yX3_add, Cond.instanceMethod yX3_add, Cond.selects RX3 yX3_add yX3_add, Cond.initialized RX3, Cond.code yX3_add cX3_add 2 none, Cond.fieldLink RX3 15 "Readingorder$Reading" "length" "I", Cond.fieldLink RX3 9 "Readingorder$Reading" "numbers" "[I", Cond.methodLink RX4 229 yX4_readParts, Cond.instanceMethod yX4_readParts, Cond.selects RX4 yX4_readParts yX4_readParts, Cond.code yX4_readParts cX4_readParts 5 none, Cond.methodLink RX4 194 yX3_isSameAs, Cond.instanceMethod yX3_isSameAs, Cond.selects RX3 yX3_isSameAs yX3_isSameAs, Cond.code yX3_isSameAs cX3_isSameAs 3 (some .boolean), Cond.methodLink RX3 19 yX3_at, Cond.instanceMethod yX3_at]
def wsX4_box_r6 : List Cond := [Cond.selects RX3 yX3_at yX3_at, Cond.code yX3_at cX3_at 2 (some .int), Cond.methodLink RX4 209 yX3_become, Cond.instanceMethod yX3_become, Cond.selects RX3 yX3_become yX3_become, Cond.code yX3_become cX3_become 3 none, Cond.methodLink RX3 23 yX3_add, Cond.methodLink RX4 213 yX4_letFall, Cond.instanceMethod yX4_letFall, Cond.selects RX4 yX4_letFall yX4_letFall, Cond.code yX4_letFall cX4_letFall 5 (some .int), Cond.fieldLink RX4 39 "Readingorder" "given" "[LReadingorder$Approval;", Cond.fieldLink RX4 181 "Readingorder$Approval" "holds" "Z", Cond.methodLink RX4 184 yX0_holdsFor, Cond.instanceMethod yX0_holdsFor, Cond.selects RX0 yX0_holdsFor yX0_holdsFor, Cond.initialized RX0, Cond.code yX0_holdsFor cX0_holdsFor 2 (some .boolean), Cond.fieldLink RX0 7 "Readingorder$Approval" "holds" "Z", Cond.fieldLink RX0 17 "Readingorder$Approval" "page" "I"]
def wsX4_box : List Cond := .code yX4_box cX4_box 8 (some .int) :: ((wsX4_box_r1 ++ (wsX4_box_r2 ++ (wsX4_box_r3 ++ (wsX4_box_r4 ++ (wsX4_box_r5 ++ wsX4_box_r6))))) ++ wsX40 ++ wsX10 ++ wsX30 ++ wsX00 ++ (vx_atS RX4 54 "java/lang/IllegalArgumentException" ["java/lang/RuntimeException", "java/lang/Exception"]).filter goodWord ++ (vx_atS RX4 65 "java/lang/IllegalStateException" ["java/lang/RuntimeException", "java/lang/Exception"]).filter goodWord ++ (vx_atS RX4 146 "java/lang/IndexOutOfBoundsException" ["java/lang/RuntimeException", "java/lang/Exception"]).filter goodWord)
def wsX4_presentBox : List Cond := .code yX4_presentBox cX4_presentBox 3 (some (.object "Readingorder$Box")) :: ([.classLink RX4 142 "java/lang/IndexOutOfBoundsException", .initialized "java/lang/IndexOutOfBoundsException", .fieldLink RX4 98 "Readingorder$Box" "gone" "Z", .methodLink RX4 139 yX4_madeBox, .instanceMethod yX4_madeBox, .selects RX4 yX4_madeBox yX4_madeBox, .initialized RX4, .code yX4_madeBox cX4_madeBox 2 (some (.object "Readingorder$Box")), .fieldLink RX4 11 "Readingorder" "made" "[LReadingorder$Box;"] ++ wsX10 ++ wsX40 ++ (vx_atS RX4 146 "java/lang/IndexOutOfBoundsException" ["java/lang/RuntimeException", "java/lang/Exception"]).filter goodWord)
def wsX4_move_r1 : List Cond := [Cond.fieldLink RX4 77 "Readingorder$Box" "width" "I", Cond.fieldLink RX4 80 "Readingorder$Box" "height" "I", Cond.fieldLink RX4 83 "Readingorder$Box" "left" "I", Cond.fieldLink RX4 86 "Readingorder$Box" "top" "I", Cond.fieldLink RX4 89 "Readingorder$Box" "page" "I", Cond.methodLink RX4 73 yX4_presentBox, Cond.instanceMethod yX4_presentBox, Cond.selects RX4 yX4_presentBox yX4_presentBox, Cond.initialized RX4, Cond.code yX4_presentBox cX4_presentBox 3 (some (.object "Readingorder$Box")), Cond.classLink RX4 142 "java/lang/IndexOutOfBoundsException", Cond.initialized "java/lang/IndexOutOfBoundsException", Cond.fieldLink RX4 98 "Readingorder$Box" "gone" "Z", Cond.methodLink RX4 139 yX4_madeBox, Cond.instanceMethod yX4_madeBox, Cond.selects RX4 yX4_madeBox yX4_madeBox, Cond.code yX4_madeBox cX4_madeBox 2 (some (.object "Readingorder$Box")), Cond.fieldLink RX4 11 "Readingorder" "made" "[LReadingorder$Box;", Cond.methodLink RX4 57 yX4_checkWithinPage, Cond.static yX4_checkWithinPage, Cond.code yX4_checkWithinPage cX4_checkWithinPage 4 none, Cond.classLink RX4 50 "java/lang/IllegalArgumentException", Cond.initialized "java/lang/IllegalArgumentException", Cond.methodLink RX4 69 yX4_readAgain]
def wsX4_move_r2 : List Cond := [Cond.instanceMethod yX4_readAgain, Cond.selects RX4 yX4_readAgain yX4_readAgain, Cond.code yX4_readAgain cX4_readAgain 3 (some .int), Cond.fieldLink RX4 26 "Readingorder" "trial" "LReadingorder$Reading;", Cond.methodLink RX4 46 yX4_readingOf, Cond.instanceMethod yX4_readingOf, Cond.selects RX4 yX4_readingOf yX4_readingOf, Cond.code yX4_readingOf cX4_readingOf 3 (some (.object "Readingorder$Reading")), Cond.fieldLink RX4 21 "Readingorder" "readings" "[LReadingorder$Reading;", Cond.methodLink RX4 191 yX4_readByCuts, Cond.instanceMethod yX4_readByCuts, Cond.selects RX4 yX4_readByCuts yX4_readByCuts, Cond.code yX4_readByCuts cX4_readByCuts 3 none, Cond.fieldLink RX4 136 "Readingorder$Reading" "length" "I", Cond.methodLink RX4 216 yX4_boxesThatFollowNone, Cond.instanceMethod yX4_boxesThatFollowNone, Cond.selects RX4 yX4_boxesThatFollowNone yX4_boxesThatFollowNone, Cond.code yX4_boxesThatFollowNone cX4_boxesThatFollowNone 5 (some .int), Cond.fieldLink RX4 15 "Readingorder" "madeCount" "I", Cond.fieldLink RX4 108 "Readingorder$Box" "leader" "LReadingorder$Box;", Cond.methodLink RX4 219 yX4_readSet, Cond.instanceMethod yX4_readSet, Cond.selects RX4 yX4_readSet yX4_readSet, Cond.code yX4_readSet cX4_readSet 5 none]
def wsX4_move_r3 : List Cond := [Cond.methodLink RX4 223 yX4_cutOff, Cond.instanceMethod yX4_cutOff, Cond.selects RX4 yX4_cutOff yX4_cutOff, Cond.code yX4_cutOff cX4_cutOff 4 (some .int), Cond.methodLink RX4 240 yX4_leastCut, Cond.instanceMethod yX4_leastCut, Cond.selects RX4 yX4_leastCut yX4_leastCut, Cond.code yX4_leastCut cX4_leastCut 8 (some .int), Cond.methodLink RX4 256 Lib.Math.min.name, Cond.static Lib.Math.min.name, Cond.initialized "java/lang/Math", Cond.code Lib.Math.min.name Lib.Math.min.code 2 (some .int), Cond.methodLink RX4 248 yX4_boxOfSet, Cond.instanceMethod yX4_boxOfSet, Cond.selects RX4 yX4_boxOfSet yX4_boxOfSet, Cond.code yX4_boxOfSet cX4_boxOfSet 4 (some (.object "Readingorder$Box")), Cond.methodLink RX4 252 yX1_end, Cond.instanceMethod yX1_end, Cond.selects RX1 yX1_end yX1_end, Cond.initialized RX1, Cond.code yX1_end cX1_end 2 (some .int), Cond.fieldLink RX1 32 "Readingorder$Box" "top" "I", Cond.fieldLink RX1 38 "Readingorder$Box" "height" "I", Cond.fieldLink RX1 29 "Readingorder$Box" "left" "I"]
def wsX4_move_r4 : List Cond := [Cond.fieldLink RX1 35 "Readingorder$Box" "width" "I", Cond.methodLink RX4 260 yX1_begin, Cond.instanceMethod yX1_begin, Cond.selects RX1 yX1_begin yX1_begin, Cond.code yX1_begin cX1_begin 2 (some .int), Cond.methodLink RX4 244 yX4_endedBy, Cond.instanceMethod yX4_endedBy, Cond.selects RX4 yX4_endedBy yX4_endedBy, Cond.code yX4_endedBy cX4_endedBy 7 (some .int), Cond.methodLink RX4 226 yX4_readUncut, Cond.instanceMethod yX4_readUncut, Cond.selects RX4 yX4_readUncut yX4_readUncut, Cond.code yX4_readUncut cX4_readUncut 7 none, Cond.fieldLink RX4 130 "Readingorder$Box" "number" "I", Cond.fieldLink RX4 104 "Readingorder$Box" "follower" "LReadingorder$Box;", Cond.methodLink RX4 263 yX4_firstByEdges, Cond.instanceMethod yX4_firstByEdges, Cond.selects RX4 yX4_firstByEdges yX4_firstByEdges, Cond.code yX4_firstByEdges cX4_firstByEdges 5 (some (.object "Readingorder$Box")), Cond.methodLink RX4 269 yX1_isAheadByEdges, Cond.instanceMethod yX1_isAheadByEdges, Cond.selects RX1 yX1_isAheadByEdges yX1_isAheadByEdges, Cond.code yX1_isAheadByEdges cX1_isAheadByEdges 2 (some .boolean), Cond.fieldLink RX1 22 "Readingorder$Box" "number" "I"]
def wsX4_move_r5 : List Cond := [Cond.methodLink RX4 266 yX3_add, Cond.instanceMethod yX3_add, Cond.selects RX3 yX3_add yX3_add, Cond.initialized RX3, Cond.code yX3_add cX3_add 2 none, Cond.fieldLink RX3 15 "Readingorder$Reading" "length" "I", Cond.fieldLink RX3 9 "Readingorder$Reading" "numbers" "[I", Cond.methodLink RX4 229 yX4_readParts, Cond.instanceMethod yX4_readParts, Cond.selects RX4 yX4_readParts yX4_readParts, Cond.code yX4_readParts cX4_readParts 5 none, Cond.methodLink RX4 194 yX3_isSameAs, Cond.instanceMethod yX3_isSameAs, Cond.selects RX3 yX3_isSameAs yX3_isSameAs, Cond.code yX3_isSameAs cX3_isSameAs 3 (some .boolean), Cond.methodLink RX3 19 yX3_at, Cond.instanceMethod yX3_at, Cond.selects RX3 yX3_at yX3_at, Cond.code yX3_at cX3_at 2 (some .int), Cond.methodLink RX4 209 yX3_become, Cond.instanceMethod yX3_become, Cond.selects RX3 yX3_become yX3_become, Cond.code yX3_become cX3_become 3 none, Cond.methodLink RX3 23 yX3_add]
def wsX4_move_r6 : List Cond := [Cond.methodLink RX4 213 yX4_letFall, Cond.instanceMethod yX4_letFall, Cond.selects RX4 yX4_letFall yX4_letFall, Cond.code yX4_letFall cX4_letFall 5 (some .int), Cond.fieldLink RX4 39 "Readingorder" "given" "[LReadingorder$Approval;", Cond.fieldLink RX4 181 "Readingorder$Approval" "holds" "Z", Cond.methodLink RX4 184 yX0_holdsFor, Cond.instanceMethod yX0_holdsFor, Cond.selects RX0 yX0_holdsFor yX0_holdsFor, Cond.initialized RX0, Cond.code yX0_holdsFor cX0_holdsFor 2 (some .boolean), Cond.fieldLink RX0 7 "Readingorder$Approval" "holds" "Z", Cond.fieldLink RX0 17 "Readingorder$Approval" "page" "I"]
def wsX4_move : List Cond := .code yX4_move cX4_move 5 (some .int) :: ((wsX4_move_r1 ++ (wsX4_move_r2 ++ (wsX4_move_r3 ++ (wsX4_move_r4 ++ (wsX4_move_r5 ++ wsX4_move_r6))))) ++ wsX10 ++ wsX40 ++ wsX30 ++ wsX00 ++ (vx_atS RX4 146 "java/lang/IndexOutOfBoundsException" ["java/lang/RuntimeException", "java/lang/Exception"]).filter goodWord ++ (vx_atS RX4 54 "java/lang/IllegalArgumentException" ["java/lang/RuntimeException", "java/lang/Exception"]).filter goodWord)
def wsX4_resize_r1 : List Cond := [Cond.fieldLink RX4 83 "Readingorder$Box" "left" "I", Cond.fieldLink RX4 86 "Readingorder$Box" "top" "I", Cond.fieldLink RX4 77 "Readingorder$Box" "width" "I", Cond.fieldLink RX4 80 "Readingorder$Box" "height" "I", Cond.fieldLink RX4 89 "Readingorder$Box" "page" "I", Cond.methodLink RX4 73 yX4_presentBox, Cond.instanceMethod yX4_presentBox, Cond.selects RX4 yX4_presentBox yX4_presentBox, Cond.initialized RX4, Cond.code yX4_presentBox cX4_presentBox 3 (some (.object "Readingorder$Box")), Cond.classLink RX4 142 "java/lang/IndexOutOfBoundsException", Cond.initialized "java/lang/IndexOutOfBoundsException", Cond.fieldLink RX4 98 "Readingorder$Box" "gone" "Z", Cond.methodLink RX4 139 yX4_madeBox, Cond.instanceMethod yX4_madeBox, Cond.selects RX4 yX4_madeBox yX4_madeBox, Cond.code yX4_madeBox cX4_madeBox 2 (some (.object "Readingorder$Box")), Cond.fieldLink RX4 11 "Readingorder" "made" "[LReadingorder$Box;", Cond.methodLink RX4 57 yX4_checkWithinPage, Cond.static yX4_checkWithinPage, Cond.code yX4_checkWithinPage cX4_checkWithinPage 4 none, Cond.classLink RX4 50 "java/lang/IllegalArgumentException", Cond.initialized "java/lang/IllegalArgumentException", Cond.methodLink RX4 69 yX4_readAgain]
def wsX4_resize_r2 : List Cond := [Cond.instanceMethod yX4_readAgain, Cond.selects RX4 yX4_readAgain yX4_readAgain, Cond.code yX4_readAgain cX4_readAgain 3 (some .int), Cond.fieldLink RX4 26 "Readingorder" "trial" "LReadingorder$Reading;", Cond.methodLink RX4 46 yX4_readingOf, Cond.instanceMethod yX4_readingOf, Cond.selects RX4 yX4_readingOf yX4_readingOf, Cond.code yX4_readingOf cX4_readingOf 3 (some (.object "Readingorder$Reading")), Cond.fieldLink RX4 21 "Readingorder" "readings" "[LReadingorder$Reading;", Cond.methodLink RX4 191 yX4_readByCuts, Cond.instanceMethod yX4_readByCuts, Cond.selects RX4 yX4_readByCuts yX4_readByCuts, Cond.code yX4_readByCuts cX4_readByCuts 3 none, Cond.fieldLink RX4 136 "Readingorder$Reading" "length" "I", Cond.methodLink RX4 216 yX4_boxesThatFollowNone, Cond.instanceMethod yX4_boxesThatFollowNone, Cond.selects RX4 yX4_boxesThatFollowNone yX4_boxesThatFollowNone, Cond.code yX4_boxesThatFollowNone cX4_boxesThatFollowNone 5 (some .int), Cond.fieldLink RX4 15 "Readingorder" "madeCount" "I", Cond.fieldLink RX4 108 "Readingorder$Box" "leader" "LReadingorder$Box;", Cond.methodLink RX4 219 yX4_readSet, Cond.instanceMethod yX4_readSet, Cond.selects RX4 yX4_readSet yX4_readSet, Cond.code yX4_readSet cX4_readSet 5 none]
def wsX4_resize_r3 : List Cond := [Cond.methodLink RX4 223 yX4_cutOff, Cond.instanceMethod yX4_cutOff, Cond.selects RX4 yX4_cutOff yX4_cutOff, Cond.code yX4_cutOff cX4_cutOff 4 (some .int), Cond.methodLink RX4 240 yX4_leastCut, Cond.instanceMethod yX4_leastCut, Cond.selects RX4 yX4_leastCut yX4_leastCut, Cond.code yX4_leastCut cX4_leastCut 8 (some .int), Cond.methodLink RX4 256 Lib.Math.min.name, Cond.static Lib.Math.min.name, Cond.initialized "java/lang/Math", Cond.code Lib.Math.min.name Lib.Math.min.code 2 (some .int), Cond.methodLink RX4 248 yX4_boxOfSet, Cond.instanceMethod yX4_boxOfSet, Cond.selects RX4 yX4_boxOfSet yX4_boxOfSet, Cond.code yX4_boxOfSet cX4_boxOfSet 4 (some (.object "Readingorder$Box")), Cond.methodLink RX4 252 yX1_end, Cond.instanceMethod yX1_end, Cond.selects RX1 yX1_end yX1_end, Cond.initialized RX1, Cond.code yX1_end cX1_end 2 (some .int), Cond.fieldLink RX1 32 "Readingorder$Box" "top" "I", Cond.fieldLink RX1 38 "Readingorder$Box" "height" "I", Cond.fieldLink RX1 29 "Readingorder$Box" "left" "I"]
def wsX4_resize_r4 : List Cond := [Cond.fieldLink RX1 35 "Readingorder$Box" "width" "I", Cond.methodLink RX4 260 yX1_begin, Cond.instanceMethod yX1_begin, Cond.selects RX1 yX1_begin yX1_begin, Cond.code yX1_begin cX1_begin 2 (some .int), Cond.methodLink RX4 244 yX4_endedBy, Cond.instanceMethod yX4_endedBy, Cond.selects RX4 yX4_endedBy yX4_endedBy, Cond.code yX4_endedBy cX4_endedBy 7 (some .int), Cond.methodLink RX4 226 yX4_readUncut, Cond.instanceMethod yX4_readUncut, Cond.selects RX4 yX4_readUncut yX4_readUncut, Cond.code yX4_readUncut cX4_readUncut 7 none, Cond.fieldLink RX4 130 "Readingorder$Box" "number" "I", Cond.fieldLink RX4 104 "Readingorder$Box" "follower" "LReadingorder$Box;", Cond.methodLink RX4 263 yX4_firstByEdges, Cond.instanceMethod yX4_firstByEdges, Cond.selects RX4 yX4_firstByEdges yX4_firstByEdges, Cond.code yX4_firstByEdges cX4_firstByEdges 5 (some (.object "Readingorder$Box")), Cond.methodLink RX4 269 yX1_isAheadByEdges, Cond.instanceMethod yX1_isAheadByEdges, Cond.selects RX1 yX1_isAheadByEdges yX1_isAheadByEdges, Cond.code yX1_isAheadByEdges cX1_isAheadByEdges 2 (some .boolean), Cond.fieldLink RX1 22 "Readingorder$Box" "number" "I"]
def wsX4_resize_r5 : List Cond := [Cond.methodLink RX4 266 yX3_add, Cond.instanceMethod yX3_add, Cond.selects RX3 yX3_add yX3_add, Cond.initialized RX3, Cond.code yX3_add cX3_add 2 none, Cond.fieldLink RX3 15 "Readingorder$Reading" "length" "I", Cond.fieldLink RX3 9 "Readingorder$Reading" "numbers" "[I", Cond.methodLink RX4 229 yX4_readParts, Cond.instanceMethod yX4_readParts, Cond.selects RX4 yX4_readParts yX4_readParts, Cond.code yX4_readParts cX4_readParts 5 none, Cond.methodLink RX4 194 yX3_isSameAs, Cond.instanceMethod yX3_isSameAs, Cond.selects RX3 yX3_isSameAs yX3_isSameAs, Cond.code yX3_isSameAs cX3_isSameAs 3 (some .boolean), Cond.methodLink RX3 19 yX3_at, Cond.instanceMethod yX3_at, Cond.selects RX3 yX3_at yX3_at, Cond.code yX3_at cX3_at 2 (some .int), Cond.methodLink RX4 209 yX3_become, Cond.instanceMethod yX3_become, Cond.selects RX3 yX3_become yX3_become, Cond.code yX3_become cX3_become 3 none, Cond.methodLink RX3 23 yX3_add]
def wsX4_resize_r6 : List Cond := [Cond.methodLink RX4 213 yX4_letFall, Cond.instanceMethod yX4_letFall, Cond.selects RX4 yX4_letFall yX4_letFall, Cond.code yX4_letFall cX4_letFall 5 (some .int), Cond.fieldLink RX4 39 "Readingorder" "given" "[LReadingorder$Approval;", Cond.fieldLink RX4 181 "Readingorder$Approval" "holds" "Z", Cond.methodLink RX4 184 yX0_holdsFor, Cond.instanceMethod yX0_holdsFor, Cond.selects RX0 yX0_holdsFor yX0_holdsFor, Cond.initialized RX0, Cond.code yX0_holdsFor cX0_holdsFor 2 (some .boolean), Cond.fieldLink RX0 7 "Readingorder$Approval" "holds" "Z", Cond.fieldLink RX0 17 "Readingorder$Approval" "page" "I"]
def wsX4_resize : List Cond := .code yX4_resize cX4_resize 5 (some .int) :: ((wsX4_resize_r1 ++ (wsX4_resize_r2 ++ (wsX4_resize_r3 ++ (wsX4_resize_r4 ++ (wsX4_resize_r5 ++ wsX4_resize_r6))))) ++ wsX10 ++ wsX40 ++ wsX30 ++ wsX00 ++ (vx_atS RX4 146 "java/lang/IndexOutOfBoundsException" ["java/lang/RuntimeException", "java/lang/Exception"]).filter goodWord ++ (vx_atS RX4 54 "java/lang/IllegalArgumentException" ["java/lang/RuntimeException", "java/lang/Exception"]).filter goodWord)
def wsX4_remove_r1 : List Cond := [Cond.fieldLink RX4 98 "Readingorder$Box" "gone" "Z", Cond.fieldLink RX4 89 "Readingorder$Box" "page" "I", Cond.methodLink RX4 73 yX4_presentBox, Cond.instanceMethod yX4_presentBox, Cond.selects RX4 yX4_presentBox yX4_presentBox, Cond.initialized RX4, Cond.code yX4_presentBox cX4_presentBox 3 (some (.object "Readingorder$Box")), Cond.classLink RX4 142 "java/lang/IndexOutOfBoundsException", Cond.initialized "java/lang/IndexOutOfBoundsException", Cond.methodLink RX4 139 yX4_madeBox, Cond.instanceMethod yX4_madeBox, Cond.selects RX4 yX4_madeBox yX4_madeBox, Cond.code yX4_madeBox cX4_madeBox 2 (some (.object "Readingorder$Box")), Cond.fieldLink RX4 11 "Readingorder" "made" "[LReadingorder$Box;", Cond.methodLink RX4 92 yX1_loosenFromLeader, Cond.instanceMethod yX1_loosenFromLeader, Cond.selects RX1 yX1_loosenFromLeader yX1_loosenFromLeader, Cond.initialized RX1, Cond.code yX1_loosenFromLeader cX1_loosenFromLeader 1 none, Cond.fieldLink RX1 15 "Readingorder$Box" "leader" "LReadingorder$Box;", Cond.fieldLink RX1 19 "Readingorder$Box" "follower" "LReadingorder$Box;", Cond.methodLink RX4 95 yX1_loosenFromFollower, Cond.instanceMethod yX1_loosenFromFollower, Cond.selects RX1 yX1_loosenFromFollower yX1_loosenFromFollower]
def wsX4_remove_r2 : List Cond := [Cond.code yX1_loosenFromFollower cX1_loosenFromFollower 1 none, Cond.methodLink RX4 69 yX4_readAgain, Cond.instanceMethod yX4_readAgain, Cond.selects RX4 yX4_readAgain yX4_readAgain, Cond.code yX4_readAgain cX4_readAgain 3 (some .int), Cond.fieldLink RX4 26 "Readingorder" "trial" "LReadingorder$Reading;", Cond.methodLink RX4 46 yX4_readingOf, Cond.instanceMethod yX4_readingOf, Cond.selects RX4 yX4_readingOf yX4_readingOf, Cond.code yX4_readingOf cX4_readingOf 3 (some (.object "Readingorder$Reading")), Cond.fieldLink RX4 21 "Readingorder" "readings" "[LReadingorder$Reading;", Cond.methodLink RX4 191 yX4_readByCuts, Cond.instanceMethod yX4_readByCuts, Cond.selects RX4 yX4_readByCuts yX4_readByCuts, Cond.code yX4_readByCuts cX4_readByCuts 3 none, Cond.fieldLink RX4 136 "Readingorder$Reading" "length" "I", Cond.methodLink RX4 216 yX4_boxesThatFollowNone, Cond.instanceMethod yX4_boxesThatFollowNone, Cond.selects RX4 yX4_boxesThatFollowNone yX4_boxesThatFollowNone, Cond.code yX4_boxesThatFollowNone cX4_boxesThatFollowNone 5 (some .int), Cond.fieldLink RX4 15 "Readingorder" "madeCount" "I", Cond.fieldLink RX4 108 "Readingorder$Box" "leader" "LReadingorder$Box;", Cond.methodLink RX4 219 yX4_readSet, Cond.instanceMethod yX4_readSet]
def wsX4_remove_r3 : List Cond := [Cond.selects RX4 yX4_readSet yX4_readSet, Cond.code yX4_readSet cX4_readSet 5 none, Cond.methodLink RX4 223 yX4_cutOff, Cond.instanceMethod yX4_cutOff, Cond.selects RX4 yX4_cutOff yX4_cutOff, Cond.code yX4_cutOff cX4_cutOff 4 (some .int), Cond.methodLink RX4 240 yX4_leastCut, Cond.instanceMethod yX4_leastCut, Cond.selects RX4 yX4_leastCut yX4_leastCut, Cond.code yX4_leastCut cX4_leastCut 8 (some .int), Cond.methodLink RX4 256 Lib.Math.min.name, Cond.static Lib.Math.min.name, Cond.initialized "java/lang/Math", Cond.code Lib.Math.min.name Lib.Math.min.code 2 (some .int), Cond.methodLink RX4 248 yX4_boxOfSet, Cond.instanceMethod yX4_boxOfSet, Cond.selects RX4 yX4_boxOfSet yX4_boxOfSet, Cond.code yX4_boxOfSet cX4_boxOfSet 4 (some (.object "Readingorder$Box")), Cond.methodLink RX4 252 yX1_end, Cond.instanceMethod yX1_end, Cond.selects RX1 yX1_end yX1_end, Cond.code yX1_end cX1_end 2 (some .int), Cond.fieldLink RX1 32 "Readingorder$Box" "top" "I", Cond.fieldLink RX1 38 "Readingorder$Box" "height" "I"]
def wsX4_remove_r4 : List Cond := [Cond.fieldLink RX1 29 "Readingorder$Box" "left" "I", Cond.fieldLink RX1 35 "Readingorder$Box" "width" "I", Cond.methodLink RX4 260 yX1_begin, Cond.instanceMethod yX1_begin, Cond.selects RX1 yX1_begin yX1_begin, Cond.code yX1_begin cX1_begin 2 (some .int), Cond.methodLink RX4 244 yX4_endedBy, Cond.instanceMethod yX4_endedBy, Cond.selects RX4 yX4_endedBy yX4_endedBy, Cond.code yX4_endedBy cX4_endedBy 7 (some .int), Cond.methodLink RX4 226 yX4_readUncut, Cond.instanceMethod yX4_readUncut, Cond.selects RX4 yX4_readUncut yX4_readUncut, Cond.code yX4_readUncut cX4_readUncut 7 none, Cond.fieldLink RX4 130 "Readingorder$Box" "number" "I", Cond.fieldLink RX4 104 "Readingorder$Box" "follower" "LReadingorder$Box;", Cond.methodLink RX4 263 yX4_firstByEdges, Cond.instanceMethod yX4_firstByEdges, Cond.selects RX4 yX4_firstByEdges yX4_firstByEdges, Cond.code yX4_firstByEdges cX4_firstByEdges 5 (some (.object "Readingorder$Box")), Cond.methodLink RX4 269 yX1_isAheadByEdges, Cond.instanceMethod yX1_isAheadByEdges, Cond.selects RX1 yX1_isAheadByEdges yX1_isAheadByEdges, Cond.code yX1_isAheadByEdges cX1_isAheadByEdges 2 (some .boolean)]
def wsX4_remove_r5 : List Cond := [Cond.fieldLink RX1 22 "Readingorder$Box" "number" "I", Cond.methodLink RX4 266 yX3_add, Cond.instanceMethod yX3_add, Cond.selects RX3 yX3_add yX3_add, Cond.initialized RX3, Cond.code yX3_add cX3_add 2 none, Cond.fieldLink RX3 15 "Readingorder$Reading" "length" "I", Cond.fieldLink RX3 9 "Readingorder$Reading" "numbers" "[I", Cond.methodLink RX4 229 yX4_readParts, Cond.instanceMethod yX4_readParts, Cond.selects RX4 yX4_readParts yX4_readParts, Cond.code yX4_readParts cX4_readParts 5 none, Cond.methodLink RX4 194 yX3_isSameAs, Cond.instanceMethod yX3_isSameAs, Cond.selects RX3 yX3_isSameAs yX3_isSameAs, Cond.code yX3_isSameAs cX3_isSameAs 3 (some .boolean), Cond.methodLink RX3 19 yX3_at, Cond.instanceMethod yX3_at, Cond.selects RX3 yX3_at yX3_at, Cond.code yX3_at cX3_at 2 (some .int), Cond.methodLink RX4 209 yX3_become, Cond.instanceMethod yX3_become, Cond.selects RX3 yX3_become yX3_become, Cond.code yX3_become cX3_become 3 none]
def wsX4_remove_r6 : List Cond := [Cond.methodLink RX3 23 yX3_add, Cond.methodLink RX4 213 yX4_letFall, Cond.instanceMethod yX4_letFall, Cond.selects RX4 yX4_letFall yX4_letFall, Cond.code yX4_letFall cX4_letFall 5 (some .int), Cond.fieldLink RX4 39 "Readingorder" "given" "[LReadingorder$Approval;", Cond.fieldLink RX4 181 "Readingorder$Approval" "holds" "Z", Cond.methodLink RX4 184 yX0_holdsFor, Cond.instanceMethod yX0_holdsFor, Cond.selects RX0 yX0_holdsFor yX0_holdsFor, Cond.initialized RX0, Cond.code yX0_holdsFor cX0_holdsFor 2 (some .boolean), Cond.fieldLink RX0 7 "Readingorder$Approval" "holds" "Z", Cond.fieldLink RX0 17 "Readingorder$Approval" "page" "I"]
def wsX4_remove : List Cond := .code yX4_remove cX4_remove 3 (some .int) :: ((wsX4_remove_r1 ++ (wsX4_remove_r2 ++ (wsX4_remove_r3 ++ (wsX4_remove_r4 ++ (wsX4_remove_r5 ++ wsX4_remove_r6))))) ++ wsX10 ++ wsX40 ++ wsX30 ++ wsX00 ++ (vx_atS RX4 146 "java/lang/IndexOutOfBoundsException" ["java/lang/RuntimeException", "java/lang/Exception"]).filter goodWord)
def wsX4_tie_r1 : List Cond := [Cond.classLink RX4 50 "java/lang/IllegalArgumentException", Cond.initialized "java/lang/IllegalArgumentException", Cond.classLink RX4 61 "java/lang/IllegalStateException", Cond.initialized "java/lang/IllegalStateException", Cond.fieldLink RX4 89 "Readingorder$Box" "page" "I", Cond.fieldLink RX4 104 "Readingorder$Box" "follower" "LReadingorder$Box;", Cond.fieldLink RX4 108 "Readingorder$Box" "leader" "LReadingorder$Box;", Cond.methodLink RX4 73 yX4_presentBox, Cond.instanceMethod yX4_presentBox, Cond.selects RX4 yX4_presentBox yX4_presentBox, Cond.initialized RX4, Cond.code yX4_presentBox cX4_presentBox 3 (some (.object "Readingorder$Box")), Cond.classLink RX4 142 "java/lang/IndexOutOfBoundsException", Cond.initialized "java/lang/IndexOutOfBoundsException", Cond.fieldLink RX4 98 "Readingorder$Box" "gone" "Z", Cond.methodLink RX4 139 yX4_madeBox, Cond.instanceMethod yX4_madeBox, Cond.selects RX4 yX4_madeBox yX4_madeBox, Cond.code yX4_madeBox cX4_madeBox 2 (some (.object "Readingorder$Box")), Cond.fieldLink RX4 11 "Readingorder" "made" "[LReadingorder$Box;", Cond.methodLink RX4 111 yX1_comesBehind, Cond.instanceMethod yX1_comesBehind, Cond.selects RX1 yX1_comesBehind yX1_comesBehind, Cond.initialized RX1]
def wsX4_tie_r2 : List Cond := [Cond.code yX1_comesBehind cX1_comesBehind 3 (some .boolean), Cond.fieldLink RX1 15 "Readingorder$Box" "leader" "LReadingorder$Box;", Cond.methodLink RX4 69 yX4_readAgain, Cond.instanceMethod yX4_readAgain, Cond.selects RX4 yX4_readAgain yX4_readAgain, Cond.code yX4_readAgain cX4_readAgain 3 (some .int), Cond.fieldLink RX4 26 "Readingorder" "trial" "LReadingorder$Reading;", Cond.methodLink RX4 46 yX4_readingOf, Cond.instanceMethod yX4_readingOf, Cond.selects RX4 yX4_readingOf yX4_readingOf, Cond.code yX4_readingOf cX4_readingOf 3 (some (.object "Readingorder$Reading")), Cond.fieldLink RX4 21 "Readingorder" "readings" "[LReadingorder$Reading;", Cond.methodLink RX4 191 yX4_readByCuts, Cond.instanceMethod yX4_readByCuts, Cond.selects RX4 yX4_readByCuts yX4_readByCuts, Cond.code yX4_readByCuts cX4_readByCuts 3 none, Cond.fieldLink RX4 136 "Readingorder$Reading" "length" "I", Cond.methodLink RX4 216 yX4_boxesThatFollowNone, Cond.instanceMethod yX4_boxesThatFollowNone, Cond.selects RX4 yX4_boxesThatFollowNone yX4_boxesThatFollowNone, Cond.code yX4_boxesThatFollowNone cX4_boxesThatFollowNone 5 (some .int), Cond.fieldLink RX4 15 "Readingorder" "madeCount" "I", Cond.methodLink RX4 219 yX4_readSet, Cond.instanceMethod yX4_readSet]
def wsX4_tie_r3 : List Cond := [Cond.selects RX4 yX4_readSet yX4_readSet, Cond.code yX4_readSet cX4_readSet 5 none, Cond.methodLink RX4 223 yX4_cutOff, Cond.instanceMethod yX4_cutOff, Cond.selects RX4 yX4_cutOff yX4_cutOff, Cond.code yX4_cutOff cX4_cutOff 4 (some .int), Cond.methodLink RX4 240 yX4_leastCut, Cond.instanceMethod yX4_leastCut, Cond.selects RX4 yX4_leastCut yX4_leastCut, Cond.code yX4_leastCut cX4_leastCut 8 (some .int), Cond.methodLink RX4 256 Lib.Math.min.name, Cond.static Lib.Math.min.name, Cond.initialized "java/lang/Math", Cond.code Lib.Math.min.name Lib.Math.min.code 2 (some .int), Cond.methodLink RX4 248 yX4_boxOfSet, Cond.instanceMethod yX4_boxOfSet, Cond.selects RX4 yX4_boxOfSet yX4_boxOfSet, Cond.code yX4_boxOfSet cX4_boxOfSet 4 (some (.object "Readingorder$Box")), Cond.methodLink RX4 252 yX1_end, Cond.instanceMethod yX1_end, Cond.selects RX1 yX1_end yX1_end, Cond.code yX1_end cX1_end 2 (some .int), Cond.fieldLink RX1 32 "Readingorder$Box" "top" "I", Cond.fieldLink RX1 38 "Readingorder$Box" "height" "I"]
def wsX4_tie_r4 : List Cond := [Cond.fieldLink RX1 29 "Readingorder$Box" "left" "I", Cond.fieldLink RX1 35 "Readingorder$Box" "width" "I", Cond.methodLink RX4 260 yX1_begin, Cond.instanceMethod yX1_begin, Cond.selects RX1 yX1_begin yX1_begin, Cond.code yX1_begin cX1_begin 2 (some .int), Cond.methodLink RX4 244 yX4_endedBy, Cond.instanceMethod yX4_endedBy, Cond.selects RX4 yX4_endedBy yX4_endedBy, Cond.code yX4_endedBy cX4_endedBy 7 (some .int), Cond.methodLink RX4 226 yX4_readUncut, Cond.instanceMethod yX4_readUncut, Cond.selects RX4 yX4_readUncut yX4_readUncut, Cond.code yX4_readUncut cX4_readUncut 7 none, Cond.fieldLink RX4 130 "Readingorder$Box" "number" "I", Cond.methodLink RX4 263 yX4_firstByEdges, Cond.instanceMethod yX4_firstByEdges, Cond.selects RX4 yX4_firstByEdges yX4_firstByEdges, Cond.code yX4_firstByEdges cX4_firstByEdges 5 (some (.object "Readingorder$Box")), Cond.methodLink RX4 269 yX1_isAheadByEdges, Cond.instanceMethod yX1_isAheadByEdges, Cond.selects RX1 yX1_isAheadByEdges yX1_isAheadByEdges, Cond.code yX1_isAheadByEdges cX1_isAheadByEdges 2 (some .boolean), Cond.fieldLink RX1 22 "Readingorder$Box" "number" "I"]
def wsX4_tie_r5 : List Cond := [Cond.methodLink RX4 266 yX3_add, Cond.instanceMethod yX3_add, Cond.selects RX3 yX3_add yX3_add, Cond.initialized RX3, Cond.code yX3_add cX3_add 2 none, Cond.fieldLink RX3 15 "Readingorder$Reading" "length" "I", Cond.fieldLink RX3 9 "Readingorder$Reading" "numbers" "[I", Cond.methodLink RX4 229 yX4_readParts, Cond.instanceMethod yX4_readParts, Cond.selects RX4 yX4_readParts yX4_readParts, Cond.code yX4_readParts cX4_readParts 5 none, Cond.methodLink RX4 194 yX3_isSameAs, Cond.instanceMethod yX3_isSameAs, Cond.selects RX3 yX3_isSameAs yX3_isSameAs, Cond.code yX3_isSameAs cX3_isSameAs 3 (some .boolean), Cond.methodLink RX3 19 yX3_at, Cond.instanceMethod yX3_at, Cond.selects RX3 yX3_at yX3_at, Cond.code yX3_at cX3_at 2 (some .int), Cond.methodLink RX4 209 yX3_become, Cond.instanceMethod yX3_become, Cond.selects RX3 yX3_become yX3_become, Cond.code yX3_become cX3_become 3 none, Cond.methodLink RX3 23 yX3_add]
def wsX4_tie_r6 : List Cond := [Cond.methodLink RX4 213 yX4_letFall, Cond.instanceMethod yX4_letFall, Cond.selects RX4 yX4_letFall yX4_letFall, Cond.code yX4_letFall cX4_letFall 5 (some .int), Cond.fieldLink RX4 39 "Readingorder" "given" "[LReadingorder$Approval;", Cond.fieldLink RX4 181 "Readingorder$Approval" "holds" "Z", Cond.methodLink RX4 184 yX0_holdsFor, Cond.instanceMethod yX0_holdsFor, Cond.selects RX0 yX0_holdsFor yX0_holdsFor, Cond.initialized RX0, Cond.code yX0_holdsFor cX0_holdsFor 2 (some .boolean), Cond.fieldLink RX0 7 "Readingorder$Approval" "holds" "Z", Cond.fieldLink RX0 17 "Readingorder$Approval" "page" "I"]
def wsX4_tie : List Cond := .code yX4_tie cX4_tie 5 (some .int) :: ((wsX4_tie_r1 ++ (wsX4_tie_r2 ++ (wsX4_tie_r3 ++ (wsX4_tie_r4 ++ (wsX4_tie_r5 ++ wsX4_tie_r6))))) ++ wsX10 ++ wsX40 ++ wsX30 ++ wsX00 ++ (vx_atS RX4 54 "java/lang/IllegalArgumentException" ["java/lang/RuntimeException", "java/lang/Exception"]).filter goodWord ++ (vx_atS RX4 65 "java/lang/IllegalStateException" ["java/lang/RuntimeException", "java/lang/Exception"]).filter goodWord ++ (vx_atS RX4 146 "java/lang/IndexOutOfBoundsException" ["java/lang/RuntimeException", "java/lang/Exception"]).filter goodWord)
def wsX4_untie_r1 : List Cond := [Cond.classLink RX4 61 "java/lang/IllegalStateException", Cond.initialized "java/lang/IllegalStateException", Cond.fieldLink RX4 108 "Readingorder$Box" "leader" "LReadingorder$Box;", Cond.fieldLink RX4 89 "Readingorder$Box" "page" "I", Cond.methodLink RX4 73 yX4_presentBox, Cond.instanceMethod yX4_presentBox, Cond.selects RX4 yX4_presentBox yX4_presentBox, Cond.initialized RX4, Cond.code yX4_presentBox cX4_presentBox 3 (some (.object "Readingorder$Box")), Cond.classLink RX4 142 "java/lang/IndexOutOfBoundsException", Cond.initialized "java/lang/IndexOutOfBoundsException", Cond.fieldLink RX4 98 "Readingorder$Box" "gone" "Z", Cond.methodLink RX4 139 yX4_madeBox, Cond.instanceMethod yX4_madeBox, Cond.selects RX4 yX4_madeBox yX4_madeBox, Cond.code yX4_madeBox cX4_madeBox 2 (some (.object "Readingorder$Box")), Cond.fieldLink RX4 11 "Readingorder" "made" "[LReadingorder$Box;", Cond.methodLink RX4 92 yX1_loosenFromLeader, Cond.instanceMethod yX1_loosenFromLeader, Cond.selects RX1 yX1_loosenFromLeader yX1_loosenFromLeader, Cond.initialized RX1, Cond.code yX1_loosenFromLeader cX1_loosenFromLeader 1 none, Cond.fieldLink RX1 15 "Readingorder$Box" "leader" "LReadingorder$Box;", Cond.fieldLink RX1 19 "Readingorder$Box" "follower" "LReadingorder$Box;"]
def wsX4_untie_r2 : List Cond := [Cond.methodLink RX4 69 yX4_readAgain, Cond.instanceMethod yX4_readAgain, Cond.selects RX4 yX4_readAgain yX4_readAgain, Cond.code yX4_readAgain cX4_readAgain 3 (some .int), Cond.fieldLink RX4 26 "Readingorder" "trial" "LReadingorder$Reading;", Cond.methodLink RX4 46 yX4_readingOf, Cond.instanceMethod yX4_readingOf, Cond.selects RX4 yX4_readingOf yX4_readingOf, Cond.code yX4_readingOf cX4_readingOf 3 (some (.object "Readingorder$Reading")), Cond.fieldLink RX4 21 "Readingorder" "readings" "[LReadingorder$Reading;", Cond.methodLink RX4 191 yX4_readByCuts, Cond.instanceMethod yX4_readByCuts, Cond.selects RX4 yX4_readByCuts yX4_readByCuts, Cond.code yX4_readByCuts cX4_readByCuts 3 none, Cond.fieldLink RX4 136 "Readingorder$Reading" "length" "I", Cond.methodLink RX4 216 yX4_boxesThatFollowNone, Cond.instanceMethod yX4_boxesThatFollowNone, Cond.selects RX4 yX4_boxesThatFollowNone yX4_boxesThatFollowNone, Cond.code yX4_boxesThatFollowNone cX4_boxesThatFollowNone 5 (some .int), Cond.fieldLink RX4 15 "Readingorder" "madeCount" "I", Cond.methodLink RX4 219 yX4_readSet, Cond.instanceMethod yX4_readSet, Cond.selects RX4 yX4_readSet yX4_readSet, Cond.code yX4_readSet cX4_readSet 5 none]
def wsX4_untie_r3 : List Cond := [Cond.methodLink RX4 223 yX4_cutOff, Cond.instanceMethod yX4_cutOff, Cond.selects RX4 yX4_cutOff yX4_cutOff, Cond.code yX4_cutOff cX4_cutOff 4 (some .int), Cond.methodLink RX4 240 yX4_leastCut, Cond.instanceMethod yX4_leastCut, Cond.selects RX4 yX4_leastCut yX4_leastCut, Cond.code yX4_leastCut cX4_leastCut 8 (some .int), Cond.methodLink RX4 256 Lib.Math.min.name, Cond.static Lib.Math.min.name, Cond.initialized "java/lang/Math", Cond.code Lib.Math.min.name Lib.Math.min.code 2 (some .int), Cond.methodLink RX4 248 yX4_boxOfSet, Cond.instanceMethod yX4_boxOfSet, Cond.selects RX4 yX4_boxOfSet yX4_boxOfSet, Cond.code yX4_boxOfSet cX4_boxOfSet 4 (some (.object "Readingorder$Box")), Cond.methodLink RX4 252 yX1_end, Cond.instanceMethod yX1_end, Cond.selects RX1 yX1_end yX1_end, Cond.code yX1_end cX1_end 2 (some .int), Cond.fieldLink RX1 32 "Readingorder$Box" "top" "I", Cond.fieldLink RX1 38 "Readingorder$Box" "height" "I", Cond.fieldLink RX1 29 "Readingorder$Box" "left" "I", Cond.fieldLink RX1 35 "Readingorder$Box" "width" "I"]
def wsX4_untie_r4 : List Cond := [Cond.methodLink RX4 260 yX1_begin, Cond.instanceMethod yX1_begin, Cond.selects RX1 yX1_begin yX1_begin, Cond.code yX1_begin cX1_begin 2 (some .int), Cond.methodLink RX4 244 yX4_endedBy, Cond.instanceMethod yX4_endedBy, Cond.selects RX4 yX4_endedBy yX4_endedBy, Cond.code yX4_endedBy cX4_endedBy 7 (some .int), Cond.methodLink RX4 226 yX4_readUncut, Cond.instanceMethod yX4_readUncut, Cond.selects RX4 yX4_readUncut yX4_readUncut, Cond.code yX4_readUncut cX4_readUncut 7 none, Cond.fieldLink RX4 130 "Readingorder$Box" "number" "I", Cond.fieldLink RX4 104 "Readingorder$Box" "follower" "LReadingorder$Box;", Cond.methodLink RX4 263 yX4_firstByEdges, Cond.instanceMethod yX4_firstByEdges, Cond.selects RX4 yX4_firstByEdges yX4_firstByEdges, Cond.code yX4_firstByEdges cX4_firstByEdges 5 (some (.object "Readingorder$Box")), Cond.methodLink RX4 269 yX1_isAheadByEdges, Cond.instanceMethod yX1_isAheadByEdges, Cond.selects RX1 yX1_isAheadByEdges yX1_isAheadByEdges, Cond.code yX1_isAheadByEdges cX1_isAheadByEdges 2 (some .boolean), Cond.fieldLink RX1 22 "Readingorder$Box" "number" "I", Cond.methodLink RX4 266 yX3_add]
def wsX4_untie_r5 : List Cond := [Cond.instanceMethod yX3_add, Cond.selects RX3 yX3_add yX3_add, Cond.initialized RX3, Cond.code yX3_add cX3_add 2 none, Cond.fieldLink RX3 15 "Readingorder$Reading" "length" "I", Cond.fieldLink RX3 9 "Readingorder$Reading" "numbers" "[I", Cond.methodLink RX4 229 yX4_readParts, Cond.instanceMethod yX4_readParts, Cond.selects RX4 yX4_readParts yX4_readParts, Cond.code yX4_readParts cX4_readParts 5 none, Cond.methodLink RX4 194 yX3_isSameAs, Cond.instanceMethod yX3_isSameAs, Cond.selects RX3 yX3_isSameAs yX3_isSameAs, Cond.code yX3_isSameAs cX3_isSameAs 3 (some .boolean), Cond.methodLink RX3 19 yX3_at, Cond.instanceMethod yX3_at, Cond.selects RX3 yX3_at yX3_at, Cond.code yX3_at cX3_at 2 (some .int), Cond.methodLink RX4 209 yX3_become, Cond.instanceMethod yX3_become, Cond.selects RX3 yX3_become yX3_become, Cond.code yX3_become cX3_become 3 none, Cond.methodLink RX3 23 yX3_add, Cond.methodLink RX4 213 yX4_letFall]
def wsX4_untie_r6 : List Cond := [Cond.instanceMethod yX4_letFall, Cond.selects RX4 yX4_letFall yX4_letFall, Cond.code yX4_letFall cX4_letFall 5 (some .int), Cond.fieldLink RX4 39 "Readingorder" "given" "[LReadingorder$Approval;", Cond.fieldLink RX4 181 "Readingorder$Approval" "holds" "Z", Cond.methodLink RX4 184 yX0_holdsFor, Cond.instanceMethod yX0_holdsFor, Cond.selects RX0 yX0_holdsFor yX0_holdsFor, Cond.initialized RX0, Cond.code yX0_holdsFor cX0_holdsFor 2 (some .boolean), Cond.fieldLink RX0 7 "Readingorder$Approval" "holds" "Z", Cond.fieldLink RX0 17 "Readingorder$Approval" "page" "I"]
def wsX4_untie : List Cond := .code yX4_untie cX4_untie 3 (some .int) :: ((wsX4_untie_r1 ++ (wsX4_untie_r2 ++ (wsX4_untie_r3 ++ (wsX4_untie_r4 ++ (wsX4_untie_r5 ++ wsX4_untie_r6))))) ++ wsX10 ++ wsX40 ++ wsX30 ++ wsX00 ++ (vx_atS RX4 65 "java/lang/IllegalStateException" ["java/lang/RuntimeException", "java/lang/Exception"]).filter goodWord ++ (vx_atS RX4 146 "java/lang/IndexOutOfBoundsException" ["java/lang/RuntimeException", "java/lang/Exception"]).filter goodWord)
def wsX4_checkPlace : List Cond := .code yX4_checkPlace cX4_checkPlace 1 none :: ([.classLink RX4 142 "java/lang/IndexOutOfBoundsException", .initialized "java/lang/IndexOutOfBoundsException"] ++ (vx_atS RX4 146 "java/lang/IndexOutOfBoundsException" ["java/lang/RuntimeException", "java/lang/Exception"]).filter goodWord)
def wsX4_order : List Cond := .code yX4_order cX4_order 4 (some .int) :: ([.methodLink RX4 46 yX4_readingOf, .instanceMethod yX4_readingOf, .selects RX4 yX4_readingOf yX4_readingOf, .initialized RX4, .code yX4_readingOf cX4_readingOf 3 (some (.object "Readingorder$Reading")), .classLink RX4 142 "java/lang/IndexOutOfBoundsException", .initialized "java/lang/IndexOutOfBoundsException", .fieldLink RX4 21 "Readingorder" "readings" "[LReadingorder$Reading;", .methodLink RX4 119 yX4_checkPlace, .static yX4_checkPlace, .code yX4_checkPlace cX4_checkPlace 1 none, .methodLink RX4 123 yX3_at, .instanceMethod yX3_at, .selects RX3 yX3_at yX3_at, .initialized RX3, .code yX3_at cX3_at 2 (some .int), .fieldLink RX3 15 "Readingorder$Reading" "length" "I", .fieldLink RX3 9 "Readingorder$Reading" "numbers" "[I"] ++ wsX40 ++ wsX30 ++ (vx_atS RX4 146 "java/lang/IndexOutOfBoundsException" ["java/lang/RuntimeException", "java/lang/Exception"]).filter goodWord)
def wsX4_readWithSetsAside_r1 : List Cond := [Cond.fieldLink RX4 136 "Readingorder$Reading" "length" "I", Cond.fieldLink RX4 33 "Readingorder" "aside" "LReadingorder$Pile;", Cond.fieldLink RX4 233 "Readingorder$Pile" "height" "I", Cond.methodLink RX4 216 yX4_boxesThatFollowNone, Cond.instanceMethod yX4_boxesThatFollowNone, Cond.selects RX4 yX4_boxesThatFollowNone yX4_boxesThatFollowNone, Cond.initialized RX4, Cond.code yX4_boxesThatFollowNone cX4_boxesThatFollowNone 5 (some .int), Cond.fieldLink RX4 15 "Readingorder" "madeCount" "I", Cond.fieldLink RX4 98 "Readingorder$Box" "gone" "Z", Cond.fieldLink RX4 89 "Readingorder$Box" "page" "I", Cond.fieldLink RX4 108 "Readingorder$Box" "leader" "LReadingorder$Box;", Cond.methodLink RX4 139 yX4_madeBox, Cond.instanceMethod yX4_madeBox, Cond.selects RX4 yX4_madeBox yX4_madeBox, Cond.code yX4_madeBox cX4_madeBox 2 (some (.object "Readingorder$Box")), Cond.fieldLink RX4 11 "Readingorder" "made" "[LReadingorder$Box;", Cond.methodLink RX4 234 yX2_put, Cond.instanceMethod yX2_put, Cond.selects RX2 yX2_put yX2_put, Cond.initialized RX2, Cond.code yX2_put cX2_put 2 none, Cond.fieldLink RX2 15 "Readingorder$Pile" "height" "I", Cond.fieldLink RX2 9 "Readingorder$Pile" "sets" "[I"]
def wsX4_readWithSetsAside_r2 : List Cond := [Cond.methodLink RX4 237 yX2_take, Cond.instanceMethod yX2_take, Cond.selects RX2 yX2_take yX2_take, Cond.code yX2_take cX2_take 2 (some .int), Cond.methodLink RX4 223 yX4_cutOff, Cond.instanceMethod yX4_cutOff, Cond.selects RX4 yX4_cutOff yX4_cutOff, Cond.code yX4_cutOff cX4_cutOff 4 (some .int), Cond.methodLink RX4 240 yX4_leastCut, Cond.instanceMethod yX4_leastCut, Cond.selects RX4 yX4_leastCut yX4_leastCut, Cond.code yX4_leastCut cX4_leastCut 8 (some .int), Cond.methodLink RX4 256 Lib.Math.min.name, Cond.static Lib.Math.min.name, Cond.initialized "java/lang/Math", Cond.code Lib.Math.min.name Lib.Math.min.code 2 (some .int), Cond.methodLink RX4 248 yX4_boxOfSet, Cond.instanceMethod yX4_boxOfSet, Cond.selects RX4 yX4_boxOfSet yX4_boxOfSet, Cond.code yX4_boxOfSet cX4_boxOfSet 4 (some (.object "Readingorder$Box")), Cond.methodLink RX4 252 yX1_end, Cond.instanceMethod yX1_end, Cond.selects RX1 yX1_end yX1_end, Cond.initialized RX1]
def wsX4_readWithSetsAside_r3 : List Cond := [Cond.code yX1_end cX1_end 2 (some .int), Cond.fieldLink RX1 32 "Readingorder$Box" "top" "I", Cond.fieldLink RX1 38 "Readingorder$Box" "height" "I", Cond.fieldLink RX1 29 "Readingorder$Box" "left" "I", Cond.fieldLink RX1 35 "Readingorder$Box" "width" "I", Cond.methodLink RX4 260 yX1_begin, Cond.instanceMethod yX1_begin, Cond.selects RX1 yX1_begin yX1_begin, Cond.code yX1_begin cX1_begin 2 (some .int), Cond.methodLink RX4 244 yX4_endedBy, Cond.instanceMethod yX4_endedBy, Cond.selects RX4 yX4_endedBy yX4_endedBy, Cond.code yX4_endedBy cX4_endedBy 7 (some .int), Cond.methodLink RX4 226 yX4_readUncut, Cond.instanceMethod yX4_readUncut, Cond.selects RX4 yX4_readUncut yX4_readUncut, Cond.code yX4_readUncut cX4_readUncut 7 none, Cond.fieldLink RX4 130 "Readingorder$Box" "number" "I", Cond.fieldLink RX4 104 "Readingorder$Box" "follower" "LReadingorder$Box;", Cond.methodLink RX4 263 yX4_firstByEdges, Cond.instanceMethod yX4_firstByEdges, Cond.selects RX4 yX4_firstByEdges yX4_firstByEdges, Cond.code yX4_firstByEdges cX4_firstByEdges 5 (some (.object "Readingorder$Box")), Cond.methodLink RX4 269 yX1_isAheadByEdges]
def wsX4_readWithSetsAside_r4 : List Cond := [Cond.instanceMethod yX1_isAheadByEdges, Cond.selects RX1 yX1_isAheadByEdges yX1_isAheadByEdges, Cond.code yX1_isAheadByEdges cX1_isAheadByEdges 2 (some .boolean), Cond.fieldLink RX1 22 "Readingorder$Box" "number" "I", Cond.methodLink RX4 266 yX3_add, Cond.instanceMethod yX3_add, Cond.selects RX3 yX3_add yX3_add, Cond.initialized RX3, Cond.code yX3_add cX3_add 2 none, Cond.fieldLink RX3 15 "Readingorder$Reading" "length" "I", Cond.fieldLink RX3 9 "Readingorder$Reading" "numbers" "[I"]
def wsX4_readWithSetsAside : List Cond := .code yX4_readWithSetsAside cX4_readWithSetsAside 6 none :: ((wsX4_readWithSetsAside_r1 ++ (wsX4_readWithSetsAside_r2 ++ (wsX4_readWithSetsAside_r3 ++ wsX4_readWithSetsAside_r4))) ++ wsX30 ++ wsX40 ++ wsX20 ++ wsX10)
def wsX4_orderAnew_r1 : List Cond := [Cond.fieldLink RX4 26 "Readingorder" "trial" "LReadingorder$Reading;", Cond.methodLink RX4 46 yX4_readingOf, Cond.instanceMethod yX4_readingOf, Cond.selects RX4 yX4_readingOf yX4_readingOf, Cond.initialized RX4, Cond.code yX4_readingOf cX4_readingOf 3 (some (.object "Readingorder$Reading")), Cond.classLink RX4 142 "java/lang/IndexOutOfBoundsException", Cond.initialized "java/lang/IndexOutOfBoundsException", Cond.fieldLink RX4 21 "Readingorder" "readings" "[LReadingorder$Reading;", Cond.methodLink RX4 119 yX4_checkPlace, Cond.static yX4_checkPlace, Cond.code yX4_checkPlace cX4_checkPlace 1 none, Cond.methodLink RX4 126 yX4_readWithSetsAside, Cond.instanceMethod yX4_readWithSetsAside, Cond.selects RX4 yX4_readWithSetsAside yX4_readWithSetsAside, Cond.code yX4_readWithSetsAside cX4_readWithSetsAside 6 none, Cond.fieldLink RX4 136 "Readingorder$Reading" "length" "I", Cond.fieldLink RX4 33 "Readingorder" "aside" "LReadingorder$Pile;", Cond.fieldLink RX4 233 "Readingorder$Pile" "height" "I", Cond.methodLink RX4 216 yX4_boxesThatFollowNone, Cond.instanceMethod yX4_boxesThatFollowNone, Cond.selects RX4 yX4_boxesThatFollowNone yX4_boxesThatFollowNone, Cond.code yX4_boxesThatFollowNone cX4_boxesThatFollowNone 5 (some .int), Cond.fieldLink RX4 15 "Readingorder" "madeCount" "I"]
def wsX4_orderAnew_r2 : List Cond := [Cond.fieldLink RX4 98 "Readingorder$Box" "gone" "Z", Cond.fieldLink RX4 89 "Readingorder$Box" "page" "I", Cond.fieldLink RX4 108 "Readingorder$Box" "leader" "LReadingorder$Box;", Cond.methodLink RX4 139 yX4_madeBox, Cond.instanceMethod yX4_madeBox, Cond.selects RX4 yX4_madeBox yX4_madeBox, Cond.code yX4_madeBox cX4_madeBox 2 (some (.object "Readingorder$Box")), Cond.fieldLink RX4 11 "Readingorder" "made" "[LReadingorder$Box;", Cond.methodLink RX4 234 yX2_put, Cond.instanceMethod yX2_put, Cond.selects RX2 yX2_put yX2_put, Cond.initialized RX2, Cond.code yX2_put cX2_put 2 none, Cond.fieldLink RX2 15 "Readingorder$Pile" "height" "I", Cond.fieldLink RX2 9 "Readingorder$Pile" "sets" "[I", Cond.methodLink RX4 237 yX2_take, Cond.instanceMethod yX2_take, Cond.selects RX2 yX2_take yX2_take, Cond.code yX2_take cX2_take 2 (some .int), Cond.methodLink RX4 223 yX4_cutOff, Cond.instanceMethod yX4_cutOff, Cond.selects RX4 yX4_cutOff yX4_cutOff, Cond.code yX4_cutOff cX4_cutOff 4 (some .int), Cond.methodLink RX4 240 yX4_leastCut]
def wsX4_orderAnew_r3 : List Cond := [Cond.instanceMethod yX4_leastCut, Cond.selects RX4 yX4_leastCut yX4_leastCut, Cond.code yX4_leastCut cX4_leastCut 8 (some .int), Cond.methodLink RX4 256 Lib.Math.min.name, Cond.static Lib.Math.min.name, Cond.initialized "java/lang/Math", Cond.code Lib.Math.min.name Lib.Math.min.code 2 (some .int), Cond.methodLink RX4 248 yX4_boxOfSet, Cond.instanceMethod yX4_boxOfSet, Cond.selects RX4 yX4_boxOfSet yX4_boxOfSet, Cond.code yX4_boxOfSet cX4_boxOfSet 4 (some (.object "Readingorder$Box")), Cond.methodLink RX4 252 yX1_end, Cond.instanceMethod yX1_end, Cond.selects RX1 yX1_end yX1_end, Cond.initialized RX1, Cond.code yX1_end cX1_end 2 (some .int), Cond.fieldLink RX1 32 "Readingorder$Box" "top" "I", Cond.fieldLink RX1 38 "Readingorder$Box" "height" "I", Cond.fieldLink RX1 29 "Readingorder$Box" "left" "I", Cond.fieldLink RX1 35 "Readingorder$Box" "width" "I", Cond.methodLink RX4 260 yX1_begin, Cond.instanceMethod yX1_begin, Cond.selects RX1 yX1_begin yX1_begin, Cond.code yX1_begin cX1_begin 2 (some .int)]
def wsX4_orderAnew_r4 : List Cond := [Cond.methodLink RX4 244 yX4_endedBy, Cond.instanceMethod yX4_endedBy, Cond.selects RX4 yX4_endedBy yX4_endedBy, Cond.code yX4_endedBy cX4_endedBy 7 (some .int), Cond.methodLink RX4 226 yX4_readUncut, Cond.instanceMethod yX4_readUncut, Cond.selects RX4 yX4_readUncut yX4_readUncut, Cond.code yX4_readUncut cX4_readUncut 7 none, Cond.fieldLink RX4 130 "Readingorder$Box" "number" "I", Cond.fieldLink RX4 104 "Readingorder$Box" "follower" "LReadingorder$Box;", Cond.methodLink RX4 263 yX4_firstByEdges, Cond.instanceMethod yX4_firstByEdges, Cond.selects RX4 yX4_firstByEdges yX4_firstByEdges, Cond.code yX4_firstByEdges cX4_firstByEdges 5 (some (.object "Readingorder$Box")), Cond.methodLink RX4 269 yX1_isAheadByEdges, Cond.instanceMethod yX1_isAheadByEdges, Cond.selects RX1 yX1_isAheadByEdges yX1_isAheadByEdges, Cond.code yX1_isAheadByEdges cX1_isAheadByEdges 2 (some .boolean), Cond.fieldLink RX1 22 "Readingorder$Box" "number" "I", Cond.methodLink RX4 266 yX3_add, Cond.instanceMethod yX3_add, Cond.selects RX3 yX3_add yX3_add, Cond.initialized RX3, Cond.code yX3_add cX3_add 2 none]
def wsX4_orderAnew_r5 : List Cond := [Cond.fieldLink RX3 15 "Readingorder$Reading" "length" "I", Cond.fieldLink RX3 9 "Readingorder$Reading" "numbers" "[I", Cond.methodLink RX4 123 yX3_at, Cond.instanceMethod yX3_at, Cond.selects RX3 yX3_at yX3_at, Cond.code yX3_at cX3_at 2 (some .int)]
def wsX4_orderAnew : List Cond := .code yX4_orderAnew cX4_orderAnew 3 (some .int) :: ((wsX4_orderAnew_r1 ++ (wsX4_orderAnew_r2 ++ (wsX4_orderAnew_r3 ++ (wsX4_orderAnew_r4 ++ wsX4_orderAnew_r5)))) ++ wsX40 ++ wsX30 ++ wsX20 ++ wsX10 ++ (vx_atS RX4 146 "java/lang/IndexOutOfBoundsException" ["java/lang/RuntimeException", "java/lang/Exception"]).filter goodWord)
def wsX4_placeOf_r1 : List Cond := [Cond.fieldLink RX4 89 "Readingorder$Box" "page" "I", Cond.fieldLink RX4 130 "Readingorder$Box" "number" "I", Cond.methodLink RX4 73 yX4_presentBox, Cond.instanceMethod yX4_presentBox, Cond.selects RX4 yX4_presentBox yX4_presentBox, Cond.initialized RX4, Cond.code yX4_presentBox cX4_presentBox 3 (some (.object "Readingorder$Box")), Cond.classLink RX4 142 "java/lang/IndexOutOfBoundsException", Cond.initialized "java/lang/IndexOutOfBoundsException", Cond.fieldLink RX4 98 "Readingorder$Box" "gone" "Z", Cond.methodLink RX4 139 yX4_madeBox, Cond.instanceMethod yX4_madeBox, Cond.selects RX4 yX4_madeBox yX4_madeBox, Cond.code yX4_madeBox cX4_madeBox 2 (some (.object "Readingorder$Box")), Cond.fieldLink RX4 11 "Readingorder" "made" "[LReadingorder$Box;", Cond.methodLink RX4 46 yX4_readingOf, Cond.instanceMethod yX4_readingOf, Cond.selects RX4 yX4_readingOf yX4_readingOf, Cond.code yX4_readingOf cX4_readingOf 3 (some (.object "Readingorder$Reading")), Cond.fieldLink RX4 21 "Readingorder" "readings" "[LReadingorder$Reading;", Cond.methodLink RX4 133 yX3_placeFor, Cond.instanceMethod yX3_placeFor, Cond.selects RX3 yX3_placeFor yX3_placeFor, Cond.initialized RX3]
def wsX4_placeOf_r2 : List Cond := [Cond.code yX3_placeFor cX3_placeFor 3 (some .int), Cond.fieldLink RX3 15 "Readingorder$Reading" "length" "I", Cond.methodLink RX3 19 yX3_at, Cond.instanceMethod yX3_at, Cond.selects RX3 yX3_at yX3_at, Cond.code yX3_at cX3_at 2 (some .int), Cond.fieldLink RX3 9 "Readingorder$Reading" "numbers" "[I"]
def wsX4_placeOf : List Cond := .code yX4_placeOf cX4_placeOf 3 (some .int) :: ((wsX4_placeOf_r1 ++ wsX4_placeOf_r2) ++ wsX10 ++ wsX40 ++ wsX30 ++ (vx_atS RX4 146 "java/lang/IndexOutOfBoundsException" ["java/lang/RuntimeException", "java/lang/Exception"]).filter goodWord)
def wsX4_boxes : List Cond := .code yX4_boxes cX4_boxes 2 (some .int) :: ([.fieldLink RX4 136 "Readingorder$Reading" "length" "I", .methodLink RX4 46 yX4_readingOf, .instanceMethod yX4_readingOf, .selects RX4 yX4_readingOf yX4_readingOf, .initialized RX4, .code yX4_readingOf cX4_readingOf 3 (some (.object "Readingorder$Reading")), .classLink RX4 142 "java/lang/IndexOutOfBoundsException", .initialized "java/lang/IndexOutOfBoundsException", .fieldLink RX4 21 "Readingorder" "readings" "[LReadingorder$Reading;"] ++ wsX30 ++ wsX40 ++ (vx_atS RX4 146 "java/lang/IndexOutOfBoundsException" ["java/lang/RuntimeException", "java/lang/Exception"]).filter goodWord)
def wsX4_numberOf : List Cond := .code yX4_numberOf cX4_numberOf 1 (some .int) :: ([.fieldLink RX4 130 "Readingorder$Box" "number" "I"] ++ wsX10)
def wsX4_about : List Cond := .code yX4_about cX4_about 4 (some .int) :: ([.classLink RX4 142 "java/lang/IndexOutOfBoundsException", .initialized "java/lang/IndexOutOfBoundsException", .classLink RX4 50 "java/lang/IllegalArgumentException", .initialized "java/lang/IllegalArgumentException", .fieldLink RX4 89 "Readingorder$Box" "page" "I", .fieldLink RX4 83 "Readingorder$Box" "left" "I", .fieldLink RX4 86 "Readingorder$Box" "top" "I", .fieldLink RX4 77 "Readingorder$Box" "width" "I", .fieldLink RX4 80 "Readingorder$Box" "height" "I", .fieldLink RX4 147 "Readingorder$Box" "kind" "I", .fieldLink RX4 108 "Readingorder$Box" "leader" "LReadingorder$Box;", .fieldLink RX4 104 "Readingorder$Box" "follower" "LReadingorder$Box;", .fieldLink RX4 98 "Readingorder$Box" "gone" "Z", .methodLink RX4 139 yX4_madeBox, .instanceMethod yX4_madeBox, .selects RX4 yX4_madeBox yX4_madeBox, .initialized RX4, .code yX4_madeBox cX4_madeBox 2 (some (.object "Readingorder$Box")), .fieldLink RX4 11 "Readingorder" "made" "[LReadingorder$Box;", .methodLink RX4 150 yX4_numberOf, .static yX4_numberOf, .code yX4_numberOf cX4_numberOf 1 (some .int), .fieldLink RX4 130 "Readingorder$Box" "number" "I"] ++ wsX10 ++ wsX40 ++ (vx_atS RX4 146 "java/lang/IndexOutOfBoundsException" ["java/lang/RuntimeException", "java/lang/Exception"]).filter goodWord ++ (vx_atS RX4 54 "java/lang/IllegalArgumentException" ["java/lang/RuntimeException", "java/lang/Exception"]).filter goodWord)
def wsX4_way_r1 : List Cond := [Cond.fieldLink RX4 136 "Readingorder$Reading" "length" "I", Cond.methodLink RX4 160 Lib.Math.abs.name, Cond.static Lib.Math.abs.name, Cond.initialized "java/lang/Math", Cond.code Lib.Math.abs.name Lib.Math.abs.code 1 (some .int), Cond.methodLink RX4 46 yX4_readingOf, Cond.instanceMethod yX4_readingOf, Cond.selects RX4 yX4_readingOf yX4_readingOf, Cond.initialized RX4, Cond.code yX4_readingOf cX4_readingOf 3 (some (.object "Readingorder$Reading")), Cond.classLink RX4 142 "java/lang/IndexOutOfBoundsException", Cond.initialized "java/lang/IndexOutOfBoundsException", Cond.fieldLink RX4 21 "Readingorder" "readings" "[LReadingorder$Reading;", Cond.methodLink RX4 123 yX3_at, Cond.instanceMethod yX3_at, Cond.selects RX3 yX3_at yX3_at, Cond.initialized RX3, Cond.code yX3_at cX3_at 2 (some .int), Cond.fieldLink RX3 15 "Readingorder$Reading" "length" "I", Cond.fieldLink RX3 9 "Readingorder$Reading" "numbers" "[I", Cond.methodLink RX4 139 yX4_madeBox, Cond.instanceMethod yX4_madeBox, Cond.selects RX4 yX4_madeBox yX4_madeBox, Cond.code yX4_madeBox cX4_madeBox 2 (some (.object "Readingorder$Box"))]
def wsX4_way_r2 : List Cond := [Cond.fieldLink RX4 11 "Readingorder" "made" "[LReadingorder$Box;", Cond.methodLink RX4 156 yX1_middleAcross, Cond.instanceMethod yX1_middleAcross, Cond.selects RX1 yX1_middleAcross yX1_middleAcross, Cond.initialized RX1, Cond.code yX1_middleAcross cX1_middleAcross 1 (some .int), Cond.fieldLink RX1 29 "Readingorder$Box" "left" "I", Cond.fieldLink RX1 35 "Readingorder$Box" "width" "I", Cond.methodLink RX4 165 yX1_middleDown, Cond.instanceMethod yX1_middleDown, Cond.selects RX1 yX1_middleDown yX1_middleDown, Cond.code yX1_middleDown cX1_middleDown 1 (some .int), Cond.fieldLink RX1 32 "Readingorder$Box" "top" "I", Cond.fieldLink RX1 38 "Readingorder$Box" "height" "I"]
def wsX4_way : List Cond := .code yX4_way cX4_way 7 (some .int) :: ((wsX4_way_r1 ++ wsX4_way_r2) ++ wsX30 ++ wsX40 ++ wsX10 ++ (vx_atS RX4 146 "java/lang/IndexOutOfBoundsException" ["java/lang/RuntimeException", "java/lang/Exception"]).filter goodWord)
def wsX4_levelAhead : List Cond := .code yX4_levelAhead cX4_levelAhead 5 (some .int) :: ([.methodLink RX4 123 yX3_at, .instanceMethod yX3_at, .selects RX3 yX3_at yX3_at, .initialized RX3, .code yX3_at cX3_at 2 (some .int), .fieldLink RX3 15 "Readingorder$Reading" "length" "I", .fieldLink RX3 9 "Readingorder$Reading" "numbers" "[I", .methodLink RX4 139 yX4_madeBox, .instanceMethod yX4_madeBox, .selects RX4 yX4_madeBox yX4_madeBox, .initialized RX4, .code yX4_madeBox cX4_madeBox 2 (some (.object "Readingorder$Box")), .fieldLink RX4 11 "Readingorder" "made" "[LReadingorder$Box;", .methodLink RX4 272 yX1_isHead, .instanceMethod yX1_isHead, .selects RX1 yX1_isHead yX1_isHead, .initialized RX1, .code yX1_isHead cX1_isHead 1 (some .boolean), .fieldLink RX1 41 "Readingorder$Box" "kind" "I", .methodLink RX4 276 yX1_level, .instanceMethod yX1_level, .selects RX1 yX1_level yX1_level, .code yX1_level cX1_level 1 (some .int)] ++ wsX30 ++ wsX40 ++ wsX10)
def wsX4_isOfKind : List Cond := .code yX4_isOfKind cX4_isOfKind 2 (some .boolean) :: ([.fieldLink RX4 147 "Readingorder$Box" "kind" "I"] ++ wsX10)
def wsX4_overlapsAny_r1 : List Cond := [Cond.fieldLink RX4 136 "Readingorder$Reading" "length" "I", Cond.methodLink RX4 123 yX3_at, Cond.instanceMethod yX3_at, Cond.selects RX3 yX3_at yX3_at, Cond.initialized RX3, Cond.code yX3_at cX3_at 2 (some .int), Cond.fieldLink RX3 15 "Readingorder$Reading" "length" "I", Cond.fieldLink RX3 9 "Readingorder$Reading" "numbers" "[I", Cond.methodLink RX4 139 yX4_madeBox, Cond.instanceMethod yX4_madeBox, Cond.selects RX4 yX4_madeBox yX4_madeBox, Cond.initialized RX4, Cond.code yX4_madeBox cX4_madeBox 2 (some (.object "Readingorder$Box")), Cond.fieldLink RX4 11 "Readingorder" "made" "[LReadingorder$Box;", Cond.methodLink RX4 293 yX1_overlaps, Cond.instanceMethod yX1_overlaps, Cond.selects RX1 yX1_overlaps yX1_overlaps, Cond.initialized RX1, Cond.code yX1_overlaps cX1_overlaps 2 (some .boolean), Cond.fieldLink RX1 29 "Readingorder$Box" "left" "I", Cond.fieldLink RX1 35 "Readingorder$Box" "width" "I", Cond.fieldLink RX1 32 "Readingorder$Box" "top" "I", Cond.methodLink RX1 44 yX1_bottom, Cond.instanceMethod yX1_bottom]
def wsX4_overlapsAny_r2 : List Cond := [Cond.selects RX1 yX1_bottom yX1_bottom, Cond.code yX1_bottom cX1_bottom 1 (some .int), Cond.fieldLink RX1 38 "Readingorder$Box" "height" "I"]
def wsX4_overlapsAny : List Cond := .code yX4_overlapsAny cX4_overlapsAny 5 (some .boolean) :: ((wsX4_overlapsAny_r1 ++ wsX4_overlapsAny_r2) ++ wsX30 ++ wsX40 ++ wsX10)
def wsX4_faultsAt_r1 : List Cond := [Cond.fieldLink RX4 147 "Readingorder$Box" "kind" "I", Cond.fieldLink RX4 86 "Readingorder$Box" "top" "I", Cond.methodLink RX4 123 yX3_at, Cond.instanceMethod yX3_at, Cond.selects RX3 yX3_at yX3_at, Cond.initialized RX3, Cond.code yX3_at cX3_at 2 (some .int), Cond.fieldLink RX3 15 "Readingorder$Reading" "length" "I", Cond.fieldLink RX3 9 "Readingorder$Reading" "numbers" "[I", Cond.methodLink RX4 139 yX4_madeBox, Cond.instanceMethod yX4_madeBox, Cond.selects RX4 yX4_madeBox yX4_madeBox, Cond.initialized RX4, Cond.code yX4_madeBox cX4_madeBox 2 (some (.object "Readingorder$Box")), Cond.fieldLink RX4 11 "Readingorder" "made" "[LReadingorder$Box;", Cond.methodLink RX4 272 yX1_isHead, Cond.instanceMethod yX1_isHead, Cond.selects RX1 yX1_isHead yX1_isHead, Cond.initialized RX1, Cond.code yX1_isHead cX1_isHead 1 (some .boolean), Cond.fieldLink RX1 41 "Readingorder$Box" "kind" "I", Cond.methodLink RX4 276 yX1_level, Cond.instanceMethod yX1_level, Cond.selects RX1 yX1_level yX1_level]
def wsX4_faultsAt_r2 : List Cond := [Cond.code yX1_level cX1_level 1 (some .int), Cond.methodLink RX4 279 yX4_levelAhead, Cond.instanceMethod yX4_levelAhead, Cond.selects RX4 yX4_levelAhead yX4_levelAhead, Cond.code yX4_levelAhead cX4_levelAhead 5 (some .int), Cond.methodLink RX4 282 yX4_isOfKind, Cond.static yX4_isOfKind, Cond.code yX4_isOfKind cX4_isOfKind 2 (some .boolean), Cond.methodLink RX4 286 yX4_overlapsAny, Cond.instanceMethod yX4_overlapsAny, Cond.selects RX4 yX4_overlapsAny yX4_overlapsAny, Cond.code yX4_overlapsAny cX4_overlapsAny 5 (some .boolean), Cond.fieldLink RX4 136 "Readingorder$Reading" "length" "I", Cond.methodLink RX4 293 yX1_overlaps, Cond.instanceMethod yX1_overlaps, Cond.selects RX1 yX1_overlaps yX1_overlaps, Cond.code yX1_overlaps cX1_overlaps 2 (some .boolean), Cond.fieldLink RX1 29 "Readingorder$Box" "left" "I", Cond.fieldLink RX1 35 "Readingorder$Box" "width" "I", Cond.fieldLink RX1 32 "Readingorder$Box" "top" "I", Cond.methodLink RX1 44 yX1_bottom, Cond.instanceMethod yX1_bottom, Cond.selects RX1 yX1_bottom yX1_bottom, Cond.code yX1_bottom cX1_bottom 1 (some .int)]
def wsX4_faultsAt_r3 : List Cond := [Cond.fieldLink RX1 38 "Readingorder$Box" "height" "I", Cond.methodLink RX4 290 yX1_bottom]
def wsX4_faultsAt : List Cond := .code yX4_faultsAt cX4_faultsAt 7 (some .int) :: ((wsX4_faultsAt_r1 ++ (wsX4_faultsAt_r2 ++ wsX4_faultsAt_r3)) ++ wsX10 ++ wsX30 ++ wsX40)
def wsX4_faults_r1 : List Cond := [Cond.fieldLink RX4 89 "Readingorder$Box" "page" "I", Cond.fieldLink RX4 130 "Readingorder$Box" "number" "I", Cond.methodLink RX4 73 yX4_presentBox, Cond.instanceMethod yX4_presentBox, Cond.selects RX4 yX4_presentBox yX4_presentBox, Cond.initialized RX4, Cond.code yX4_presentBox cX4_presentBox 3 (some (.object "Readingorder$Box")), Cond.classLink RX4 142 "java/lang/IndexOutOfBoundsException", Cond.initialized "java/lang/IndexOutOfBoundsException", Cond.fieldLink RX4 98 "Readingorder$Box" "gone" "Z", Cond.methodLink RX4 139 yX4_madeBox, Cond.instanceMethod yX4_madeBox, Cond.selects RX4 yX4_madeBox yX4_madeBox, Cond.code yX4_madeBox cX4_madeBox 2 (some (.object "Readingorder$Box")), Cond.fieldLink RX4 11 "Readingorder" "made" "[LReadingorder$Box;", Cond.methodLink RX4 46 yX4_readingOf, Cond.instanceMethod yX4_readingOf, Cond.selects RX4 yX4_readingOf yX4_readingOf, Cond.code yX4_readingOf cX4_readingOf 3 (some (.object "Readingorder$Reading")), Cond.fieldLink RX4 21 "Readingorder" "readings" "[LReadingorder$Reading;", Cond.methodLink RX4 133 yX3_placeFor, Cond.instanceMethod yX3_placeFor, Cond.selects RX3 yX3_placeFor yX3_placeFor, Cond.initialized RX3]
def wsX4_faults_r2 : List Cond := [Cond.code yX3_placeFor cX3_placeFor 3 (some .int), Cond.fieldLink RX3 15 "Readingorder$Reading" "length" "I", Cond.methodLink RX3 19 yX3_at, Cond.instanceMethod yX3_at, Cond.selects RX3 yX3_at yX3_at, Cond.code yX3_at cX3_at 2 (some .int), Cond.fieldLink RX3 9 "Readingorder$Reading" "numbers" "[I", Cond.methodLink RX4 168 yX4_faultsAt, Cond.instanceMethod yX4_faultsAt, Cond.selects RX4 yX4_faultsAt yX4_faultsAt, Cond.code yX4_faultsAt cX4_faultsAt 7 (some .int), Cond.fieldLink RX4 147 "Readingorder$Box" "kind" "I", Cond.fieldLink RX4 86 "Readingorder$Box" "top" "I", Cond.methodLink RX4 123 yX3_at, Cond.methodLink RX4 272 yX1_isHead, Cond.instanceMethod yX1_isHead, Cond.selects RX1 yX1_isHead yX1_isHead, Cond.initialized RX1, Cond.code yX1_isHead cX1_isHead 1 (some .boolean), Cond.fieldLink RX1 41 "Readingorder$Box" "kind" "I", Cond.methodLink RX4 276 yX1_level, Cond.instanceMethod yX1_level, Cond.selects RX1 yX1_level yX1_level, Cond.code yX1_level cX1_level 1 (some .int)]
def wsX4_faults_r3 : List Cond := [Cond.methodLink RX4 279 yX4_levelAhead, Cond.instanceMethod yX4_levelAhead, Cond.selects RX4 yX4_levelAhead yX4_levelAhead, Cond.code yX4_levelAhead cX4_levelAhead 5 (some .int), Cond.methodLink RX4 282 yX4_isOfKind, Cond.static yX4_isOfKind, Cond.code yX4_isOfKind cX4_isOfKind 2 (some .boolean), Cond.methodLink RX4 286 yX4_overlapsAny, Cond.instanceMethod yX4_overlapsAny, Cond.selects RX4 yX4_overlapsAny yX4_overlapsAny, Cond.code yX4_overlapsAny cX4_overlapsAny 5 (some .boolean), Cond.fieldLink RX4 136 "Readingorder$Reading" "length" "I", Cond.methodLink RX4 293 yX1_overlaps, Cond.instanceMethod yX1_overlaps, Cond.selects RX1 yX1_overlaps yX1_overlaps, Cond.code yX1_overlaps cX1_overlaps 2 (some .boolean), Cond.fieldLink RX1 29 "Readingorder$Box" "left" "I", Cond.fieldLink RX1 35 "Readingorder$Box" "width" "I", Cond.fieldLink RX1 32 "Readingorder$Box" "top" "I", Cond.methodLink RX1 44 yX1_bottom, Cond.instanceMethod yX1_bottom, Cond.selects RX1 yX1_bottom yX1_bottom, Cond.code yX1_bottom cX1_bottom 1 (some .int), Cond.fieldLink RX1 38 "Readingorder$Box" "height" "I"]
def wsX4_faults_r4 : List Cond := [Cond.methodLink RX4 290 yX1_bottom]
def wsX4_faults : List Cond := .code yX4_faults cX4_faults 4 (some .int) :: ((wsX4_faults_r1 ++ (wsX4_faults_r2 ++ (wsX4_faults_r3 ++ wsX4_faults_r4))) ++ wsX10 ++ wsX40 ++ wsX30 ++ (vx_atS RX4 146 "java/lang/IndexOutOfBoundsException" ["java/lang/RuntimeException", "java/lang/Exception"]).filter goodWord)
def wsX4_faulty_r1 : List Cond := [Cond.fieldLink RX4 136 "Readingorder$Reading" "length" "I", Cond.methodLink RX4 46 yX4_readingOf, Cond.instanceMethod yX4_readingOf, Cond.selects RX4 yX4_readingOf yX4_readingOf, Cond.initialized RX4, Cond.code yX4_readingOf cX4_readingOf 3 (some (.object "Readingorder$Reading")), Cond.classLink RX4 142 "java/lang/IndexOutOfBoundsException", Cond.initialized "java/lang/IndexOutOfBoundsException", Cond.fieldLink RX4 21 "Readingorder" "readings" "[LReadingorder$Reading;", Cond.methodLink RX4 168 yX4_faultsAt, Cond.instanceMethod yX4_faultsAt, Cond.selects RX4 yX4_faultsAt yX4_faultsAt, Cond.code yX4_faultsAt cX4_faultsAt 7 (some .int), Cond.fieldLink RX4 147 "Readingorder$Box" "kind" "I", Cond.fieldLink RX4 86 "Readingorder$Box" "top" "I", Cond.methodLink RX4 123 yX3_at, Cond.instanceMethod yX3_at, Cond.selects RX3 yX3_at yX3_at, Cond.initialized RX3, Cond.code yX3_at cX3_at 2 (some .int), Cond.fieldLink RX3 15 "Readingorder$Reading" "length" "I", Cond.fieldLink RX3 9 "Readingorder$Reading" "numbers" "[I", Cond.methodLink RX4 139 yX4_madeBox, Cond.instanceMethod yX4_madeBox]
def wsX4_faulty_r2 : List Cond := [Cond.selects RX4 yX4_madeBox yX4_madeBox, Cond.code yX4_madeBox cX4_madeBox 2 (some (.object "Readingorder$Box")), Cond.fieldLink RX4 11 "Readingorder" "made" "[LReadingorder$Box;", Cond.methodLink RX4 272 yX1_isHead, Cond.instanceMethod yX1_isHead, Cond.selects RX1 yX1_isHead yX1_isHead, Cond.initialized RX1, Cond.code yX1_isHead cX1_isHead 1 (some .boolean), Cond.fieldLink RX1 41 "Readingorder$Box" "kind" "I", Cond.methodLink RX4 276 yX1_level, Cond.instanceMethod yX1_level, Cond.selects RX1 yX1_level yX1_level, Cond.code yX1_level cX1_level 1 (some .int), Cond.methodLink RX4 279 yX4_levelAhead, Cond.instanceMethod yX4_levelAhead, Cond.selects RX4 yX4_levelAhead yX4_levelAhead, Cond.code yX4_levelAhead cX4_levelAhead 5 (some .int), Cond.methodLink RX4 282 yX4_isOfKind, Cond.static yX4_isOfKind, Cond.code yX4_isOfKind cX4_isOfKind 2 (some .boolean), Cond.methodLink RX4 286 yX4_overlapsAny, Cond.instanceMethod yX4_overlapsAny, Cond.selects RX4 yX4_overlapsAny yX4_overlapsAny, Cond.code yX4_overlapsAny cX4_overlapsAny 5 (some .boolean)]
def wsX4_faulty_r3 : List Cond := [Cond.methodLink RX4 293 yX1_overlaps, Cond.instanceMethod yX1_overlaps, Cond.selects RX1 yX1_overlaps yX1_overlaps, Cond.code yX1_overlaps cX1_overlaps 2 (some .boolean), Cond.fieldLink RX1 29 "Readingorder$Box" "left" "I", Cond.fieldLink RX1 35 "Readingorder$Box" "width" "I", Cond.fieldLink RX1 32 "Readingorder$Box" "top" "I", Cond.methodLink RX1 44 yX1_bottom, Cond.instanceMethod yX1_bottom, Cond.selects RX1 yX1_bottom yX1_bottom, Cond.code yX1_bottom cX1_bottom 1 (some .int), Cond.fieldLink RX1 38 "Readingorder$Box" "height" "I", Cond.methodLink RX4 290 yX1_bottom]
def wsX4_faulty : List Cond := .code yX4_faulty cX4_faulty 5 (some .int) :: ((wsX4_faulty_r1 ++ (wsX4_faulty_r2 ++ wsX4_faulty_r3)) ++ wsX30 ++ wsX40 ++ wsX10 ++ (vx_atS RX4 146 "java/lang/IndexOutOfBoundsException" ["java/lang/RuntimeException", "java/lang/Exception"]).filter goodWord)
def wsX4_approve_r1 : List Cond := [Cond.classLink RX4 142 "java/lang/IndexOutOfBoundsException", Cond.initialized "java/lang/IndexOutOfBoundsException", Cond.classLink RX4 61 "java/lang/IllegalStateException", Cond.initialized "java/lang/IllegalStateException", Cond.fieldLink RX4 43 "Readingorder" "givenCount" "I", Cond.fieldLink RX4 136 "Readingorder$Reading" "length" "I", Cond.fieldLink RX4 39 "Readingorder" "given" "[LReadingorder$Approval;", Cond.classLink RX4 37 RX0, Cond.instantiable RX0 3, Cond.initialized RX0, Cond.methodLink RX4 46 yX4_readingOf, Cond.instanceMethod yX4_readingOf, Cond.selects RX4 yX4_readingOf yX4_readingOf, Cond.initialized RX4, Cond.code yX4_readingOf cX4_readingOf 3 (some (.object "Readingorder$Reading")), Cond.fieldLink RX4 21 "Readingorder" "readings" "[LReadingorder$Reading;", Cond.methodLink RX4 176 yX0_init, Cond.instanceMethod yX0_init, Cond.code yX0_init cX0_init 3 none, Cond.methodLink RX0 1 objectInit, Cond.instanceMethod objectInit, Cond.code objectInit ⟨#[0xb1]⟩ 1 none, Cond.fieldLink RX0 7 "Readingorder$Approval" "holds" "Z", Cond.fieldLink RX0 13 "Readingorder$Approval" "person" "I"]
def wsX4_approve_r2 : List Cond := [Cond.fieldLink RX0 17 "Readingorder$Approval" "page" "I"]
def wsX4_approve : List Cond := .code yX4_approve cX4_approve 5 (some .int) :: ((wsX4_approve_r1 ++ wsX4_approve_r2) ++ wsX40 ++ wsX30 ++ wsX00 ++ (vx_atS RX4 146 "java/lang/IndexOutOfBoundsException" ["java/lang/RuntimeException", "java/lang/Exception"]).filter goodWord ++ (vx_atS RX4 65 "java/lang/IllegalStateException" ["java/lang/RuntimeException", "java/lang/Exception"]).filter goodWord)
def wsX4_stands : List Cond := .code yX4_stands cX4_stands 3 (some .boolean) :: ([.classLink RX4 142 "java/lang/IndexOutOfBoundsException", .initialized "java/lang/IndexOutOfBoundsException", .fieldLink RX4 39 "Readingorder" "given" "[LReadingorder$Approval;", .fieldLink RX4 181 "Readingorder$Approval" "holds" "Z"] ++ wsX40 ++ wsX00 ++ (vx_atS RX4 146 "java/lang/IndexOutOfBoundsException" ["java/lang/RuntimeException", "java/lang/Exception"]).filter goodWord)
def wsX4_approvers : List Cond := .code yX4_approvers cX4_approvers 5 (some .int) :: ([.fieldLink RX4 39 "Readingorder" "given" "[LReadingorder$Approval;", .fieldLink RX4 188 "Readingorder$Approval" "person" "I", .methodLink RX4 46 yX4_readingOf, .instanceMethod yX4_readingOf, .selects RX4 yX4_readingOf yX4_readingOf, .initialized RX4, .code yX4_readingOf cX4_readingOf 3 (some (.object "Readingorder$Reading")), .classLink RX4 142 "java/lang/IndexOutOfBoundsException", .initialized "java/lang/IndexOutOfBoundsException", .fieldLink RX4 21 "Readingorder" "readings" "[LReadingorder$Reading;", .methodLink RX4 184 yX0_holdsFor, .instanceMethod yX0_holdsFor, .selects RX0 yX0_holdsFor yX0_holdsFor, .initialized RX0, .code yX0_holdsFor cX0_holdsFor 2 (some .boolean), .fieldLink RX0 7 "Readingorder$Approval" "holds" "Z", .fieldLink RX0 17 "Readingorder$Approval" "page" "I"] ++ wsX40 ++ wsX00 ++ (vx_atS RX4 146 "java/lang/IndexOutOfBoundsException" ["java/lang/RuntimeException", "java/lang/Exception"]).filter goodWord)
def wsX4_countHolding : List Cond := .code yX4_countHolding cX4_countHolding 5 (some .int) :: ([.fieldLink RX4 39 "Readingorder" "given" "[LReadingorder$Approval;", .methodLink RX4 184 yX0_holdsFor, .instanceMethod yX0_holdsFor, .selects RX0 yX0_holdsFor yX0_holdsFor, .initialized RX0, .code yX0_holdsFor cX0_holdsFor 2 (some .boolean), .fieldLink RX0 7 "Readingorder$Approval" "holds" "Z", .fieldLink RX0 17 "Readingorder$Approval" "page" "I"] ++ wsX40 ++ wsX00)
def wsX4_breaks_r1 : List Cond := [Cond.fieldLink RX4 77 "Readingorder$Box" "width" "I", Cond.fieldLink RX4 80 "Readingorder$Box" "height" "I", Cond.fieldLink RX4 83 "Readingorder$Box" "left" "I", Cond.fieldLink RX4 86 "Readingorder$Box" "top" "I", Cond.fieldLink RX4 89 "Readingorder$Box" "page" "I", Cond.fieldLink RX4 26 "Readingorder" "trial" "LReadingorder$Reading;", Cond.methodLink RX4 73 yX4_presentBox, Cond.instanceMethod yX4_presentBox, Cond.selects RX4 yX4_presentBox yX4_presentBox, Cond.initialized RX4, Cond.code yX4_presentBox cX4_presentBox 3 (some (.object "Readingorder$Box")), Cond.classLink RX4 142 "java/lang/IndexOutOfBoundsException", Cond.initialized "java/lang/IndexOutOfBoundsException", Cond.fieldLink RX4 98 "Readingorder$Box" "gone" "Z", Cond.methodLink RX4 139 yX4_madeBox, Cond.instanceMethod yX4_madeBox, Cond.selects RX4 yX4_madeBox yX4_madeBox, Cond.code yX4_madeBox cX4_madeBox 2 (some (.object "Readingorder$Box")), Cond.fieldLink RX4 11 "Readingorder" "made" "[LReadingorder$Box;", Cond.methodLink RX4 57 yX4_checkWithinPage, Cond.static yX4_checkWithinPage, Cond.code yX4_checkWithinPage cX4_checkWithinPage 4 none, Cond.classLink RX4 50 "java/lang/IllegalArgumentException", Cond.initialized "java/lang/IllegalArgumentException"]
def wsX4_breaks_r2 : List Cond := [Cond.methodLink RX4 191 yX4_readByCuts, Cond.instanceMethod yX4_readByCuts, Cond.selects RX4 yX4_readByCuts yX4_readByCuts, Cond.code yX4_readByCuts cX4_readByCuts 3 none, Cond.fieldLink RX4 136 "Readingorder$Reading" "length" "I", Cond.methodLink RX4 216 yX4_boxesThatFollowNone, Cond.instanceMethod yX4_boxesThatFollowNone, Cond.selects RX4 yX4_boxesThatFollowNone yX4_boxesThatFollowNone, Cond.code yX4_boxesThatFollowNone cX4_boxesThatFollowNone 5 (some .int), Cond.fieldLink RX4 15 "Readingorder" "madeCount" "I", Cond.fieldLink RX4 108 "Readingorder$Box" "leader" "LReadingorder$Box;", Cond.methodLink RX4 219 yX4_readSet, Cond.instanceMethod yX4_readSet, Cond.selects RX4 yX4_readSet yX4_readSet, Cond.code yX4_readSet cX4_readSet 5 none, Cond.methodLink RX4 223 yX4_cutOff, Cond.instanceMethod yX4_cutOff, Cond.selects RX4 yX4_cutOff yX4_cutOff, Cond.code yX4_cutOff cX4_cutOff 4 (some .int), Cond.methodLink RX4 240 yX4_leastCut, Cond.instanceMethod yX4_leastCut, Cond.selects RX4 yX4_leastCut yX4_leastCut, Cond.code yX4_leastCut cX4_leastCut 8 (some .int), Cond.methodLink RX4 256 Lib.Math.min.name]
def wsX4_breaks_r3 : List Cond := [Cond.static Lib.Math.min.name, Cond.initialized "java/lang/Math", Cond.code Lib.Math.min.name Lib.Math.min.code 2 (some .int), Cond.methodLink RX4 248 yX4_boxOfSet, Cond.instanceMethod yX4_boxOfSet, Cond.selects RX4 yX4_boxOfSet yX4_boxOfSet, Cond.code yX4_boxOfSet cX4_boxOfSet 4 (some (.object "Readingorder$Box")), Cond.methodLink RX4 252 yX1_end, Cond.instanceMethod yX1_end, Cond.selects RX1 yX1_end yX1_end, Cond.initialized RX1, Cond.code yX1_end cX1_end 2 (some .int), Cond.fieldLink RX1 32 "Readingorder$Box" "top" "I", Cond.fieldLink RX1 38 "Readingorder$Box" "height" "I", Cond.fieldLink RX1 29 "Readingorder$Box" "left" "I", Cond.fieldLink RX1 35 "Readingorder$Box" "width" "I", Cond.methodLink RX4 260 yX1_begin, Cond.instanceMethod yX1_begin, Cond.selects RX1 yX1_begin yX1_begin, Cond.code yX1_begin cX1_begin 2 (some .int), Cond.methodLink RX4 244 yX4_endedBy, Cond.instanceMethod yX4_endedBy, Cond.selects RX4 yX4_endedBy yX4_endedBy, Cond.code yX4_endedBy cX4_endedBy 7 (some .int)]
def wsX4_breaks_r4 : List Cond := [Cond.methodLink RX4 226 yX4_readUncut, Cond.instanceMethod yX4_readUncut, Cond.selects RX4 yX4_readUncut yX4_readUncut, Cond.code yX4_readUncut cX4_readUncut 7 none, Cond.fieldLink RX4 130 "Readingorder$Box" "number" "I", Cond.fieldLink RX4 104 "Readingorder$Box" "follower" "LReadingorder$Box;", Cond.methodLink RX4 263 yX4_firstByEdges, Cond.instanceMethod yX4_firstByEdges, Cond.selects RX4 yX4_firstByEdges yX4_firstByEdges, Cond.code yX4_firstByEdges cX4_firstByEdges 5 (some (.object "Readingorder$Box")), Cond.methodLink RX4 269 yX1_isAheadByEdges, Cond.instanceMethod yX1_isAheadByEdges, Cond.selects RX1 yX1_isAheadByEdges yX1_isAheadByEdges, Cond.code yX1_isAheadByEdges cX1_isAheadByEdges 2 (some .boolean), Cond.fieldLink RX1 22 "Readingorder$Box" "number" "I", Cond.methodLink RX4 266 yX3_add, Cond.instanceMethod yX3_add, Cond.selects RX3 yX3_add yX3_add, Cond.initialized RX3, Cond.code yX3_add cX3_add 2 none, Cond.fieldLink RX3 15 "Readingorder$Reading" "length" "I", Cond.fieldLink RX3 9 "Readingorder$Reading" "numbers" "[I", Cond.methodLink RX4 229 yX4_readParts, Cond.instanceMethod yX4_readParts]
def wsX4_breaks_r5 : List Cond := [Cond.selects RX4 yX4_readParts yX4_readParts, Cond.code yX4_readParts cX4_readParts 5 none, Cond.methodLink RX4 46 yX4_readingOf, Cond.instanceMethod yX4_readingOf, Cond.selects RX4 yX4_readingOf yX4_readingOf, Cond.code yX4_readingOf cX4_readingOf 3 (some (.object "Readingorder$Reading")), Cond.fieldLink RX4 21 "Readingorder" "readings" "[LReadingorder$Reading;", Cond.methodLink RX4 194 yX3_isSameAs, Cond.instanceMethod yX3_isSameAs, Cond.selects RX3 yX3_isSameAs yX3_isSameAs, Cond.code yX3_isSameAs cX3_isSameAs 3 (some .boolean), Cond.methodLink RX3 19 yX3_at, Cond.instanceMethod yX3_at, Cond.selects RX3 yX3_at yX3_at, Cond.code yX3_at cX3_at 2 (some .int), Cond.methodLink RX4 198 yX4_countHolding, Cond.instanceMethod yX4_countHolding, Cond.selects RX4 yX4_countHolding yX4_countHolding, Cond.code yX4_countHolding cX4_countHolding 5 (some .int), Cond.fieldLink RX4 39 "Readingorder" "given" "[LReadingorder$Approval;", Cond.methodLink RX4 184 yX0_holdsFor, Cond.instanceMethod yX0_holdsFor, Cond.selects RX0 yX0_holdsFor yX0_holdsFor, Cond.initialized RX0]
def wsX4_breaks_r6 : List Cond := [Cond.code yX0_holdsFor cX0_holdsFor 2 (some .boolean), Cond.fieldLink RX0 7 "Readingorder$Approval" "holds" "Z", Cond.fieldLink RX0 17 "Readingorder$Approval" "page" "I"]
def wsX4_breaks : List Cond := .code yX4_breaks cX4_breaks 7 (some .int) :: ((wsX4_breaks_r1 ++ (wsX4_breaks_r2 ++ (wsX4_breaks_r3 ++ (wsX4_breaks_r4 ++ (wsX4_breaks_r5 ++ wsX4_breaks_r6))))) ++ wsX10 ++ wsX40 ++ wsX30 ++ wsX00 ++ (vx_atS RX4 146 "java/lang/IndexOutOfBoundsException" ["java/lang/RuntimeException", "java/lang/Exception"]).filter goodWord ++ (vx_atS RX4 54 "java/lang/IllegalArgumentException" ["java/lang/RuntimeException", "java/lang/Exception"]).filter goodWord)
def wsX5_init : List Cond := .code yX5_init cX5_init 1 none :: ([.methodLink RX5 1 objectInit, .instanceMethod objectInit, .code objectInit ⟨#[0xb1]⟩ 1 none, .arrayClass .int, .fieldLink RX5 7 "ReadingorderModel" "page" "[I", .fieldLink RX5 13 "ReadingorderModel" "left" "[I", .fieldLink RX5 16 "ReadingorderModel" "top" "[I", .fieldLink RX5 19 "ReadingorderModel" "width" "[I", .fieldLink RX5 22 "ReadingorderModel" "height" "[I", .fieldLink RX5 25 "ReadingorderModel" "kind" "[I", .fieldLink RX5 28 "ReadingorderModel" "follows" "[I", .fieldLink RX5 31 "ReadingorderModel" "leads" "[I", .arrayClass .boolean, .fieldLink RX5 34 "ReadingorderModel" "isGone" "[Z", .fieldLink RX5 38 "ReadingorderModel" "who" "[I", .fieldLink RX5 41 "ReadingorderModel" "which" "[I", .fieldLink RX5 44 "ReadingorderModel" "isFallen" "[Z", .fieldLink RX5 47 "ReadingorderModel" "order" "[I", .fieldLink RX5 50 "ReadingorderModel" "ahead" "[I", .fieldLink RX5 53 "ReadingorderModel" "set" "[I"] ++ wsX50)
def wsX5_thrown : List Cond := .code yX5_thrown cX5_thrown 1 (some .int) :: ([.fieldLink RX5 56 "ReadingorderModel" "thrown" "I"] ++ wsX50)
def wsX5_in : List Cond := .code yX5_in cX5_in 3 (some .boolean) :: ([])
def wsX5_goes : List Cond := .code yX5_goes cX5_goes 4 (some .boolean) :: ([.fieldLink RX5 56 "ReadingorderModel" "thrown" "I"] ++ wsX50)
def wsX5_isPage : List Cond := .code yX5_isPage cX5_isPage 1 (some .boolean) :: ([.methodLink RX5 60 yX5_in, .static yX5_in, .initialized RX5, .code yX5_in cX5_in 3 (some .boolean)])
def wsX5_isBox : List Cond := .code yX5_isBox cX5_isBox 2 (some .boolean) :: ([.fieldLink RX5 64 "ReadingorderModel" "boxes" "I", .fieldLink RX5 34 "ReadingorderModel" "isGone" "[Z", .methodLink RX5 60 yX5_in, .static yX5_in, .initialized RX5, .code yX5_in cX5_in 3 (some .boolean)] ++ wsX50)
def wsX5_isWithin : List Cond := .code yX5_isWithin cX5_isWithin 4 (some .boolean) :: ([])
def wsX5_has : List Cond := .code yX5_has cX5_has 2 (some .boolean) :: ([])
def wsX5_near : List Cond := .code yX5_near cX5_near 3 (some .int) :: ([.fieldLink RX5 16 "ReadingorderModel" "top" "[I", .fieldLink RX5 13 "ReadingorderModel" "left" "[I"] ++ wsX50)
def wsX5_far : List Cond := .code yX5_far cX5_far 3 (some .int) :: ([.fieldLink RX5 16 "ReadingorderModel" "top" "[I", .fieldLink RX5 22 "ReadingorderModel" "height" "[I", .fieldLink RX5 13 "ReadingorderModel" "left" "[I", .fieldLink RX5 19 "ReadingorderModel" "width" "[I"] ++ wsX50)
def wsX5_cutAt : List Cond := .code yX5_cutAt cX5_cutAt 8 (some .int) :: ([.fieldLink RX5 64 "ReadingorderModel" "boxes" "I", .methodLink RX5 67 yX5_has, .static yX5_has, .initialized RX5, .code yX5_has cX5_has 2 (some .boolean), .methodLink RX5 71 yX5_far, .instanceMethod yX5_far, .selects RX5 yX5_far yX5_far, .code yX5_far cX5_far 3 (some .int), .fieldLink RX5 16 "ReadingorderModel" "top" "[I", .fieldLink RX5 22 "ReadingorderModel" "height" "[I", .fieldLink RX5 13 "ReadingorderModel" "left" "[I", .fieldLink RX5 19 "ReadingorderModel" "width" "[I", .methodLink RX5 75 yX5_near, .instanceMethod yX5_near, .selects RX5 yX5_near yX5_near, .code yX5_near cX5_near 3 (some .int)] ++ wsX50)
def wsX5_cut : List Cond := .code yX5_cut cX5_cut 5 (some .int) :: ([.methodLink RX5 78 yX5_cutAt, .instanceMethod yX5_cutAt, .selects RX5 yX5_cutAt yX5_cutAt, .initialized RX5, .code yX5_cutAt cX5_cutAt 8 (some .int), .fieldLink RX5 64 "ReadingorderModel" "boxes" "I", .methodLink RX5 67 yX5_has, .static yX5_has, .code yX5_has cX5_has 2 (some .boolean), .methodLink RX5 71 yX5_far, .instanceMethod yX5_far, .selects RX5 yX5_far yX5_far, .code yX5_far cX5_far 3 (some .int), .fieldLink RX5 16 "ReadingorderModel" "top" "[I", .fieldLink RX5 22 "ReadingorderModel" "height" "[I", .fieldLink RX5 13 "ReadingorderModel" "left" "[I", .fieldLink RX5 19 "ReadingorderModel" "width" "[I", .methodLink RX5 75 yX5_near, .instanceMethod yX5_near, .selects RX5 yX5_near yX5_near, .code yX5_near cX5_near 3 (some .int)] ++ wsX50)
def wsX5_isAhead : List Cond := .code yX5_isAhead cX5_isAhead 3 (some .boolean) :: ([.fieldLink RX5 16 "ReadingorderModel" "top" "[I", .fieldLink RX5 13 "ReadingorderModel" "left" "[I"] ++ wsX50)
def wsX5_reads : List Cond := .code yX5_reads cX5_reads 3 none :: ([.fieldLink RX5 47 "ReadingorderModel" "order" "[I", .fieldLink RX5 82 "ReadingorderModel" "many" "I", .fieldLink RX5 31 "ReadingorderModel" "leads" "[I"] ++ wsX50)
def wsX5_readsAll : List Cond := .code yX5_readsAll cX5_readsAll 5 none :: ([.fieldLink RX5 64 "ReadingorderModel" "boxes" "I", .methodLink RX5 67 yX5_has, .static yX5_has, .initialized RX5, .code yX5_has cX5_has 2 (some .boolean), .methodLink RX5 85 yX5_isAhead, .instanceMethod yX5_isAhead, .selects RX5 yX5_isAhead yX5_isAhead, .code yX5_isAhead cX5_isAhead 3 (some .boolean), .fieldLink RX5 16 "ReadingorderModel" "top" "[I", .fieldLink RX5 13 "ReadingorderModel" "left" "[I", .methodLink RX5 88 yX5_reads, .instanceMethod yX5_reads, .selects RX5 yX5_reads yX5_reads, .code yX5_reads cX5_reads 3 none, .fieldLink RX5 47 "ReadingorderModel" "order" "[I", .fieldLink RX5 82 "ReadingorderModel" "many" "I", .fieldLink RX5 31 "ReadingorderModel" "leads" "[I"] ++ wsX50)
def wsX5_puts : List Cond := .code yX5_puts cX5_puts 2 none :: ([.fieldLink RX5 53 "ReadingorderModel" "set" "[I", .fieldLink RX5 92 "ReadingorderModel" "aside" "I"] ++ wsX50)
def wsX5_finds_r1 : List Cond := [Cond.fieldLink RX5 64 "ReadingorderModel" "boxes" "I", Cond.fieldLink RX5 7 "ReadingorderModel" "page" "[I", Cond.fieldLink RX5 34 "ReadingorderModel" "isGone" "[Z", Cond.fieldLink RX5 28 "ReadingorderModel" "follows" "[I", Cond.fieldLink RX5 82 "ReadingorderModel" "many" "I", Cond.fieldLink RX5 92 "ReadingorderModel" "aside" "I", Cond.fieldLink RX5 53 "ReadingorderModel" "set" "[I", Cond.methodLink RX5 95 yX5_puts, Cond.instanceMethod yX5_puts, Cond.selects RX5 yX5_puts yX5_puts, Cond.initialized RX5, Cond.code yX5_puts cX5_puts 2 none, Cond.methodLink RX5 98 yX5_cut, Cond.instanceMethod yX5_cut, Cond.selects RX5 yX5_cut yX5_cut, Cond.code yX5_cut cX5_cut 5 (some .int), Cond.methodLink RX5 78 yX5_cutAt, Cond.instanceMethod yX5_cutAt, Cond.selects RX5 yX5_cutAt yX5_cutAt, Cond.code yX5_cutAt cX5_cutAt 8 (some .int), Cond.methodLink RX5 67 yX5_has, Cond.static yX5_has, Cond.code yX5_has cX5_has 2 (some .boolean), Cond.methodLink RX5 71 yX5_far]
def wsX5_finds_r2 : List Cond := [Cond.instanceMethod yX5_far, Cond.selects RX5 yX5_far yX5_far, Cond.code yX5_far cX5_far 3 (some .int), Cond.fieldLink RX5 16 "ReadingorderModel" "top" "[I", Cond.fieldLink RX5 22 "ReadingorderModel" "height" "[I", Cond.fieldLink RX5 13 "ReadingorderModel" "left" "[I", Cond.fieldLink RX5 19 "ReadingorderModel" "width" "[I", Cond.methodLink RX5 75 yX5_near, Cond.instanceMethod yX5_near, Cond.selects RX5 yX5_near yX5_near, Cond.code yX5_near cX5_near 3 (some .int), Cond.methodLink RX5 101 yX5_readsAll, Cond.instanceMethod yX5_readsAll, Cond.selects RX5 yX5_readsAll yX5_readsAll, Cond.code yX5_readsAll cX5_readsAll 5 none, Cond.methodLink RX5 85 yX5_isAhead, Cond.instanceMethod yX5_isAhead, Cond.selects RX5 yX5_isAhead yX5_isAhead, Cond.code yX5_isAhead cX5_isAhead 3 (some .boolean), Cond.methodLink RX5 88 yX5_reads, Cond.instanceMethod yX5_reads, Cond.selects RX5 yX5_reads yX5_reads, Cond.code yX5_reads cX5_reads 3 none, Cond.fieldLink RX5 47 "ReadingorderModel" "order" "[I"]
def wsX5_finds_r3 : List Cond := [Cond.fieldLink RX5 31 "ReadingorderModel" "leads" "[I"]
def wsX5_finds : List Cond := .code yX5_finds cX5_finds 5 none :: ((wsX5_finds_r1 ++ (wsX5_finds_r2 ++ wsX5_finds_r3)) ++ wsX50)
def wsX5_keeps_r1 : List Cond := [Cond.fieldLink RX5 82 "ReadingorderModel" "many" "I", Cond.fieldLink RX5 107 "ReadingorderModel" "manyAhead" "I", Cond.fieldLink RX5 50 "ReadingorderModel" "ahead" "[I", Cond.fieldLink RX5 47 "ReadingorderModel" "order" "[I", Cond.methodLink RX5 104 yX5_finds, Cond.instanceMethod yX5_finds, Cond.selects RX5 yX5_finds yX5_finds, Cond.initialized RX5, Cond.code yX5_finds cX5_finds 5 none, Cond.fieldLink RX5 64 "ReadingorderModel" "boxes" "I", Cond.fieldLink RX5 7 "ReadingorderModel" "page" "[I", Cond.fieldLink RX5 34 "ReadingorderModel" "isGone" "[Z", Cond.fieldLink RX5 28 "ReadingorderModel" "follows" "[I", Cond.fieldLink RX5 92 "ReadingorderModel" "aside" "I", Cond.fieldLink RX5 53 "ReadingorderModel" "set" "[I", Cond.methodLink RX5 95 yX5_puts, Cond.instanceMethod yX5_puts, Cond.selects RX5 yX5_puts yX5_puts, Cond.code yX5_puts cX5_puts 2 none, Cond.methodLink RX5 98 yX5_cut, Cond.instanceMethod yX5_cut, Cond.selects RX5 yX5_cut yX5_cut, Cond.code yX5_cut cX5_cut 5 (some .int), Cond.methodLink RX5 78 yX5_cutAt]
def wsX5_keeps_r2 : List Cond := [Cond.instanceMethod yX5_cutAt, Cond.selects RX5 yX5_cutAt yX5_cutAt, Cond.code yX5_cutAt cX5_cutAt 8 (some .int), Cond.methodLink RX5 67 yX5_has, Cond.static yX5_has, Cond.code yX5_has cX5_has 2 (some .boolean), Cond.methodLink RX5 71 yX5_far, Cond.instanceMethod yX5_far, Cond.selects RX5 yX5_far yX5_far, Cond.code yX5_far cX5_far 3 (some .int), Cond.fieldLink RX5 16 "ReadingorderModel" "top" "[I", Cond.fieldLink RX5 22 "ReadingorderModel" "height" "[I", Cond.fieldLink RX5 13 "ReadingorderModel" "left" "[I", Cond.fieldLink RX5 19 "ReadingorderModel" "width" "[I", Cond.methodLink RX5 75 yX5_near, Cond.instanceMethod yX5_near, Cond.selects RX5 yX5_near yX5_near, Cond.code yX5_near cX5_near 3 (some .int), Cond.methodLink RX5 101 yX5_readsAll, Cond.instanceMethod yX5_readsAll, Cond.selects RX5 yX5_readsAll yX5_readsAll, Cond.code yX5_readsAll cX5_readsAll 5 none, Cond.methodLink RX5 85 yX5_isAhead, Cond.instanceMethod yX5_isAhead]
def wsX5_keeps_r3 : List Cond := [Cond.selects RX5 yX5_isAhead yX5_isAhead, Cond.code yX5_isAhead cX5_isAhead 3 (some .boolean), Cond.methodLink RX5 88 yX5_reads, Cond.instanceMethod yX5_reads, Cond.selects RX5 yX5_reads yX5_reads, Cond.code yX5_reads cX5_reads 3 none, Cond.fieldLink RX5 31 "ReadingorderModel" "leads" "[I"]
def wsX5_keeps : List Cond := .code yX5_keeps cX5_keeps 3 none :: ((wsX5_keeps_r1 ++ (wsX5_keeps_r2 ++ wsX5_keeps_r3)) ++ wsX50)
def wsX5_isOther_r1 : List Cond := [Cond.fieldLink RX5 82 "ReadingorderModel" "many" "I", Cond.fieldLink RX5 107 "ReadingorderModel" "manyAhead" "I", Cond.fieldLink RX5 47 "ReadingorderModel" "order" "[I", Cond.fieldLink RX5 50 "ReadingorderModel" "ahead" "[I", Cond.methodLink RX5 104 yX5_finds, Cond.instanceMethod yX5_finds, Cond.selects RX5 yX5_finds yX5_finds, Cond.initialized RX5, Cond.code yX5_finds cX5_finds 5 none, Cond.fieldLink RX5 64 "ReadingorderModel" "boxes" "I", Cond.fieldLink RX5 7 "ReadingorderModel" "page" "[I", Cond.fieldLink RX5 34 "ReadingorderModel" "isGone" "[Z", Cond.fieldLink RX5 28 "ReadingorderModel" "follows" "[I", Cond.fieldLink RX5 92 "ReadingorderModel" "aside" "I", Cond.fieldLink RX5 53 "ReadingorderModel" "set" "[I", Cond.methodLink RX5 95 yX5_puts, Cond.instanceMethod yX5_puts, Cond.selects RX5 yX5_puts yX5_puts, Cond.code yX5_puts cX5_puts 2 none, Cond.methodLink RX5 98 yX5_cut, Cond.instanceMethod yX5_cut, Cond.selects RX5 yX5_cut yX5_cut, Cond.code yX5_cut cX5_cut 5 (some .int), Cond.methodLink RX5 78 yX5_cutAt]
def wsX5_isOther_r2 : List Cond := [Cond.instanceMethod yX5_cutAt, Cond.selects RX5 yX5_cutAt yX5_cutAt, Cond.code yX5_cutAt cX5_cutAt 8 (some .int), Cond.methodLink RX5 67 yX5_has, Cond.static yX5_has, Cond.code yX5_has cX5_has 2 (some .boolean), Cond.methodLink RX5 71 yX5_far, Cond.instanceMethod yX5_far, Cond.selects RX5 yX5_far yX5_far, Cond.code yX5_far cX5_far 3 (some .int), Cond.fieldLink RX5 16 "ReadingorderModel" "top" "[I", Cond.fieldLink RX5 22 "ReadingorderModel" "height" "[I", Cond.fieldLink RX5 13 "ReadingorderModel" "left" "[I", Cond.fieldLink RX5 19 "ReadingorderModel" "width" "[I", Cond.methodLink RX5 75 yX5_near, Cond.instanceMethod yX5_near, Cond.selects RX5 yX5_near yX5_near, Cond.code yX5_near cX5_near 3 (some .int), Cond.methodLink RX5 101 yX5_readsAll, Cond.instanceMethod yX5_readsAll, Cond.selects RX5 yX5_readsAll yX5_readsAll, Cond.code yX5_readsAll cX5_readsAll 5 none, Cond.methodLink RX5 85 yX5_isAhead, Cond.instanceMethod yX5_isAhead]
def wsX5_isOther_r3 : List Cond := [Cond.selects RX5 yX5_isAhead yX5_isAhead, Cond.code yX5_isAhead cX5_isAhead 3 (some .boolean), Cond.methodLink RX5 88 yX5_reads, Cond.instanceMethod yX5_reads, Cond.selects RX5 yX5_reads yX5_reads, Cond.code yX5_reads cX5_reads 3 none, Cond.fieldLink RX5 31 "ReadingorderModel" "leads" "[I"]
def wsX5_isOther : List Cond := .code yX5_isOther cX5_isOther 4 (some .boolean) :: ((wsX5_isOther_r1 ++ (wsX5_isOther_r2 ++ wsX5_isOther_r3)) ++ wsX50)
def wsX5_standing : List Cond := .code yX5_standing cX5_standing 4 (some .int) :: ([.fieldLink RX5 110 "ReadingorderModel" "approvals" "I", .fieldLink RX5 41 "ReadingorderModel" "which" "[I", .fieldLink RX5 44 "ReadingorderModel" "isFallen" "[Z"] ++ wsX50)
def wsX5_falls_r1 : List Cond := [Cond.fieldLink RX5 110 "ReadingorderModel" "approvals" "I", Cond.fieldLink RX5 44 "ReadingorderModel" "isFallen" "[Z", Cond.fieldLink RX5 41 "ReadingorderModel" "which" "[I", Cond.methodLink RX5 113 yX5_isOther, Cond.instanceMethod yX5_isOther, Cond.selects RX5 yX5_isOther yX5_isOther, Cond.initialized RX5, Cond.code yX5_isOther cX5_isOther 4 (some .boolean), Cond.fieldLink RX5 82 "ReadingorderModel" "many" "I", Cond.fieldLink RX5 107 "ReadingorderModel" "manyAhead" "I", Cond.fieldLink RX5 47 "ReadingorderModel" "order" "[I", Cond.fieldLink RX5 50 "ReadingorderModel" "ahead" "[I", Cond.methodLink RX5 104 yX5_finds, Cond.instanceMethod yX5_finds, Cond.selects RX5 yX5_finds yX5_finds, Cond.code yX5_finds cX5_finds 5 none, Cond.fieldLink RX5 64 "ReadingorderModel" "boxes" "I", Cond.fieldLink RX5 7 "ReadingorderModel" "page" "[I", Cond.fieldLink RX5 34 "ReadingorderModel" "isGone" "[Z", Cond.fieldLink RX5 28 "ReadingorderModel" "follows" "[I", Cond.fieldLink RX5 92 "ReadingorderModel" "aside" "I", Cond.fieldLink RX5 53 "ReadingorderModel" "set" "[I", Cond.methodLink RX5 95 yX5_puts, Cond.instanceMethod yX5_puts]
def wsX5_falls_r2 : List Cond := [Cond.selects RX5 yX5_puts yX5_puts, Cond.code yX5_puts cX5_puts 2 none, Cond.methodLink RX5 98 yX5_cut, Cond.instanceMethod yX5_cut, Cond.selects RX5 yX5_cut yX5_cut, Cond.code yX5_cut cX5_cut 5 (some .int), Cond.methodLink RX5 78 yX5_cutAt, Cond.instanceMethod yX5_cutAt, Cond.selects RX5 yX5_cutAt yX5_cutAt, Cond.code yX5_cutAt cX5_cutAt 8 (some .int), Cond.methodLink RX5 67 yX5_has, Cond.static yX5_has, Cond.code yX5_has cX5_has 2 (some .boolean), Cond.methodLink RX5 71 yX5_far, Cond.instanceMethod yX5_far, Cond.selects RX5 yX5_far yX5_far, Cond.code yX5_far cX5_far 3 (some .int), Cond.fieldLink RX5 16 "ReadingorderModel" "top" "[I", Cond.fieldLink RX5 22 "ReadingorderModel" "height" "[I", Cond.fieldLink RX5 13 "ReadingorderModel" "left" "[I", Cond.fieldLink RX5 19 "ReadingorderModel" "width" "[I", Cond.methodLink RX5 75 yX5_near, Cond.instanceMethod yX5_near, Cond.selects RX5 yX5_near yX5_near]
def wsX5_falls_r3 : List Cond := [Cond.code yX5_near cX5_near 3 (some .int), Cond.methodLink RX5 101 yX5_readsAll, Cond.instanceMethod yX5_readsAll, Cond.selects RX5 yX5_readsAll yX5_readsAll, Cond.code yX5_readsAll cX5_readsAll 5 none, Cond.methodLink RX5 85 yX5_isAhead, Cond.instanceMethod yX5_isAhead, Cond.selects RX5 yX5_isAhead yX5_isAhead, Cond.code yX5_isAhead cX5_isAhead 3 (some .boolean), Cond.methodLink RX5 88 yX5_reads, Cond.instanceMethod yX5_reads, Cond.selects RX5 yX5_reads yX5_reads, Cond.code yX5_reads cX5_reads 3 none, Cond.fieldLink RX5 31 "ReadingorderModel" "leads" "[I", Cond.methodLink RX5 117 yX5_standing, Cond.instanceMethod yX5_standing, Cond.selects RX5 yX5_standing yX5_standing, Cond.code yX5_standing cX5_standing 4 (some .int)]
def wsX5_falls : List Cond := .code yX5_falls cX5_falls 4 (some .int) :: ((wsX5_falls_r1 ++ (wsX5_falls_r2 ++ wsX5_falls_r3)) ++ wsX50)
def wsX5_box_r1 : List Cond := [Cond.fieldLink RX5 64 "ReadingorderModel" "boxes" "I", Cond.fieldLink RX5 7 "ReadingorderModel" "page" "[I", Cond.fieldLink RX5 13 "ReadingorderModel" "left" "[I", Cond.fieldLink RX5 16 "ReadingorderModel" "top" "[I", Cond.fieldLink RX5 19 "ReadingorderModel" "width" "[I", Cond.fieldLink RX5 22 "ReadingorderModel" "height" "[I", Cond.fieldLink RX5 25 "ReadingorderModel" "kind" "[I", Cond.fieldLink RX5 28 "ReadingorderModel" "follows" "[I", Cond.fieldLink RX5 31 "ReadingorderModel" "leads" "[I", Cond.methodLink RX5 121 yX5_isPage, Cond.static yX5_isPage, Cond.initialized RX5, Cond.code yX5_isPage cX5_isPage 1 (some .boolean), Cond.methodLink RX5 60 yX5_in, Cond.static yX5_in, Cond.code yX5_in cX5_in 3 (some .boolean), Cond.methodLink RX5 124 yX5_isWithin, Cond.static yX5_isWithin, Cond.code yX5_isWithin cX5_isWithin 4 (some .boolean), Cond.methodLink RX5 128 yX5_goes, Cond.instanceMethod yX5_goes, Cond.selects RX5 yX5_goes yX5_goes, Cond.code yX5_goes cX5_goes 4 (some .boolean), Cond.fieldLink RX5 56 "ReadingorderModel" "thrown" "I"]
def wsX5_box_r2 : List Cond := [Cond.methodLink RX5 132 yX5_keeps, Cond.instanceMethod yX5_keeps, Cond.selects RX5 yX5_keeps yX5_keeps, Cond.code yX5_keeps cX5_keeps 3 none, Cond.fieldLink RX5 82 "ReadingorderModel" "many" "I", Cond.fieldLink RX5 107 "ReadingorderModel" "manyAhead" "I", Cond.fieldLink RX5 50 "ReadingorderModel" "ahead" "[I", Cond.fieldLink RX5 47 "ReadingorderModel" "order" "[I", Cond.methodLink RX5 104 yX5_finds, Cond.instanceMethod yX5_finds, Cond.selects RX5 yX5_finds yX5_finds, Cond.code yX5_finds cX5_finds 5 none, Cond.fieldLink RX5 34 "ReadingorderModel" "isGone" "[Z", Cond.fieldLink RX5 92 "ReadingorderModel" "aside" "I", Cond.fieldLink RX5 53 "ReadingorderModel" "set" "[I", Cond.methodLink RX5 95 yX5_puts, Cond.instanceMethod yX5_puts, Cond.selects RX5 yX5_puts yX5_puts, Cond.code yX5_puts cX5_puts 2 none, Cond.methodLink RX5 98 yX5_cut, Cond.instanceMethod yX5_cut, Cond.selects RX5 yX5_cut yX5_cut, Cond.code yX5_cut cX5_cut 5 (some .int), Cond.methodLink RX5 78 yX5_cutAt]
def wsX5_box_r3 : List Cond := [Cond.instanceMethod yX5_cutAt, Cond.selects RX5 yX5_cutAt yX5_cutAt, Cond.code yX5_cutAt cX5_cutAt 8 (some .int), Cond.methodLink RX5 67 yX5_has, Cond.static yX5_has, Cond.code yX5_has cX5_has 2 (some .boolean), Cond.methodLink RX5 71 yX5_far, Cond.instanceMethod yX5_far, Cond.selects RX5 yX5_far yX5_far, Cond.code yX5_far cX5_far 3 (some .int), Cond.methodLink RX5 75 yX5_near, Cond.instanceMethod yX5_near, Cond.selects RX5 yX5_near yX5_near, Cond.code yX5_near cX5_near 3 (some .int), Cond.methodLink RX5 101 yX5_readsAll, Cond.instanceMethod yX5_readsAll, Cond.selects RX5 yX5_readsAll yX5_readsAll, Cond.code yX5_readsAll cX5_readsAll 5 none, Cond.methodLink RX5 85 yX5_isAhead, Cond.instanceMethod yX5_isAhead, Cond.selects RX5 yX5_isAhead yX5_isAhead, Cond.code yX5_isAhead cX5_isAhead 3 (some .boolean), Cond.methodLink RX5 88 yX5_reads, Cond.instanceMethod yX5_reads]
def wsX5_box_r4 : List Cond := [Cond.selects RX5 yX5_reads yX5_reads, Cond.code yX5_reads cX5_reads 3 none, Cond.methodLink RX5 135 yX5_falls, Cond.instanceMethod yX5_falls, Cond.selects RX5 yX5_falls yX5_falls, Cond.code yX5_falls cX5_falls 4 (some .int), Cond.fieldLink RX5 110 "ReadingorderModel" "approvals" "I", Cond.fieldLink RX5 44 "ReadingorderModel" "isFallen" "[Z", Cond.fieldLink RX5 41 "ReadingorderModel" "which" "[I", Cond.methodLink RX5 113 yX5_isOther, Cond.instanceMethod yX5_isOther, Cond.selects RX5 yX5_isOther yX5_isOther, Cond.code yX5_isOther cX5_isOther 4 (some .boolean), Cond.methodLink RX5 117 yX5_standing, Cond.instanceMethod yX5_standing, Cond.selects RX5 yX5_standing yX5_standing, Cond.code yX5_standing cX5_standing 4 (some .int)]
def wsX5_box : List Cond := .code yX5_box cX5_box 8 (some .int) :: ((wsX5_box_r1 ++ (wsX5_box_r2 ++ (wsX5_box_r3 ++ wsX5_box_r4))) ++ wsX50)
def wsX5_move_r1 : List Cond := [Cond.fieldLink RX5 19 "ReadingorderModel" "width" "[I", Cond.fieldLink RX5 22 "ReadingorderModel" "height" "[I", Cond.fieldLink RX5 7 "ReadingorderModel" "page" "[I", Cond.fieldLink RX5 13 "ReadingorderModel" "left" "[I", Cond.fieldLink RX5 16 "ReadingorderModel" "top" "[I", Cond.methodLink RX5 138 yX5_isBox, Cond.instanceMethod yX5_isBox, Cond.selects RX5 yX5_isBox yX5_isBox, Cond.initialized RX5, Cond.code yX5_isBox cX5_isBox 2 (some .boolean), Cond.fieldLink RX5 64 "ReadingorderModel" "boxes" "I", Cond.fieldLink RX5 34 "ReadingorderModel" "isGone" "[Z", Cond.methodLink RX5 60 yX5_in, Cond.static yX5_in, Cond.code yX5_in cX5_in 3 (some .boolean), Cond.methodLink RX5 124 yX5_isWithin, Cond.static yX5_isWithin, Cond.code yX5_isWithin cX5_isWithin 4 (some .boolean), Cond.methodLink RX5 128 yX5_goes, Cond.instanceMethod yX5_goes, Cond.selects RX5 yX5_goes yX5_goes, Cond.code yX5_goes cX5_goes 4 (some .boolean), Cond.fieldLink RX5 56 "ReadingorderModel" "thrown" "I", Cond.methodLink RX5 132 yX5_keeps]
def wsX5_move_r2 : List Cond := [Cond.instanceMethod yX5_keeps, Cond.selects RX5 yX5_keeps yX5_keeps, Cond.code yX5_keeps cX5_keeps 3 none, Cond.fieldLink RX5 82 "ReadingorderModel" "many" "I", Cond.fieldLink RX5 107 "ReadingorderModel" "manyAhead" "I", Cond.fieldLink RX5 50 "ReadingorderModel" "ahead" "[I", Cond.fieldLink RX5 47 "ReadingorderModel" "order" "[I", Cond.methodLink RX5 104 yX5_finds, Cond.instanceMethod yX5_finds, Cond.selects RX5 yX5_finds yX5_finds, Cond.code yX5_finds cX5_finds 5 none, Cond.fieldLink RX5 28 "ReadingorderModel" "follows" "[I", Cond.fieldLink RX5 92 "ReadingorderModel" "aside" "I", Cond.fieldLink RX5 53 "ReadingorderModel" "set" "[I", Cond.methodLink RX5 95 yX5_puts, Cond.instanceMethod yX5_puts, Cond.selects RX5 yX5_puts yX5_puts, Cond.code yX5_puts cX5_puts 2 none, Cond.methodLink RX5 98 yX5_cut, Cond.instanceMethod yX5_cut, Cond.selects RX5 yX5_cut yX5_cut, Cond.code yX5_cut cX5_cut 5 (some .int), Cond.methodLink RX5 78 yX5_cutAt, Cond.instanceMethod yX5_cutAt]
def wsX5_move_r3 : List Cond := [Cond.selects RX5 yX5_cutAt yX5_cutAt, Cond.code yX5_cutAt cX5_cutAt 8 (some .int), Cond.methodLink RX5 67 yX5_has, Cond.static yX5_has, Cond.code yX5_has cX5_has 2 (some .boolean), Cond.methodLink RX5 71 yX5_far, Cond.instanceMethod yX5_far, Cond.selects RX5 yX5_far yX5_far, Cond.code yX5_far cX5_far 3 (some .int), Cond.methodLink RX5 75 yX5_near, Cond.instanceMethod yX5_near, Cond.selects RX5 yX5_near yX5_near, Cond.code yX5_near cX5_near 3 (some .int), Cond.methodLink RX5 101 yX5_readsAll, Cond.instanceMethod yX5_readsAll, Cond.selects RX5 yX5_readsAll yX5_readsAll, Cond.code yX5_readsAll cX5_readsAll 5 none, Cond.methodLink RX5 85 yX5_isAhead, Cond.instanceMethod yX5_isAhead, Cond.selects RX5 yX5_isAhead yX5_isAhead, Cond.code yX5_isAhead cX5_isAhead 3 (some .boolean), Cond.methodLink RX5 88 yX5_reads, Cond.instanceMethod yX5_reads, Cond.selects RX5 yX5_reads yX5_reads]
def wsX5_move_r4 : List Cond := [Cond.code yX5_reads cX5_reads 3 none, Cond.fieldLink RX5 31 "ReadingorderModel" "leads" "[I", Cond.methodLink RX5 135 yX5_falls, Cond.instanceMethod yX5_falls, Cond.selects RX5 yX5_falls yX5_falls, Cond.code yX5_falls cX5_falls 4 (some .int), Cond.fieldLink RX5 110 "ReadingorderModel" "approvals" "I", Cond.fieldLink RX5 44 "ReadingorderModel" "isFallen" "[Z", Cond.fieldLink RX5 41 "ReadingorderModel" "which" "[I", Cond.methodLink RX5 113 yX5_isOther, Cond.instanceMethod yX5_isOther, Cond.selects RX5 yX5_isOther yX5_isOther, Cond.code yX5_isOther cX5_isOther 4 (some .boolean), Cond.methodLink RX5 117 yX5_standing, Cond.instanceMethod yX5_standing, Cond.selects RX5 yX5_standing yX5_standing, Cond.code yX5_standing cX5_standing 4 (some .int)]
def wsX5_move : List Cond := .code yX5_move cX5_move 5 (some .int) :: ((wsX5_move_r1 ++ (wsX5_move_r2 ++ (wsX5_move_r3 ++ wsX5_move_r4))) ++ wsX50)
def wsX5_resize_r1 : List Cond := [Cond.fieldLink RX5 13 "ReadingorderModel" "left" "[I", Cond.fieldLink RX5 16 "ReadingorderModel" "top" "[I", Cond.fieldLink RX5 7 "ReadingorderModel" "page" "[I", Cond.fieldLink RX5 19 "ReadingorderModel" "width" "[I", Cond.fieldLink RX5 22 "ReadingorderModel" "height" "[I", Cond.methodLink RX5 138 yX5_isBox, Cond.instanceMethod yX5_isBox, Cond.selects RX5 yX5_isBox yX5_isBox, Cond.initialized RX5, Cond.code yX5_isBox cX5_isBox 2 (some .boolean), Cond.fieldLink RX5 64 "ReadingorderModel" "boxes" "I", Cond.fieldLink RX5 34 "ReadingorderModel" "isGone" "[Z", Cond.methodLink RX5 60 yX5_in, Cond.static yX5_in, Cond.code yX5_in cX5_in 3 (some .boolean), Cond.methodLink RX5 124 yX5_isWithin, Cond.static yX5_isWithin, Cond.code yX5_isWithin cX5_isWithin 4 (some .boolean), Cond.methodLink RX5 128 yX5_goes, Cond.instanceMethod yX5_goes, Cond.selects RX5 yX5_goes yX5_goes, Cond.code yX5_goes cX5_goes 4 (some .boolean), Cond.fieldLink RX5 56 "ReadingorderModel" "thrown" "I", Cond.methodLink RX5 132 yX5_keeps]
def wsX5_resize_r2 : List Cond := [Cond.instanceMethod yX5_keeps, Cond.selects RX5 yX5_keeps yX5_keeps, Cond.code yX5_keeps cX5_keeps 3 none, Cond.fieldLink RX5 82 "ReadingorderModel" "many" "I", Cond.fieldLink RX5 107 "ReadingorderModel" "manyAhead" "I", Cond.fieldLink RX5 50 "ReadingorderModel" "ahead" "[I", Cond.fieldLink RX5 47 "ReadingorderModel" "order" "[I", Cond.methodLink RX5 104 yX5_finds, Cond.instanceMethod yX5_finds, Cond.selects RX5 yX5_finds yX5_finds, Cond.code yX5_finds cX5_finds 5 none, Cond.fieldLink RX5 28 "ReadingorderModel" "follows" "[I", Cond.fieldLink RX5 92 "ReadingorderModel" "aside" "I", Cond.fieldLink RX5 53 "ReadingorderModel" "set" "[I", Cond.methodLink RX5 95 yX5_puts, Cond.instanceMethod yX5_puts, Cond.selects RX5 yX5_puts yX5_puts, Cond.code yX5_puts cX5_puts 2 none, Cond.methodLink RX5 98 yX5_cut, Cond.instanceMethod yX5_cut, Cond.selects RX5 yX5_cut yX5_cut, Cond.code yX5_cut cX5_cut 5 (some .int), Cond.methodLink RX5 78 yX5_cutAt, Cond.instanceMethod yX5_cutAt]
def wsX5_resize_r3 : List Cond := [Cond.selects RX5 yX5_cutAt yX5_cutAt, Cond.code yX5_cutAt cX5_cutAt 8 (some .int), Cond.methodLink RX5 67 yX5_has, Cond.static yX5_has, Cond.code yX5_has cX5_has 2 (some .boolean), Cond.methodLink RX5 71 yX5_far, Cond.instanceMethod yX5_far, Cond.selects RX5 yX5_far yX5_far, Cond.code yX5_far cX5_far 3 (some .int), Cond.methodLink RX5 75 yX5_near, Cond.instanceMethod yX5_near, Cond.selects RX5 yX5_near yX5_near, Cond.code yX5_near cX5_near 3 (some .int), Cond.methodLink RX5 101 yX5_readsAll, Cond.instanceMethod yX5_readsAll, Cond.selects RX5 yX5_readsAll yX5_readsAll, Cond.code yX5_readsAll cX5_readsAll 5 none, Cond.methodLink RX5 85 yX5_isAhead, Cond.instanceMethod yX5_isAhead, Cond.selects RX5 yX5_isAhead yX5_isAhead, Cond.code yX5_isAhead cX5_isAhead 3 (some .boolean), Cond.methodLink RX5 88 yX5_reads, Cond.instanceMethod yX5_reads, Cond.selects RX5 yX5_reads yX5_reads]
def wsX5_resize_r4 : List Cond := [Cond.code yX5_reads cX5_reads 3 none, Cond.fieldLink RX5 31 "ReadingorderModel" "leads" "[I", Cond.methodLink RX5 135 yX5_falls, Cond.instanceMethod yX5_falls, Cond.selects RX5 yX5_falls yX5_falls, Cond.code yX5_falls cX5_falls 4 (some .int), Cond.fieldLink RX5 110 "ReadingorderModel" "approvals" "I", Cond.fieldLink RX5 44 "ReadingorderModel" "isFallen" "[Z", Cond.fieldLink RX5 41 "ReadingorderModel" "which" "[I", Cond.methodLink RX5 113 yX5_isOther, Cond.instanceMethod yX5_isOther, Cond.selects RX5 yX5_isOther yX5_isOther, Cond.code yX5_isOther cX5_isOther 4 (some .boolean), Cond.methodLink RX5 117 yX5_standing, Cond.instanceMethod yX5_standing, Cond.selects RX5 yX5_standing yX5_standing, Cond.code yX5_standing cX5_standing 4 (some .int)]
def wsX5_resize : List Cond := .code yX5_resize cX5_resize 5 (some .int) :: ((wsX5_resize_r1 ++ (wsX5_resize_r2 ++ (wsX5_resize_r3 ++ wsX5_resize_r4))) ++ wsX50)
def wsX5_unties : List Cond := .code yX5_unties cX5_unties 2 none :: ([.fieldLink RX5 28 "ReadingorderModel" "follows" "[I", .fieldLink RX5 31 "ReadingorderModel" "leads" "[I"] ++ wsX50)
def wsX5_remove_r1 : List Cond := [Cond.fieldLink RX5 7 "ReadingorderModel" "page" "[I", Cond.fieldLink RX5 31 "ReadingorderModel" "leads" "[I", Cond.fieldLink RX5 34 "ReadingorderModel" "isGone" "[Z", Cond.methodLink RX5 138 yX5_isBox, Cond.instanceMethod yX5_isBox, Cond.selects RX5 yX5_isBox yX5_isBox, Cond.initialized RX5, Cond.code yX5_isBox cX5_isBox 2 (some .boolean), Cond.fieldLink RX5 64 "ReadingorderModel" "boxes" "I", Cond.methodLink RX5 60 yX5_in, Cond.static yX5_in, Cond.code yX5_in cX5_in 3 (some .boolean), Cond.methodLink RX5 128 yX5_goes, Cond.instanceMethod yX5_goes, Cond.selects RX5 yX5_goes yX5_goes, Cond.code yX5_goes cX5_goes 4 (some .boolean), Cond.fieldLink RX5 56 "ReadingorderModel" "thrown" "I", Cond.methodLink RX5 132 yX5_keeps, Cond.instanceMethod yX5_keeps, Cond.selects RX5 yX5_keeps yX5_keeps, Cond.code yX5_keeps cX5_keeps 3 none, Cond.fieldLink RX5 82 "ReadingorderModel" "many" "I", Cond.fieldLink RX5 107 "ReadingorderModel" "manyAhead" "I", Cond.fieldLink RX5 50 "ReadingorderModel" "ahead" "[I"]
def wsX5_remove_r2 : List Cond := [Cond.fieldLink RX5 47 "ReadingorderModel" "order" "[I", Cond.methodLink RX5 104 yX5_finds, Cond.instanceMethod yX5_finds, Cond.selects RX5 yX5_finds yX5_finds, Cond.code yX5_finds cX5_finds 5 none, Cond.fieldLink RX5 28 "ReadingorderModel" "follows" "[I", Cond.fieldLink RX5 92 "ReadingorderModel" "aside" "I", Cond.fieldLink RX5 53 "ReadingorderModel" "set" "[I", Cond.methodLink RX5 95 yX5_puts, Cond.instanceMethod yX5_puts, Cond.selects RX5 yX5_puts yX5_puts, Cond.code yX5_puts cX5_puts 2 none, Cond.methodLink RX5 98 yX5_cut, Cond.instanceMethod yX5_cut, Cond.selects RX5 yX5_cut yX5_cut, Cond.code yX5_cut cX5_cut 5 (some .int), Cond.methodLink RX5 78 yX5_cutAt, Cond.instanceMethod yX5_cutAt, Cond.selects RX5 yX5_cutAt yX5_cutAt, Cond.code yX5_cutAt cX5_cutAt 8 (some .int), Cond.methodLink RX5 67 yX5_has, Cond.static yX5_has, Cond.code yX5_has cX5_has 2 (some .boolean), Cond.methodLink RX5 71 yX5_far]
def wsX5_remove_r3 : List Cond := [Cond.instanceMethod yX5_far, Cond.selects RX5 yX5_far yX5_far, Cond.code yX5_far cX5_far 3 (some .int), Cond.fieldLink RX5 16 "ReadingorderModel" "top" "[I", Cond.fieldLink RX5 22 "ReadingorderModel" "height" "[I", Cond.fieldLink RX5 13 "ReadingorderModel" "left" "[I", Cond.fieldLink RX5 19 "ReadingorderModel" "width" "[I", Cond.methodLink RX5 75 yX5_near, Cond.instanceMethod yX5_near, Cond.selects RX5 yX5_near yX5_near, Cond.code yX5_near cX5_near 3 (some .int), Cond.methodLink RX5 101 yX5_readsAll, Cond.instanceMethod yX5_readsAll, Cond.selects RX5 yX5_readsAll yX5_readsAll, Cond.code yX5_readsAll cX5_readsAll 5 none, Cond.methodLink RX5 85 yX5_isAhead, Cond.instanceMethod yX5_isAhead, Cond.selects RX5 yX5_isAhead yX5_isAhead, Cond.code yX5_isAhead cX5_isAhead 3 (some .boolean), Cond.methodLink RX5 88 yX5_reads, Cond.instanceMethod yX5_reads, Cond.selects RX5 yX5_reads yX5_reads, Cond.code yX5_reads cX5_reads 3 none, Cond.methodLink RX5 141 yX5_unties]
def wsX5_remove_r4 : List Cond := [Cond.instanceMethod yX5_unties, Cond.selects RX5 yX5_unties yX5_unties, Cond.code yX5_unties cX5_unties 2 none, Cond.methodLink RX5 135 yX5_falls, Cond.instanceMethod yX5_falls, Cond.selects RX5 yX5_falls yX5_falls, Cond.code yX5_falls cX5_falls 4 (some .int), Cond.fieldLink RX5 110 "ReadingorderModel" "approvals" "I", Cond.fieldLink RX5 44 "ReadingorderModel" "isFallen" "[Z", Cond.fieldLink RX5 41 "ReadingorderModel" "which" "[I", Cond.methodLink RX5 113 yX5_isOther, Cond.instanceMethod yX5_isOther, Cond.selects RX5 yX5_isOther yX5_isOther, Cond.code yX5_isOther cX5_isOther 4 (some .boolean), Cond.methodLink RX5 117 yX5_standing, Cond.instanceMethod yX5_standing, Cond.selects RX5 yX5_standing yX5_standing, Cond.code yX5_standing cX5_standing 4 (some .int)]
def wsX5_remove : List Cond := .code yX5_remove cX5_remove 2 (some .int) :: ((wsX5_remove_r1 ++ (wsX5_remove_r2 ++ (wsX5_remove_r3 ++ wsX5_remove_r4))) ++ wsX50)
def wsX5_comesBehind : List Cond := .code yX5_comesBehind cX5_comesBehind 4 (some .boolean) :: ([.fieldLink RX5 28 "ReadingorderModel" "follows" "[I"] ++ wsX50)
def wsX5_tie_r1 : List Cond := [Cond.fieldLink RX5 7 "ReadingorderModel" "page" "[I", Cond.fieldLink RX5 31 "ReadingorderModel" "leads" "[I", Cond.fieldLink RX5 28 "ReadingorderModel" "follows" "[I", Cond.methodLink RX5 138 yX5_isBox, Cond.instanceMethod yX5_isBox, Cond.selects RX5 yX5_isBox yX5_isBox, Cond.initialized RX5, Cond.code yX5_isBox cX5_isBox 2 (some .boolean), Cond.fieldLink RX5 64 "ReadingorderModel" "boxes" "I", Cond.fieldLink RX5 34 "ReadingorderModel" "isGone" "[Z", Cond.methodLink RX5 60 yX5_in, Cond.static yX5_in, Cond.code yX5_in cX5_in 3 (some .boolean), Cond.methodLink RX5 144 yX5_comesBehind, Cond.instanceMethod yX5_comesBehind, Cond.selects RX5 yX5_comesBehind yX5_comesBehind, Cond.code yX5_comesBehind cX5_comesBehind 4 (some .boolean), Cond.methodLink RX5 128 yX5_goes, Cond.instanceMethod yX5_goes, Cond.selects RX5 yX5_goes yX5_goes, Cond.code yX5_goes cX5_goes 4 (some .boolean), Cond.fieldLink RX5 56 "ReadingorderModel" "thrown" "I", Cond.methodLink RX5 132 yX5_keeps, Cond.instanceMethod yX5_keeps]
def wsX5_tie_r2 : List Cond := [Cond.selects RX5 yX5_keeps yX5_keeps, Cond.code yX5_keeps cX5_keeps 3 none, Cond.fieldLink RX5 82 "ReadingorderModel" "many" "I", Cond.fieldLink RX5 107 "ReadingorderModel" "manyAhead" "I", Cond.fieldLink RX5 50 "ReadingorderModel" "ahead" "[I", Cond.fieldLink RX5 47 "ReadingorderModel" "order" "[I", Cond.methodLink RX5 104 yX5_finds, Cond.instanceMethod yX5_finds, Cond.selects RX5 yX5_finds yX5_finds, Cond.code yX5_finds cX5_finds 5 none, Cond.fieldLink RX5 92 "ReadingorderModel" "aside" "I", Cond.fieldLink RX5 53 "ReadingorderModel" "set" "[I", Cond.methodLink RX5 95 yX5_puts, Cond.instanceMethod yX5_puts, Cond.selects RX5 yX5_puts yX5_puts, Cond.code yX5_puts cX5_puts 2 none, Cond.methodLink RX5 98 yX5_cut, Cond.instanceMethod yX5_cut, Cond.selects RX5 yX5_cut yX5_cut, Cond.code yX5_cut cX5_cut 5 (some .int), Cond.methodLink RX5 78 yX5_cutAt, Cond.instanceMethod yX5_cutAt, Cond.selects RX5 yX5_cutAt yX5_cutAt, Cond.code yX5_cutAt cX5_cutAt 8 (some .int)]
def wsX5_tie_r3 : List Cond := [Cond.methodLink RX5 67 yX5_has, Cond.static yX5_has, Cond.code yX5_has cX5_has 2 (some .boolean), Cond.methodLink RX5 71 yX5_far, Cond.instanceMethod yX5_far, Cond.selects RX5 yX5_far yX5_far, Cond.code yX5_far cX5_far 3 (some .int), Cond.fieldLink RX5 16 "ReadingorderModel" "top" "[I", Cond.fieldLink RX5 22 "ReadingorderModel" "height" "[I", Cond.fieldLink RX5 13 "ReadingorderModel" "left" "[I", Cond.fieldLink RX5 19 "ReadingorderModel" "width" "[I", Cond.methodLink RX5 75 yX5_near, Cond.instanceMethod yX5_near, Cond.selects RX5 yX5_near yX5_near, Cond.code yX5_near cX5_near 3 (some .int), Cond.methodLink RX5 101 yX5_readsAll, Cond.instanceMethod yX5_readsAll, Cond.selects RX5 yX5_readsAll yX5_readsAll, Cond.code yX5_readsAll cX5_readsAll 5 none, Cond.methodLink RX5 85 yX5_isAhead, Cond.instanceMethod yX5_isAhead, Cond.selects RX5 yX5_isAhead yX5_isAhead, Cond.code yX5_isAhead cX5_isAhead 3 (some .boolean), Cond.methodLink RX5 88 yX5_reads]
def wsX5_tie_r4 : List Cond := [Cond.instanceMethod yX5_reads, Cond.selects RX5 yX5_reads yX5_reads, Cond.code yX5_reads cX5_reads 3 none, Cond.methodLink RX5 135 yX5_falls, Cond.instanceMethod yX5_falls, Cond.selects RX5 yX5_falls yX5_falls, Cond.code yX5_falls cX5_falls 4 (some .int), Cond.fieldLink RX5 110 "ReadingorderModel" "approvals" "I", Cond.fieldLink RX5 44 "ReadingorderModel" "isFallen" "[Z", Cond.fieldLink RX5 41 "ReadingorderModel" "which" "[I", Cond.methodLink RX5 113 yX5_isOther, Cond.instanceMethod yX5_isOther, Cond.selects RX5 yX5_isOther yX5_isOther, Cond.code yX5_isOther cX5_isOther 4 (some .boolean), Cond.methodLink RX5 117 yX5_standing, Cond.instanceMethod yX5_standing, Cond.selects RX5 yX5_standing yX5_standing, Cond.code yX5_standing cX5_standing 4 (some .int)]
def wsX5_tie : List Cond := .code yX5_tie cX5_tie 5 (some .int) :: ((wsX5_tie_r1 ++ (wsX5_tie_r2 ++ (wsX5_tie_r3 ++ wsX5_tie_r4))) ++ wsX50)
def wsX5_untie_r1 : List Cond := [Cond.fieldLink RX5 28 "ReadingorderModel" "follows" "[I", Cond.fieldLink RX5 7 "ReadingorderModel" "page" "[I", Cond.methodLink RX5 138 yX5_isBox, Cond.instanceMethod yX5_isBox, Cond.selects RX5 yX5_isBox yX5_isBox, Cond.initialized RX5, Cond.code yX5_isBox cX5_isBox 2 (some .boolean), Cond.fieldLink RX5 64 "ReadingorderModel" "boxes" "I", Cond.fieldLink RX5 34 "ReadingorderModel" "isGone" "[Z", Cond.methodLink RX5 60 yX5_in, Cond.static yX5_in, Cond.code yX5_in cX5_in 3 (some .boolean), Cond.methodLink RX5 128 yX5_goes, Cond.instanceMethod yX5_goes, Cond.selects RX5 yX5_goes yX5_goes, Cond.code yX5_goes cX5_goes 4 (some .boolean), Cond.fieldLink RX5 56 "ReadingorderModel" "thrown" "I", Cond.methodLink RX5 132 yX5_keeps, Cond.instanceMethod yX5_keeps, Cond.selects RX5 yX5_keeps yX5_keeps, Cond.code yX5_keeps cX5_keeps 3 none, Cond.fieldLink RX5 82 "ReadingorderModel" "many" "I", Cond.fieldLink RX5 107 "ReadingorderModel" "manyAhead" "I", Cond.fieldLink RX5 50 "ReadingorderModel" "ahead" "[I"]
def wsX5_untie_r2 : List Cond := [Cond.fieldLink RX5 47 "ReadingorderModel" "order" "[I", Cond.methodLink RX5 104 yX5_finds, Cond.instanceMethod yX5_finds, Cond.selects RX5 yX5_finds yX5_finds, Cond.code yX5_finds cX5_finds 5 none, Cond.fieldLink RX5 92 "ReadingorderModel" "aside" "I", Cond.fieldLink RX5 53 "ReadingorderModel" "set" "[I", Cond.methodLink RX5 95 yX5_puts, Cond.instanceMethod yX5_puts, Cond.selects RX5 yX5_puts yX5_puts, Cond.code yX5_puts cX5_puts 2 none, Cond.methodLink RX5 98 yX5_cut, Cond.instanceMethod yX5_cut, Cond.selects RX5 yX5_cut yX5_cut, Cond.code yX5_cut cX5_cut 5 (some .int), Cond.methodLink RX5 78 yX5_cutAt, Cond.instanceMethod yX5_cutAt, Cond.selects RX5 yX5_cutAt yX5_cutAt, Cond.code yX5_cutAt cX5_cutAt 8 (some .int), Cond.methodLink RX5 67 yX5_has, Cond.static yX5_has, Cond.code yX5_has cX5_has 2 (some .boolean), Cond.methodLink RX5 71 yX5_far, Cond.instanceMethod yX5_far]
def wsX5_untie_r3 : List Cond := [Cond.selects RX5 yX5_far yX5_far, Cond.code yX5_far cX5_far 3 (some .int), Cond.fieldLink RX5 16 "ReadingorderModel" "top" "[I", Cond.fieldLink RX5 22 "ReadingorderModel" "height" "[I", Cond.fieldLink RX5 13 "ReadingorderModel" "left" "[I", Cond.fieldLink RX5 19 "ReadingorderModel" "width" "[I", Cond.methodLink RX5 75 yX5_near, Cond.instanceMethod yX5_near, Cond.selects RX5 yX5_near yX5_near, Cond.code yX5_near cX5_near 3 (some .int), Cond.methodLink RX5 101 yX5_readsAll, Cond.instanceMethod yX5_readsAll, Cond.selects RX5 yX5_readsAll yX5_readsAll, Cond.code yX5_readsAll cX5_readsAll 5 none, Cond.methodLink RX5 85 yX5_isAhead, Cond.instanceMethod yX5_isAhead, Cond.selects RX5 yX5_isAhead yX5_isAhead, Cond.code yX5_isAhead cX5_isAhead 3 (some .boolean), Cond.methodLink RX5 88 yX5_reads, Cond.instanceMethod yX5_reads, Cond.selects RX5 yX5_reads yX5_reads, Cond.code yX5_reads cX5_reads 3 none, Cond.fieldLink RX5 31 "ReadingorderModel" "leads" "[I", Cond.methodLink RX5 141 yX5_unties]
def wsX5_untie_r4 : List Cond := [Cond.instanceMethod yX5_unties, Cond.selects RX5 yX5_unties yX5_unties, Cond.code yX5_unties cX5_unties 2 none, Cond.methodLink RX5 135 yX5_falls, Cond.instanceMethod yX5_falls, Cond.selects RX5 yX5_falls yX5_falls, Cond.code yX5_falls cX5_falls 4 (some .int), Cond.fieldLink RX5 110 "ReadingorderModel" "approvals" "I", Cond.fieldLink RX5 44 "ReadingorderModel" "isFallen" "[Z", Cond.fieldLink RX5 41 "ReadingorderModel" "which" "[I", Cond.methodLink RX5 113 yX5_isOther, Cond.instanceMethod yX5_isOther, Cond.selects RX5 yX5_isOther yX5_isOther, Cond.code yX5_isOther cX5_isOther 4 (some .boolean), Cond.methodLink RX5 117 yX5_standing, Cond.instanceMethod yX5_standing, Cond.selects RX5 yX5_standing yX5_standing, Cond.code yX5_standing cX5_standing 4 (some .int)]
def wsX5_untie : List Cond := .code yX5_untie cX5_untie 2 (some .int) :: ((wsX5_untie_r1 ++ (wsX5_untie_r2 ++ (wsX5_untie_r3 ++ wsX5_untie_r4))) ++ wsX50)
def wsX5_order_r1 : List Cond := [Cond.fieldLink RX5 82 "ReadingorderModel" "many" "I", Cond.fieldLink RX5 47 "ReadingorderModel" "order" "[I", Cond.methodLink RX5 121 yX5_isPage, Cond.static yX5_isPage, Cond.initialized RX5, Cond.code yX5_isPage cX5_isPage 1 (some .boolean), Cond.methodLink RX5 60 yX5_in, Cond.static yX5_in, Cond.code yX5_in cX5_in 3 (some .boolean), Cond.methodLink RX5 128 yX5_goes, Cond.instanceMethod yX5_goes, Cond.selects RX5 yX5_goes yX5_goes, Cond.code yX5_goes cX5_goes 4 (some .boolean), Cond.fieldLink RX5 56 "ReadingorderModel" "thrown" "I", Cond.methodLink RX5 104 yX5_finds, Cond.instanceMethod yX5_finds, Cond.selects RX5 yX5_finds yX5_finds, Cond.code yX5_finds cX5_finds 5 none, Cond.fieldLink RX5 64 "ReadingorderModel" "boxes" "I", Cond.fieldLink RX5 7 "ReadingorderModel" "page" "[I", Cond.fieldLink RX5 34 "ReadingorderModel" "isGone" "[Z", Cond.fieldLink RX5 28 "ReadingorderModel" "follows" "[I", Cond.fieldLink RX5 92 "ReadingorderModel" "aside" "I", Cond.fieldLink RX5 53 "ReadingorderModel" "set" "[I"]
def wsX5_order_r2 : List Cond := [Cond.methodLink RX5 95 yX5_puts, Cond.instanceMethod yX5_puts, Cond.selects RX5 yX5_puts yX5_puts, Cond.code yX5_puts cX5_puts 2 none, Cond.methodLink RX5 98 yX5_cut, Cond.instanceMethod yX5_cut, Cond.selects RX5 yX5_cut yX5_cut, Cond.code yX5_cut cX5_cut 5 (some .int), Cond.methodLink RX5 78 yX5_cutAt, Cond.instanceMethod yX5_cutAt, Cond.selects RX5 yX5_cutAt yX5_cutAt, Cond.code yX5_cutAt cX5_cutAt 8 (some .int), Cond.methodLink RX5 67 yX5_has, Cond.static yX5_has, Cond.code yX5_has cX5_has 2 (some .boolean), Cond.methodLink RX5 71 yX5_far, Cond.instanceMethod yX5_far, Cond.selects RX5 yX5_far yX5_far, Cond.code yX5_far cX5_far 3 (some .int), Cond.fieldLink RX5 16 "ReadingorderModel" "top" "[I", Cond.fieldLink RX5 22 "ReadingorderModel" "height" "[I", Cond.fieldLink RX5 13 "ReadingorderModel" "left" "[I", Cond.fieldLink RX5 19 "ReadingorderModel" "width" "[I", Cond.methodLink RX5 75 yX5_near]
def wsX5_order_r3 : List Cond := [Cond.instanceMethod yX5_near, Cond.selects RX5 yX5_near yX5_near, Cond.code yX5_near cX5_near 3 (some .int), Cond.methodLink RX5 101 yX5_readsAll, Cond.instanceMethod yX5_readsAll, Cond.selects RX5 yX5_readsAll yX5_readsAll, Cond.code yX5_readsAll cX5_readsAll 5 none, Cond.methodLink RX5 85 yX5_isAhead, Cond.instanceMethod yX5_isAhead, Cond.selects RX5 yX5_isAhead yX5_isAhead, Cond.code yX5_isAhead cX5_isAhead 3 (some .boolean), Cond.methodLink RX5 88 yX5_reads, Cond.instanceMethod yX5_reads, Cond.selects RX5 yX5_reads yX5_reads, Cond.code yX5_reads cX5_reads 3 none, Cond.fieldLink RX5 31 "ReadingorderModel" "leads" "[I"]
def wsX5_order : List Cond := .code yX5_order cX5_order 3 (some .int) :: ((wsX5_order_r1 ++ (wsX5_order_r2 ++ wsX5_order_r3)) ++ wsX50)
def wsX5_orderAnew_r1 : List Cond := [Cond.methodLink RX5 147 yX5_order, Cond.instanceMethod yX5_order, Cond.selects RX5 yX5_order yX5_order, Cond.initialized RX5, Cond.code yX5_order cX5_order 3 (some .int), Cond.fieldLink RX5 82 "ReadingorderModel" "many" "I", Cond.fieldLink RX5 47 "ReadingorderModel" "order" "[I", Cond.methodLink RX5 121 yX5_isPage, Cond.static yX5_isPage, Cond.code yX5_isPage cX5_isPage 1 (some .boolean), Cond.methodLink RX5 60 yX5_in, Cond.static yX5_in, Cond.code yX5_in cX5_in 3 (some .boolean), Cond.methodLink RX5 128 yX5_goes, Cond.instanceMethod yX5_goes, Cond.selects RX5 yX5_goes yX5_goes, Cond.code yX5_goes cX5_goes 4 (some .boolean), Cond.fieldLink RX5 56 "ReadingorderModel" "thrown" "I", Cond.methodLink RX5 104 yX5_finds, Cond.instanceMethod yX5_finds, Cond.selects RX5 yX5_finds yX5_finds, Cond.code yX5_finds cX5_finds 5 none, Cond.fieldLink RX5 64 "ReadingorderModel" "boxes" "I", Cond.fieldLink RX5 7 "ReadingorderModel" "page" "[I"]
def wsX5_orderAnew_r2 : List Cond := [Cond.fieldLink RX5 34 "ReadingorderModel" "isGone" "[Z", Cond.fieldLink RX5 28 "ReadingorderModel" "follows" "[I", Cond.fieldLink RX5 92 "ReadingorderModel" "aside" "I", Cond.fieldLink RX5 53 "ReadingorderModel" "set" "[I", Cond.methodLink RX5 95 yX5_puts, Cond.instanceMethod yX5_puts, Cond.selects RX5 yX5_puts yX5_puts, Cond.code yX5_puts cX5_puts 2 none, Cond.methodLink RX5 98 yX5_cut, Cond.instanceMethod yX5_cut, Cond.selects RX5 yX5_cut yX5_cut, Cond.code yX5_cut cX5_cut 5 (some .int), Cond.methodLink RX5 78 yX5_cutAt, Cond.instanceMethod yX5_cutAt, Cond.selects RX5 yX5_cutAt yX5_cutAt, Cond.code yX5_cutAt cX5_cutAt 8 (some .int), Cond.methodLink RX5 67 yX5_has, Cond.static yX5_has, Cond.code yX5_has cX5_has 2 (some .boolean), Cond.methodLink RX5 71 yX5_far, Cond.instanceMethod yX5_far, Cond.selects RX5 yX5_far yX5_far, Cond.code yX5_far cX5_far 3 (some .int), Cond.fieldLink RX5 16 "ReadingorderModel" "top" "[I"]
def wsX5_orderAnew_r3 : List Cond := [Cond.fieldLink RX5 22 "ReadingorderModel" "height" "[I", Cond.fieldLink RX5 13 "ReadingorderModel" "left" "[I", Cond.fieldLink RX5 19 "ReadingorderModel" "width" "[I", Cond.methodLink RX5 75 yX5_near, Cond.instanceMethod yX5_near, Cond.selects RX5 yX5_near yX5_near, Cond.code yX5_near cX5_near 3 (some .int), Cond.methodLink RX5 101 yX5_readsAll, Cond.instanceMethod yX5_readsAll, Cond.selects RX5 yX5_readsAll yX5_readsAll, Cond.code yX5_readsAll cX5_readsAll 5 none, Cond.methodLink RX5 85 yX5_isAhead, Cond.instanceMethod yX5_isAhead, Cond.selects RX5 yX5_isAhead yX5_isAhead, Cond.code yX5_isAhead cX5_isAhead 3 (some .boolean), Cond.methodLink RX5 88 yX5_reads, Cond.instanceMethod yX5_reads, Cond.selects RX5 yX5_reads yX5_reads, Cond.code yX5_reads cX5_reads 3 none, Cond.fieldLink RX5 31 "ReadingorderModel" "leads" "[I"]
def wsX5_orderAnew : List Cond := .code yX5_orderAnew cX5_orderAnew 3 (some .int) :: ((wsX5_orderAnew_r1 ++ (wsX5_orderAnew_r2 ++ wsX5_orderAnew_r3)) ++ wsX50)
def wsX5_place_r1 : List Cond := [Cond.fieldLink RX5 7 "ReadingorderModel" "page" "[I", Cond.fieldLink RX5 82 "ReadingorderModel" "many" "I", Cond.fieldLink RX5 47 "ReadingorderModel" "order" "[I", Cond.methodLink RX5 104 yX5_finds, Cond.instanceMethod yX5_finds, Cond.selects RX5 yX5_finds yX5_finds, Cond.initialized RX5, Cond.code yX5_finds cX5_finds 5 none, Cond.fieldLink RX5 64 "ReadingorderModel" "boxes" "I", Cond.fieldLink RX5 34 "ReadingorderModel" "isGone" "[Z", Cond.fieldLink RX5 28 "ReadingorderModel" "follows" "[I", Cond.fieldLink RX5 92 "ReadingorderModel" "aside" "I", Cond.fieldLink RX5 53 "ReadingorderModel" "set" "[I", Cond.methodLink RX5 95 yX5_puts, Cond.instanceMethod yX5_puts, Cond.selects RX5 yX5_puts yX5_puts, Cond.code yX5_puts cX5_puts 2 none, Cond.methodLink RX5 98 yX5_cut, Cond.instanceMethod yX5_cut, Cond.selects RX5 yX5_cut yX5_cut, Cond.code yX5_cut cX5_cut 5 (some .int), Cond.methodLink RX5 78 yX5_cutAt, Cond.instanceMethod yX5_cutAt, Cond.selects RX5 yX5_cutAt yX5_cutAt]
def wsX5_place_r2 : List Cond := [Cond.code yX5_cutAt cX5_cutAt 8 (some .int), Cond.methodLink RX5 67 yX5_has, Cond.static yX5_has, Cond.code yX5_has cX5_has 2 (some .boolean), Cond.methodLink RX5 71 yX5_far, Cond.instanceMethod yX5_far, Cond.selects RX5 yX5_far yX5_far, Cond.code yX5_far cX5_far 3 (some .int), Cond.fieldLink RX5 16 "ReadingorderModel" "top" "[I", Cond.fieldLink RX5 22 "ReadingorderModel" "height" "[I", Cond.fieldLink RX5 13 "ReadingorderModel" "left" "[I", Cond.fieldLink RX5 19 "ReadingorderModel" "width" "[I", Cond.methodLink RX5 75 yX5_near, Cond.instanceMethod yX5_near, Cond.selects RX5 yX5_near yX5_near, Cond.code yX5_near cX5_near 3 (some .int), Cond.methodLink RX5 101 yX5_readsAll, Cond.instanceMethod yX5_readsAll, Cond.selects RX5 yX5_readsAll yX5_readsAll, Cond.code yX5_readsAll cX5_readsAll 5 none, Cond.methodLink RX5 85 yX5_isAhead, Cond.instanceMethod yX5_isAhead, Cond.selects RX5 yX5_isAhead yX5_isAhead, Cond.code yX5_isAhead cX5_isAhead 3 (some .boolean)]
def wsX5_place_r3 : List Cond := [Cond.methodLink RX5 88 yX5_reads, Cond.instanceMethod yX5_reads, Cond.selects RX5 yX5_reads yX5_reads, Cond.code yX5_reads cX5_reads 3 none, Cond.fieldLink RX5 31 "ReadingorderModel" "leads" "[I"]
def wsX5_place : List Cond := .code yX5_place cX5_place 4 (some .int) :: ((wsX5_place_r1 ++ (wsX5_place_r2 ++ wsX5_place_r3)) ++ wsX50)
def wsX5_placeOf_r1 : List Cond := [Cond.methodLink RX5 138 yX5_isBox, Cond.instanceMethod yX5_isBox, Cond.selects RX5 yX5_isBox yX5_isBox, Cond.initialized RX5, Cond.code yX5_isBox cX5_isBox 2 (some .boolean), Cond.fieldLink RX5 64 "ReadingorderModel" "boxes" "I", Cond.fieldLink RX5 34 "ReadingorderModel" "isGone" "[Z", Cond.methodLink RX5 60 yX5_in, Cond.static yX5_in, Cond.code yX5_in cX5_in 3 (some .boolean), Cond.methodLink RX5 128 yX5_goes, Cond.instanceMethod yX5_goes, Cond.selects RX5 yX5_goes yX5_goes, Cond.code yX5_goes cX5_goes 4 (some .boolean), Cond.fieldLink RX5 56 "ReadingorderModel" "thrown" "I", Cond.methodLink RX5 150 yX5_place, Cond.instanceMethod yX5_place, Cond.selects RX5 yX5_place yX5_place, Cond.code yX5_place cX5_place 4 (some .int), Cond.fieldLink RX5 7 "ReadingorderModel" "page" "[I", Cond.fieldLink RX5 82 "ReadingorderModel" "many" "I", Cond.fieldLink RX5 47 "ReadingorderModel" "order" "[I", Cond.methodLink RX5 104 yX5_finds, Cond.instanceMethod yX5_finds]
def wsX5_placeOf_r2 : List Cond := [Cond.selects RX5 yX5_finds yX5_finds, Cond.code yX5_finds cX5_finds 5 none, Cond.fieldLink RX5 28 "ReadingorderModel" "follows" "[I", Cond.fieldLink RX5 92 "ReadingorderModel" "aside" "I", Cond.fieldLink RX5 53 "ReadingorderModel" "set" "[I", Cond.methodLink RX5 95 yX5_puts, Cond.instanceMethod yX5_puts, Cond.selects RX5 yX5_puts yX5_puts, Cond.code yX5_puts cX5_puts 2 none, Cond.methodLink RX5 98 yX5_cut, Cond.instanceMethod yX5_cut, Cond.selects RX5 yX5_cut yX5_cut, Cond.code yX5_cut cX5_cut 5 (some .int), Cond.methodLink RX5 78 yX5_cutAt, Cond.instanceMethod yX5_cutAt, Cond.selects RX5 yX5_cutAt yX5_cutAt, Cond.code yX5_cutAt cX5_cutAt 8 (some .int), Cond.methodLink RX5 67 yX5_has, Cond.static yX5_has, Cond.code yX5_has cX5_has 2 (some .boolean), Cond.methodLink RX5 71 yX5_far, Cond.instanceMethod yX5_far, Cond.selects RX5 yX5_far yX5_far, Cond.code yX5_far cX5_far 3 (some .int)]
def wsX5_placeOf_r3 : List Cond := [Cond.fieldLink RX5 16 "ReadingorderModel" "top" "[I", Cond.fieldLink RX5 22 "ReadingorderModel" "height" "[I", Cond.fieldLink RX5 13 "ReadingorderModel" "left" "[I", Cond.fieldLink RX5 19 "ReadingorderModel" "width" "[I", Cond.methodLink RX5 75 yX5_near, Cond.instanceMethod yX5_near, Cond.selects RX5 yX5_near yX5_near, Cond.code yX5_near cX5_near 3 (some .int), Cond.methodLink RX5 101 yX5_readsAll, Cond.instanceMethod yX5_readsAll, Cond.selects RX5 yX5_readsAll yX5_readsAll, Cond.code yX5_readsAll cX5_readsAll 5 none, Cond.methodLink RX5 85 yX5_isAhead, Cond.instanceMethod yX5_isAhead, Cond.selects RX5 yX5_isAhead yX5_isAhead, Cond.code yX5_isAhead cX5_isAhead 3 (some .boolean), Cond.methodLink RX5 88 yX5_reads, Cond.instanceMethod yX5_reads, Cond.selects RX5 yX5_reads yX5_reads, Cond.code yX5_reads cX5_reads 3 none, Cond.fieldLink RX5 31 "ReadingorderModel" "leads" "[I"]
def wsX5_placeOf : List Cond := .code yX5_placeOf cX5_placeOf 2 (some .int) :: ((wsX5_placeOf_r1 ++ (wsX5_placeOf_r2 ++ wsX5_placeOf_r3)) ++ wsX50)
def wsX5_boxes_r1 : List Cond := [Cond.fieldLink RX5 82 "ReadingorderModel" "many" "I", Cond.methodLink RX5 121 yX5_isPage, Cond.static yX5_isPage, Cond.initialized RX5, Cond.code yX5_isPage cX5_isPage 1 (some .boolean), Cond.methodLink RX5 60 yX5_in, Cond.static yX5_in, Cond.code yX5_in cX5_in 3 (some .boolean), Cond.methodLink RX5 128 yX5_goes, Cond.instanceMethod yX5_goes, Cond.selects RX5 yX5_goes yX5_goes, Cond.code yX5_goes cX5_goes 4 (some .boolean), Cond.fieldLink RX5 56 "ReadingorderModel" "thrown" "I", Cond.methodLink RX5 104 yX5_finds, Cond.instanceMethod yX5_finds, Cond.selects RX5 yX5_finds yX5_finds, Cond.code yX5_finds cX5_finds 5 none, Cond.fieldLink RX5 64 "ReadingorderModel" "boxes" "I", Cond.fieldLink RX5 7 "ReadingorderModel" "page" "[I", Cond.fieldLink RX5 34 "ReadingorderModel" "isGone" "[Z", Cond.fieldLink RX5 28 "ReadingorderModel" "follows" "[I", Cond.fieldLink RX5 92 "ReadingorderModel" "aside" "I", Cond.fieldLink RX5 53 "ReadingorderModel" "set" "[I", Cond.methodLink RX5 95 yX5_puts]
def wsX5_boxes_r2 : List Cond := [Cond.instanceMethod yX5_puts, Cond.selects RX5 yX5_puts yX5_puts, Cond.code yX5_puts cX5_puts 2 none, Cond.methodLink RX5 98 yX5_cut, Cond.instanceMethod yX5_cut, Cond.selects RX5 yX5_cut yX5_cut, Cond.code yX5_cut cX5_cut 5 (some .int), Cond.methodLink RX5 78 yX5_cutAt, Cond.instanceMethod yX5_cutAt, Cond.selects RX5 yX5_cutAt yX5_cutAt, Cond.code yX5_cutAt cX5_cutAt 8 (some .int), Cond.methodLink RX5 67 yX5_has, Cond.static yX5_has, Cond.code yX5_has cX5_has 2 (some .boolean), Cond.methodLink RX5 71 yX5_far, Cond.instanceMethod yX5_far, Cond.selects RX5 yX5_far yX5_far, Cond.code yX5_far cX5_far 3 (some .int), Cond.fieldLink RX5 16 "ReadingorderModel" "top" "[I", Cond.fieldLink RX5 22 "ReadingorderModel" "height" "[I", Cond.fieldLink RX5 13 "ReadingorderModel" "left" "[I", Cond.fieldLink RX5 19 "ReadingorderModel" "width" "[I", Cond.methodLink RX5 75 yX5_near, Cond.instanceMethod yX5_near]
def wsX5_boxes_r3 : List Cond := [Cond.selects RX5 yX5_near yX5_near, Cond.code yX5_near cX5_near 3 (some .int), Cond.methodLink RX5 101 yX5_readsAll, Cond.instanceMethod yX5_readsAll, Cond.selects RX5 yX5_readsAll yX5_readsAll, Cond.code yX5_readsAll cX5_readsAll 5 none, Cond.methodLink RX5 85 yX5_isAhead, Cond.instanceMethod yX5_isAhead, Cond.selects RX5 yX5_isAhead yX5_isAhead, Cond.code yX5_isAhead cX5_isAhead 3 (some .boolean), Cond.methodLink RX5 88 yX5_reads, Cond.instanceMethod yX5_reads, Cond.selects RX5 yX5_reads yX5_reads, Cond.code yX5_reads cX5_reads 3 none, Cond.fieldLink RX5 47 "ReadingorderModel" "order" "[I", Cond.fieldLink RX5 31 "ReadingorderModel" "leads" "[I"]
def wsX5_boxes : List Cond := .code yX5_boxes cX5_boxes 2 (some .int) :: ((wsX5_boxes_r1 ++ (wsX5_boxes_r2 ++ wsX5_boxes_r3)) ++ wsX50)
def wsX5_about : List Cond := .code yX5_about cX5_about 3 (some .int) :: ([.fieldLink RX5 64 "ReadingorderModel" "boxes" "I", .fieldLink RX5 7 "ReadingorderModel" "page" "[I", .fieldLink RX5 13 "ReadingorderModel" "left" "[I", .fieldLink RX5 16 "ReadingorderModel" "top" "[I", .fieldLink RX5 19 "ReadingorderModel" "width" "[I", .fieldLink RX5 22 "ReadingorderModel" "height" "[I", .fieldLink RX5 25 "ReadingorderModel" "kind" "[I", .fieldLink RX5 34 "ReadingorderModel" "isGone" "[Z", .fieldLink RX5 28 "ReadingorderModel" "follows" "[I", .fieldLink RX5 31 "ReadingorderModel" "leads" "[I", .methodLink RX5 60 yX5_in, .static yX5_in, .initialized RX5, .code yX5_in cX5_in 3 (some .boolean), .methodLink RX5 128 yX5_goes, .instanceMethod yX5_goes, .selects RX5 yX5_goes yX5_goes, .code yX5_goes cX5_goes 4 (some .boolean), .fieldLink RX5 56 "ReadingorderModel" "thrown" "I"] ++ wsX50)
def wsX5_between : List Cond := .code yX5_between cX5_between 2 (some .int) :: ([])
def wsX5_way_r1 : List Cond := [Cond.fieldLink RX5 82 "ReadingorderModel" "many" "I", Cond.fieldLink RX5 47 "ReadingorderModel" "order" "[I", Cond.fieldLink RX5 13 "ReadingorderModel" "left" "[I", Cond.fieldLink RX5 19 "ReadingorderModel" "width" "[I", Cond.fieldLink RX5 16 "ReadingorderModel" "top" "[I", Cond.fieldLink RX5 22 "ReadingorderModel" "height" "[I", Cond.methodLink RX5 121 yX5_isPage, Cond.static yX5_isPage, Cond.initialized RX5, Cond.code yX5_isPage cX5_isPage 1 (some .boolean), Cond.methodLink RX5 60 yX5_in, Cond.static yX5_in, Cond.code yX5_in cX5_in 3 (some .boolean), Cond.methodLink RX5 128 yX5_goes, Cond.instanceMethod yX5_goes, Cond.selects RX5 yX5_goes yX5_goes, Cond.code yX5_goes cX5_goes 4 (some .boolean), Cond.fieldLink RX5 56 "ReadingorderModel" "thrown" "I", Cond.methodLink RX5 104 yX5_finds, Cond.instanceMethod yX5_finds, Cond.selects RX5 yX5_finds yX5_finds, Cond.code yX5_finds cX5_finds 5 none, Cond.fieldLink RX5 64 "ReadingorderModel" "boxes" "I", Cond.fieldLink RX5 7 "ReadingorderModel" "page" "[I"]
def wsX5_way_r2 : List Cond := [Cond.fieldLink RX5 34 "ReadingorderModel" "isGone" "[Z", Cond.fieldLink RX5 28 "ReadingorderModel" "follows" "[I", Cond.fieldLink RX5 92 "ReadingorderModel" "aside" "I", Cond.fieldLink RX5 53 "ReadingorderModel" "set" "[I", Cond.methodLink RX5 95 yX5_puts, Cond.instanceMethod yX5_puts, Cond.selects RX5 yX5_puts yX5_puts, Cond.code yX5_puts cX5_puts 2 none, Cond.methodLink RX5 98 yX5_cut, Cond.instanceMethod yX5_cut, Cond.selects RX5 yX5_cut yX5_cut, Cond.code yX5_cut cX5_cut 5 (some .int), Cond.methodLink RX5 78 yX5_cutAt, Cond.instanceMethod yX5_cutAt, Cond.selects RX5 yX5_cutAt yX5_cutAt, Cond.code yX5_cutAt cX5_cutAt 8 (some .int), Cond.methodLink RX5 67 yX5_has, Cond.static yX5_has, Cond.code yX5_has cX5_has 2 (some .boolean), Cond.methodLink RX5 71 yX5_far, Cond.instanceMethod yX5_far, Cond.selects RX5 yX5_far yX5_far, Cond.code yX5_far cX5_far 3 (some .int), Cond.methodLink RX5 75 yX5_near]
def wsX5_way_r3 : List Cond := [Cond.instanceMethod yX5_near, Cond.selects RX5 yX5_near yX5_near, Cond.code yX5_near cX5_near 3 (some .int), Cond.methodLink RX5 101 yX5_readsAll, Cond.instanceMethod yX5_readsAll, Cond.selects RX5 yX5_readsAll yX5_readsAll, Cond.code yX5_readsAll cX5_readsAll 5 none, Cond.methodLink RX5 85 yX5_isAhead, Cond.instanceMethod yX5_isAhead, Cond.selects RX5 yX5_isAhead yX5_isAhead, Cond.code yX5_isAhead cX5_isAhead 3 (some .boolean), Cond.methodLink RX5 88 yX5_reads, Cond.instanceMethod yX5_reads, Cond.selects RX5 yX5_reads yX5_reads, Cond.code yX5_reads cX5_reads 3 none, Cond.fieldLink RX5 31 "ReadingorderModel" "leads" "[I", Cond.methodLink RX5 153 yX5_between, Cond.static yX5_between, Cond.code yX5_between cX5_between 2 (some .int)]
def wsX5_way : List Cond := .code yX5_way cX5_way 6 (some .int) :: ((wsX5_way_r1 ++ (wsX5_way_r2 ++ wsX5_way_r3)) ++ wsX50)
def wsX5_isHead : List Cond := .code yX5_isHead cX5_isHead 2 (some .boolean) :: ([.fieldLink RX5 25 "ReadingorderModel" "kind" "[I", .fieldLink RX5 47 "ReadingorderModel" "order" "[I"] ++ wsX50)
def wsX5_skips : List Cond := .code yX5_skips cX5_skips 4 (some .boolean) :: ([.fieldLink RX5 25 "ReadingorderModel" "kind" "[I", .fieldLink RX5 47 "ReadingorderModel" "order" "[I", .methodLink RX5 156 yX5_isHead, .instanceMethod yX5_isHead, .selects RX5 yX5_isHead yX5_isHead, .initialized RX5, .code yX5_isHead cX5_isHead 2 (some .boolean)] ++ wsX50)
def wsX5_isKind : List Cond := .code yX5_isKind cX5_isKind 3 (some .boolean) :: ([.fieldLink RX5 82 "ReadingorderModel" "many" "I", .fieldLink RX5 25 "ReadingorderModel" "kind" "[I", .fieldLink RX5 47 "ReadingorderModel" "order" "[I", .methodLink RX5 60 yX5_in, .static yX5_in, .initialized RX5, .code yX5_in cX5_in 3 (some .boolean)] ++ wsX50)
def wsX5_meet : List Cond := .code yX5_meet cX5_meet 3 (some .boolean) :: ([.fieldLink RX5 13 "ReadingorderModel" "left" "[I", .fieldLink RX5 19 "ReadingorderModel" "width" "[I", .fieldLink RX5 16 "ReadingorderModel" "top" "[I", .fieldLink RX5 22 "ReadingorderModel" "height" "[I"] ++ wsX50)
def wsX5_meetsAny : List Cond := .code yX5_meetsAny cX5_meetsAny 4 (some .boolean) :: ([.fieldLink RX5 82 "ReadingorderModel" "many" "I", .fieldLink RX5 47 "ReadingorderModel" "order" "[I", .methodLink RX5 159 yX5_meet, .instanceMethod yX5_meet, .selects RX5 yX5_meet yX5_meet, .initialized RX5, .code yX5_meet cX5_meet 3 (some .boolean), .fieldLink RX5 13 "ReadingorderModel" "left" "[I", .fieldLink RX5 19 "ReadingorderModel" "width" "[I", .fieldLink RX5 16 "ReadingorderModel" "top" "[I", .fieldLink RX5 22 "ReadingorderModel" "height" "[I"] ++ wsX50)
def wsX5_faultsAt_r1 : List Cond := [Cond.fieldLink RX5 47 "ReadingorderModel" "order" "[I", Cond.fieldLink RX5 16 "ReadingorderModel" "top" "[I", Cond.fieldLink RX5 22 "ReadingorderModel" "height" "[I", Cond.methodLink RX5 162 yX5_skips, Cond.instanceMethod yX5_skips, Cond.selects RX5 yX5_skips yX5_skips, Cond.initialized RX5, Cond.code yX5_skips cX5_skips 4 (some .boolean), Cond.fieldLink RX5 25 "ReadingorderModel" "kind" "[I", Cond.methodLink RX5 156 yX5_isHead, Cond.instanceMethod yX5_isHead, Cond.selects RX5 yX5_isHead yX5_isHead, Cond.code yX5_isHead cX5_isHead 2 (some .boolean), Cond.methodLink RX5 165 yX5_isKind, Cond.instanceMethod yX5_isKind, Cond.selects RX5 yX5_isKind yX5_isKind, Cond.code yX5_isKind cX5_isKind 3 (some .boolean), Cond.fieldLink RX5 82 "ReadingorderModel" "many" "I", Cond.methodLink RX5 60 yX5_in, Cond.static yX5_in, Cond.code yX5_in cX5_in 3 (some .boolean), Cond.methodLink RX5 168 yX5_meetsAny, Cond.instanceMethod yX5_meetsAny, Cond.selects RX5 yX5_meetsAny yX5_meetsAny]
def wsX5_faultsAt_r2 : List Cond := [Cond.code yX5_meetsAny cX5_meetsAny 4 (some .boolean), Cond.methodLink RX5 159 yX5_meet, Cond.instanceMethod yX5_meet, Cond.selects RX5 yX5_meet yX5_meet, Cond.code yX5_meet cX5_meet 3 (some .boolean), Cond.fieldLink RX5 13 "ReadingorderModel" "left" "[I", Cond.fieldLink RX5 19 "ReadingorderModel" "width" "[I"]
def wsX5_faultsAt : List Cond := .code yX5_faultsAt cX5_faultsAt 5 (some .int) :: ((wsX5_faultsAt_r1 ++ wsX5_faultsAt_r2) ++ wsX50)
def wsX5_faults_r1 : List Cond := [Cond.methodLink RX5 138 yX5_isBox, Cond.instanceMethod yX5_isBox, Cond.selects RX5 yX5_isBox yX5_isBox, Cond.initialized RX5, Cond.code yX5_isBox cX5_isBox 2 (some .boolean), Cond.fieldLink RX5 64 "ReadingorderModel" "boxes" "I", Cond.fieldLink RX5 34 "ReadingorderModel" "isGone" "[Z", Cond.methodLink RX5 60 yX5_in, Cond.static yX5_in, Cond.code yX5_in cX5_in 3 (some .boolean), Cond.methodLink RX5 128 yX5_goes, Cond.instanceMethod yX5_goes, Cond.selects RX5 yX5_goes yX5_goes, Cond.code yX5_goes cX5_goes 4 (some .boolean), Cond.fieldLink RX5 56 "ReadingorderModel" "thrown" "I", Cond.methodLink RX5 150 yX5_place, Cond.instanceMethod yX5_place, Cond.selects RX5 yX5_place yX5_place, Cond.code yX5_place cX5_place 4 (some .int), Cond.fieldLink RX5 7 "ReadingorderModel" "page" "[I", Cond.fieldLink RX5 82 "ReadingorderModel" "many" "I", Cond.fieldLink RX5 47 "ReadingorderModel" "order" "[I", Cond.methodLink RX5 104 yX5_finds, Cond.instanceMethod yX5_finds]
def wsX5_faults_r2 : List Cond := [Cond.selects RX5 yX5_finds yX5_finds, Cond.code yX5_finds cX5_finds 5 none, Cond.fieldLink RX5 28 "ReadingorderModel" "follows" "[I", Cond.fieldLink RX5 92 "ReadingorderModel" "aside" "I", Cond.fieldLink RX5 53 "ReadingorderModel" "set" "[I", Cond.methodLink RX5 95 yX5_puts, Cond.instanceMethod yX5_puts, Cond.selects RX5 yX5_puts yX5_puts, Cond.code yX5_puts cX5_puts 2 none, Cond.methodLink RX5 98 yX5_cut, Cond.instanceMethod yX5_cut, Cond.selects RX5 yX5_cut yX5_cut, Cond.code yX5_cut cX5_cut 5 (some .int), Cond.methodLink RX5 78 yX5_cutAt, Cond.instanceMethod yX5_cutAt, Cond.selects RX5 yX5_cutAt yX5_cutAt, Cond.code yX5_cutAt cX5_cutAt 8 (some .int), Cond.methodLink RX5 67 yX5_has, Cond.static yX5_has, Cond.code yX5_has cX5_has 2 (some .boolean), Cond.methodLink RX5 71 yX5_far, Cond.instanceMethod yX5_far, Cond.selects RX5 yX5_far yX5_far, Cond.code yX5_far cX5_far 3 (some .int)]
def wsX5_faults_r3 : List Cond := [Cond.fieldLink RX5 16 "ReadingorderModel" "top" "[I", Cond.fieldLink RX5 22 "ReadingorderModel" "height" "[I", Cond.fieldLink RX5 13 "ReadingorderModel" "left" "[I", Cond.fieldLink RX5 19 "ReadingorderModel" "width" "[I", Cond.methodLink RX5 75 yX5_near, Cond.instanceMethod yX5_near, Cond.selects RX5 yX5_near yX5_near, Cond.code yX5_near cX5_near 3 (some .int), Cond.methodLink RX5 101 yX5_readsAll, Cond.instanceMethod yX5_readsAll, Cond.selects RX5 yX5_readsAll yX5_readsAll, Cond.code yX5_readsAll cX5_readsAll 5 none, Cond.methodLink RX5 85 yX5_isAhead, Cond.instanceMethod yX5_isAhead, Cond.selects RX5 yX5_isAhead yX5_isAhead, Cond.code yX5_isAhead cX5_isAhead 3 (some .boolean), Cond.methodLink RX5 88 yX5_reads, Cond.instanceMethod yX5_reads, Cond.selects RX5 yX5_reads yX5_reads, Cond.code yX5_reads cX5_reads 3 none, Cond.fieldLink RX5 31 "ReadingorderModel" "leads" "[I", Cond.methodLink RX5 171 yX5_faultsAt, Cond.instanceMethod yX5_faultsAt, Cond.selects RX5 yX5_faultsAt yX5_faultsAt]
def wsX5_faults_r4 : List Cond := [Cond.code yX5_faultsAt cX5_faultsAt 5 (some .int), Cond.methodLink RX5 162 yX5_skips, Cond.instanceMethod yX5_skips, Cond.selects RX5 yX5_skips yX5_skips, Cond.code yX5_skips cX5_skips 4 (some .boolean), Cond.fieldLink RX5 25 "ReadingorderModel" "kind" "[I", Cond.methodLink RX5 156 yX5_isHead, Cond.instanceMethod yX5_isHead, Cond.selects RX5 yX5_isHead yX5_isHead, Cond.code yX5_isHead cX5_isHead 2 (some .boolean), Cond.methodLink RX5 165 yX5_isKind, Cond.instanceMethod yX5_isKind, Cond.selects RX5 yX5_isKind yX5_isKind, Cond.code yX5_isKind cX5_isKind 3 (some .boolean), Cond.methodLink RX5 168 yX5_meetsAny, Cond.instanceMethod yX5_meetsAny, Cond.selects RX5 yX5_meetsAny yX5_meetsAny, Cond.code yX5_meetsAny cX5_meetsAny 4 (some .boolean), Cond.methodLink RX5 159 yX5_meet, Cond.instanceMethod yX5_meet, Cond.selects RX5 yX5_meet yX5_meet, Cond.code yX5_meet cX5_meet 3 (some .boolean)]
def wsX5_faults : List Cond := .code yX5_faults cX5_faults 2 (some .int) :: ((wsX5_faults_r1 ++ (wsX5_faults_r2 ++ (wsX5_faults_r3 ++ wsX5_faults_r4))) ++ wsX50)
def wsX5_faulty_r1 : List Cond := [Cond.fieldLink RX5 82 "ReadingorderModel" "many" "I", Cond.methodLink RX5 121 yX5_isPage, Cond.static yX5_isPage, Cond.initialized RX5, Cond.code yX5_isPage cX5_isPage 1 (some .boolean), Cond.methodLink RX5 60 yX5_in, Cond.static yX5_in, Cond.code yX5_in cX5_in 3 (some .boolean), Cond.methodLink RX5 128 yX5_goes, Cond.instanceMethod yX5_goes, Cond.selects RX5 yX5_goes yX5_goes, Cond.code yX5_goes cX5_goes 4 (some .boolean), Cond.fieldLink RX5 56 "ReadingorderModel" "thrown" "I", Cond.methodLink RX5 104 yX5_finds, Cond.instanceMethod yX5_finds, Cond.selects RX5 yX5_finds yX5_finds, Cond.code yX5_finds cX5_finds 5 none, Cond.fieldLink RX5 64 "ReadingorderModel" "boxes" "I", Cond.fieldLink RX5 7 "ReadingorderModel" "page" "[I", Cond.fieldLink RX5 34 "ReadingorderModel" "isGone" "[Z", Cond.fieldLink RX5 28 "ReadingorderModel" "follows" "[I", Cond.fieldLink RX5 92 "ReadingorderModel" "aside" "I", Cond.fieldLink RX5 53 "ReadingorderModel" "set" "[I", Cond.methodLink RX5 95 yX5_puts]
def wsX5_faulty_r2 : List Cond := [Cond.instanceMethod yX5_puts, Cond.selects RX5 yX5_puts yX5_puts, Cond.code yX5_puts cX5_puts 2 none, Cond.methodLink RX5 98 yX5_cut, Cond.instanceMethod yX5_cut, Cond.selects RX5 yX5_cut yX5_cut, Cond.code yX5_cut cX5_cut 5 (some .int), Cond.methodLink RX5 78 yX5_cutAt, Cond.instanceMethod yX5_cutAt, Cond.selects RX5 yX5_cutAt yX5_cutAt, Cond.code yX5_cutAt cX5_cutAt 8 (some .int), Cond.methodLink RX5 67 yX5_has, Cond.static yX5_has, Cond.code yX5_has cX5_has 2 (some .boolean), Cond.methodLink RX5 71 yX5_far, Cond.instanceMethod yX5_far, Cond.selects RX5 yX5_far yX5_far, Cond.code yX5_far cX5_far 3 (some .int), Cond.fieldLink RX5 16 "ReadingorderModel" "top" "[I", Cond.fieldLink RX5 22 "ReadingorderModel" "height" "[I", Cond.fieldLink RX5 13 "ReadingorderModel" "left" "[I", Cond.fieldLink RX5 19 "ReadingorderModel" "width" "[I", Cond.methodLink RX5 75 yX5_near, Cond.instanceMethod yX5_near]
def wsX5_faulty_r3 : List Cond := [Cond.selects RX5 yX5_near yX5_near, Cond.code yX5_near cX5_near 3 (some .int), Cond.methodLink RX5 101 yX5_readsAll, Cond.instanceMethod yX5_readsAll, Cond.selects RX5 yX5_readsAll yX5_readsAll, Cond.code yX5_readsAll cX5_readsAll 5 none, Cond.methodLink RX5 85 yX5_isAhead, Cond.instanceMethod yX5_isAhead, Cond.selects RX5 yX5_isAhead yX5_isAhead, Cond.code yX5_isAhead cX5_isAhead 3 (some .boolean), Cond.methodLink RX5 88 yX5_reads, Cond.instanceMethod yX5_reads, Cond.selects RX5 yX5_reads yX5_reads, Cond.code yX5_reads cX5_reads 3 none, Cond.fieldLink RX5 47 "ReadingorderModel" "order" "[I", Cond.fieldLink RX5 31 "ReadingorderModel" "leads" "[I", Cond.methodLink RX5 171 yX5_faultsAt, Cond.instanceMethod yX5_faultsAt, Cond.selects RX5 yX5_faultsAt yX5_faultsAt, Cond.code yX5_faultsAt cX5_faultsAt 5 (some .int), Cond.methodLink RX5 162 yX5_skips, Cond.instanceMethod yX5_skips, Cond.selects RX5 yX5_skips yX5_skips, Cond.code yX5_skips cX5_skips 4 (some .boolean)]
def wsX5_faulty_r4 : List Cond := [Cond.fieldLink RX5 25 "ReadingorderModel" "kind" "[I", Cond.methodLink RX5 156 yX5_isHead, Cond.instanceMethod yX5_isHead, Cond.selects RX5 yX5_isHead yX5_isHead, Cond.code yX5_isHead cX5_isHead 2 (some .boolean), Cond.methodLink RX5 165 yX5_isKind, Cond.instanceMethod yX5_isKind, Cond.selects RX5 yX5_isKind yX5_isKind, Cond.code yX5_isKind cX5_isKind 3 (some .boolean), Cond.methodLink RX5 168 yX5_meetsAny, Cond.instanceMethod yX5_meetsAny, Cond.selects RX5 yX5_meetsAny yX5_meetsAny, Cond.code yX5_meetsAny cX5_meetsAny 4 (some .boolean), Cond.methodLink RX5 159 yX5_meet, Cond.instanceMethod yX5_meet, Cond.selects RX5 yX5_meet yX5_meet, Cond.code yX5_meet cX5_meet 3 (some .boolean)]
def wsX5_faulty : List Cond := .code yX5_faulty cX5_faulty 4 (some .int) :: ((wsX5_faulty_r1 ++ (wsX5_faulty_r2 ++ (wsX5_faulty_r3 ++ wsX5_faulty_r4))) ++ wsX50)
def wsX5_hasBox_r1 : List Cond := [Cond.fieldLink RX5 82 "ReadingorderModel" "many" "I", Cond.methodLink RX5 104 yX5_finds, Cond.instanceMethod yX5_finds, Cond.selects RX5 yX5_finds yX5_finds, Cond.initialized RX5, Cond.code yX5_finds cX5_finds 5 none, Cond.fieldLink RX5 64 "ReadingorderModel" "boxes" "I", Cond.fieldLink RX5 7 "ReadingorderModel" "page" "[I", Cond.fieldLink RX5 34 "ReadingorderModel" "isGone" "[Z", Cond.fieldLink RX5 28 "ReadingorderModel" "follows" "[I", Cond.fieldLink RX5 92 "ReadingorderModel" "aside" "I", Cond.fieldLink RX5 53 "ReadingorderModel" "set" "[I", Cond.methodLink RX5 95 yX5_puts, Cond.instanceMethod yX5_puts, Cond.selects RX5 yX5_puts yX5_puts, Cond.code yX5_puts cX5_puts 2 none, Cond.methodLink RX5 98 yX5_cut, Cond.instanceMethod yX5_cut, Cond.selects RX5 yX5_cut yX5_cut, Cond.code yX5_cut cX5_cut 5 (some .int), Cond.methodLink RX5 78 yX5_cutAt, Cond.instanceMethod yX5_cutAt, Cond.selects RX5 yX5_cutAt yX5_cutAt, Cond.code yX5_cutAt cX5_cutAt 8 (some .int)]
def wsX5_hasBox_r2 : List Cond := [Cond.methodLink RX5 67 yX5_has, Cond.static yX5_has, Cond.code yX5_has cX5_has 2 (some .boolean), Cond.methodLink RX5 71 yX5_far, Cond.instanceMethod yX5_far, Cond.selects RX5 yX5_far yX5_far, Cond.code yX5_far cX5_far 3 (some .int), Cond.fieldLink RX5 16 "ReadingorderModel" "top" "[I", Cond.fieldLink RX5 22 "ReadingorderModel" "height" "[I", Cond.fieldLink RX5 13 "ReadingorderModel" "left" "[I", Cond.fieldLink RX5 19 "ReadingorderModel" "width" "[I", Cond.methodLink RX5 75 yX5_near, Cond.instanceMethod yX5_near, Cond.selects RX5 yX5_near yX5_near, Cond.code yX5_near cX5_near 3 (some .int), Cond.methodLink RX5 101 yX5_readsAll, Cond.instanceMethod yX5_readsAll, Cond.selects RX5 yX5_readsAll yX5_readsAll, Cond.code yX5_readsAll cX5_readsAll 5 none, Cond.methodLink RX5 85 yX5_isAhead, Cond.instanceMethod yX5_isAhead, Cond.selects RX5 yX5_isAhead yX5_isAhead, Cond.code yX5_isAhead cX5_isAhead 3 (some .boolean), Cond.methodLink RX5 88 yX5_reads]
def wsX5_hasBox_r3 : List Cond := [Cond.instanceMethod yX5_reads, Cond.selects RX5 yX5_reads yX5_reads, Cond.code yX5_reads cX5_reads 3 none, Cond.fieldLink RX5 47 "ReadingorderModel" "order" "[I", Cond.fieldLink RX5 31 "ReadingorderModel" "leads" "[I"]
def wsX5_hasBox : List Cond := .code yX5_hasBox cX5_hasBox 2 (some .boolean) :: ((wsX5_hasBox_r1 ++ (wsX5_hasBox_r2 ++ wsX5_hasBox_r3)) ++ wsX50)
def wsX5_approve_r1 : List Cond := [Cond.fieldLink RX5 110 "ReadingorderModel" "approvals" "I", Cond.fieldLink RX5 38 "ReadingorderModel" "who" "[I", Cond.fieldLink RX5 41 "ReadingorderModel" "which" "[I", Cond.methodLink RX5 60 yX5_in, Cond.static yX5_in, Cond.initialized RX5, Cond.code yX5_in cX5_in 3 (some .boolean), Cond.methodLink RX5 121 yX5_isPage, Cond.static yX5_isPage, Cond.code yX5_isPage cX5_isPage 1 (some .boolean), Cond.methodLink RX5 174 yX5_hasBox, Cond.instanceMethod yX5_hasBox, Cond.selects RX5 yX5_hasBox yX5_hasBox, Cond.code yX5_hasBox cX5_hasBox 2 (some .boolean), Cond.fieldLink RX5 82 "ReadingorderModel" "many" "I", Cond.methodLink RX5 104 yX5_finds, Cond.instanceMethod yX5_finds, Cond.selects RX5 yX5_finds yX5_finds, Cond.code yX5_finds cX5_finds 5 none, Cond.fieldLink RX5 64 "ReadingorderModel" "boxes" "I", Cond.fieldLink RX5 7 "ReadingorderModel" "page" "[I", Cond.fieldLink RX5 34 "ReadingorderModel" "isGone" "[Z", Cond.fieldLink RX5 28 "ReadingorderModel" "follows" "[I", Cond.fieldLink RX5 92 "ReadingorderModel" "aside" "I"]
def wsX5_approve_r2 : List Cond := [Cond.fieldLink RX5 53 "ReadingorderModel" "set" "[I", Cond.methodLink RX5 95 yX5_puts, Cond.instanceMethod yX5_puts, Cond.selects RX5 yX5_puts yX5_puts, Cond.code yX5_puts cX5_puts 2 none, Cond.methodLink RX5 98 yX5_cut, Cond.instanceMethod yX5_cut, Cond.selects RX5 yX5_cut yX5_cut, Cond.code yX5_cut cX5_cut 5 (some .int), Cond.methodLink RX5 78 yX5_cutAt, Cond.instanceMethod yX5_cutAt, Cond.selects RX5 yX5_cutAt yX5_cutAt, Cond.code yX5_cutAt cX5_cutAt 8 (some .int), Cond.methodLink RX5 67 yX5_has, Cond.static yX5_has, Cond.code yX5_has cX5_has 2 (some .boolean), Cond.methodLink RX5 71 yX5_far, Cond.instanceMethod yX5_far, Cond.selects RX5 yX5_far yX5_far, Cond.code yX5_far cX5_far 3 (some .int), Cond.fieldLink RX5 16 "ReadingorderModel" "top" "[I", Cond.fieldLink RX5 22 "ReadingorderModel" "height" "[I", Cond.fieldLink RX5 13 "ReadingorderModel" "left" "[I", Cond.fieldLink RX5 19 "ReadingorderModel" "width" "[I"]
def wsX5_approve_r3 : List Cond := [Cond.methodLink RX5 75 yX5_near, Cond.instanceMethod yX5_near, Cond.selects RX5 yX5_near yX5_near, Cond.code yX5_near cX5_near 3 (some .int), Cond.methodLink RX5 101 yX5_readsAll, Cond.instanceMethod yX5_readsAll, Cond.selects RX5 yX5_readsAll yX5_readsAll, Cond.code yX5_readsAll cX5_readsAll 5 none, Cond.methodLink RX5 85 yX5_isAhead, Cond.instanceMethod yX5_isAhead, Cond.selects RX5 yX5_isAhead yX5_isAhead, Cond.code yX5_isAhead cX5_isAhead 3 (some .boolean), Cond.methodLink RX5 88 yX5_reads, Cond.instanceMethod yX5_reads, Cond.selects RX5 yX5_reads yX5_reads, Cond.code yX5_reads cX5_reads 3 none, Cond.fieldLink RX5 47 "ReadingorderModel" "order" "[I", Cond.fieldLink RX5 31 "ReadingorderModel" "leads" "[I", Cond.methodLink RX5 128 yX5_goes, Cond.instanceMethod yX5_goes, Cond.selects RX5 yX5_goes yX5_goes, Cond.code yX5_goes cX5_goes 4 (some .boolean), Cond.fieldLink RX5 56 "ReadingorderModel" "thrown" "I"]
def wsX5_approve : List Cond := .code yX5_approve cX5_approve 4 (some .int) :: ((wsX5_approve_r1 ++ (wsX5_approve_r2 ++ wsX5_approve_r3)) ++ wsX50)
def wsX5_stands : List Cond := .code yX5_stands cX5_stands 2 (some .boolean) :: ([.fieldLink RX5 110 "ReadingorderModel" "approvals" "I", .fieldLink RX5 44 "ReadingorderModel" "isFallen" "[Z", .methodLink RX5 60 yX5_in, .static yX5_in, .initialized RX5, .code yX5_in cX5_in 3 (some .boolean), .methodLink RX5 128 yX5_goes, .instanceMethod yX5_goes, .selects RX5 yX5_goes yX5_goes, .code yX5_goes cX5_goes 4 (some .boolean), .fieldLink RX5 56 "ReadingorderModel" "thrown" "I"] ++ wsX50)
def wsX5_approvers : List Cond := .code yX5_approvers cX5_approvers 4 (some .int) :: ([.fieldLink RX5 110 "ReadingorderModel" "approvals" "I", .fieldLink RX5 41 "ReadingorderModel" "which" "[I", .fieldLink RX5 44 "ReadingorderModel" "isFallen" "[Z", .fieldLink RX5 38 "ReadingorderModel" "who" "[I", .methodLink RX5 121 yX5_isPage, .static yX5_isPage, .initialized RX5, .code yX5_isPage cX5_isPage 1 (some .boolean), .methodLink RX5 60 yX5_in, .static yX5_in, .code yX5_in cX5_in 3 (some .boolean), .methodLink RX5 128 yX5_goes, .instanceMethod yX5_goes, .selects RX5 yX5_goes yX5_goes, .code yX5_goes cX5_goes 4 (some .boolean), .fieldLink RX5 56 "ReadingorderModel" "thrown" "I"] ++ wsX50)
def wsX5_breaks_r1 : List Cond := [Cond.fieldLink RX5 19 "ReadingorderModel" "width" "[I", Cond.fieldLink RX5 22 "ReadingorderModel" "height" "[I", Cond.fieldLink RX5 13 "ReadingorderModel" "left" "[I", Cond.fieldLink RX5 16 "ReadingorderModel" "top" "[I", Cond.fieldLink RX5 7 "ReadingorderModel" "page" "[I", Cond.methodLink RX5 138 yX5_isBox, Cond.instanceMethod yX5_isBox, Cond.selects RX5 yX5_isBox yX5_isBox, Cond.initialized RX5, Cond.code yX5_isBox cX5_isBox 2 (some .boolean), Cond.fieldLink RX5 64 "ReadingorderModel" "boxes" "I", Cond.fieldLink RX5 34 "ReadingorderModel" "isGone" "[Z", Cond.methodLink RX5 60 yX5_in, Cond.static yX5_in, Cond.code yX5_in cX5_in 3 (some .boolean), Cond.methodLink RX5 124 yX5_isWithin, Cond.static yX5_isWithin, Cond.code yX5_isWithin cX5_isWithin 4 (some .boolean), Cond.methodLink RX5 128 yX5_goes, Cond.instanceMethod yX5_goes, Cond.selects RX5 yX5_goes yX5_goes, Cond.code yX5_goes cX5_goes 4 (some .boolean), Cond.fieldLink RX5 56 "ReadingorderModel" "thrown" "I", Cond.methodLink RX5 132 yX5_keeps]
def wsX5_breaks_r2 : List Cond := [Cond.instanceMethod yX5_keeps, Cond.selects RX5 yX5_keeps yX5_keeps, Cond.code yX5_keeps cX5_keeps 3 none, Cond.fieldLink RX5 82 "ReadingorderModel" "many" "I", Cond.fieldLink RX5 107 "ReadingorderModel" "manyAhead" "I", Cond.fieldLink RX5 50 "ReadingorderModel" "ahead" "[I", Cond.fieldLink RX5 47 "ReadingorderModel" "order" "[I", Cond.methodLink RX5 104 yX5_finds, Cond.instanceMethod yX5_finds, Cond.selects RX5 yX5_finds yX5_finds, Cond.code yX5_finds cX5_finds 5 none, Cond.fieldLink RX5 28 "ReadingorderModel" "follows" "[I", Cond.fieldLink RX5 92 "ReadingorderModel" "aside" "I", Cond.fieldLink RX5 53 "ReadingorderModel" "set" "[I", Cond.methodLink RX5 95 yX5_puts, Cond.instanceMethod yX5_puts, Cond.selects RX5 yX5_puts yX5_puts, Cond.code yX5_puts cX5_puts 2 none, Cond.methodLink RX5 98 yX5_cut, Cond.instanceMethod yX5_cut, Cond.selects RX5 yX5_cut yX5_cut, Cond.code yX5_cut cX5_cut 5 (some .int), Cond.methodLink RX5 78 yX5_cutAt, Cond.instanceMethod yX5_cutAt]
def wsX5_breaks_r3 : List Cond := [Cond.selects RX5 yX5_cutAt yX5_cutAt, Cond.code yX5_cutAt cX5_cutAt 8 (some .int), Cond.methodLink RX5 67 yX5_has, Cond.static yX5_has, Cond.code yX5_has cX5_has 2 (some .boolean), Cond.methodLink RX5 71 yX5_far, Cond.instanceMethod yX5_far, Cond.selects RX5 yX5_far yX5_far, Cond.code yX5_far cX5_far 3 (some .int), Cond.methodLink RX5 75 yX5_near, Cond.instanceMethod yX5_near, Cond.selects RX5 yX5_near yX5_near, Cond.code yX5_near cX5_near 3 (some .int), Cond.methodLink RX5 101 yX5_readsAll, Cond.instanceMethod yX5_readsAll, Cond.selects RX5 yX5_readsAll yX5_readsAll, Cond.code yX5_readsAll cX5_readsAll 5 none, Cond.methodLink RX5 85 yX5_isAhead, Cond.instanceMethod yX5_isAhead, Cond.selects RX5 yX5_isAhead yX5_isAhead, Cond.code yX5_isAhead cX5_isAhead 3 (some .boolean), Cond.methodLink RX5 88 yX5_reads, Cond.instanceMethod yX5_reads, Cond.selects RX5 yX5_reads yX5_reads]
def wsX5_breaks_r4 : List Cond := [Cond.code yX5_reads cX5_reads 3 none, Cond.fieldLink RX5 31 "ReadingorderModel" "leads" "[I", Cond.methodLink RX5 113 yX5_isOther, Cond.instanceMethod yX5_isOther, Cond.selects RX5 yX5_isOther yX5_isOther, Cond.code yX5_isOther cX5_isOther 4 (some .boolean), Cond.methodLink RX5 117 yX5_standing, Cond.instanceMethod yX5_standing, Cond.selects RX5 yX5_standing yX5_standing, Cond.code yX5_standing cX5_standing 4 (some .int), Cond.fieldLink RX5 110 "ReadingorderModel" "approvals" "I", Cond.fieldLink RX5 41 "ReadingorderModel" "which" "[I", Cond.fieldLink RX5 44 "ReadingorderModel" "isFallen" "[Z"]
def wsX5_breaks : List Cond := .code yX5_breaks cX5_breaks 8 (some .int) :: ((wsX5_breaks_r1 ++ (wsX5_breaks_r2 ++ (wsX5_breaks_r3 ++ wsX5_breaks_r4))) ++ wsX50)
def wsJ9_abs_0f7a4 : List Cond := .code yJ9_abs_0f7a4 cJ9_abs_0f7a4 1 (some .int) :: ([])
def wsJ9_min_7cf53 : List Cond := .code yJ9_min_7cf53 cJ9_min_7cf53 2 (some .int) :: ([])
def wsL_box_r1 : List Cond := [Cond.classLink RL 13 "java/lang/IndexOutOfBoundsException", Cond.classLink RL 15 "java/lang/IllegalArgumentException", Cond.classLink RL 17 "java/lang/IllegalStateException", Cond.methodLink RL 7 yX4_box, Cond.instanceMethod yX4_box, Cond.selects RX4 yX4_box yX4_box, Cond.initialized RX4, Cond.code yX4_box cX4_box 8 (some .int), Cond.classLink RX4 50 "java/lang/IllegalArgumentException", Cond.initialized "java/lang/IllegalArgumentException", Cond.classLink RX4 61 "java/lang/IllegalStateException", Cond.initialized "java/lang/IllegalStateException", Cond.fieldLink RX4 15 "Readingorder" "madeCount" "I", Cond.fieldLink RX4 11 "Readingorder" "made" "[LReadingorder$Box;", Cond.classLink RX4 9 RX1, Cond.instantiable RX1 10, Cond.initialized RX1, Cond.methodLink RX4 46 yX4_readingOf, Cond.instanceMethod yX4_readingOf, Cond.selects RX4 yX4_readingOf yX4_readingOf, Cond.code yX4_readingOf cX4_readingOf 3 (some (.object "Readingorder$Reading")), Cond.classLink RX4 142 "java/lang/IndexOutOfBoundsException", Cond.initialized "java/lang/IndexOutOfBoundsException", Cond.fieldLink RX4 21 "Readingorder" "readings" "[LReadingorder$Reading;"]
def wsL_box_r2 : List Cond := [Cond.methodLink RX4 57 yX4_checkWithinPage, Cond.static yX4_checkWithinPage, Cond.code yX4_checkWithinPage cX4_checkWithinPage 4 none, Cond.methodLink RX4 66 yX1_init, Cond.instanceMethod yX1_init, Cond.code yX1_init cX1_init 8 none, Cond.methodLink RX1 3 objectInit, Cond.instanceMethod objectInit, Cond.code objectInit ⟨#[0xb1]⟩ 1 none, Cond.fieldLink RX1 9 "Readingorder$Box" "gone" "Z", Cond.fieldLink RX1 15 "Readingorder$Box" "leader" "LReadingorder$Box;", Cond.fieldLink RX1 19 "Readingorder$Box" "follower" "LReadingorder$Box;", Cond.fieldLink RX1 22 "Readingorder$Box" "number" "I", Cond.fieldLink RX1 26 "Readingorder$Box" "page" "I", Cond.fieldLink RX1 29 "Readingorder$Box" "left" "I", Cond.fieldLink RX1 32 "Readingorder$Box" "top" "I", Cond.fieldLink RX1 35 "Readingorder$Box" "width" "I", Cond.fieldLink RX1 38 "Readingorder$Box" "height" "I", Cond.fieldLink RX1 41 "Readingorder$Box" "kind" "I", Cond.methodLink RX4 69 yX4_readAgain, Cond.instanceMethod yX4_readAgain, Cond.selects RX4 yX4_readAgain yX4_readAgain, Cond.code yX4_readAgain cX4_readAgain 3 (some .int), Cond.fieldLink RX4 26 "Readingorder" "trial" "LReadingorder$Reading;"]
def wsL_box_r3 : List Cond := [Cond.methodLink RX4 191 yX4_readByCuts, Cond.instanceMethod yX4_readByCuts, Cond.selects RX4 yX4_readByCuts yX4_readByCuts, Cond.code yX4_readByCuts cX4_readByCuts 3 none, Cond.fieldLink RX4 136 "Readingorder$Reading" "length" "I", Cond.methodLink RX4 216 yX4_boxesThatFollowNone, Cond.instanceMethod yX4_boxesThatFollowNone, Cond.selects RX4 yX4_boxesThatFollowNone yX4_boxesThatFollowNone, Cond.code yX4_boxesThatFollowNone cX4_boxesThatFollowNone 5 (some .int), Cond.fieldLink RX4 98 "Readingorder$Box" "gone" "Z", Cond.fieldLink RX4 89 "Readingorder$Box" "page" "I", Cond.fieldLink RX4 108 "Readingorder$Box" "leader" "LReadingorder$Box;", Cond.methodLink RX4 139 yX4_madeBox, Cond.instanceMethod yX4_madeBox, Cond.selects RX4 yX4_madeBox yX4_madeBox, Cond.code yX4_madeBox cX4_madeBox 2 (some (.object "Readingorder$Box")), Cond.methodLink RX4 219 yX4_readSet, Cond.instanceMethod yX4_readSet, Cond.selects RX4 yX4_readSet yX4_readSet, Cond.code yX4_readSet cX4_readSet 5 none, Cond.methodLink RX4 223 yX4_cutOff, Cond.instanceMethod yX4_cutOff, Cond.selects RX4 yX4_cutOff yX4_cutOff, Cond.code yX4_cutOff cX4_cutOff 4 (some .int)]
def wsL_box_r4 : List Cond := [Cond.methodLink RX4 240 yX4_leastCut, Cond.instanceMethod yX4_leastCut, Cond.selects RX4 yX4_leastCut yX4_leastCut, Cond.code yX4_leastCut cX4_leastCut 8 (some .int), Cond.methodLink RX4 256 Lib.Math.min.name, Cond.static Lib.Math.min.name, Cond.initialized "java/lang/Math", Cond.code Lib.Math.min.name Lib.Math.min.code 2 (some .int), Cond.methodLink RX4 248 yX4_boxOfSet, Cond.instanceMethod yX4_boxOfSet, Cond.selects RX4 yX4_boxOfSet yX4_boxOfSet, Cond.code yX4_boxOfSet cX4_boxOfSet 4 (some (.object "Readingorder$Box")), Cond.methodLink RX4 252 yX1_end, Cond.instanceMethod yX1_end, Cond.selects RX1 yX1_end yX1_end, Cond.code yX1_end cX1_end 2 (some .int), Cond.methodLink RX4 260 yX1_begin, Cond.instanceMethod yX1_begin, Cond.selects RX1 yX1_begin yX1_begin, Cond.code yX1_begin cX1_begin 2 (some .int), Cond.methodLink RX4 244 yX4_endedBy, Cond.instanceMethod yX4_endedBy, Cond.selects RX4 yX4_endedBy yX4_endedBy, Cond.code yX4_endedBy cX4_endedBy 7 (some .int)]
def wsL_box_r5 : List Cond := [Cond.methodLink RX4 226 yX4_readUncut, Cond.instanceMethod yX4_readUncut, Cond.selects RX4 yX4_readUncut yX4_readUncut, Cond.code yX4_readUncut cX4_readUncut 7 none, Cond.fieldLink RX4 130 "Readingorder$Box" "number" "I", Cond.fieldLink RX4 104 "Readingorder$Box" "follower" "LReadingorder$Box;", Cond.methodLink RX4 263 yX4_firstByEdges, Cond.instanceMethod yX4_firstByEdges, Cond.selects RX4 yX4_firstByEdges yX4_firstByEdges, Cond.code yX4_firstByEdges cX4_firstByEdges 5 (some (.object "Readingorder$Box")), Cond.methodLink RX4 269 yX1_isAheadByEdges, Cond.instanceMethod yX1_isAheadByEdges, Cond.selects RX1 yX1_isAheadByEdges yX1_isAheadByEdges, Cond.code yX1_isAheadByEdges cX1_isAheadByEdges 2 (some .boolean), Cond.methodLink RX4 266 yX3_add, Cond.instanceMethod yX3_add, Cond.selects RX3 yX3_add yX3_add, Cond.initialized RX3, Cond.code yX3_add cX3_add 2 none, Cond.fieldLink RX3 15 "Readingorder$Reading" "length" "I", Cond.fieldLink RX3 9 "Readingorder$Reading" "numbers" "[I", Cond.methodLink RX4 229 yX4_readParts, Cond.instanceMethod yX4_readParts, Cond.selects RX4 yX4_readParts yX4_readParts]
def wsL_box_r6 : List Cond := [Cond.code yX4_readParts cX4_readParts 5 none, Cond.methodLink RX4 194 yX3_isSameAs, Cond.instanceMethod yX3_isSameAs, Cond.selects RX3 yX3_isSameAs yX3_isSameAs, Cond.code yX3_isSameAs cX3_isSameAs 3 (some .boolean), Cond.methodLink RX3 19 yX3_at, Cond.instanceMethod yX3_at, Cond.selects RX3 yX3_at yX3_at, Cond.code yX3_at cX3_at 2 (some .int), Cond.methodLink RX4 209 yX3_become, Cond.instanceMethod yX3_become, Cond.selects RX3 yX3_become yX3_become, Cond.code yX3_become cX3_become 3 none, Cond.methodLink RX3 23 yX3_add, Cond.methodLink RX4 213 yX4_letFall, Cond.instanceMethod yX4_letFall, Cond.selects RX4 yX4_letFall yX4_letFall, Cond.code yX4_letFall cX4_letFall 5 (some .int), Cond.fieldLink RX4 39 "Readingorder" "given" "[LReadingorder$Approval;", Cond.fieldLink RX4 181 "Readingorder$Approval" "holds" "Z", Cond.methodLink RX4 184 yX0_holdsFor, Cond.instanceMethod yX0_holdsFor, Cond.selects RX0 yX0_holdsFor yX0_holdsFor, Cond.initialized RX0]
def wsL_box_r7 : List Cond := [Cond.code yX0_holdsFor cX0_holdsFor 2 (some .boolean), Cond.fieldLink RX0 7 "Readingorder$Approval" "holds" "Z", Cond.fieldLink RX0 17 "Readingorder$Approval" "page" "I"]
def wsL_box : List Cond := .codeWith yL_box cL_box 9 (some .int) [(0, 18, 21, 13), (0, 18, 25, 15), (0, 18, 29, 17)] :: ((wsL_box_r1 ++ (wsL_box_r2 ++ (wsL_box_r3 ++ (wsL_box_r4 ++ (wsL_box_r5 ++ (wsL_box_r6 ++ wsL_box_r7)))))) ++ wsX40 ++ wsX10 ++ wsX30 ++ wsX00 ++ (vx_atS RX4 54 "java/lang/IllegalArgumentException" ["java/lang/RuntimeException", "java/lang/Exception"]).filter goodWord ++ (vx_atS RX4 65 "java/lang/IllegalStateException" ["java/lang/RuntimeException", "java/lang/Exception"]).filter goodWord ++ (vx_atS RX4 146 "java/lang/IndexOutOfBoundsException" ["java/lang/RuntimeException", "java/lang/Exception"]).filter goodWord)
def wsL_move_r1 : List Cond := [Cond.classLink RL 13 "java/lang/IndexOutOfBoundsException", Cond.classLink RL 15 "java/lang/IllegalArgumentException", Cond.methodLink RL 19 yX4_move, Cond.instanceMethod yX4_move, Cond.selects RX4 yX4_move yX4_move, Cond.initialized RX4, Cond.code yX4_move cX4_move 5 (some .int), Cond.fieldLink RX4 77 "Readingorder$Box" "width" "I", Cond.fieldLink RX4 80 "Readingorder$Box" "height" "I", Cond.fieldLink RX4 83 "Readingorder$Box" "left" "I", Cond.fieldLink RX4 86 "Readingorder$Box" "top" "I", Cond.fieldLink RX4 89 "Readingorder$Box" "page" "I", Cond.methodLink RX4 73 yX4_presentBox, Cond.instanceMethod yX4_presentBox, Cond.selects RX4 yX4_presentBox yX4_presentBox, Cond.code yX4_presentBox cX4_presentBox 3 (some (.object "Readingorder$Box")), Cond.classLink RX4 142 "java/lang/IndexOutOfBoundsException", Cond.initialized "java/lang/IndexOutOfBoundsException", Cond.fieldLink RX4 98 "Readingorder$Box" "gone" "Z", Cond.methodLink RX4 139 yX4_madeBox, Cond.instanceMethod yX4_madeBox, Cond.selects RX4 yX4_madeBox yX4_madeBox, Cond.code yX4_madeBox cX4_madeBox 2 (some (.object "Readingorder$Box")), Cond.fieldLink RX4 11 "Readingorder" "made" "[LReadingorder$Box;"]
def wsL_move_r2 : List Cond := [Cond.methodLink RX4 57 yX4_checkWithinPage, Cond.static yX4_checkWithinPage, Cond.code yX4_checkWithinPage cX4_checkWithinPage 4 none, Cond.classLink RX4 50 "java/lang/IllegalArgumentException", Cond.initialized "java/lang/IllegalArgumentException", Cond.methodLink RX4 69 yX4_readAgain, Cond.instanceMethod yX4_readAgain, Cond.selects RX4 yX4_readAgain yX4_readAgain, Cond.code yX4_readAgain cX4_readAgain 3 (some .int), Cond.fieldLink RX4 26 "Readingorder" "trial" "LReadingorder$Reading;", Cond.methodLink RX4 46 yX4_readingOf, Cond.instanceMethod yX4_readingOf, Cond.selects RX4 yX4_readingOf yX4_readingOf, Cond.code yX4_readingOf cX4_readingOf 3 (some (.object "Readingorder$Reading")), Cond.fieldLink RX4 21 "Readingorder" "readings" "[LReadingorder$Reading;", Cond.methodLink RX4 191 yX4_readByCuts, Cond.instanceMethod yX4_readByCuts, Cond.selects RX4 yX4_readByCuts yX4_readByCuts, Cond.code yX4_readByCuts cX4_readByCuts 3 none, Cond.fieldLink RX4 136 "Readingorder$Reading" "length" "I", Cond.methodLink RX4 216 yX4_boxesThatFollowNone, Cond.instanceMethod yX4_boxesThatFollowNone, Cond.selects RX4 yX4_boxesThatFollowNone yX4_boxesThatFollowNone, Cond.code yX4_boxesThatFollowNone cX4_boxesThatFollowNone 5 (some .int)]
def wsL_move_r3 : List Cond := [Cond.fieldLink RX4 15 "Readingorder" "madeCount" "I", Cond.fieldLink RX4 108 "Readingorder$Box" "leader" "LReadingorder$Box;", Cond.methodLink RX4 219 yX4_readSet, Cond.instanceMethod yX4_readSet, Cond.selects RX4 yX4_readSet yX4_readSet, Cond.code yX4_readSet cX4_readSet 5 none, Cond.methodLink RX4 223 yX4_cutOff, Cond.instanceMethod yX4_cutOff, Cond.selects RX4 yX4_cutOff yX4_cutOff, Cond.code yX4_cutOff cX4_cutOff 4 (some .int), Cond.methodLink RX4 240 yX4_leastCut, Cond.instanceMethod yX4_leastCut, Cond.selects RX4 yX4_leastCut yX4_leastCut, Cond.code yX4_leastCut cX4_leastCut 8 (some .int), Cond.methodLink RX4 256 Lib.Math.min.name, Cond.static Lib.Math.min.name, Cond.initialized "java/lang/Math", Cond.code Lib.Math.min.name Lib.Math.min.code 2 (some .int), Cond.methodLink RX4 248 yX4_boxOfSet, Cond.instanceMethod yX4_boxOfSet, Cond.selects RX4 yX4_boxOfSet yX4_boxOfSet, Cond.code yX4_boxOfSet cX4_boxOfSet 4 (some (.object "Readingorder$Box")), Cond.methodLink RX4 252 yX1_end, Cond.instanceMethod yX1_end]
def wsL_move_r4 : List Cond := [Cond.selects RX1 yX1_end yX1_end, Cond.initialized RX1, Cond.code yX1_end cX1_end 2 (some .int), Cond.fieldLink RX1 32 "Readingorder$Box" "top" "I", Cond.fieldLink RX1 38 "Readingorder$Box" "height" "I", Cond.fieldLink RX1 29 "Readingorder$Box" "left" "I", Cond.fieldLink RX1 35 "Readingorder$Box" "width" "I", Cond.methodLink RX4 260 yX1_begin, Cond.instanceMethod yX1_begin, Cond.selects RX1 yX1_begin yX1_begin, Cond.code yX1_begin cX1_begin 2 (some .int), Cond.methodLink RX4 244 yX4_endedBy, Cond.instanceMethod yX4_endedBy, Cond.selects RX4 yX4_endedBy yX4_endedBy, Cond.code yX4_endedBy cX4_endedBy 7 (some .int), Cond.methodLink RX4 226 yX4_readUncut, Cond.instanceMethod yX4_readUncut, Cond.selects RX4 yX4_readUncut yX4_readUncut, Cond.code yX4_readUncut cX4_readUncut 7 none, Cond.fieldLink RX4 130 "Readingorder$Box" "number" "I", Cond.fieldLink RX4 104 "Readingorder$Box" "follower" "LReadingorder$Box;", Cond.methodLink RX4 263 yX4_firstByEdges, Cond.instanceMethod yX4_firstByEdges, Cond.selects RX4 yX4_firstByEdges yX4_firstByEdges]
def wsL_move_r5 : List Cond := [Cond.code yX4_firstByEdges cX4_firstByEdges 5 (some (.object "Readingorder$Box")), Cond.methodLink RX4 269 yX1_isAheadByEdges, Cond.instanceMethod yX1_isAheadByEdges, Cond.selects RX1 yX1_isAheadByEdges yX1_isAheadByEdges, Cond.code yX1_isAheadByEdges cX1_isAheadByEdges 2 (some .boolean), Cond.fieldLink RX1 22 "Readingorder$Box" "number" "I", Cond.methodLink RX4 266 yX3_add, Cond.instanceMethod yX3_add, Cond.selects RX3 yX3_add yX3_add, Cond.initialized RX3, Cond.code yX3_add cX3_add 2 none, Cond.fieldLink RX3 15 "Readingorder$Reading" "length" "I", Cond.fieldLink RX3 9 "Readingorder$Reading" "numbers" "[I", Cond.methodLink RX4 229 yX4_readParts, Cond.instanceMethod yX4_readParts, Cond.selects RX4 yX4_readParts yX4_readParts, Cond.code yX4_readParts cX4_readParts 5 none, Cond.methodLink RX4 194 yX3_isSameAs, Cond.instanceMethod yX3_isSameAs, Cond.selects RX3 yX3_isSameAs yX3_isSameAs, Cond.code yX3_isSameAs cX3_isSameAs 3 (some .boolean), Cond.methodLink RX3 19 yX3_at, Cond.instanceMethod yX3_at, Cond.selects RX3 yX3_at yX3_at]
def wsL_move_r6 : List Cond := [Cond.code yX3_at cX3_at 2 (some .int), Cond.methodLink RX4 209 yX3_become, Cond.instanceMethod yX3_become, Cond.selects RX3 yX3_become yX3_become, Cond.code yX3_become cX3_become 3 none, Cond.methodLink RX3 23 yX3_add, Cond.methodLink RX4 213 yX4_letFall, Cond.instanceMethod yX4_letFall, Cond.selects RX4 yX4_letFall yX4_letFall, Cond.code yX4_letFall cX4_letFall 5 (some .int), Cond.fieldLink RX4 39 "Readingorder" "given" "[LReadingorder$Approval;", Cond.fieldLink RX4 181 "Readingorder$Approval" "holds" "Z", Cond.methodLink RX4 184 yX0_holdsFor, Cond.instanceMethod yX0_holdsFor, Cond.selects RX0 yX0_holdsFor yX0_holdsFor, Cond.initialized RX0, Cond.code yX0_holdsFor cX0_holdsFor 2 (some .boolean), Cond.fieldLink RX0 7 "Readingorder$Approval" "holds" "Z", Cond.fieldLink RX0 17 "Readingorder$Approval" "page" "I"]
def wsL_move : List Cond := .codeWith yL_move cL_move 6 (some .int) [(0, 12, 15, 13), (0, 12, 19, 15)] :: ((wsL_move_r1 ++ (wsL_move_r2 ++ (wsL_move_r3 ++ (wsL_move_r4 ++ (wsL_move_r5 ++ wsL_move_r6))))) ++ wsX10 ++ wsX40 ++ wsX30 ++ wsX00 ++ (vx_atS RX4 146 "java/lang/IndexOutOfBoundsException" ["java/lang/RuntimeException", "java/lang/Exception"]).filter goodWord ++ (vx_atS RX4 54 "java/lang/IllegalArgumentException" ["java/lang/RuntimeException", "java/lang/Exception"]).filter goodWord)
def wsL_resize_r1 : List Cond := [Cond.classLink RL 13 "java/lang/IndexOutOfBoundsException", Cond.classLink RL 15 "java/lang/IllegalArgumentException", Cond.methodLink RL 23 yX4_resize, Cond.instanceMethod yX4_resize, Cond.selects RX4 yX4_resize yX4_resize, Cond.initialized RX4, Cond.code yX4_resize cX4_resize 5 (some .int), Cond.fieldLink RX4 83 "Readingorder$Box" "left" "I", Cond.fieldLink RX4 86 "Readingorder$Box" "top" "I", Cond.fieldLink RX4 77 "Readingorder$Box" "width" "I", Cond.fieldLink RX4 80 "Readingorder$Box" "height" "I", Cond.fieldLink RX4 89 "Readingorder$Box" "page" "I", Cond.methodLink RX4 73 yX4_presentBox, Cond.instanceMethod yX4_presentBox, Cond.selects RX4 yX4_presentBox yX4_presentBox, Cond.code yX4_presentBox cX4_presentBox 3 (some (.object "Readingorder$Box")), Cond.classLink RX4 142 "java/lang/IndexOutOfBoundsException", Cond.initialized "java/lang/IndexOutOfBoundsException", Cond.fieldLink RX4 98 "Readingorder$Box" "gone" "Z", Cond.methodLink RX4 139 yX4_madeBox, Cond.instanceMethod yX4_madeBox, Cond.selects RX4 yX4_madeBox yX4_madeBox, Cond.code yX4_madeBox cX4_madeBox 2 (some (.object "Readingorder$Box")), Cond.fieldLink RX4 11 "Readingorder" "made" "[LReadingorder$Box;"]
def wsL_resize_r2 : List Cond := [Cond.methodLink RX4 57 yX4_checkWithinPage, Cond.static yX4_checkWithinPage, Cond.code yX4_checkWithinPage cX4_checkWithinPage 4 none, Cond.classLink RX4 50 "java/lang/IllegalArgumentException", Cond.initialized "java/lang/IllegalArgumentException", Cond.methodLink RX4 69 yX4_readAgain, Cond.instanceMethod yX4_readAgain, Cond.selects RX4 yX4_readAgain yX4_readAgain, Cond.code yX4_readAgain cX4_readAgain 3 (some .int), Cond.fieldLink RX4 26 "Readingorder" "trial" "LReadingorder$Reading;", Cond.methodLink RX4 46 yX4_readingOf, Cond.instanceMethod yX4_readingOf, Cond.selects RX4 yX4_readingOf yX4_readingOf, Cond.code yX4_readingOf cX4_readingOf 3 (some (.object "Readingorder$Reading")), Cond.fieldLink RX4 21 "Readingorder" "readings" "[LReadingorder$Reading;", Cond.methodLink RX4 191 yX4_readByCuts, Cond.instanceMethod yX4_readByCuts, Cond.selects RX4 yX4_readByCuts yX4_readByCuts, Cond.code yX4_readByCuts cX4_readByCuts 3 none, Cond.fieldLink RX4 136 "Readingorder$Reading" "length" "I", Cond.methodLink RX4 216 yX4_boxesThatFollowNone, Cond.instanceMethod yX4_boxesThatFollowNone, Cond.selects RX4 yX4_boxesThatFollowNone yX4_boxesThatFollowNone, Cond.code yX4_boxesThatFollowNone cX4_boxesThatFollowNone 5 (some .int)]
def wsL_resize_r3 : List Cond := [Cond.fieldLink RX4 15 "Readingorder" "madeCount" "I", Cond.fieldLink RX4 108 "Readingorder$Box" "leader" "LReadingorder$Box;", Cond.methodLink RX4 219 yX4_readSet, Cond.instanceMethod yX4_readSet, Cond.selects RX4 yX4_readSet yX4_readSet, Cond.code yX4_readSet cX4_readSet 5 none, Cond.methodLink RX4 223 yX4_cutOff, Cond.instanceMethod yX4_cutOff, Cond.selects RX4 yX4_cutOff yX4_cutOff, Cond.code yX4_cutOff cX4_cutOff 4 (some .int), Cond.methodLink RX4 240 yX4_leastCut, Cond.instanceMethod yX4_leastCut, Cond.selects RX4 yX4_leastCut yX4_leastCut, Cond.code yX4_leastCut cX4_leastCut 8 (some .int), Cond.methodLink RX4 256 Lib.Math.min.name, Cond.static Lib.Math.min.name, Cond.initialized "java/lang/Math", Cond.code Lib.Math.min.name Lib.Math.min.code 2 (some .int), Cond.methodLink RX4 248 yX4_boxOfSet, Cond.instanceMethod yX4_boxOfSet, Cond.selects RX4 yX4_boxOfSet yX4_boxOfSet, Cond.code yX4_boxOfSet cX4_boxOfSet 4 (some (.object "Readingorder$Box")), Cond.methodLink RX4 252 yX1_end, Cond.instanceMethod yX1_end]
def wsL_resize_r4 : List Cond := [Cond.selects RX1 yX1_end yX1_end, Cond.initialized RX1, Cond.code yX1_end cX1_end 2 (some .int), Cond.fieldLink RX1 32 "Readingorder$Box" "top" "I", Cond.fieldLink RX1 38 "Readingorder$Box" "height" "I", Cond.fieldLink RX1 29 "Readingorder$Box" "left" "I", Cond.fieldLink RX1 35 "Readingorder$Box" "width" "I", Cond.methodLink RX4 260 yX1_begin, Cond.instanceMethod yX1_begin, Cond.selects RX1 yX1_begin yX1_begin, Cond.code yX1_begin cX1_begin 2 (some .int), Cond.methodLink RX4 244 yX4_endedBy, Cond.instanceMethod yX4_endedBy, Cond.selects RX4 yX4_endedBy yX4_endedBy, Cond.code yX4_endedBy cX4_endedBy 7 (some .int), Cond.methodLink RX4 226 yX4_readUncut, Cond.instanceMethod yX4_readUncut, Cond.selects RX4 yX4_readUncut yX4_readUncut, Cond.code yX4_readUncut cX4_readUncut 7 none, Cond.fieldLink RX4 130 "Readingorder$Box" "number" "I", Cond.fieldLink RX4 104 "Readingorder$Box" "follower" "LReadingorder$Box;", Cond.methodLink RX4 263 yX4_firstByEdges, Cond.instanceMethod yX4_firstByEdges, Cond.selects RX4 yX4_firstByEdges yX4_firstByEdges]
def wsL_resize_r5 : List Cond := [Cond.code yX4_firstByEdges cX4_firstByEdges 5 (some (.object "Readingorder$Box")), Cond.methodLink RX4 269 yX1_isAheadByEdges, Cond.instanceMethod yX1_isAheadByEdges, Cond.selects RX1 yX1_isAheadByEdges yX1_isAheadByEdges, Cond.code yX1_isAheadByEdges cX1_isAheadByEdges 2 (some .boolean), Cond.fieldLink RX1 22 "Readingorder$Box" "number" "I", Cond.methodLink RX4 266 yX3_add, Cond.instanceMethod yX3_add, Cond.selects RX3 yX3_add yX3_add, Cond.initialized RX3, Cond.code yX3_add cX3_add 2 none, Cond.fieldLink RX3 15 "Readingorder$Reading" "length" "I", Cond.fieldLink RX3 9 "Readingorder$Reading" "numbers" "[I", Cond.methodLink RX4 229 yX4_readParts, Cond.instanceMethod yX4_readParts, Cond.selects RX4 yX4_readParts yX4_readParts, Cond.code yX4_readParts cX4_readParts 5 none, Cond.methodLink RX4 194 yX3_isSameAs, Cond.instanceMethod yX3_isSameAs, Cond.selects RX3 yX3_isSameAs yX3_isSameAs, Cond.code yX3_isSameAs cX3_isSameAs 3 (some .boolean), Cond.methodLink RX3 19 yX3_at, Cond.instanceMethod yX3_at, Cond.selects RX3 yX3_at yX3_at]
def wsL_resize_r6 : List Cond := [Cond.code yX3_at cX3_at 2 (some .int), Cond.methodLink RX4 209 yX3_become, Cond.instanceMethod yX3_become, Cond.selects RX3 yX3_become yX3_become, Cond.code yX3_become cX3_become 3 none, Cond.methodLink RX3 23 yX3_add, Cond.methodLink RX4 213 yX4_letFall, Cond.instanceMethod yX4_letFall, Cond.selects RX4 yX4_letFall yX4_letFall, Cond.code yX4_letFall cX4_letFall 5 (some .int), Cond.fieldLink RX4 39 "Readingorder" "given" "[LReadingorder$Approval;", Cond.fieldLink RX4 181 "Readingorder$Approval" "holds" "Z", Cond.methodLink RX4 184 yX0_holdsFor, Cond.instanceMethod yX0_holdsFor, Cond.selects RX0 yX0_holdsFor yX0_holdsFor, Cond.initialized RX0, Cond.code yX0_holdsFor cX0_holdsFor 2 (some .boolean), Cond.fieldLink RX0 7 "Readingorder$Approval" "holds" "Z", Cond.fieldLink RX0 17 "Readingorder$Approval" "page" "I"]
def wsL_resize : List Cond := .codeWith yL_resize cL_resize 6 (some .int) [(0, 12, 15, 13), (0, 12, 19, 15)] :: ((wsL_resize_r1 ++ (wsL_resize_r2 ++ (wsL_resize_r3 ++ (wsL_resize_r4 ++ (wsL_resize_r5 ++ wsL_resize_r6))))) ++ wsX10 ++ wsX40 ++ wsX30 ++ wsX00 ++ (vx_atS RX4 146 "java/lang/IndexOutOfBoundsException" ["java/lang/RuntimeException", "java/lang/Exception"]).filter goodWord ++ (vx_atS RX4 54 "java/lang/IllegalArgumentException" ["java/lang/RuntimeException", "java/lang/Exception"]).filter goodWord)
def wsL_remove_r1 : List Cond := [Cond.classLink RL 13 "java/lang/IndexOutOfBoundsException", Cond.methodLink RL 26 yX4_remove, Cond.instanceMethod yX4_remove, Cond.selects RX4 yX4_remove yX4_remove, Cond.initialized RX4, Cond.code yX4_remove cX4_remove 3 (some .int), Cond.fieldLink RX4 98 "Readingorder$Box" "gone" "Z", Cond.fieldLink RX4 89 "Readingorder$Box" "page" "I", Cond.methodLink RX4 73 yX4_presentBox, Cond.instanceMethod yX4_presentBox, Cond.selects RX4 yX4_presentBox yX4_presentBox, Cond.code yX4_presentBox cX4_presentBox 3 (some (.object "Readingorder$Box")), Cond.classLink RX4 142 "java/lang/IndexOutOfBoundsException", Cond.initialized "java/lang/IndexOutOfBoundsException", Cond.methodLink RX4 139 yX4_madeBox, Cond.instanceMethod yX4_madeBox, Cond.selects RX4 yX4_madeBox yX4_madeBox, Cond.code yX4_madeBox cX4_madeBox 2 (some (.object "Readingorder$Box")), Cond.fieldLink RX4 11 "Readingorder" "made" "[LReadingorder$Box;", Cond.methodLink RX4 92 yX1_loosenFromLeader, Cond.instanceMethod yX1_loosenFromLeader, Cond.selects RX1 yX1_loosenFromLeader yX1_loosenFromLeader, Cond.initialized RX1, Cond.code yX1_loosenFromLeader cX1_loosenFromLeader 1 none]
def wsL_remove_r2 : List Cond := [Cond.fieldLink RX1 15 "Readingorder$Box" "leader" "LReadingorder$Box;", Cond.fieldLink RX1 19 "Readingorder$Box" "follower" "LReadingorder$Box;", Cond.methodLink RX4 95 yX1_loosenFromFollower, Cond.instanceMethod yX1_loosenFromFollower, Cond.selects RX1 yX1_loosenFromFollower yX1_loosenFromFollower, Cond.code yX1_loosenFromFollower cX1_loosenFromFollower 1 none, Cond.methodLink RX4 69 yX4_readAgain, Cond.instanceMethod yX4_readAgain, Cond.selects RX4 yX4_readAgain yX4_readAgain, Cond.code yX4_readAgain cX4_readAgain 3 (some .int), Cond.fieldLink RX4 26 "Readingorder" "trial" "LReadingorder$Reading;", Cond.methodLink RX4 46 yX4_readingOf, Cond.instanceMethod yX4_readingOf, Cond.selects RX4 yX4_readingOf yX4_readingOf, Cond.code yX4_readingOf cX4_readingOf 3 (some (.object "Readingorder$Reading")), Cond.fieldLink RX4 21 "Readingorder" "readings" "[LReadingorder$Reading;", Cond.methodLink RX4 191 yX4_readByCuts, Cond.instanceMethod yX4_readByCuts, Cond.selects RX4 yX4_readByCuts yX4_readByCuts, Cond.code yX4_readByCuts cX4_readByCuts 3 none, Cond.fieldLink RX4 136 "Readingorder$Reading" "length" "I", Cond.methodLink RX4 216 yX4_boxesThatFollowNone, Cond.instanceMethod yX4_boxesThatFollowNone, Cond.selects RX4 yX4_boxesThatFollowNone yX4_boxesThatFollowNone]
def wsL_remove_r3 : List Cond := [Cond.code yX4_boxesThatFollowNone cX4_boxesThatFollowNone 5 (some .int), Cond.fieldLink RX4 15 "Readingorder" "madeCount" "I", Cond.fieldLink RX4 108 "Readingorder$Box" "leader" "LReadingorder$Box;", Cond.methodLink RX4 219 yX4_readSet, Cond.instanceMethod yX4_readSet, Cond.selects RX4 yX4_readSet yX4_readSet, Cond.code yX4_readSet cX4_readSet 5 none, Cond.methodLink RX4 223 yX4_cutOff, Cond.instanceMethod yX4_cutOff, Cond.selects RX4 yX4_cutOff yX4_cutOff, Cond.code yX4_cutOff cX4_cutOff 4 (some .int), Cond.methodLink RX4 240 yX4_leastCut, Cond.instanceMethod yX4_leastCut, Cond.selects RX4 yX4_leastCut yX4_leastCut, Cond.code yX4_leastCut cX4_leastCut 8 (some .int), Cond.methodLink RX4 256 Lib.Math.min.name, Cond.static Lib.Math.min.name, Cond.initialized "java/lang/Math", Cond.code Lib.Math.min.name Lib.Math.min.code 2 (some .int), Cond.methodLink RX4 248 yX4_boxOfSet, Cond.instanceMethod yX4_boxOfSet, Cond.selects RX4 yX4_boxOfSet yX4_boxOfSet, Cond.code yX4_boxOfSet cX4_boxOfSet 4 (some (.object "Readingorder$Box")), Cond.methodLink RX4 252 yX1_end]
def wsL_remove_r4 : List Cond := [Cond.instanceMethod yX1_end, Cond.selects RX1 yX1_end yX1_end, Cond.code yX1_end cX1_end 2 (some .int), Cond.fieldLink RX1 32 "Readingorder$Box" "top" "I", Cond.fieldLink RX1 38 "Readingorder$Box" "height" "I", Cond.fieldLink RX1 29 "Readingorder$Box" "left" "I", Cond.fieldLink RX1 35 "Readingorder$Box" "width" "I", Cond.methodLink RX4 260 yX1_begin, Cond.instanceMethod yX1_begin, Cond.selects RX1 yX1_begin yX1_begin, Cond.code yX1_begin cX1_begin 2 (some .int), Cond.methodLink RX4 244 yX4_endedBy, Cond.instanceMethod yX4_endedBy, Cond.selects RX4 yX4_endedBy yX4_endedBy, Cond.code yX4_endedBy cX4_endedBy 7 (some .int), Cond.methodLink RX4 226 yX4_readUncut, Cond.instanceMethod yX4_readUncut, Cond.selects RX4 yX4_readUncut yX4_readUncut, Cond.code yX4_readUncut cX4_readUncut 7 none, Cond.fieldLink RX4 130 "Readingorder$Box" "number" "I", Cond.fieldLink RX4 104 "Readingorder$Box" "follower" "LReadingorder$Box;", Cond.methodLink RX4 263 yX4_firstByEdges, Cond.instanceMethod yX4_firstByEdges, Cond.selects RX4 yX4_firstByEdges yX4_firstByEdges]
def wsL_remove_r5 : List Cond := [Cond.code yX4_firstByEdges cX4_firstByEdges 5 (some (.object "Readingorder$Box")), Cond.methodLink RX4 269 yX1_isAheadByEdges, Cond.instanceMethod yX1_isAheadByEdges, Cond.selects RX1 yX1_isAheadByEdges yX1_isAheadByEdges, Cond.code yX1_isAheadByEdges cX1_isAheadByEdges 2 (some .boolean), Cond.fieldLink RX1 22 "Readingorder$Box" "number" "I", Cond.methodLink RX4 266 yX3_add, Cond.instanceMethod yX3_add, Cond.selects RX3 yX3_add yX3_add, Cond.initialized RX3, Cond.code yX3_add cX3_add 2 none, Cond.fieldLink RX3 15 "Readingorder$Reading" "length" "I", Cond.fieldLink RX3 9 "Readingorder$Reading" "numbers" "[I", Cond.methodLink RX4 229 yX4_readParts, Cond.instanceMethod yX4_readParts, Cond.selects RX4 yX4_readParts yX4_readParts, Cond.code yX4_readParts cX4_readParts 5 none, Cond.methodLink RX4 194 yX3_isSameAs, Cond.instanceMethod yX3_isSameAs, Cond.selects RX3 yX3_isSameAs yX3_isSameAs, Cond.code yX3_isSameAs cX3_isSameAs 3 (some .boolean), Cond.methodLink RX3 19 yX3_at, Cond.instanceMethod yX3_at, Cond.selects RX3 yX3_at yX3_at]
def wsL_remove_r6 : List Cond := [Cond.code yX3_at cX3_at 2 (some .int), Cond.methodLink RX4 209 yX3_become, Cond.instanceMethod yX3_become, Cond.selects RX3 yX3_become yX3_become, Cond.code yX3_become cX3_become 3 none, Cond.methodLink RX3 23 yX3_add, Cond.methodLink RX4 213 yX4_letFall, Cond.instanceMethod yX4_letFall, Cond.selects RX4 yX4_letFall yX4_letFall, Cond.code yX4_letFall cX4_letFall 5 (some .int), Cond.fieldLink RX4 39 "Readingorder" "given" "[LReadingorder$Approval;", Cond.fieldLink RX4 181 "Readingorder$Approval" "holds" "Z", Cond.methodLink RX4 184 yX0_holdsFor, Cond.instanceMethod yX0_holdsFor, Cond.selects RX0 yX0_holdsFor yX0_holdsFor, Cond.initialized RX0, Cond.code yX0_holdsFor cX0_holdsFor 2 (some .boolean), Cond.fieldLink RX0 7 "Readingorder$Approval" "holds" "Z", Cond.fieldLink RX0 17 "Readingorder$Approval" "page" "I"]
def wsL_remove : List Cond := .codeWith yL_remove cL_remove 4 (some .int) [(0, 9, 12, 13)] :: ((wsL_remove_r1 ++ (wsL_remove_r2 ++ (wsL_remove_r3 ++ (wsL_remove_r4 ++ (wsL_remove_r5 ++ wsL_remove_r6))))) ++ wsX10 ++ wsX40 ++ wsX30 ++ wsX00 ++ (vx_atS RX4 146 "java/lang/IndexOutOfBoundsException" ["java/lang/RuntimeException", "java/lang/Exception"]).filter goodWord)
def wsL_tie_r1 : List Cond := [Cond.classLink RL 13 "java/lang/IndexOutOfBoundsException", Cond.classLink RL 15 "java/lang/IllegalArgumentException", Cond.classLink RL 17 "java/lang/IllegalStateException", Cond.methodLink RL 30 yX4_tie, Cond.instanceMethod yX4_tie, Cond.selects RX4 yX4_tie yX4_tie, Cond.initialized RX4, Cond.code yX4_tie cX4_tie 5 (some .int), Cond.classLink RX4 50 "java/lang/IllegalArgumentException", Cond.initialized "java/lang/IllegalArgumentException", Cond.classLink RX4 61 "java/lang/IllegalStateException", Cond.initialized "java/lang/IllegalStateException", Cond.fieldLink RX4 89 "Readingorder$Box" "page" "I", Cond.fieldLink RX4 104 "Readingorder$Box" "follower" "LReadingorder$Box;", Cond.fieldLink RX4 108 "Readingorder$Box" "leader" "LReadingorder$Box;", Cond.methodLink RX4 73 yX4_presentBox, Cond.instanceMethod yX4_presentBox, Cond.selects RX4 yX4_presentBox yX4_presentBox, Cond.code yX4_presentBox cX4_presentBox 3 (some (.object "Readingorder$Box")), Cond.classLink RX4 142 "java/lang/IndexOutOfBoundsException", Cond.initialized "java/lang/IndexOutOfBoundsException", Cond.fieldLink RX4 98 "Readingorder$Box" "gone" "Z", Cond.methodLink RX4 139 yX4_madeBox, Cond.instanceMethod yX4_madeBox]
def wsL_tie_r2 : List Cond := [Cond.selects RX4 yX4_madeBox yX4_madeBox, Cond.code yX4_madeBox cX4_madeBox 2 (some (.object "Readingorder$Box")), Cond.fieldLink RX4 11 "Readingorder" "made" "[LReadingorder$Box;", Cond.methodLink RX4 111 yX1_comesBehind, Cond.instanceMethod yX1_comesBehind, Cond.selects RX1 yX1_comesBehind yX1_comesBehind, Cond.initialized RX1, Cond.code yX1_comesBehind cX1_comesBehind 3 (some .boolean), Cond.fieldLink RX1 15 "Readingorder$Box" "leader" "LReadingorder$Box;", Cond.methodLink RX4 69 yX4_readAgain, Cond.instanceMethod yX4_readAgain, Cond.selects RX4 yX4_readAgain yX4_readAgain, Cond.code yX4_readAgain cX4_readAgain 3 (some .int), Cond.fieldLink RX4 26 "Readingorder" "trial" "LReadingorder$Reading;", Cond.methodLink RX4 46 yX4_readingOf, Cond.instanceMethod yX4_readingOf, Cond.selects RX4 yX4_readingOf yX4_readingOf, Cond.code yX4_readingOf cX4_readingOf 3 (some (.object "Readingorder$Reading")), Cond.fieldLink RX4 21 "Readingorder" "readings" "[LReadingorder$Reading;", Cond.methodLink RX4 191 yX4_readByCuts, Cond.instanceMethod yX4_readByCuts, Cond.selects RX4 yX4_readByCuts yX4_readByCuts, Cond.code yX4_readByCuts cX4_readByCuts 3 none, Cond.fieldLink RX4 136 "Readingorder$Reading" "length" "I"]
def wsL_tie_r3 : List Cond := [Cond.methodLink RX4 216 yX4_boxesThatFollowNone, Cond.instanceMethod yX4_boxesThatFollowNone, Cond.selects RX4 yX4_boxesThatFollowNone yX4_boxesThatFollowNone, Cond.code yX4_boxesThatFollowNone cX4_boxesThatFollowNone 5 (some .int), Cond.fieldLink RX4 15 "Readingorder" "madeCount" "I", Cond.methodLink RX4 219 yX4_readSet, Cond.instanceMethod yX4_readSet, Cond.selects RX4 yX4_readSet yX4_readSet, Cond.code yX4_readSet cX4_readSet 5 none, Cond.methodLink RX4 223 yX4_cutOff, Cond.instanceMethod yX4_cutOff, Cond.selects RX4 yX4_cutOff yX4_cutOff, Cond.code yX4_cutOff cX4_cutOff 4 (some .int), Cond.methodLink RX4 240 yX4_leastCut, Cond.instanceMethod yX4_leastCut, Cond.selects RX4 yX4_leastCut yX4_leastCut, Cond.code yX4_leastCut cX4_leastCut 8 (some .int), Cond.methodLink RX4 256 Lib.Math.min.name, Cond.static Lib.Math.min.name, Cond.initialized "java/lang/Math", Cond.code Lib.Math.min.name Lib.Math.min.code 2 (some .int), Cond.methodLink RX4 248 yX4_boxOfSet, Cond.instanceMethod yX4_boxOfSet, Cond.selects RX4 yX4_boxOfSet yX4_boxOfSet]
def wsL_tie_r4 : List Cond := [Cond.code yX4_boxOfSet cX4_boxOfSet 4 (some (.object "Readingorder$Box")), Cond.methodLink RX4 252 yX1_end, Cond.instanceMethod yX1_end, Cond.selects RX1 yX1_end yX1_end, Cond.code yX1_end cX1_end 2 (some .int), Cond.fieldLink RX1 32 "Readingorder$Box" "top" "I", Cond.fieldLink RX1 38 "Readingorder$Box" "height" "I", Cond.fieldLink RX1 29 "Readingorder$Box" "left" "I", Cond.fieldLink RX1 35 "Readingorder$Box" "width" "I", Cond.methodLink RX4 260 yX1_begin, Cond.instanceMethod yX1_begin, Cond.selects RX1 yX1_begin yX1_begin, Cond.code yX1_begin cX1_begin 2 (some .int), Cond.methodLink RX4 244 yX4_endedBy, Cond.instanceMethod yX4_endedBy, Cond.selects RX4 yX4_endedBy yX4_endedBy, Cond.code yX4_endedBy cX4_endedBy 7 (some .int), Cond.methodLink RX4 226 yX4_readUncut, Cond.instanceMethod yX4_readUncut, Cond.selects RX4 yX4_readUncut yX4_readUncut, Cond.code yX4_readUncut cX4_readUncut 7 none, Cond.fieldLink RX4 130 "Readingorder$Box" "number" "I", Cond.methodLink RX4 263 yX4_firstByEdges, Cond.instanceMethod yX4_firstByEdges]
def wsL_tie_r5 : List Cond := [Cond.selects RX4 yX4_firstByEdges yX4_firstByEdges, Cond.code yX4_firstByEdges cX4_firstByEdges 5 (some (.object "Readingorder$Box")), Cond.methodLink RX4 269 yX1_isAheadByEdges, Cond.instanceMethod yX1_isAheadByEdges, Cond.selects RX1 yX1_isAheadByEdges yX1_isAheadByEdges, Cond.code yX1_isAheadByEdges cX1_isAheadByEdges 2 (some .boolean), Cond.fieldLink RX1 22 "Readingorder$Box" "number" "I", Cond.methodLink RX4 266 yX3_add, Cond.instanceMethod yX3_add, Cond.selects RX3 yX3_add yX3_add, Cond.initialized RX3, Cond.code yX3_add cX3_add 2 none, Cond.fieldLink RX3 15 "Readingorder$Reading" "length" "I", Cond.fieldLink RX3 9 "Readingorder$Reading" "numbers" "[I", Cond.methodLink RX4 229 yX4_readParts, Cond.instanceMethod yX4_readParts, Cond.selects RX4 yX4_readParts yX4_readParts, Cond.code yX4_readParts cX4_readParts 5 none, Cond.methodLink RX4 194 yX3_isSameAs, Cond.instanceMethod yX3_isSameAs, Cond.selects RX3 yX3_isSameAs yX3_isSameAs, Cond.code yX3_isSameAs cX3_isSameAs 3 (some .boolean), Cond.methodLink RX3 19 yX3_at, Cond.instanceMethod yX3_at]
def wsL_tie_r6 : List Cond := [Cond.selects RX3 yX3_at yX3_at, Cond.code yX3_at cX3_at 2 (some .int), Cond.methodLink RX4 209 yX3_become, Cond.instanceMethod yX3_become, Cond.selects RX3 yX3_become yX3_become, Cond.code yX3_become cX3_become 3 none, Cond.methodLink RX3 23 yX3_add, Cond.methodLink RX4 213 yX4_letFall, Cond.instanceMethod yX4_letFall, Cond.selects RX4 yX4_letFall yX4_letFall, Cond.code yX4_letFall cX4_letFall 5 (some .int), Cond.fieldLink RX4 39 "Readingorder" "given" "[LReadingorder$Approval;", Cond.fieldLink RX4 181 "Readingorder$Approval" "holds" "Z", Cond.methodLink RX4 184 yX0_holdsFor, Cond.instanceMethod yX0_holdsFor, Cond.selects RX0 yX0_holdsFor yX0_holdsFor, Cond.initialized RX0, Cond.code yX0_holdsFor cX0_holdsFor 2 (some .boolean), Cond.fieldLink RX0 7 "Readingorder$Approval" "holds" "Z", Cond.fieldLink RX0 17 "Readingorder$Approval" "page" "I"]
def wsL_tie : List Cond := .codeWith yL_tie cL_tie 5 (some .int) [(0, 10, 13, 13), (0, 10, 17, 15), (0, 10, 21, 17)] :: ((wsL_tie_r1 ++ (wsL_tie_r2 ++ (wsL_tie_r3 ++ (wsL_tie_r4 ++ (wsL_tie_r5 ++ wsL_tie_r6))))) ++ wsX10 ++ wsX40 ++ wsX30 ++ wsX00 ++ (vx_atS RX4 54 "java/lang/IllegalArgumentException" ["java/lang/RuntimeException", "java/lang/Exception"]).filter goodWord ++ (vx_atS RX4 65 "java/lang/IllegalStateException" ["java/lang/RuntimeException", "java/lang/Exception"]).filter goodWord ++ (vx_atS RX4 146 "java/lang/IndexOutOfBoundsException" ["java/lang/RuntimeException", "java/lang/Exception"]).filter goodWord)
def wsL_untie_r1 : List Cond := [Cond.classLink RL 13 "java/lang/IndexOutOfBoundsException", Cond.classLink RL 17 "java/lang/IllegalStateException", Cond.methodLink RL 34 yX4_untie, Cond.instanceMethod yX4_untie, Cond.selects RX4 yX4_untie yX4_untie, Cond.initialized RX4, Cond.code yX4_untie cX4_untie 3 (some .int), Cond.classLink RX4 61 "java/lang/IllegalStateException", Cond.initialized "java/lang/IllegalStateException", Cond.fieldLink RX4 108 "Readingorder$Box" "leader" "LReadingorder$Box;", Cond.fieldLink RX4 89 "Readingorder$Box" "page" "I", Cond.methodLink RX4 73 yX4_presentBox, Cond.instanceMethod yX4_presentBox, Cond.selects RX4 yX4_presentBox yX4_presentBox, Cond.code yX4_presentBox cX4_presentBox 3 (some (.object "Readingorder$Box")), Cond.classLink RX4 142 "java/lang/IndexOutOfBoundsException", Cond.initialized "java/lang/IndexOutOfBoundsException", Cond.fieldLink RX4 98 "Readingorder$Box" "gone" "Z", Cond.methodLink RX4 139 yX4_madeBox, Cond.instanceMethod yX4_madeBox, Cond.selects RX4 yX4_madeBox yX4_madeBox, Cond.code yX4_madeBox cX4_madeBox 2 (some (.object "Readingorder$Box")), Cond.fieldLink RX4 11 "Readingorder" "made" "[LReadingorder$Box;", Cond.methodLink RX4 92 yX1_loosenFromLeader]
def wsL_untie_r2 : List Cond := [Cond.instanceMethod yX1_loosenFromLeader, Cond.selects RX1 yX1_loosenFromLeader yX1_loosenFromLeader, Cond.initialized RX1, Cond.code yX1_loosenFromLeader cX1_loosenFromLeader 1 none, Cond.fieldLink RX1 15 "Readingorder$Box" "leader" "LReadingorder$Box;", Cond.fieldLink RX1 19 "Readingorder$Box" "follower" "LReadingorder$Box;", Cond.methodLink RX4 69 yX4_readAgain, Cond.instanceMethod yX4_readAgain, Cond.selects RX4 yX4_readAgain yX4_readAgain, Cond.code yX4_readAgain cX4_readAgain 3 (some .int), Cond.fieldLink RX4 26 "Readingorder" "trial" "LReadingorder$Reading;", Cond.methodLink RX4 46 yX4_readingOf, Cond.instanceMethod yX4_readingOf, Cond.selects RX4 yX4_readingOf yX4_readingOf, Cond.code yX4_readingOf cX4_readingOf 3 (some (.object "Readingorder$Reading")), Cond.fieldLink RX4 21 "Readingorder" "readings" "[LReadingorder$Reading;", Cond.methodLink RX4 191 yX4_readByCuts, Cond.instanceMethod yX4_readByCuts, Cond.selects RX4 yX4_readByCuts yX4_readByCuts, Cond.code yX4_readByCuts cX4_readByCuts 3 none, Cond.fieldLink RX4 136 "Readingorder$Reading" "length" "I", Cond.methodLink RX4 216 yX4_boxesThatFollowNone, Cond.instanceMethod yX4_boxesThatFollowNone, Cond.selects RX4 yX4_boxesThatFollowNone yX4_boxesThatFollowNone]
def wsL_untie_r3 : List Cond := [Cond.code yX4_boxesThatFollowNone cX4_boxesThatFollowNone 5 (some .int), Cond.fieldLink RX4 15 "Readingorder" "madeCount" "I", Cond.methodLink RX4 219 yX4_readSet, Cond.instanceMethod yX4_readSet, Cond.selects RX4 yX4_readSet yX4_readSet, Cond.code yX4_readSet cX4_readSet 5 none, Cond.methodLink RX4 223 yX4_cutOff, Cond.instanceMethod yX4_cutOff, Cond.selects RX4 yX4_cutOff yX4_cutOff, Cond.code yX4_cutOff cX4_cutOff 4 (some .int), Cond.methodLink RX4 240 yX4_leastCut, Cond.instanceMethod yX4_leastCut, Cond.selects RX4 yX4_leastCut yX4_leastCut, Cond.code yX4_leastCut cX4_leastCut 8 (some .int), Cond.methodLink RX4 256 Lib.Math.min.name, Cond.static Lib.Math.min.name, Cond.initialized "java/lang/Math", Cond.code Lib.Math.min.name Lib.Math.min.code 2 (some .int), Cond.methodLink RX4 248 yX4_boxOfSet, Cond.instanceMethod yX4_boxOfSet, Cond.selects RX4 yX4_boxOfSet yX4_boxOfSet, Cond.code yX4_boxOfSet cX4_boxOfSet 4 (some (.object "Readingorder$Box")), Cond.methodLink RX4 252 yX1_end, Cond.instanceMethod yX1_end]
def wsL_untie_r4 : List Cond := [Cond.selects RX1 yX1_end yX1_end, Cond.code yX1_end cX1_end 2 (some .int), Cond.fieldLink RX1 32 "Readingorder$Box" "top" "I", Cond.fieldLink RX1 38 "Readingorder$Box" "height" "I", Cond.fieldLink RX1 29 "Readingorder$Box" "left" "I", Cond.fieldLink RX1 35 "Readingorder$Box" "width" "I", Cond.methodLink RX4 260 yX1_begin, Cond.instanceMethod yX1_begin, Cond.selects RX1 yX1_begin yX1_begin, Cond.code yX1_begin cX1_begin 2 (some .int), Cond.methodLink RX4 244 yX4_endedBy, Cond.instanceMethod yX4_endedBy, Cond.selects RX4 yX4_endedBy yX4_endedBy, Cond.code yX4_endedBy cX4_endedBy 7 (some .int), Cond.methodLink RX4 226 yX4_readUncut, Cond.instanceMethod yX4_readUncut, Cond.selects RX4 yX4_readUncut yX4_readUncut, Cond.code yX4_readUncut cX4_readUncut 7 none, Cond.fieldLink RX4 130 "Readingorder$Box" "number" "I", Cond.fieldLink RX4 104 "Readingorder$Box" "follower" "LReadingorder$Box;", Cond.methodLink RX4 263 yX4_firstByEdges, Cond.instanceMethod yX4_firstByEdges, Cond.selects RX4 yX4_firstByEdges yX4_firstByEdges, Cond.code yX4_firstByEdges cX4_firstByEdges 5 (some (.object "Readingorder$Box"))]
def wsL_untie_r5 : List Cond := [Cond.methodLink RX4 269 yX1_isAheadByEdges, Cond.instanceMethod yX1_isAheadByEdges, Cond.selects RX1 yX1_isAheadByEdges yX1_isAheadByEdges, Cond.code yX1_isAheadByEdges cX1_isAheadByEdges 2 (some .boolean), Cond.fieldLink RX1 22 "Readingorder$Box" "number" "I", Cond.methodLink RX4 266 yX3_add, Cond.instanceMethod yX3_add, Cond.selects RX3 yX3_add yX3_add, Cond.initialized RX3, Cond.code yX3_add cX3_add 2 none, Cond.fieldLink RX3 15 "Readingorder$Reading" "length" "I", Cond.fieldLink RX3 9 "Readingorder$Reading" "numbers" "[I", Cond.methodLink RX4 229 yX4_readParts, Cond.instanceMethod yX4_readParts, Cond.selects RX4 yX4_readParts yX4_readParts, Cond.code yX4_readParts cX4_readParts 5 none, Cond.methodLink RX4 194 yX3_isSameAs, Cond.instanceMethod yX3_isSameAs, Cond.selects RX3 yX3_isSameAs yX3_isSameAs, Cond.code yX3_isSameAs cX3_isSameAs 3 (some .boolean), Cond.methodLink RX3 19 yX3_at, Cond.instanceMethod yX3_at, Cond.selects RX3 yX3_at yX3_at, Cond.code yX3_at cX3_at 2 (some .int)]
def wsL_untie_r6 : List Cond := [Cond.methodLink RX4 209 yX3_become, Cond.instanceMethod yX3_become, Cond.selects RX3 yX3_become yX3_become, Cond.code yX3_become cX3_become 3 none, Cond.methodLink RX3 23 yX3_add, Cond.methodLink RX4 213 yX4_letFall, Cond.instanceMethod yX4_letFall, Cond.selects RX4 yX4_letFall yX4_letFall, Cond.code yX4_letFall cX4_letFall 5 (some .int), Cond.fieldLink RX4 39 "Readingorder" "given" "[LReadingorder$Approval;", Cond.fieldLink RX4 181 "Readingorder$Approval" "holds" "Z", Cond.methodLink RX4 184 yX0_holdsFor, Cond.instanceMethod yX0_holdsFor, Cond.selects RX0 yX0_holdsFor yX0_holdsFor, Cond.initialized RX0, Cond.code yX0_holdsFor cX0_holdsFor 2 (some .boolean), Cond.fieldLink RX0 7 "Readingorder$Approval" "holds" "Z", Cond.fieldLink RX0 17 "Readingorder$Approval" "page" "I"]
def wsL_untie : List Cond := .codeWith yL_untie cL_untie 4 (some .int) [(0, 9, 12, 13), (0, 9, 15, 17)] :: ((wsL_untie_r1 ++ (wsL_untie_r2 ++ (wsL_untie_r3 ++ (wsL_untie_r4 ++ (wsL_untie_r5 ++ wsL_untie_r6))))) ++ wsX10 ++ wsX40 ++ wsX30 ++ wsX00 ++ (vx_atS RX4 65 "java/lang/IllegalStateException" ["java/lang/RuntimeException", "java/lang/Exception"]).filter goodWord ++ (vx_atS RX4 146 "java/lang/IndexOutOfBoundsException" ["java/lang/RuntimeException", "java/lang/Exception"]).filter goodWord)
def wsL_order : List Cond := .codeWith yL_order cL_order 5 (some .int) [(0, 10, 13, 13)] :: ([.classLink RL 13 "java/lang/IndexOutOfBoundsException", .methodLink RL 37 yX4_order, .instanceMethod yX4_order, .selects RX4 yX4_order yX4_order, .initialized RX4, .code yX4_order cX4_order 4 (some .int), .methodLink RX4 46 yX4_readingOf, .instanceMethod yX4_readingOf, .selects RX4 yX4_readingOf yX4_readingOf, .code yX4_readingOf cX4_readingOf 3 (some (.object "Readingorder$Reading")), .classLink RX4 142 "java/lang/IndexOutOfBoundsException", .initialized "java/lang/IndexOutOfBoundsException", .fieldLink RX4 21 "Readingorder" "readings" "[LReadingorder$Reading;", .methodLink RX4 119 yX4_checkPlace, .static yX4_checkPlace, .code yX4_checkPlace cX4_checkPlace 1 none, .methodLink RX4 123 yX3_at, .instanceMethod yX3_at, .selects RX3 yX3_at yX3_at, .initialized RX3, .code yX3_at cX3_at 2 (some .int), .fieldLink RX3 15 "Readingorder$Reading" "length" "I", .fieldLink RX3 9 "Readingorder$Reading" "numbers" "[I"] ++ wsX40 ++ wsX30 ++ (vx_atS RX4 146 "java/lang/IndexOutOfBoundsException" ["java/lang/RuntimeException", "java/lang/Exception"]).filter goodWord)
def wsL_orderAnew_r1 : List Cond := [Cond.classLink RL 13 "java/lang/IndexOutOfBoundsException", Cond.methodLink RL 40 yX4_orderAnew, Cond.instanceMethod yX4_orderAnew, Cond.selects RX4 yX4_orderAnew yX4_orderAnew, Cond.initialized RX4, Cond.code yX4_orderAnew cX4_orderAnew 3 (some .int), Cond.fieldLink RX4 26 "Readingorder" "trial" "LReadingorder$Reading;", Cond.methodLink RX4 46 yX4_readingOf, Cond.instanceMethod yX4_readingOf, Cond.selects RX4 yX4_readingOf yX4_readingOf, Cond.code yX4_readingOf cX4_readingOf 3 (some (.object "Readingorder$Reading")), Cond.classLink RX4 142 "java/lang/IndexOutOfBoundsException", Cond.initialized "java/lang/IndexOutOfBoundsException", Cond.fieldLink RX4 21 "Readingorder" "readings" "[LReadingorder$Reading;", Cond.methodLink RX4 119 yX4_checkPlace, Cond.static yX4_checkPlace, Cond.code yX4_checkPlace cX4_checkPlace 1 none, Cond.methodLink RX4 126 yX4_readWithSetsAside, Cond.instanceMethod yX4_readWithSetsAside, Cond.selects RX4 yX4_readWithSetsAside yX4_readWithSetsAside, Cond.code yX4_readWithSetsAside cX4_readWithSetsAside 6 none, Cond.fieldLink RX4 136 "Readingorder$Reading" "length" "I", Cond.fieldLink RX4 33 "Readingorder" "aside" "LReadingorder$Pile;", Cond.fieldLink RX4 233 "Readingorder$Pile" "height" "I"]
def wsL_orderAnew_r2 : List Cond := [Cond.methodLink RX4 216 yX4_boxesThatFollowNone, Cond.instanceMethod yX4_boxesThatFollowNone, Cond.selects RX4 yX4_boxesThatFollowNone yX4_boxesThatFollowNone, Cond.code yX4_boxesThatFollowNone cX4_boxesThatFollowNone 5 (some .int), Cond.fieldLink RX4 15 "Readingorder" "madeCount" "I", Cond.fieldLink RX4 98 "Readingorder$Box" "gone" "Z", Cond.fieldLink RX4 89 "Readingorder$Box" "page" "I", Cond.fieldLink RX4 108 "Readingorder$Box" "leader" "LReadingorder$Box;", Cond.methodLink RX4 139 yX4_madeBox, Cond.instanceMethod yX4_madeBox, Cond.selects RX4 yX4_madeBox yX4_madeBox, Cond.code yX4_madeBox cX4_madeBox 2 (some (.object "Readingorder$Box")), Cond.fieldLink RX4 11 "Readingorder" "made" "[LReadingorder$Box;", Cond.methodLink RX4 234 yX2_put, Cond.instanceMethod yX2_put, Cond.selects RX2 yX2_put yX2_put, Cond.initialized RX2, Cond.code yX2_put cX2_put 2 none, Cond.fieldLink RX2 15 "Readingorder$Pile" "height" "I", Cond.fieldLink RX2 9 "Readingorder$Pile" "sets" "[I", Cond.methodLink RX4 237 yX2_take, Cond.instanceMethod yX2_take, Cond.selects RX2 yX2_take yX2_take, Cond.code yX2_take cX2_take 2 (some .int)]
def wsL_orderAnew_r3 : List Cond := [Cond.methodLink RX4 223 yX4_cutOff, Cond.instanceMethod yX4_cutOff, Cond.selects RX4 yX4_cutOff yX4_cutOff, Cond.code yX4_cutOff cX4_cutOff 4 (some .int), Cond.methodLink RX4 240 yX4_leastCut, Cond.instanceMethod yX4_leastCut, Cond.selects RX4 yX4_leastCut yX4_leastCut, Cond.code yX4_leastCut cX4_leastCut 8 (some .int), Cond.methodLink RX4 256 Lib.Math.min.name, Cond.static Lib.Math.min.name, Cond.initialized "java/lang/Math", Cond.code Lib.Math.min.name Lib.Math.min.code 2 (some .int), Cond.methodLink RX4 248 yX4_boxOfSet, Cond.instanceMethod yX4_boxOfSet, Cond.selects RX4 yX4_boxOfSet yX4_boxOfSet, Cond.code yX4_boxOfSet cX4_boxOfSet 4 (some (.object "Readingorder$Box")), Cond.methodLink RX4 252 yX1_end, Cond.instanceMethod yX1_end, Cond.selects RX1 yX1_end yX1_end, Cond.initialized RX1, Cond.code yX1_end cX1_end 2 (some .int), Cond.fieldLink RX1 32 "Readingorder$Box" "top" "I", Cond.fieldLink RX1 38 "Readingorder$Box" "height" "I", Cond.fieldLink RX1 29 "Readingorder$Box" "left" "I"]
def wsL_orderAnew_r4 : List Cond := [Cond.fieldLink RX1 35 "Readingorder$Box" "width" "I", Cond.methodLink RX4 260 yX1_begin, Cond.instanceMethod yX1_begin, Cond.selects RX1 yX1_begin yX1_begin, Cond.code yX1_begin cX1_begin 2 (some .int), Cond.methodLink RX4 244 yX4_endedBy, Cond.instanceMethod yX4_endedBy, Cond.selects RX4 yX4_endedBy yX4_endedBy, Cond.code yX4_endedBy cX4_endedBy 7 (some .int), Cond.methodLink RX4 226 yX4_readUncut, Cond.instanceMethod yX4_readUncut, Cond.selects RX4 yX4_readUncut yX4_readUncut, Cond.code yX4_readUncut cX4_readUncut 7 none, Cond.fieldLink RX4 130 "Readingorder$Box" "number" "I", Cond.fieldLink RX4 104 "Readingorder$Box" "follower" "LReadingorder$Box;", Cond.methodLink RX4 263 yX4_firstByEdges, Cond.instanceMethod yX4_firstByEdges, Cond.selects RX4 yX4_firstByEdges yX4_firstByEdges, Cond.code yX4_firstByEdges cX4_firstByEdges 5 (some (.object "Readingorder$Box")), Cond.methodLink RX4 269 yX1_isAheadByEdges, Cond.instanceMethod yX1_isAheadByEdges, Cond.selects RX1 yX1_isAheadByEdges yX1_isAheadByEdges, Cond.code yX1_isAheadByEdges cX1_isAheadByEdges 2 (some .boolean), Cond.fieldLink RX1 22 "Readingorder$Box" "number" "I"]
def wsL_orderAnew_r5 : List Cond := [Cond.methodLink RX4 266 yX3_add, Cond.instanceMethod yX3_add, Cond.selects RX3 yX3_add yX3_add, Cond.initialized RX3, Cond.code yX3_add cX3_add 2 none, Cond.fieldLink RX3 15 "Readingorder$Reading" "length" "I", Cond.fieldLink RX3 9 "Readingorder$Reading" "numbers" "[I", Cond.methodLink RX4 123 yX3_at, Cond.instanceMethod yX3_at, Cond.selects RX3 yX3_at yX3_at, Cond.code yX3_at cX3_at 2 (some .int)]
def wsL_orderAnew : List Cond := .codeWith yL_orderAnew cL_orderAnew 5 (some .int) [(0, 10, 13, 13)] :: ((wsL_orderAnew_r1 ++ (wsL_orderAnew_r2 ++ (wsL_orderAnew_r3 ++ (wsL_orderAnew_r4 ++ wsL_orderAnew_r5)))) ++ wsX40 ++ wsX30 ++ wsX20 ++ wsX10 ++ (vx_atS RX4 146 "java/lang/IndexOutOfBoundsException" ["java/lang/RuntimeException", "java/lang/Exception"]).filter goodWord)
def wsL_placeOf_r1 : List Cond := [Cond.classLink RL 13 "java/lang/IndexOutOfBoundsException", Cond.methodLink RL 43 yX4_placeOf, Cond.instanceMethod yX4_placeOf, Cond.selects RX4 yX4_placeOf yX4_placeOf, Cond.initialized RX4, Cond.code yX4_placeOf cX4_placeOf 3 (some .int), Cond.fieldLink RX4 89 "Readingorder$Box" "page" "I", Cond.fieldLink RX4 130 "Readingorder$Box" "number" "I", Cond.methodLink RX4 73 yX4_presentBox, Cond.instanceMethod yX4_presentBox, Cond.selects RX4 yX4_presentBox yX4_presentBox, Cond.code yX4_presentBox cX4_presentBox 3 (some (.object "Readingorder$Box")), Cond.classLink RX4 142 "java/lang/IndexOutOfBoundsException", Cond.initialized "java/lang/IndexOutOfBoundsException", Cond.fieldLink RX4 98 "Readingorder$Box" "gone" "Z", Cond.methodLink RX4 139 yX4_madeBox, Cond.instanceMethod yX4_madeBox, Cond.selects RX4 yX4_madeBox yX4_madeBox, Cond.code yX4_madeBox cX4_madeBox 2 (some (.object "Readingorder$Box")), Cond.fieldLink RX4 11 "Readingorder" "made" "[LReadingorder$Box;", Cond.methodLink RX4 46 yX4_readingOf, Cond.instanceMethod yX4_readingOf, Cond.selects RX4 yX4_readingOf yX4_readingOf, Cond.code yX4_readingOf cX4_readingOf 3 (some (.object "Readingorder$Reading"))]
def wsL_placeOf_r2 : List Cond := [Cond.fieldLink RX4 21 "Readingorder" "readings" "[LReadingorder$Reading;", Cond.methodLink RX4 133 yX3_placeFor, Cond.instanceMethod yX3_placeFor, Cond.selects RX3 yX3_placeFor yX3_placeFor, Cond.initialized RX3, Cond.code yX3_placeFor cX3_placeFor 3 (some .int), Cond.fieldLink RX3 15 "Readingorder$Reading" "length" "I", Cond.methodLink RX3 19 yX3_at, Cond.instanceMethod yX3_at, Cond.selects RX3 yX3_at yX3_at, Cond.code yX3_at cX3_at 2 (some .int), Cond.fieldLink RX3 9 "Readingorder$Reading" "numbers" "[I"]
def wsL_placeOf : List Cond := .codeWith yL_placeOf cL_placeOf 4 (some .int) [(0, 9, 12, 13)] :: ((wsL_placeOf_r1 ++ wsL_placeOf_r2) ++ wsX10 ++ wsX40 ++ wsX30 ++ (vx_atS RX4 146 "java/lang/IndexOutOfBoundsException" ["java/lang/RuntimeException", "java/lang/Exception"]).filter goodWord)
def wsL_boxes : List Cond := .codeWith yL_boxes cL_boxes 4 (some .int) [(0, 9, 12, 13)] :: ([.classLink RL 13 "java/lang/IndexOutOfBoundsException", .methodLink RL 46 yX4_boxes, .instanceMethod yX4_boxes, .selects RX4 yX4_boxes yX4_boxes, .initialized RX4, .code yX4_boxes cX4_boxes 2 (some .int), .fieldLink RX4 136 "Readingorder$Reading" "length" "I", .methodLink RX4 46 yX4_readingOf, .instanceMethod yX4_readingOf, .selects RX4 yX4_readingOf yX4_readingOf, .code yX4_readingOf cX4_readingOf 3 (some (.object "Readingorder$Reading")), .classLink RX4 142 "java/lang/IndexOutOfBoundsException", .initialized "java/lang/IndexOutOfBoundsException", .fieldLink RX4 21 "Readingorder" "readings" "[LReadingorder$Reading;"] ++ wsX30 ++ wsX40 ++ (vx_atS RX4 146 "java/lang/IndexOutOfBoundsException" ["java/lang/RuntimeException", "java/lang/Exception"]).filter goodWord)
def wsL_about_r1 : List Cond := [Cond.classLink RL 13 "java/lang/IndexOutOfBoundsException", Cond.classLink RL 15 "java/lang/IllegalArgumentException", Cond.methodLink RL 49 yX4_about, Cond.instanceMethod yX4_about, Cond.selects RX4 yX4_about yX4_about, Cond.initialized RX4, Cond.code yX4_about cX4_about 4 (some .int), Cond.classLink RX4 142 "java/lang/IndexOutOfBoundsException", Cond.initialized "java/lang/IndexOutOfBoundsException", Cond.classLink RX4 50 "java/lang/IllegalArgumentException", Cond.initialized "java/lang/IllegalArgumentException", Cond.fieldLink RX4 89 "Readingorder$Box" "page" "I", Cond.fieldLink RX4 83 "Readingorder$Box" "left" "I", Cond.fieldLink RX4 86 "Readingorder$Box" "top" "I", Cond.fieldLink RX4 77 "Readingorder$Box" "width" "I", Cond.fieldLink RX4 80 "Readingorder$Box" "height" "I", Cond.fieldLink RX4 147 "Readingorder$Box" "kind" "I", Cond.fieldLink RX4 108 "Readingorder$Box" "leader" "LReadingorder$Box;", Cond.fieldLink RX4 104 "Readingorder$Box" "follower" "LReadingorder$Box;", Cond.fieldLink RX4 98 "Readingorder$Box" "gone" "Z", Cond.methodLink RX4 139 yX4_madeBox, Cond.instanceMethod yX4_madeBox, Cond.selects RX4 yX4_madeBox yX4_madeBox, Cond.code yX4_madeBox cX4_madeBox 2 (some (.object "Readingorder$Box"))]
def wsL_about_r2 : List Cond := [Cond.fieldLink RX4 11 "Readingorder" "made" "[LReadingorder$Box;", Cond.methodLink RX4 150 yX4_numberOf, Cond.static yX4_numberOf, Cond.code yX4_numberOf cX4_numberOf 1 (some .int), Cond.fieldLink RX4 130 "Readingorder$Box" "number" "I"]
def wsL_about : List Cond := .codeWith yL_about cL_about 5 (some .int) [(0, 10, 13, 13), (0, 10, 17, 15)] :: ((wsL_about_r1 ++ wsL_about_r2) ++ wsX10 ++ wsX40 ++ (vx_atS RX4 146 "java/lang/IndexOutOfBoundsException" ["java/lang/RuntimeException", "java/lang/Exception"]).filter goodWord ++ (vx_atS RX4 54 "java/lang/IllegalArgumentException" ["java/lang/RuntimeException", "java/lang/Exception"]).filter goodWord)
def wsL_way_r1 : List Cond := [Cond.classLink RL 13 "java/lang/IndexOutOfBoundsException", Cond.methodLink RL 52 yX4_way, Cond.instanceMethod yX4_way, Cond.selects RX4 yX4_way yX4_way, Cond.initialized RX4, Cond.code yX4_way cX4_way 7 (some .int), Cond.fieldLink RX4 136 "Readingorder$Reading" "length" "I", Cond.methodLink RX4 160 Lib.Math.abs.name, Cond.static Lib.Math.abs.name, Cond.initialized "java/lang/Math", Cond.code Lib.Math.abs.name Lib.Math.abs.code 1 (some .int), Cond.methodLink RX4 46 yX4_readingOf, Cond.instanceMethod yX4_readingOf, Cond.selects RX4 yX4_readingOf yX4_readingOf, Cond.code yX4_readingOf cX4_readingOf 3 (some (.object "Readingorder$Reading")), Cond.classLink RX4 142 "java/lang/IndexOutOfBoundsException", Cond.initialized "java/lang/IndexOutOfBoundsException", Cond.fieldLink RX4 21 "Readingorder" "readings" "[LReadingorder$Reading;", Cond.methodLink RX4 123 yX3_at, Cond.instanceMethod yX3_at, Cond.selects RX3 yX3_at yX3_at, Cond.initialized RX3, Cond.code yX3_at cX3_at 2 (some .int), Cond.fieldLink RX3 15 "Readingorder$Reading" "length" "I"]
def wsL_way_r2 : List Cond := [Cond.fieldLink RX3 9 "Readingorder$Reading" "numbers" "[I", Cond.methodLink RX4 139 yX4_madeBox, Cond.instanceMethod yX4_madeBox, Cond.selects RX4 yX4_madeBox yX4_madeBox, Cond.code yX4_madeBox cX4_madeBox 2 (some (.object "Readingorder$Box")), Cond.fieldLink RX4 11 "Readingorder" "made" "[LReadingorder$Box;", Cond.methodLink RX4 156 yX1_middleAcross, Cond.instanceMethod yX1_middleAcross, Cond.selects RX1 yX1_middleAcross yX1_middleAcross, Cond.initialized RX1, Cond.code yX1_middleAcross cX1_middleAcross 1 (some .int), Cond.fieldLink RX1 29 "Readingorder$Box" "left" "I", Cond.fieldLink RX1 35 "Readingorder$Box" "width" "I", Cond.methodLink RX4 165 yX1_middleDown, Cond.instanceMethod yX1_middleDown, Cond.selects RX1 yX1_middleDown yX1_middleDown, Cond.code yX1_middleDown cX1_middleDown 1 (some .int), Cond.fieldLink RX1 32 "Readingorder$Box" "top" "I", Cond.fieldLink RX1 38 "Readingorder$Box" "height" "I"]
def wsL_way : List Cond := .codeWith yL_way cL_way 4 (some .int) [(0, 9, 12, 13)] :: ((wsL_way_r1 ++ wsL_way_r2) ++ wsX30 ++ wsX40 ++ wsX10 ++ (vx_atS RX4 146 "java/lang/IndexOutOfBoundsException" ["java/lang/RuntimeException", "java/lang/Exception"]).filter goodWord)
def wsL_faults_r1 : List Cond := [Cond.classLink RL 13 "java/lang/IndexOutOfBoundsException", Cond.methodLink RL 55 yX4_faults, Cond.instanceMethod yX4_faults, Cond.selects RX4 yX4_faults yX4_faults, Cond.initialized RX4, Cond.code yX4_faults cX4_faults 4 (some .int), Cond.fieldLink RX4 89 "Readingorder$Box" "page" "I", Cond.fieldLink RX4 130 "Readingorder$Box" "number" "I", Cond.methodLink RX4 73 yX4_presentBox, Cond.instanceMethod yX4_presentBox, Cond.selects RX4 yX4_presentBox yX4_presentBox, Cond.code yX4_presentBox cX4_presentBox 3 (some (.object "Readingorder$Box")), Cond.classLink RX4 142 "java/lang/IndexOutOfBoundsException", Cond.initialized "java/lang/IndexOutOfBoundsException", Cond.fieldLink RX4 98 "Readingorder$Box" "gone" "Z", Cond.methodLink RX4 139 yX4_madeBox, Cond.instanceMethod yX4_madeBox, Cond.selects RX4 yX4_madeBox yX4_madeBox, Cond.code yX4_madeBox cX4_madeBox 2 (some (.object "Readingorder$Box")), Cond.fieldLink RX4 11 "Readingorder" "made" "[LReadingorder$Box;", Cond.methodLink RX4 46 yX4_readingOf, Cond.instanceMethod yX4_readingOf, Cond.selects RX4 yX4_readingOf yX4_readingOf, Cond.code yX4_readingOf cX4_readingOf 3 (some (.object "Readingorder$Reading"))]
def wsL_faults_r2 : List Cond := [Cond.fieldLink RX4 21 "Readingorder" "readings" "[LReadingorder$Reading;", Cond.methodLink RX4 133 yX3_placeFor, Cond.instanceMethod yX3_placeFor, Cond.selects RX3 yX3_placeFor yX3_placeFor, Cond.initialized RX3, Cond.code yX3_placeFor cX3_placeFor 3 (some .int), Cond.fieldLink RX3 15 "Readingorder$Reading" "length" "I", Cond.methodLink RX3 19 yX3_at, Cond.instanceMethod yX3_at, Cond.selects RX3 yX3_at yX3_at, Cond.code yX3_at cX3_at 2 (some .int), Cond.fieldLink RX3 9 "Readingorder$Reading" "numbers" "[I", Cond.methodLink RX4 168 yX4_faultsAt, Cond.instanceMethod yX4_faultsAt, Cond.selects RX4 yX4_faultsAt yX4_faultsAt, Cond.code yX4_faultsAt cX4_faultsAt 7 (some .int), Cond.fieldLink RX4 147 "Readingorder$Box" "kind" "I", Cond.fieldLink RX4 86 "Readingorder$Box" "top" "I", Cond.methodLink RX4 123 yX3_at, Cond.methodLink RX4 272 yX1_isHead, Cond.instanceMethod yX1_isHead, Cond.selects RX1 yX1_isHead yX1_isHead, Cond.initialized RX1, Cond.code yX1_isHead cX1_isHead 1 (some .boolean)]
def wsL_faults_r3 : List Cond := [Cond.fieldLink RX1 41 "Readingorder$Box" "kind" "I", Cond.methodLink RX4 276 yX1_level, Cond.instanceMethod yX1_level, Cond.selects RX1 yX1_level yX1_level, Cond.code yX1_level cX1_level 1 (some .int), Cond.methodLink RX4 279 yX4_levelAhead, Cond.instanceMethod yX4_levelAhead, Cond.selects RX4 yX4_levelAhead yX4_levelAhead, Cond.code yX4_levelAhead cX4_levelAhead 5 (some .int), Cond.methodLink RX4 282 yX4_isOfKind, Cond.static yX4_isOfKind, Cond.code yX4_isOfKind cX4_isOfKind 2 (some .boolean), Cond.methodLink RX4 286 yX4_overlapsAny, Cond.instanceMethod yX4_overlapsAny, Cond.selects RX4 yX4_overlapsAny yX4_overlapsAny, Cond.code yX4_overlapsAny cX4_overlapsAny 5 (some .boolean), Cond.fieldLink RX4 136 "Readingorder$Reading" "length" "I", Cond.methodLink RX4 293 yX1_overlaps, Cond.instanceMethod yX1_overlaps, Cond.selects RX1 yX1_overlaps yX1_overlaps, Cond.code yX1_overlaps cX1_overlaps 2 (some .boolean), Cond.fieldLink RX1 29 "Readingorder$Box" "left" "I", Cond.fieldLink RX1 35 "Readingorder$Box" "width" "I", Cond.fieldLink RX1 32 "Readingorder$Box" "top" "I"]
def wsL_faults_r4 : List Cond := [Cond.methodLink RX1 44 yX1_bottom, Cond.instanceMethod yX1_bottom, Cond.selects RX1 yX1_bottom yX1_bottom, Cond.code yX1_bottom cX1_bottom 1 (some .int), Cond.fieldLink RX1 38 "Readingorder$Box" "height" "I", Cond.methodLink RX4 290 yX1_bottom]
def wsL_faults : List Cond := .codeWith yL_faults cL_faults 4 (some .int) [(0, 9, 12, 13)] :: ((wsL_faults_r1 ++ (wsL_faults_r2 ++ (wsL_faults_r3 ++ wsL_faults_r4))) ++ wsX10 ++ wsX40 ++ wsX30 ++ (vx_atS RX4 146 "java/lang/IndexOutOfBoundsException" ["java/lang/RuntimeException", "java/lang/Exception"]).filter goodWord)
def wsL_faulty_r1 : List Cond := [Cond.classLink RL 13 "java/lang/IndexOutOfBoundsException", Cond.methodLink RL 58 yX4_faulty, Cond.instanceMethod yX4_faulty, Cond.selects RX4 yX4_faulty yX4_faulty, Cond.initialized RX4, Cond.code yX4_faulty cX4_faulty 5 (some .int), Cond.fieldLink RX4 136 "Readingorder$Reading" "length" "I", Cond.methodLink RX4 46 yX4_readingOf, Cond.instanceMethod yX4_readingOf, Cond.selects RX4 yX4_readingOf yX4_readingOf, Cond.code yX4_readingOf cX4_readingOf 3 (some (.object "Readingorder$Reading")), Cond.classLink RX4 142 "java/lang/IndexOutOfBoundsException", Cond.initialized "java/lang/IndexOutOfBoundsException", Cond.fieldLink RX4 21 "Readingorder" "readings" "[LReadingorder$Reading;", Cond.methodLink RX4 168 yX4_faultsAt, Cond.instanceMethod yX4_faultsAt, Cond.selects RX4 yX4_faultsAt yX4_faultsAt, Cond.code yX4_faultsAt cX4_faultsAt 7 (some .int), Cond.fieldLink RX4 147 "Readingorder$Box" "kind" "I", Cond.fieldLink RX4 86 "Readingorder$Box" "top" "I", Cond.methodLink RX4 123 yX3_at, Cond.instanceMethod yX3_at, Cond.selects RX3 yX3_at yX3_at, Cond.initialized RX3]
def wsL_faulty_r2 : List Cond := [Cond.code yX3_at cX3_at 2 (some .int), Cond.fieldLink RX3 15 "Readingorder$Reading" "length" "I", Cond.fieldLink RX3 9 "Readingorder$Reading" "numbers" "[I", Cond.methodLink RX4 139 yX4_madeBox, Cond.instanceMethod yX4_madeBox, Cond.selects RX4 yX4_madeBox yX4_madeBox, Cond.code yX4_madeBox cX4_madeBox 2 (some (.object "Readingorder$Box")), Cond.fieldLink RX4 11 "Readingorder" "made" "[LReadingorder$Box;", Cond.methodLink RX4 272 yX1_isHead, Cond.instanceMethod yX1_isHead, Cond.selects RX1 yX1_isHead yX1_isHead, Cond.initialized RX1, Cond.code yX1_isHead cX1_isHead 1 (some .boolean), Cond.fieldLink RX1 41 "Readingorder$Box" "kind" "I", Cond.methodLink RX4 276 yX1_level, Cond.instanceMethod yX1_level, Cond.selects RX1 yX1_level yX1_level, Cond.code yX1_level cX1_level 1 (some .int), Cond.methodLink RX4 279 yX4_levelAhead, Cond.instanceMethod yX4_levelAhead, Cond.selects RX4 yX4_levelAhead yX4_levelAhead, Cond.code yX4_levelAhead cX4_levelAhead 5 (some .int), Cond.methodLink RX4 282 yX4_isOfKind, Cond.static yX4_isOfKind]
def wsL_faulty_r3 : List Cond := [Cond.code yX4_isOfKind cX4_isOfKind 2 (some .boolean), Cond.methodLink RX4 286 yX4_overlapsAny, Cond.instanceMethod yX4_overlapsAny, Cond.selects RX4 yX4_overlapsAny yX4_overlapsAny, Cond.code yX4_overlapsAny cX4_overlapsAny 5 (some .boolean), Cond.methodLink RX4 293 yX1_overlaps, Cond.instanceMethod yX1_overlaps, Cond.selects RX1 yX1_overlaps yX1_overlaps, Cond.code yX1_overlaps cX1_overlaps 2 (some .boolean), Cond.fieldLink RX1 29 "Readingorder$Box" "left" "I", Cond.fieldLink RX1 35 "Readingorder$Box" "width" "I", Cond.fieldLink RX1 32 "Readingorder$Box" "top" "I", Cond.methodLink RX1 44 yX1_bottom, Cond.instanceMethod yX1_bottom, Cond.selects RX1 yX1_bottom yX1_bottom, Cond.code yX1_bottom cX1_bottom 1 (some .int), Cond.fieldLink RX1 38 "Readingorder$Box" "height" "I", Cond.methodLink RX4 290 yX1_bottom]
def wsL_faulty : List Cond := .codeWith yL_faulty cL_faulty 4 (some .int) [(0, 9, 12, 13)] :: ((wsL_faulty_r1 ++ (wsL_faulty_r2 ++ wsL_faulty_r3)) ++ wsX30 ++ wsX40 ++ wsX10 ++ (vx_atS RX4 146 "java/lang/IndexOutOfBoundsException" ["java/lang/RuntimeException", "java/lang/Exception"]).filter goodWord)
def wsL_approve_r1 : List Cond := [Cond.classLink RL 13 "java/lang/IndexOutOfBoundsException", Cond.classLink RL 17 "java/lang/IllegalStateException", Cond.methodLink RL 61 yX4_approve, Cond.instanceMethod yX4_approve, Cond.selects RX4 yX4_approve yX4_approve, Cond.initialized RX4, Cond.code yX4_approve cX4_approve 5 (some .int), Cond.classLink RX4 142 "java/lang/IndexOutOfBoundsException", Cond.initialized "java/lang/IndexOutOfBoundsException", Cond.classLink RX4 61 "java/lang/IllegalStateException", Cond.initialized "java/lang/IllegalStateException", Cond.fieldLink RX4 43 "Readingorder" "givenCount" "I", Cond.fieldLink RX4 136 "Readingorder$Reading" "length" "I", Cond.fieldLink RX4 39 "Readingorder" "given" "[LReadingorder$Approval;", Cond.classLink RX4 37 RX0, Cond.instantiable RX0 3, Cond.initialized RX0, Cond.methodLink RX4 46 yX4_readingOf, Cond.instanceMethod yX4_readingOf, Cond.selects RX4 yX4_readingOf yX4_readingOf, Cond.code yX4_readingOf cX4_readingOf 3 (some (.object "Readingorder$Reading")), Cond.fieldLink RX4 21 "Readingorder" "readings" "[LReadingorder$Reading;", Cond.methodLink RX4 176 yX0_init, Cond.instanceMethod yX0_init]
def wsL_approve_r2 : List Cond := [Cond.code yX0_init cX0_init 3 none, Cond.methodLink RX0 1 objectInit, Cond.instanceMethod objectInit, Cond.code objectInit ⟨#[0xb1]⟩ 1 none, Cond.fieldLink RX0 7 "Readingorder$Approval" "holds" "Z", Cond.fieldLink RX0 13 "Readingorder$Approval" "person" "I", Cond.fieldLink RX0 17 "Readingorder$Approval" "page" "I"]
def wsL_approve : List Cond := .codeWith yL_approve cL_approve 5 (some .int) [(0, 10, 13, 13), (0, 10, 17, 17)] :: ((wsL_approve_r1 ++ wsL_approve_r2) ++ wsX40 ++ wsX30 ++ wsX00 ++ (vx_atS RX4 146 "java/lang/IndexOutOfBoundsException" ["java/lang/RuntimeException", "java/lang/Exception"]).filter goodWord ++ (vx_atS RX4 65 "java/lang/IllegalStateException" ["java/lang/RuntimeException", "java/lang/Exception"]).filter goodWord)
def wsL_stands : List Cond := .codeWith yL_stands cL_stands 4 (some .int) [(0, 16, 19, 13)] :: ([.classLink RL 13 "java/lang/IndexOutOfBoundsException", .methodLink RL 64 yX4_stands, .instanceMethod yX4_stands, .selects RX4 yX4_stands yX4_stands, .initialized RX4, .code yX4_stands cX4_stands 3 (some .boolean), .classLink RX4 142 "java/lang/IndexOutOfBoundsException", .initialized "java/lang/IndexOutOfBoundsException", .fieldLink RX4 39 "Readingorder" "given" "[LReadingorder$Approval;", .fieldLink RX4 181 "Readingorder$Approval" "holds" "Z"] ++ wsX40 ++ wsX00 ++ (vx_atS RX4 146 "java/lang/IndexOutOfBoundsException" ["java/lang/RuntimeException", "java/lang/Exception"]).filter goodWord)
def wsL_approvers : List Cond := .codeWith yL_approvers cL_approvers 4 (some .int) [(0, 9, 12, 13)] :: ([.classLink RL 13 "java/lang/IndexOutOfBoundsException", .methodLink RL 68 yX4_approvers, .instanceMethod yX4_approvers, .selects RX4 yX4_approvers yX4_approvers, .initialized RX4, .code yX4_approvers cX4_approvers 5 (some .int), .fieldLink RX4 39 "Readingorder" "given" "[LReadingorder$Approval;", .fieldLink RX4 188 "Readingorder$Approval" "person" "I", .methodLink RX4 46 yX4_readingOf, .instanceMethod yX4_readingOf, .selects RX4 yX4_readingOf yX4_readingOf, .code yX4_readingOf cX4_readingOf 3 (some (.object "Readingorder$Reading")), .classLink RX4 142 "java/lang/IndexOutOfBoundsException", .initialized "java/lang/IndexOutOfBoundsException", .fieldLink RX4 21 "Readingorder" "readings" "[LReadingorder$Reading;", .methodLink RX4 184 yX0_holdsFor, .instanceMethod yX0_holdsFor, .selects RX0 yX0_holdsFor yX0_holdsFor, .initialized RX0, .code yX0_holdsFor cX0_holdsFor 2 (some .boolean), .fieldLink RX0 7 "Readingorder$Approval" "holds" "Z", .fieldLink RX0 17 "Readingorder$Approval" "page" "I"] ++ wsX40 ++ wsX00 ++ (vx_atS RX4 146 "java/lang/IndexOutOfBoundsException" ["java/lang/RuntimeException", "java/lang/Exception"]).filter goodWord)
def wsL_breaks_r1 : List Cond := [Cond.classLink RL 13 "java/lang/IndexOutOfBoundsException", Cond.classLink RL 15 "java/lang/IllegalArgumentException", Cond.methodLink RL 71 yX4_breaks, Cond.instanceMethod yX4_breaks, Cond.selects RX4 yX4_breaks yX4_breaks, Cond.initialized RX4, Cond.code yX4_breaks cX4_breaks 7 (some .int), Cond.fieldLink RX4 77 "Readingorder$Box" "width" "I", Cond.fieldLink RX4 80 "Readingorder$Box" "height" "I", Cond.fieldLink RX4 83 "Readingorder$Box" "left" "I", Cond.fieldLink RX4 86 "Readingorder$Box" "top" "I", Cond.fieldLink RX4 89 "Readingorder$Box" "page" "I", Cond.fieldLink RX4 26 "Readingorder" "trial" "LReadingorder$Reading;", Cond.methodLink RX4 73 yX4_presentBox, Cond.instanceMethod yX4_presentBox, Cond.selects RX4 yX4_presentBox yX4_presentBox, Cond.code yX4_presentBox cX4_presentBox 3 (some (.object "Readingorder$Box")), Cond.classLink RX4 142 "java/lang/IndexOutOfBoundsException", Cond.initialized "java/lang/IndexOutOfBoundsException", Cond.fieldLink RX4 98 "Readingorder$Box" "gone" "Z", Cond.methodLink RX4 139 yX4_madeBox, Cond.instanceMethod yX4_madeBox, Cond.selects RX4 yX4_madeBox yX4_madeBox, Cond.code yX4_madeBox cX4_madeBox 2 (some (.object "Readingorder$Box"))]
def wsL_breaks_r2 : List Cond := [Cond.fieldLink RX4 11 "Readingorder" "made" "[LReadingorder$Box;", Cond.methodLink RX4 57 yX4_checkWithinPage, Cond.static yX4_checkWithinPage, Cond.code yX4_checkWithinPage cX4_checkWithinPage 4 none, Cond.classLink RX4 50 "java/lang/IllegalArgumentException", Cond.initialized "java/lang/IllegalArgumentException", Cond.methodLink RX4 191 yX4_readByCuts, Cond.instanceMethod yX4_readByCuts, Cond.selects RX4 yX4_readByCuts yX4_readByCuts, Cond.code yX4_readByCuts cX4_readByCuts 3 none, Cond.fieldLink RX4 136 "Readingorder$Reading" "length" "I", Cond.methodLink RX4 216 yX4_boxesThatFollowNone, Cond.instanceMethod yX4_boxesThatFollowNone, Cond.selects RX4 yX4_boxesThatFollowNone yX4_boxesThatFollowNone, Cond.code yX4_boxesThatFollowNone cX4_boxesThatFollowNone 5 (some .int), Cond.fieldLink RX4 15 "Readingorder" "madeCount" "I", Cond.fieldLink RX4 108 "Readingorder$Box" "leader" "LReadingorder$Box;", Cond.methodLink RX4 219 yX4_readSet, Cond.instanceMethod yX4_readSet, Cond.selects RX4 yX4_readSet yX4_readSet, Cond.code yX4_readSet cX4_readSet 5 none, Cond.methodLink RX4 223 yX4_cutOff, Cond.instanceMethod yX4_cutOff, Cond.selects RX4 yX4_cutOff yX4_cutOff]
def wsL_breaks_r3 : List Cond := [Cond.code yX4_cutOff cX4_cutOff 4 (some .int), Cond.methodLink RX4 240 yX4_leastCut, Cond.instanceMethod yX4_leastCut, Cond.selects RX4 yX4_leastCut yX4_leastCut, Cond.code yX4_leastCut cX4_leastCut 8 (some .int), Cond.methodLink RX4 256 Lib.Math.min.name, Cond.static Lib.Math.min.name, Cond.initialized "java/lang/Math", Cond.code Lib.Math.min.name Lib.Math.min.code 2 (some .int), Cond.methodLink RX4 248 yX4_boxOfSet, Cond.instanceMethod yX4_boxOfSet, Cond.selects RX4 yX4_boxOfSet yX4_boxOfSet, Cond.code yX4_boxOfSet cX4_boxOfSet 4 (some (.object "Readingorder$Box")), Cond.methodLink RX4 252 yX1_end, Cond.instanceMethod yX1_end, Cond.selects RX1 yX1_end yX1_end, Cond.initialized RX1, Cond.code yX1_end cX1_end 2 (some .int), Cond.fieldLink RX1 32 "Readingorder$Box" "top" "I", Cond.fieldLink RX1 38 "Readingorder$Box" "height" "I", Cond.fieldLink RX1 29 "Readingorder$Box" "left" "I", Cond.fieldLink RX1 35 "Readingorder$Box" "width" "I", Cond.methodLink RX4 260 yX1_begin, Cond.instanceMethod yX1_begin]
def wsL_breaks_r4 : List Cond := [Cond.selects RX1 yX1_begin yX1_begin, Cond.code yX1_begin cX1_begin 2 (some .int), Cond.methodLink RX4 244 yX4_endedBy, Cond.instanceMethod yX4_endedBy, Cond.selects RX4 yX4_endedBy yX4_endedBy, Cond.code yX4_endedBy cX4_endedBy 7 (some .int), Cond.methodLink RX4 226 yX4_readUncut, Cond.instanceMethod yX4_readUncut, Cond.selects RX4 yX4_readUncut yX4_readUncut, Cond.code yX4_readUncut cX4_readUncut 7 none, Cond.fieldLink RX4 130 "Readingorder$Box" "number" "I", Cond.fieldLink RX4 104 "Readingorder$Box" "follower" "LReadingorder$Box;", Cond.methodLink RX4 263 yX4_firstByEdges, Cond.instanceMethod yX4_firstByEdges, Cond.selects RX4 yX4_firstByEdges yX4_firstByEdges, Cond.code yX4_firstByEdges cX4_firstByEdges 5 (some (.object "Readingorder$Box")), Cond.methodLink RX4 269 yX1_isAheadByEdges, Cond.instanceMethod yX1_isAheadByEdges, Cond.selects RX1 yX1_isAheadByEdges yX1_isAheadByEdges, Cond.code yX1_isAheadByEdges cX1_isAheadByEdges 2 (some .boolean), Cond.fieldLink RX1 22 "Readingorder$Box" "number" "I", Cond.methodLink RX4 266 yX3_add, Cond.instanceMethod yX3_add, Cond.selects RX3 yX3_add yX3_add]
def wsL_breaks_r5 : List Cond := [Cond.initialized RX3, Cond.code yX3_add cX3_add 2 none, Cond.fieldLink RX3 15 "Readingorder$Reading" "length" "I", Cond.fieldLink RX3 9 "Readingorder$Reading" "numbers" "[I", Cond.methodLink RX4 229 yX4_readParts, Cond.instanceMethod yX4_readParts, Cond.selects RX4 yX4_readParts yX4_readParts, Cond.code yX4_readParts cX4_readParts 5 none, Cond.methodLink RX4 46 yX4_readingOf, Cond.instanceMethod yX4_readingOf, Cond.selects RX4 yX4_readingOf yX4_readingOf, Cond.code yX4_readingOf cX4_readingOf 3 (some (.object "Readingorder$Reading")), Cond.fieldLink RX4 21 "Readingorder" "readings" "[LReadingorder$Reading;", Cond.methodLink RX4 194 yX3_isSameAs, Cond.instanceMethod yX3_isSameAs, Cond.selects RX3 yX3_isSameAs yX3_isSameAs, Cond.code yX3_isSameAs cX3_isSameAs 3 (some .boolean), Cond.methodLink RX3 19 yX3_at, Cond.instanceMethod yX3_at, Cond.selects RX3 yX3_at yX3_at, Cond.code yX3_at cX3_at 2 (some .int), Cond.methodLink RX4 198 yX4_countHolding, Cond.instanceMethod yX4_countHolding, Cond.selects RX4 yX4_countHolding yX4_countHolding]
def wsL_breaks_r6 : List Cond := [Cond.code yX4_countHolding cX4_countHolding 5 (some .int), Cond.fieldLink RX4 39 "Readingorder" "given" "[LReadingorder$Approval;", Cond.methodLink RX4 184 yX0_holdsFor, Cond.instanceMethod yX0_holdsFor, Cond.selects RX0 yX0_holdsFor yX0_holdsFor, Cond.initialized RX0, Cond.code yX0_holdsFor cX0_holdsFor 2 (some .boolean), Cond.fieldLink RX0 7 "Readingorder$Approval" "holds" "Z", Cond.fieldLink RX0 17 "Readingorder$Approval" "page" "I"]
def wsL_breaks : List Cond := .codeWith yL_breaks cL_breaks 6 (some .int) [(0, 12, 15, 13), (0, 12, 19, 15)] :: ((wsL_breaks_r1 ++ (wsL_breaks_r2 ++ (wsL_breaks_r3 ++ (wsL_breaks_r4 ++ (wsL_breaks_r5 ++ wsL_breaks_r6))))) ++ wsX10 ++ wsX40 ++ wsX30 ++ wsX00 ++ (vx_atS RX4 146 "java/lang/IndexOutOfBoundsException" ["java/lang/RuntimeException", "java/lang/Exception"]).filter goodWord ++ (vx_atS RX4 54 "java/lang/IllegalArgumentException" ["java/lang/RuntimeException", "java/lang/Exception"]).filter goodWord)
def wsL_law0_r1 : List Cond := [Cond.classLink RL 8 RX4, Cond.instantiable RX4 7, Cond.initialized RX4, Cond.classLink RL 75 RX5, Cond.instantiable RX5 21, Cond.initialized RX5, Cond.arrayClass .long, Cond.methodLink RL 74 yX4_init, Cond.instanceMethod yX4_init, Cond.code yX4_init cX4_init 2 none, Cond.methodLink RX4 1 objectInit, Cond.instanceMethod objectInit, Cond.code objectInit ⟨#[0xb1]⟩ 1 none, Cond.classLink RX4 9 RX1, Cond.fieldLink RX4 11 "Readingorder" "made" "[LReadingorder$Box;", Cond.fieldLink RX4 15 "Readingorder" "madeCount" "I", Cond.classLink RX4 19 RX3, Cond.fieldLink RX4 21 "Readingorder" "readings" "[LReadingorder$Reading;", Cond.instantiable RX3 2, Cond.initialized RX3, Cond.fieldLink RX4 26 "Readingorder" "trial" "LReadingorder$Reading;", Cond.classLink RX4 30 RX2, Cond.instantiable RX2 2, Cond.initialized RX2]
def wsL_law0_r2 : List Cond := [Cond.fieldLink RX4 33 "Readingorder" "aside" "LReadingorder$Pile;", Cond.classLink RX4 37 RX0, Cond.fieldLink RX4 39 "Readingorder" "given" "[LReadingorder$Approval;", Cond.fieldLink RX4 43 "Readingorder" "givenCount" "I", Cond.instanceMethod yX3_init, Cond.code yX3_init cX3_init 1 none, Cond.methodLink RX3 3 objectInit, Cond.arrayClass .int, Cond.fieldLink RX3 9 "Readingorder$Reading" "numbers" "[I", Cond.fieldLink RX3 15 "Readingorder$Reading" "length" "I", Cond.instanceMethod yX2_init, Cond.code yX2_init cX2_init 1 none, Cond.methodLink RX2 3 objectInit, Cond.fieldLink RX2 9 "Readingorder$Pile" "sets" "[I", Cond.fieldLink RX2 15 "Readingorder$Pile" "height" "I", Cond.methodLink RL 77 yX5_init, Cond.instanceMethod yX5_init, Cond.code yX5_init cX5_init 1 none, Cond.methodLink RX5 1 objectInit, Cond.fieldLink RX5 7 "ReadingorderModel" "page" "[I", Cond.fieldLink RX5 13 "ReadingorderModel" "left" "[I", Cond.fieldLink RX5 16 "ReadingorderModel" "top" "[I", Cond.fieldLink RX5 19 "ReadingorderModel" "width" "[I", Cond.fieldLink RX5 22 "ReadingorderModel" "height" "[I"]
def wsL_law0_r3 : List Cond := [Cond.fieldLink RX5 25 "ReadingorderModel" "kind" "[I", Cond.fieldLink RX5 28 "ReadingorderModel" "follows" "[I", Cond.fieldLink RX5 31 "ReadingorderModel" "leads" "[I", Cond.arrayClass .boolean, Cond.fieldLink RX5 34 "ReadingorderModel" "isGone" "[Z", Cond.fieldLink RX5 38 "ReadingorderModel" "who" "[I", Cond.fieldLink RX5 41 "ReadingorderModel" "which" "[I", Cond.fieldLink RX5 44 "ReadingorderModel" "isFallen" "[Z", Cond.fieldLink RX5 47 "ReadingorderModel" "order" "[I", Cond.fieldLink RX5 50 "ReadingorderModel" "ahead" "[I", Cond.fieldLink RX5 53 "ReadingorderModel" "set" "[I", Cond.methodLink RL 78 yL_box, Cond.static yL_box, Cond.initialized RL, Cond.codeWith yL_box cL_box 9 (some .int) [(0, 18, 21, 13), (0, 18, 25, 15), (0, 18, 29, 17)], Cond.classLink RL 13 "java/lang/IndexOutOfBoundsException", Cond.classLink RL 15 "java/lang/IllegalArgumentException", Cond.classLink RL 17 "java/lang/IllegalStateException", Cond.methodLink RL 7 yX4_box, Cond.instanceMethod yX4_box, Cond.selects RX4 yX4_box yX4_box, Cond.code yX4_box cX4_box 8 (some .int), Cond.classLink RX4 50 "java/lang/IllegalArgumentException", Cond.initialized "java/lang/IllegalArgumentException"]
def wsL_law0_r4 : List Cond := [Cond.classLink RX4 61 "java/lang/IllegalStateException", Cond.initialized "java/lang/IllegalStateException", Cond.instantiable RX1 10, Cond.initialized RX1, Cond.methodLink RX4 46 yX4_readingOf, Cond.instanceMethod yX4_readingOf, Cond.selects RX4 yX4_readingOf yX4_readingOf, Cond.code yX4_readingOf cX4_readingOf 3 (some (.object "Readingorder$Reading")), Cond.classLink RX4 142 "java/lang/IndexOutOfBoundsException", Cond.initialized "java/lang/IndexOutOfBoundsException", Cond.methodLink RX4 57 yX4_checkWithinPage, Cond.static yX4_checkWithinPage, Cond.code yX4_checkWithinPage cX4_checkWithinPage 4 none, Cond.methodLink RX4 66 yX1_init, Cond.instanceMethod yX1_init, Cond.code yX1_init cX1_init 8 none, Cond.methodLink RX1 3 objectInit, Cond.fieldLink RX1 9 "Readingorder$Box" "gone" "Z", Cond.fieldLink RX1 15 "Readingorder$Box" "leader" "LReadingorder$Box;", Cond.fieldLink RX1 19 "Readingorder$Box" "follower" "LReadingorder$Box;", Cond.fieldLink RX1 22 "Readingorder$Box" "number" "I", Cond.fieldLink RX1 26 "Readingorder$Box" "page" "I", Cond.fieldLink RX1 29 "Readingorder$Box" "left" "I", Cond.fieldLink RX1 32 "Readingorder$Box" "top" "I"]
def wsL_law0_r5 : List Cond := [Cond.fieldLink RX1 35 "Readingorder$Box" "width" "I", Cond.fieldLink RX1 38 "Readingorder$Box" "height" "I", Cond.fieldLink RX1 41 "Readingorder$Box" "kind" "I", Cond.methodLink RX4 69 yX4_readAgain, Cond.instanceMethod yX4_readAgain, Cond.selects RX4 yX4_readAgain yX4_readAgain, Cond.code yX4_readAgain cX4_readAgain 3 (some .int), Cond.methodLink RX4 191 yX4_readByCuts, Cond.instanceMethod yX4_readByCuts, Cond.selects RX4 yX4_readByCuts yX4_readByCuts, Cond.code yX4_readByCuts cX4_readByCuts 3 none, Cond.fieldLink RX4 136 "Readingorder$Reading" "length" "I", Cond.methodLink RX4 216 yX4_boxesThatFollowNone, Cond.instanceMethod yX4_boxesThatFollowNone, Cond.selects RX4 yX4_boxesThatFollowNone yX4_boxesThatFollowNone, Cond.code yX4_boxesThatFollowNone cX4_boxesThatFollowNone 5 (some .int), Cond.fieldLink RX4 98 "Readingorder$Box" "gone" "Z", Cond.fieldLink RX4 89 "Readingorder$Box" "page" "I", Cond.fieldLink RX4 108 "Readingorder$Box" "leader" "LReadingorder$Box;", Cond.methodLink RX4 139 yX4_madeBox, Cond.instanceMethod yX4_madeBox, Cond.selects RX4 yX4_madeBox yX4_madeBox, Cond.code yX4_madeBox cX4_madeBox 2 (some (.object "Readingorder$Box")), Cond.methodLink RX4 219 yX4_readSet]
def wsL_law0_r6 : List Cond := [Cond.instanceMethod yX4_readSet, Cond.selects RX4 yX4_readSet yX4_readSet, Cond.code yX4_readSet cX4_readSet 5 none, Cond.methodLink RX4 223 yX4_cutOff, Cond.instanceMethod yX4_cutOff, Cond.selects RX4 yX4_cutOff yX4_cutOff, Cond.code yX4_cutOff cX4_cutOff 4 (some .int), Cond.methodLink RX4 240 yX4_leastCut, Cond.instanceMethod yX4_leastCut, Cond.selects RX4 yX4_leastCut yX4_leastCut, Cond.code yX4_leastCut cX4_leastCut 8 (some .int), Cond.methodLink RX4 256 Lib.Math.min.name, Cond.static Lib.Math.min.name, Cond.initialized "java/lang/Math", Cond.code Lib.Math.min.name Lib.Math.min.code 2 (some .int), Cond.methodLink RX4 248 yX4_boxOfSet, Cond.instanceMethod yX4_boxOfSet, Cond.selects RX4 yX4_boxOfSet yX4_boxOfSet, Cond.code yX4_boxOfSet cX4_boxOfSet 4 (some (.object "Readingorder$Box")), Cond.methodLink RX4 252 yX1_end, Cond.instanceMethod yX1_end, Cond.selects RX1 yX1_end yX1_end, Cond.code yX1_end cX1_end 2 (some .int), Cond.methodLink RX4 260 yX1_begin]
def wsL_law0_r7 : List Cond := [Cond.instanceMethod yX1_begin, Cond.selects RX1 yX1_begin yX1_begin, Cond.code yX1_begin cX1_begin 2 (some .int), Cond.methodLink RX4 244 yX4_endedBy, Cond.instanceMethod yX4_endedBy, Cond.selects RX4 yX4_endedBy yX4_endedBy, Cond.code yX4_endedBy cX4_endedBy 7 (some .int), Cond.methodLink RX4 226 yX4_readUncut, Cond.instanceMethod yX4_readUncut, Cond.selects RX4 yX4_readUncut yX4_readUncut, Cond.code yX4_readUncut cX4_readUncut 7 none, Cond.fieldLink RX4 130 "Readingorder$Box" "number" "I", Cond.fieldLink RX4 104 "Readingorder$Box" "follower" "LReadingorder$Box;", Cond.methodLink RX4 263 yX4_firstByEdges, Cond.instanceMethod yX4_firstByEdges, Cond.selects RX4 yX4_firstByEdges yX4_firstByEdges, Cond.code yX4_firstByEdges cX4_firstByEdges 5 (some (.object "Readingorder$Box")), Cond.methodLink RX4 269 yX1_isAheadByEdges, Cond.instanceMethod yX1_isAheadByEdges, Cond.selects RX1 yX1_isAheadByEdges yX1_isAheadByEdges, Cond.code yX1_isAheadByEdges cX1_isAheadByEdges 2 (some .boolean), Cond.methodLink RX4 266 yX3_add, Cond.instanceMethod yX3_add, Cond.selects RX3 yX3_add yX3_add]
def wsL_law0_r8 : List Cond := [Cond.code yX3_add cX3_add 2 none, Cond.methodLink RX4 229 yX4_readParts, Cond.instanceMethod yX4_readParts, Cond.selects RX4 yX4_readParts yX4_readParts, Cond.code yX4_readParts cX4_readParts 5 none, Cond.methodLink RX4 194 yX3_isSameAs, Cond.instanceMethod yX3_isSameAs, Cond.selects RX3 yX3_isSameAs yX3_isSameAs, Cond.code yX3_isSameAs cX3_isSameAs 3 (some .boolean), Cond.methodLink RX3 19 yX3_at, Cond.instanceMethod yX3_at, Cond.selects RX3 yX3_at yX3_at, Cond.code yX3_at cX3_at 2 (some .int), Cond.methodLink RX4 209 yX3_become, Cond.instanceMethod yX3_become, Cond.selects RX3 yX3_become yX3_become, Cond.code yX3_become cX3_become 3 none, Cond.methodLink RX3 23 yX3_add, Cond.methodLink RX4 213 yX4_letFall, Cond.instanceMethod yX4_letFall, Cond.selects RX4 yX4_letFall yX4_letFall, Cond.code yX4_letFall cX4_letFall 5 (some .int), Cond.fieldLink RX4 181 "Readingorder$Approval" "holds" "Z", Cond.methodLink RX4 184 yX0_holdsFor]
def wsL_law0_r9 : List Cond := [Cond.instanceMethod yX0_holdsFor, Cond.selects RX0 yX0_holdsFor yX0_holdsFor, Cond.initialized RX0, Cond.code yX0_holdsFor cX0_holdsFor 2 (some .boolean), Cond.fieldLink RX0 7 "Readingorder$Approval" "holds" "Z", Cond.fieldLink RX0 17 "Readingorder$Approval" "page" "I", Cond.methodLink RL 83 yX5_box, Cond.instanceMethod yX5_box, Cond.selects RX5 yX5_box yX5_box, Cond.code yX5_box cX5_box 8 (some .int), Cond.fieldLink RX5 64 "ReadingorderModel" "boxes" "I", Cond.methodLink RX5 121 yX5_isPage, Cond.static yX5_isPage, Cond.code yX5_isPage cX5_isPage 1 (some .boolean), Cond.methodLink RX5 60 yX5_in, Cond.static yX5_in, Cond.code yX5_in cX5_in 3 (some .boolean), Cond.methodLink RX5 124 yX5_isWithin, Cond.static yX5_isWithin, Cond.code yX5_isWithin cX5_isWithin 4 (some .boolean), Cond.methodLink RX5 128 yX5_goes, Cond.instanceMethod yX5_goes, Cond.selects RX5 yX5_goes yX5_goes, Cond.code yX5_goes cX5_goes 4 (some .boolean)]
def wsL_law0_r10 : List Cond := [Cond.fieldLink RX5 56 "ReadingorderModel" "thrown" "I", Cond.methodLink RX5 132 yX5_keeps, Cond.instanceMethod yX5_keeps, Cond.selects RX5 yX5_keeps yX5_keeps, Cond.code yX5_keeps cX5_keeps 3 none, Cond.fieldLink RX5 82 "ReadingorderModel" "many" "I", Cond.fieldLink RX5 107 "ReadingorderModel" "manyAhead" "I", Cond.methodLink RX5 104 yX5_finds, Cond.instanceMethod yX5_finds, Cond.selects RX5 yX5_finds yX5_finds, Cond.code yX5_finds cX5_finds 5 none, Cond.fieldLink RX5 92 "ReadingorderModel" "aside" "I", Cond.methodLink RX5 95 yX5_puts, Cond.instanceMethod yX5_puts, Cond.selects RX5 yX5_puts yX5_puts, Cond.code yX5_puts cX5_puts 2 none, Cond.methodLink RX5 98 yX5_cut, Cond.instanceMethod yX5_cut, Cond.selects RX5 yX5_cut yX5_cut, Cond.code yX5_cut cX5_cut 5 (some .int), Cond.methodLink RX5 78 yX5_cutAt, Cond.instanceMethod yX5_cutAt, Cond.selects RX5 yX5_cutAt yX5_cutAt, Cond.code yX5_cutAt cX5_cutAt 8 (some .int)]
def wsL_law0_r11 : List Cond := [Cond.methodLink RX5 67 yX5_has, Cond.static yX5_has, Cond.code yX5_has cX5_has 2 (some .boolean), Cond.methodLink RX5 71 yX5_far, Cond.instanceMethod yX5_far, Cond.selects RX5 yX5_far yX5_far, Cond.code yX5_far cX5_far 3 (some .int), Cond.methodLink RX5 75 yX5_near, Cond.instanceMethod yX5_near, Cond.selects RX5 yX5_near yX5_near, Cond.code yX5_near cX5_near 3 (some .int), Cond.methodLink RX5 101 yX5_readsAll, Cond.instanceMethod yX5_readsAll, Cond.selects RX5 yX5_readsAll yX5_readsAll, Cond.code yX5_readsAll cX5_readsAll 5 none, Cond.methodLink RX5 85 yX5_isAhead, Cond.instanceMethod yX5_isAhead, Cond.selects RX5 yX5_isAhead yX5_isAhead, Cond.code yX5_isAhead cX5_isAhead 3 (some .boolean), Cond.methodLink RX5 88 yX5_reads, Cond.instanceMethod yX5_reads, Cond.selects RX5 yX5_reads yX5_reads, Cond.code yX5_reads cX5_reads 3 none, Cond.methodLink RX5 135 yX5_falls]
def wsL_law0_r12 : List Cond := [Cond.instanceMethod yX5_falls, Cond.selects RX5 yX5_falls yX5_falls, Cond.code yX5_falls cX5_falls 4 (some .int), Cond.fieldLink RX5 110 "ReadingorderModel" "approvals" "I", Cond.methodLink RX5 113 yX5_isOther, Cond.instanceMethod yX5_isOther, Cond.selects RX5 yX5_isOther yX5_isOther, Cond.code yX5_isOther cX5_isOther 4 (some .boolean), Cond.methodLink RX5 117 yX5_standing, Cond.instanceMethod yX5_standing, Cond.selects RX5 yX5_standing yX5_standing, Cond.code yX5_standing cX5_standing 4 (some .int), Cond.methodLink RL 84 yX5_thrown, Cond.instanceMethod yX5_thrown, Cond.selects RX5 yX5_thrown yX5_thrown, Cond.code yX5_thrown cX5_thrown 1 (some .int), Cond.methodLink RL 88 yL_move, Cond.static yL_move, Cond.codeWith yL_move cL_move 6 (some .int) [(0, 12, 15, 13), (0, 12, 19, 15)], Cond.methodLink RL 19 yX4_move, Cond.instanceMethod yX4_move, Cond.selects RX4 yX4_move yX4_move, Cond.code yX4_move cX4_move 5 (some .int), Cond.fieldLink RX4 77 "Readingorder$Box" "width" "I"]
def wsL_law0_r13 : List Cond := [Cond.fieldLink RX4 80 "Readingorder$Box" "height" "I", Cond.fieldLink RX4 83 "Readingorder$Box" "left" "I", Cond.fieldLink RX4 86 "Readingorder$Box" "top" "I", Cond.methodLink RX4 73 yX4_presentBox, Cond.instanceMethod yX4_presentBox, Cond.selects RX4 yX4_presentBox yX4_presentBox, Cond.code yX4_presentBox cX4_presentBox 3 (some (.object "Readingorder$Box")), Cond.methodLink RL 91 yX5_move, Cond.instanceMethod yX5_move, Cond.selects RX5 yX5_move yX5_move, Cond.code yX5_move cX5_move 5 (some .int), Cond.methodLink RX5 138 yX5_isBox, Cond.instanceMethod yX5_isBox, Cond.selects RX5 yX5_isBox yX5_isBox, Cond.code yX5_isBox cX5_isBox 2 (some .boolean), Cond.methodLink RL 92 yL_resize, Cond.static yL_resize, Cond.codeWith yL_resize cL_resize 6 (some .int) [(0, 12, 15, 13), (0, 12, 19, 15)], Cond.methodLink RL 23 yX4_resize, Cond.instanceMethod yX4_resize, Cond.selects RX4 yX4_resize yX4_resize, Cond.code yX4_resize cX4_resize 5 (some .int), Cond.methodLink RL 94 yX5_resize, Cond.instanceMethod yX5_resize]
def wsL_law0_r14 : List Cond := [Cond.selects RX5 yX5_resize yX5_resize, Cond.code yX5_resize cX5_resize 5 (some .int), Cond.methodLink RL 95 yL_remove, Cond.static yL_remove, Cond.codeWith yL_remove cL_remove 4 (some .int) [(0, 9, 12, 13)], Cond.methodLink RL 26 yX4_remove, Cond.instanceMethod yX4_remove, Cond.selects RX4 yX4_remove yX4_remove, Cond.code yX4_remove cX4_remove 3 (some .int), Cond.methodLink RX4 92 yX1_loosenFromLeader, Cond.instanceMethod yX1_loosenFromLeader, Cond.selects RX1 yX1_loosenFromLeader yX1_loosenFromLeader, Cond.code yX1_loosenFromLeader cX1_loosenFromLeader 1 none, Cond.methodLink RX4 95 yX1_loosenFromFollower, Cond.instanceMethod yX1_loosenFromFollower, Cond.selects RX1 yX1_loosenFromFollower yX1_loosenFromFollower, Cond.code yX1_loosenFromFollower cX1_loosenFromFollower 1 none, Cond.methodLink RL 98 yX5_remove, Cond.instanceMethod yX5_remove, Cond.selects RX5 yX5_remove yX5_remove, Cond.code yX5_remove cX5_remove 2 (some .int), Cond.methodLink RX5 141 yX5_unties, Cond.instanceMethod yX5_unties, Cond.selects RX5 yX5_unties yX5_unties]
def wsL_law0_r15 : List Cond := [Cond.code yX5_unties cX5_unties 2 none, Cond.methodLink RL 99 yL_tie, Cond.static yL_tie, Cond.codeWith yL_tie cL_tie 5 (some .int) [(0, 10, 13, 13), (0, 10, 17, 15), (0, 10, 21, 17)], Cond.methodLink RL 30 yX4_tie, Cond.instanceMethod yX4_tie, Cond.selects RX4 yX4_tie yX4_tie, Cond.code yX4_tie cX4_tie 5 (some .int), Cond.methodLink RX4 111 yX1_comesBehind, Cond.instanceMethod yX1_comesBehind, Cond.selects RX1 yX1_comesBehind yX1_comesBehind, Cond.code yX1_comesBehind cX1_comesBehind 3 (some .boolean), Cond.methodLink RL 102 yX5_tie, Cond.instanceMethod yX5_tie, Cond.selects RX5 yX5_tie yX5_tie, Cond.code yX5_tie cX5_tie 5 (some .int), Cond.methodLink RX5 144 yX5_comesBehind, Cond.instanceMethod yX5_comesBehind, Cond.selects RX5 yX5_comesBehind yX5_comesBehind, Cond.code yX5_comesBehind cX5_comesBehind 4 (some .boolean), Cond.methodLink RL 103 yL_untie, Cond.static yL_untie, Cond.codeWith yL_untie cL_untie 4 (some .int) [(0, 9, 12, 13), (0, 9, 15, 17)], Cond.methodLink RL 34 yX4_untie]
def wsL_law0_r16 : List Cond := [Cond.instanceMethod yX4_untie, Cond.selects RX4 yX4_untie yX4_untie, Cond.code yX4_untie cX4_untie 3 (some .int), Cond.methodLink RL 105 yX5_untie, Cond.instanceMethod yX5_untie, Cond.selects RX5 yX5_untie yX5_untie, Cond.code yX5_untie cX5_untie 2 (some .int), Cond.methodLink RL 106 yL_order, Cond.static yL_order, Cond.codeWith yL_order cL_order 5 (some .int) [(0, 10, 13, 13)], Cond.methodLink RL 37 yX4_order, Cond.instanceMethod yX4_order, Cond.selects RX4 yX4_order yX4_order, Cond.code yX4_order cX4_order 4 (some .int), Cond.methodLink RX4 119 yX4_checkPlace, Cond.static yX4_checkPlace, Cond.code yX4_checkPlace cX4_checkPlace 1 none, Cond.methodLink RX4 123 yX3_at, Cond.methodLink RL 108 yX5_order, Cond.instanceMethod yX5_order, Cond.selects RX5 yX5_order yX5_order, Cond.code yX5_order cX5_order 3 (some .int), Cond.methodLink RL 109 yL_orderAnew, Cond.static yL_orderAnew]
def wsL_law0_r17 : List Cond := [Cond.codeWith yL_orderAnew cL_orderAnew 5 (some .int) [(0, 10, 13, 13)], Cond.methodLink RL 40 yX4_orderAnew, Cond.instanceMethod yX4_orderAnew, Cond.selects RX4 yX4_orderAnew yX4_orderAnew, Cond.code yX4_orderAnew cX4_orderAnew 3 (some .int), Cond.methodLink RX4 126 yX4_readWithSetsAside, Cond.instanceMethod yX4_readWithSetsAside, Cond.selects RX4 yX4_readWithSetsAside yX4_readWithSetsAside, Cond.code yX4_readWithSetsAside cX4_readWithSetsAside 6 none, Cond.fieldLink RX4 233 "Readingorder$Pile" "height" "I", Cond.methodLink RX4 234 yX2_put, Cond.instanceMethod yX2_put, Cond.selects RX2 yX2_put yX2_put, Cond.code yX2_put cX2_put 2 none, Cond.methodLink RX4 237 yX2_take, Cond.instanceMethod yX2_take, Cond.selects RX2 yX2_take yX2_take, Cond.code yX2_take cX2_take 2 (some .int), Cond.methodLink RL 111 yX5_orderAnew, Cond.instanceMethod yX5_orderAnew, Cond.selects RX5 yX5_orderAnew yX5_orderAnew, Cond.code yX5_orderAnew cX5_orderAnew 3 (some .int), Cond.methodLink RX5 147 yX5_order, Cond.methodLink RL 112 yL_placeOf]
def wsL_law0_r18 : List Cond := [Cond.static yL_placeOf, Cond.codeWith yL_placeOf cL_placeOf 4 (some .int) [(0, 9, 12, 13)], Cond.methodLink RL 43 yX4_placeOf, Cond.instanceMethod yX4_placeOf, Cond.selects RX4 yX4_placeOf yX4_placeOf, Cond.code yX4_placeOf cX4_placeOf 3 (some .int), Cond.methodLink RX4 133 yX3_placeFor, Cond.instanceMethod yX3_placeFor, Cond.selects RX3 yX3_placeFor yX3_placeFor, Cond.code yX3_placeFor cX3_placeFor 3 (some .int), Cond.methodLink RL 114 yX5_placeOf, Cond.instanceMethod yX5_placeOf, Cond.selects RX5 yX5_placeOf yX5_placeOf, Cond.code yX5_placeOf cX5_placeOf 2 (some .int), Cond.methodLink RX5 150 yX5_place, Cond.instanceMethod yX5_place, Cond.selects RX5 yX5_place yX5_place, Cond.code yX5_place cX5_place 4 (some .int), Cond.methodLink RL 115 yL_boxes, Cond.static yL_boxes, Cond.codeWith yL_boxes cL_boxes 4 (some .int) [(0, 9, 12, 13)], Cond.methodLink RL 46 yX4_boxes, Cond.instanceMethod yX4_boxes, Cond.selects RX4 yX4_boxes yX4_boxes]
def wsL_law0_r19 : List Cond := [Cond.code yX4_boxes cX4_boxes 2 (some .int), Cond.methodLink RL 117 yX5_boxes, Cond.instanceMethod yX5_boxes, Cond.selects RX5 yX5_boxes yX5_boxes, Cond.code yX5_boxes cX5_boxes 2 (some .int), Cond.methodLink RL 118 yL_about, Cond.static yL_about, Cond.codeWith yL_about cL_about 5 (some .int) [(0, 10, 13, 13), (0, 10, 17, 15)], Cond.methodLink RL 49 yX4_about, Cond.instanceMethod yX4_about, Cond.selects RX4 yX4_about yX4_about, Cond.code yX4_about cX4_about 4 (some .int), Cond.fieldLink RX4 147 "Readingorder$Box" "kind" "I", Cond.methodLink RX4 150 yX4_numberOf, Cond.static yX4_numberOf, Cond.code yX4_numberOf cX4_numberOf 1 (some .int), Cond.methodLink RL 120 yX5_about, Cond.instanceMethod yX5_about, Cond.selects RX5 yX5_about yX5_about, Cond.code yX5_about cX5_about 3 (some .int), Cond.methodLink RL 121 yL_way, Cond.static yL_way, Cond.codeWith yL_way cL_way 4 (some .int) [(0, 9, 12, 13)], Cond.methodLink RL 52 yX4_way]
def wsL_law0_r20 : List Cond := [Cond.instanceMethod yX4_way, Cond.selects RX4 yX4_way yX4_way, Cond.code yX4_way cX4_way 7 (some .int), Cond.methodLink RX4 160 Lib.Math.abs.name, Cond.static Lib.Math.abs.name, Cond.code Lib.Math.abs.name Lib.Math.abs.code 1 (some .int), Cond.methodLink RX4 156 yX1_middleAcross, Cond.instanceMethod yX1_middleAcross, Cond.selects RX1 yX1_middleAcross yX1_middleAcross, Cond.code yX1_middleAcross cX1_middleAcross 1 (some .int), Cond.methodLink RX4 165 yX1_middleDown, Cond.instanceMethod yX1_middleDown, Cond.selects RX1 yX1_middleDown yX1_middleDown, Cond.code yX1_middleDown cX1_middleDown 1 (some .int), Cond.methodLink RL 123 yX5_way, Cond.instanceMethod yX5_way, Cond.selects RX5 yX5_way yX5_way, Cond.code yX5_way cX5_way 6 (some .int), Cond.methodLink RX5 153 yX5_between, Cond.static yX5_between, Cond.code yX5_between cX5_between 2 (some .int), Cond.methodLink RL 124 yL_faults, Cond.static yL_faults, Cond.codeWith yL_faults cL_faults 4 (some .int) [(0, 9, 12, 13)]]
def wsL_law0_r21 : List Cond := [Cond.methodLink RL 55 yX4_faults, Cond.instanceMethod yX4_faults, Cond.selects RX4 yX4_faults yX4_faults, Cond.code yX4_faults cX4_faults 4 (some .int), Cond.methodLink RX4 168 yX4_faultsAt, Cond.instanceMethod yX4_faultsAt, Cond.selects RX4 yX4_faultsAt yX4_faultsAt, Cond.code yX4_faultsAt cX4_faultsAt 7 (some .int), Cond.methodLink RX4 272 yX1_isHead, Cond.instanceMethod yX1_isHead, Cond.selects RX1 yX1_isHead yX1_isHead, Cond.code yX1_isHead cX1_isHead 1 (some .boolean), Cond.methodLink RX4 276 yX1_level, Cond.instanceMethod yX1_level, Cond.selects RX1 yX1_level yX1_level, Cond.code yX1_level cX1_level 1 (some .int), Cond.methodLink RX4 279 yX4_levelAhead, Cond.instanceMethod yX4_levelAhead, Cond.selects RX4 yX4_levelAhead yX4_levelAhead, Cond.code yX4_levelAhead cX4_levelAhead 5 (some .int), Cond.methodLink RX4 282 yX4_isOfKind, Cond.static yX4_isOfKind, Cond.code yX4_isOfKind cX4_isOfKind 2 (some .boolean), Cond.methodLink RX4 286 yX4_overlapsAny]
def wsL_law0_r22 : List Cond := [Cond.instanceMethod yX4_overlapsAny, Cond.selects RX4 yX4_overlapsAny yX4_overlapsAny, Cond.code yX4_overlapsAny cX4_overlapsAny 5 (some .boolean), Cond.methodLink RX4 293 yX1_overlaps, Cond.instanceMethod yX1_overlaps, Cond.selects RX1 yX1_overlaps yX1_overlaps, Cond.code yX1_overlaps cX1_overlaps 2 (some .boolean), Cond.methodLink RX1 44 yX1_bottom, Cond.instanceMethod yX1_bottom, Cond.selects RX1 yX1_bottom yX1_bottom, Cond.code yX1_bottom cX1_bottom 1 (some .int), Cond.methodLink RX4 290 yX1_bottom, Cond.methodLink RL 126 yX5_faults, Cond.instanceMethod yX5_faults, Cond.selects RX5 yX5_faults yX5_faults, Cond.code yX5_faults cX5_faults 2 (some .int), Cond.methodLink RX5 171 yX5_faultsAt, Cond.instanceMethod yX5_faultsAt, Cond.selects RX5 yX5_faultsAt yX5_faultsAt, Cond.code yX5_faultsAt cX5_faultsAt 5 (some .int), Cond.methodLink RX5 162 yX5_skips, Cond.instanceMethod yX5_skips, Cond.selects RX5 yX5_skips yX5_skips, Cond.code yX5_skips cX5_skips 4 (some .boolean)]
def wsL_law0_r23 : List Cond := [Cond.methodLink RX5 156 yX5_isHead, Cond.instanceMethod yX5_isHead, Cond.selects RX5 yX5_isHead yX5_isHead, Cond.code yX5_isHead cX5_isHead 2 (some .boolean), Cond.methodLink RX5 165 yX5_isKind, Cond.instanceMethod yX5_isKind, Cond.selects RX5 yX5_isKind yX5_isKind, Cond.code yX5_isKind cX5_isKind 3 (some .boolean), Cond.methodLink RX5 168 yX5_meetsAny, Cond.instanceMethod yX5_meetsAny, Cond.selects RX5 yX5_meetsAny yX5_meetsAny, Cond.code yX5_meetsAny cX5_meetsAny 4 (some .boolean), Cond.methodLink RX5 159 yX5_meet, Cond.instanceMethod yX5_meet, Cond.selects RX5 yX5_meet yX5_meet, Cond.code yX5_meet cX5_meet 3 (some .boolean), Cond.methodLink RL 127 yL_faulty, Cond.static yL_faulty, Cond.codeWith yL_faulty cL_faulty 4 (some .int) [(0, 9, 12, 13)], Cond.methodLink RL 58 yX4_faulty, Cond.instanceMethod yX4_faulty, Cond.selects RX4 yX4_faulty yX4_faulty, Cond.code yX4_faulty cX4_faulty 5 (some .int), Cond.methodLink RL 129 yX5_faulty]
def wsL_law0_r24 : List Cond := [Cond.instanceMethod yX5_faulty, Cond.selects RX5 yX5_faulty yX5_faulty, Cond.code yX5_faulty cX5_faulty 4 (some .int), Cond.methodLink RL 130 yL_approve, Cond.static yL_approve, Cond.codeWith yL_approve cL_approve 5 (some .int) [(0, 10, 13, 13), (0, 10, 17, 17)], Cond.methodLink RL 61 yX4_approve, Cond.instanceMethod yX4_approve, Cond.selects RX4 yX4_approve yX4_approve, Cond.code yX4_approve cX4_approve 5 (some .int), Cond.instantiable RX0 3, Cond.methodLink RX4 176 yX0_init, Cond.instanceMethod yX0_init, Cond.code yX0_init cX0_init 3 none, Cond.methodLink RX0 1 objectInit, Cond.fieldLink RX0 13 "Readingorder$Approval" "person" "I", Cond.methodLink RL 132 yX5_approve, Cond.instanceMethod yX5_approve, Cond.selects RX5 yX5_approve yX5_approve, Cond.code yX5_approve cX5_approve 4 (some .int), Cond.methodLink RX5 174 yX5_hasBox, Cond.instanceMethod yX5_hasBox, Cond.selects RX5 yX5_hasBox yX5_hasBox, Cond.code yX5_hasBox cX5_hasBox 2 (some .boolean)]
def wsL_law0_r25 : List Cond := [Cond.methodLink RL 133 yL_stands, Cond.static yL_stands, Cond.codeWith yL_stands cL_stands 4 (some .int) [(0, 16, 19, 13)], Cond.methodLink RL 64 yX4_stands, Cond.instanceMethod yX4_stands, Cond.selects RX4 yX4_stands yX4_stands, Cond.code yX4_stands cX4_stands 3 (some .boolean), Cond.methodLink RL 135 yX5_stands, Cond.instanceMethod yX5_stands, Cond.selects RX5 yX5_stands yX5_stands, Cond.code yX5_stands cX5_stands 2 (some .boolean), Cond.methodLink RL 136 yL_approvers, Cond.static yL_approvers, Cond.codeWith yL_approvers cL_approvers 4 (some .int) [(0, 9, 12, 13)], Cond.methodLink RL 68 yX4_approvers, Cond.instanceMethod yX4_approvers, Cond.selects RX4 yX4_approvers yX4_approvers, Cond.code yX4_approvers cX4_approvers 5 (some .int), Cond.fieldLink RX4 188 "Readingorder$Approval" "person" "I", Cond.methodLink RL 138 yX5_approvers, Cond.instanceMethod yX5_approvers, Cond.selects RX5 yX5_approvers yX5_approvers, Cond.code yX5_approvers cX5_approvers 4 (some .int), Cond.methodLink RL 139 yL_breaks]
def wsL_law0_r26 : List Cond := [Cond.static yL_breaks, Cond.codeWith yL_breaks cL_breaks 6 (some .int) [(0, 12, 15, 13), (0, 12, 19, 15)], Cond.methodLink RL 71 yX4_breaks, Cond.instanceMethod yX4_breaks, Cond.selects RX4 yX4_breaks yX4_breaks, Cond.code yX4_breaks cX4_breaks 7 (some .int), Cond.methodLink RX4 198 yX4_countHolding, Cond.instanceMethod yX4_countHolding, Cond.selects RX4 yX4_countHolding yX4_countHolding, Cond.code yX4_countHolding cX4_countHolding 5 (some .int), Cond.methodLink RL 141 yX5_breaks, Cond.instanceMethod yX5_breaks, Cond.selects RX5 yX5_breaks yX5_breaks, Cond.code yX5_breaks cX5_breaks 8 (some .int)]
def wsL_law0 : List Cond := (wsL_law0_r1 ++ (wsL_law0_r2 ++ (wsL_law0_r3 ++ (wsL_law0_r4 ++ (wsL_law0_r5 ++ (wsL_law0_r6 ++ (wsL_law0_r7 ++ (wsL_law0_r8 ++ (wsL_law0_r9 ++ (wsL_law0_r10 ++ (wsL_law0_r11 ++ (wsL_law0_r12 ++ (wsL_law0_r13 ++ (wsL_law0_r14 ++ (wsL_law0_r15 ++ (wsL_law0_r16 ++ (wsL_law0_r17 ++ (wsL_law0_r18 ++ (wsL_law0_r19 ++ (wsL_law0_r20 ++ (wsL_law0_r21 ++ (wsL_law0_r22 ++ (wsL_law0_r23 ++ (wsL_law0_r24 ++ (wsL_law0_r25 ++ wsL_law0_r26))))))))))))))))))))))))) ++ wsX40 ++ wsX50 ++ wsX30 ++ wsX20 ++ wsX10 ++ wsX00 ++ ([] : List Cond)
def wsL_law : List Cond := wsL_law0 ++ (vx_atS RX4 54 "java/lang/IllegalArgumentException" ["java/lang/RuntimeException", "java/lang/Exception"]).filter goodWord ++ (vx_atS RX4 65 "java/lang/IllegalStateException" ["java/lang/RuntimeException", "java/lang/Exception"]).filter goodWord ++ (vx_atS RX4 146 "java/lang/IndexOutOfBoundsException" ["java/lang/RuntimeException", "java/lang/Exception"]).filter goodWord
end
section
theorem dX0_init_0 : decode cX0_init 0 = .ok (.aload_n 0, 1) := by decide +kernel
theorem dX0_init_1 : decode cX0_init 1 = .ok (.invokespecial 1, 3) := by decide +kernel
theorem dX0_init_4 : decode cX0_init 4 = .ok (.aload_n 0, 1) := by decide +kernel
theorem dX0_init_5 : decode cX0_init 5 = .ok (.iconst 1, 1) := by decide +kernel
theorem dX0_init_6 : decode cX0_init 6 = .ok (.putfield 7, 3) := by decide +kernel
theorem dX0_init_9 : decode cX0_init 9 = .ok (.aload_n 0, 1) := by decide +kernel
theorem dX0_init_10 : decode cX0_init 10 = .ok (.iload_n 1, 1) := by decide +kernel
theorem dX0_init_11 : decode cX0_init 11 = .ok (.putfield 13, 3) := by decide +kernel
theorem dX0_init_14 : decode cX0_init 14 = .ok (.aload_n 0, 1) := by decide +kernel
theorem dX0_init_15 : decode cX0_init 15 = .ok (.iload_n 2, 1) := by decide +kernel
theorem dX0_init_16 : decode cX0_init 16 = .ok (.putfield 17, 3) := by decide +kernel
theorem dX0_init_19 : decode cX0_init 19 = .ok (.return_, 1) := by decide +kernel
theorem dX0_holdsFor_0 : decode cX0_holdsFor 0 = .ok (.aload_n 0, 1) := by decide +kernel
theorem dX0_holdsFor_1 : decode cX0_holdsFor 1 = .ok (.getfield 7, 3) := by decide +kernel
theorem dX0_holdsFor_4 : decode cX0_holdsFor 4 = .ok (.ifCond .eq 15, 3) := by decide +kernel
theorem dX0_holdsFor_7 : decode cX0_holdsFor 7 = .ok (.aload_n 0, 1) := by decide +kernel
theorem dX0_holdsFor_8 : decode cX0_holdsFor 8 = .ok (.getfield 17, 3) := by decide +kernel
theorem dX0_holdsFor_11 : decode cX0_holdsFor 11 = .ok (.iload_n 1, 1) := by decide +kernel
theorem dX0_holdsFor_12 : decode cX0_holdsFor 12 = .ok (.if_icmp .ne 7, 3) := by decide +kernel
theorem dX0_holdsFor_15 : decode cX0_holdsFor 15 = .ok (.iconst 1, 1) := by decide +kernel
theorem dX0_holdsFor_16 : decode cX0_holdsFor 16 = .ok (.goto 4, 3) := by decide +kernel
theorem dX0_holdsFor_19 : decode cX0_holdsFor 19 = .ok (.iconst 0, 1) := by decide +kernel
theorem dX0_holdsFor_20 : decode cX0_holdsFor 20 = .ok (.ireturn, 1) := by decide +kernel
theorem dX1_init_0 : decode cX1_init 0 = .ok (.aload_n 0, 1) := by decide +kernel
theorem dX1_init_1 : decode cX1_init 1 = .ok (.invokespecial 3, 3) := by decide +kernel
theorem dX1_init_4 : decode cX1_init 4 = .ok (.aload_n 0, 1) := by decide +kernel
theorem dX1_init_5 : decode cX1_init 5 = .ok (.iconst 0, 1) := by decide +kernel
theorem dX1_init_6 : decode cX1_init 6 = .ok (.putfield 9, 3) := by decide +kernel
theorem dX1_init_9 : decode cX1_init 9 = .ok (.aload_n 0, 1) := by decide +kernel
theorem dX1_init_10 : decode cX1_init 10 = .ok (.aconst_null, 1) := by decide +kernel
theorem dX1_init_11 : decode cX1_init 11 = .ok (.putfield 15, 3) := by decide +kernel
theorem dX1_init_14 : decode cX1_init 14 = .ok (.aload_n 0, 1) := by decide +kernel
theorem dX1_init_15 : decode cX1_init 15 = .ok (.aconst_null, 1) := by decide +kernel
theorem dX1_init_16 : decode cX1_init 16 = .ok (.putfield 19, 3) := by decide +kernel
theorem dX1_init_19 : decode cX1_init 19 = .ok (.aload_n 0, 1) := by decide +kernel
theorem dX1_init_20 : decode cX1_init 20 = .ok (.iload_n 1, 1) := by decide +kernel
theorem dX1_init_21 : decode cX1_init 21 = .ok (.putfield 22, 3) := by decide +kernel
theorem dX1_init_24 : decode cX1_init 24 = .ok (.aload_n 0, 1) := by decide +kernel
theorem dX1_init_25 : decode cX1_init 25 = .ok (.iload_n 2, 1) := by decide +kernel
theorem dX1_init_26 : decode cX1_init 26 = .ok (.putfield 26, 3) := by decide +kernel
theorem dX1_init_29 : decode cX1_init 29 = .ok (.aload_n 0, 1) := by decide +kernel
theorem dX1_init_30 : decode cX1_init 30 = .ok (.iload_n 3, 1) := by decide +kernel
theorem dX1_init_31 : decode cX1_init 31 = .ok (.putfield 29, 3) := by decide +kernel
theorem dX1_init_34 : decode cX1_init 34 = .ok (.aload_n 0, 1) := by decide +kernel
theorem dX1_init_35 : decode cX1_init 35 = .ok (.iload 4, 2) := by decide +kernel
theorem dX1_init_37 : decode cX1_init 37 = .ok (.putfield 32, 3) := by decide +kernel
theorem dX1_init_40 : decode cX1_init 40 = .ok (.aload_n 0, 1) := by decide +kernel
theorem dX1_init_41 : decode cX1_init 41 = .ok (.iload 5, 2) := by decide +kernel
theorem dX1_init_43 : decode cX1_init 43 = .ok (.putfield 35, 3) := by decide +kernel
theorem dX1_init_46 : decode cX1_init 46 = .ok (.aload_n 0, 1) := by decide +kernel
theorem dX1_init_47 : decode cX1_init 47 = .ok (.iload 6, 2) := by decide +kernel
theorem dX1_init_49 : decode cX1_init 49 = .ok (.putfield 38, 3) := by decide +kernel
theorem dX1_init_52 : decode cX1_init 52 = .ok (.aload_n 0, 1) := by decide +kernel
theorem dX1_init_53 : decode cX1_init 53 = .ok (.iload 7, 2) := by decide +kernel
theorem dX1_init_55 : decode cX1_init 55 = .ok (.putfield 41, 3) := by decide +kernel
theorem dX1_init_58 : decode cX1_init 58 = .ok (.return_, 1) := by decide +kernel
theorem dX1_bottom_0 : decode cX1_bottom 0 = .ok (.aload_n 0, 1) := by decide +kernel
theorem dX1_bottom_1 : decode cX1_bottom 1 = .ok (.getfield 32, 3) := by decide +kernel
theorem dX1_bottom_4 : decode cX1_bottom 4 = .ok (.aload_n 0, 1) := by decide +kernel
theorem dX1_bottom_5 : decode cX1_bottom 5 = .ok (.getfield 38, 3) := by decide +kernel
theorem dX1_bottom_8 : decode cX1_bottom 8 = .ok (.iadd, 1) := by decide +kernel
theorem dX1_bottom_9 : decode cX1_bottom 9 = .ok (.ireturn, 1) := by decide +kernel
theorem dX1_begin_0 : decode cX1_begin 0 = .ok (.iload_n 1, 1) := by decide +kernel
theorem dX1_begin_1 : decode cX1_begin 1 = .ok (.ifCond .eq 10, 3) := by decide +kernel
theorem dX1_begin_4 : decode cX1_begin 4 = .ok (.aload_n 0, 1) := by decide +kernel
theorem dX1_begin_5 : decode cX1_begin 5 = .ok (.getfield 32, 3) := by decide +kernel
theorem dX1_begin_8 : decode cX1_begin 8 = .ok (.goto 7, 3) := by decide +kernel
theorem dX1_begin_11 : decode cX1_begin 11 = .ok (.aload_n 0, 1) := by decide +kernel
theorem dX1_begin_12 : decode cX1_begin 12 = .ok (.getfield 29, 3) := by decide +kernel
theorem dX1_begin_15 : decode cX1_begin 15 = .ok (.ireturn, 1) := by decide +kernel
theorem dX1_end_0 : decode cX1_end 0 = .ok (.iload_n 1, 1) := by decide +kernel
theorem dX1_end_1 : decode cX1_end 1 = .ok (.ifCond .eq 15, 3) := by decide +kernel
theorem dX1_end_4 : decode cX1_end 4 = .ok (.aload_n 0, 1) := by decide +kernel
theorem dX1_end_5 : decode cX1_end 5 = .ok (.getfield 32, 3) := by decide +kernel
theorem dX1_end_8 : decode cX1_end 8 = .ok (.aload_n 0, 1) := by decide +kernel
theorem dX1_end_9 : decode cX1_end 9 = .ok (.getfield 38, 3) := by decide +kernel
theorem dX1_end_12 : decode cX1_end 12 = .ok (.iadd, 1) := by decide +kernel
theorem dX1_end_13 : decode cX1_end 13 = .ok (.goto 12, 3) := by decide +kernel
theorem dX1_end_16 : decode cX1_end 16 = .ok (.aload_n 0, 1) := by decide +kernel
theorem dX1_end_17 : decode cX1_end 17 = .ok (.getfield 29, 3) := by decide +kernel
theorem dX1_end_20 : decode cX1_end 20 = .ok (.aload_n 0, 1) := by decide +kernel
theorem dX1_end_21 : decode cX1_end 21 = .ok (.getfield 35, 3) := by decide +kernel
theorem dX1_end_24 : decode cX1_end 24 = .ok (.iadd, 1) := by decide +kernel
theorem dX1_end_25 : decode cX1_end 25 = .ok (.ireturn, 1) := by decide +kernel
theorem dX1_middleAcross_0 : decode cX1_middleAcross 0 = .ok (.aload_n 0, 1) := by decide +kernel
theorem dX1_middleAcross_1 : decode cX1_middleAcross 1 = .ok (.getfield 29, 3) := by decide +kernel
theorem dX1_middleAcross_4 : decode cX1_middleAcross 4 = .ok (.aload_n 0, 1) := by decide +kernel
theorem dX1_middleAcross_5 : decode cX1_middleAcross 5 = .ok (.getfield 35, 3) := by decide +kernel
theorem dX1_middleAcross_8 : decode cX1_middleAcross 8 = .ok (.iconst 2, 1) := by decide +kernel
theorem dX1_middleAcross_9 : decode cX1_middleAcross 9 = .ok (.idiv, 1) := by decide +kernel
theorem dX1_middleAcross_10 : decode cX1_middleAcross 10 = .ok (.iadd, 1) := by decide +kernel
theorem dX1_middleAcross_11 : decode cX1_middleAcross 11 = .ok (.ireturn, 1) := by decide +kernel
theorem dX1_middleDown_0 : decode cX1_middleDown 0 = .ok (.aload_n 0, 1) := by decide +kernel
theorem dX1_middleDown_1 : decode cX1_middleDown 1 = .ok (.getfield 32, 3) := by decide +kernel
theorem dX1_middleDown_4 : decode cX1_middleDown 4 = .ok (.aload_n 0, 1) := by decide +kernel
theorem dX1_middleDown_5 : decode cX1_middleDown 5 = .ok (.getfield 38, 3) := by decide +kernel
theorem dX1_middleDown_8 : decode cX1_middleDown 8 = .ok (.iconst 2, 1) := by decide +kernel
theorem dX1_middleDown_9 : decode cX1_middleDown 9 = .ok (.idiv, 1) := by decide +kernel
theorem dX1_middleDown_10 : decode cX1_middleDown 10 = .ok (.iadd, 1) := by decide +kernel
theorem dX1_middleDown_11 : decode cX1_middleDown 11 = .ok (.ireturn, 1) := by decide +kernel
theorem dX1_isHead_0 : decode cX1_isHead 0 = .ok (.aload_n 0, 1) := by decide +kernel
theorem dX1_isHead_1 : decode cX1_isHead 1 = .ok (.getfield 41, 3) := by decide +kernel
theorem dX1_isHead_4 : decode cX1_isHead 4 = .ok (.iconst 4, 1) := by decide +kernel
theorem dX1_isHead_5 : decode cX1_isHead 5 = .ok (.if_icmp .lt 7, 3) := by decide +kernel
theorem dX1_isHead_8 : decode cX1_isHead 8 = .ok (.iconst 1, 1) := by decide +kernel
theorem dX1_isHead_9 : decode cX1_isHead 9 = .ok (.goto 4, 3) := by decide +kernel
theorem dX1_isHead_12 : decode cX1_isHead 12 = .ok (.iconst 0, 1) := by decide +kernel
theorem dX1_isHead_13 : decode cX1_isHead 13 = .ok (.ireturn, 1) := by decide +kernel
theorem dX1_level_0 : decode cX1_level 0 = .ok (.aload_n 0, 1) := by decide +kernel
theorem dX1_level_1 : decode cX1_level 1 = .ok (.getfield 41, 3) := by decide +kernel
theorem dX1_level_4 : decode cX1_level 4 = .ok (.iconst 4, 1) := by decide +kernel
theorem dX1_level_5 : decode cX1_level 5 = .ok (.isub, 1) := by decide +kernel
theorem dX1_level_6 : decode cX1_level 6 = .ok (.iconst 1, 1) := by decide +kernel
theorem dX1_level_7 : decode cX1_level 7 = .ok (.iadd, 1) := by decide +kernel
theorem dX1_level_8 : decode cX1_level 8 = .ok (.ireturn, 1) := by decide +kernel
set_option maxRecDepth 20000 in
theorem ggX1_overlaps_X1_bottom : GoodIn wsX1_overlaps wsX1_bottom := goodIn_r _ [8, 3, 9, 10, 11, 12, 13, 14, 15, 16, 17, 18, 19] (by decide +kernel) (by decide +kernel)
set_option maxRecDepth 20000 in
theorem gX1_overlaps_X1_bottom : GoodIn wsX1_overlaps (wsV RX1 44 RX1 yX1_bottom wsX1_bottom) := goodIn_app (goodIn_of _ (by decide +kernel)) ggX1_overlaps_X1_bottom
theorem dX1_overlaps_0 : decode cX1_overlaps 0 = .ok (.aload_n 0, 1) := by decide +kernel
theorem dX1_overlaps_1 : decode cX1_overlaps 1 = .ok (.getfield 29, 3) := by decide +kernel
theorem dX1_overlaps_4 : decode cX1_overlaps 4 = .ok (.aload_n 1, 1) := by decide +kernel
theorem dX1_overlaps_5 : decode cX1_overlaps 5 = .ok (.getfield 29, 3) := by decide +kernel
theorem dX1_overlaps_8 : decode cX1_overlaps 8 = .ok (.aload_n 1, 1) := by decide +kernel
theorem dX1_overlaps_9 : decode cX1_overlaps 9 = .ok (.getfield 35, 3) := by decide +kernel
theorem dX1_overlaps_12 : decode cX1_overlaps 12 = .ok (.iadd, 1) := by decide +kernel
theorem dX1_overlaps_13 : decode cX1_overlaps 13 = .ok (.if_icmp .ge 45, 3) := by decide +kernel
theorem dX1_overlaps_16 : decode cX1_overlaps 16 = .ok (.aload_n 1, 1) := by decide +kernel
theorem dX1_overlaps_17 : decode cX1_overlaps 17 = .ok (.getfield 29, 3) := by decide +kernel
theorem dX1_overlaps_20 : decode cX1_overlaps 20 = .ok (.aload_n 0, 1) := by decide +kernel
theorem dX1_overlaps_21 : decode cX1_overlaps 21 = .ok (.getfield 29, 3) := by decide +kernel
theorem dX1_overlaps_24 : decode cX1_overlaps 24 = .ok (.aload_n 0, 1) := by decide +kernel
theorem dX1_overlaps_25 : decode cX1_overlaps 25 = .ok (.getfield 35, 3) := by decide +kernel
theorem dX1_overlaps_28 : decode cX1_overlaps 28 = .ok (.iadd, 1) := by decide +kernel
theorem dX1_overlaps_29 : decode cX1_overlaps 29 = .ok (.if_icmp .ge 29, 3) := by decide +kernel
theorem dX1_overlaps_32 : decode cX1_overlaps 32 = .ok (.aload_n 0, 1) := by decide +kernel
theorem dX1_overlaps_33 : decode cX1_overlaps 33 = .ok (.getfield 32, 3) := by decide +kernel
theorem dX1_overlaps_36 : decode cX1_overlaps 36 = .ok (.aload_n 1, 1) := by decide +kernel
theorem dX1_overlaps_37 : decode cX1_overlaps 37 = .ok (.invokevirtual 44, 3) := by decide +kernel
theorem dX1_overlaps_40 : decode cX1_overlaps 40 = .ok (.if_icmp .ge 18, 3) := by decide +kernel
theorem dX1_overlaps_43 : decode cX1_overlaps 43 = .ok (.aload_n 1, 1) := by decide +kernel
theorem dX1_overlaps_44 : decode cX1_overlaps 44 = .ok (.getfield 32, 3) := by decide +kernel
theorem dX1_overlaps_47 : decode cX1_overlaps 47 = .ok (.aload_n 0, 1) := by decide +kernel
theorem dX1_overlaps_48 : decode cX1_overlaps 48 = .ok (.invokevirtual 44, 3) := by decide +kernel
theorem dX1_overlaps_51 : decode cX1_overlaps 51 = .ok (.if_icmp .ge 7, 3) := by decide +kernel
theorem dX1_overlaps_54 : decode cX1_overlaps 54 = .ok (.iconst 1, 1) := by decide +kernel
theorem dX1_overlaps_55 : decode cX1_overlaps 55 = .ok (.goto 4, 3) := by decide +kernel
theorem dX1_overlaps_58 : decode cX1_overlaps 58 = .ok (.iconst 0, 1) := by decide +kernel
theorem dX1_overlaps_59 : decode cX1_overlaps 59 = .ok (.ireturn, 1) := by decide +kernel
theorem dX1_isAheadByEdges_0 : decode cX1_isAheadByEdges 0 = .ok (.aload_n 0, 1) := by decide +kernel
theorem dX1_isAheadByEdges_1 : decode cX1_isAheadByEdges 1 = .ok (.getfield 32, 3) := by decide +kernel
theorem dX1_isAheadByEdges_4 : decode cX1_isAheadByEdges 4 = .ok (.aload_n 1, 1) := by decide +kernel
theorem dX1_isAheadByEdges_5 : decode cX1_isAheadByEdges 5 = .ok (.getfield 32, 3) := by decide +kernel
theorem dX1_isAheadByEdges_8 : decode cX1_isAheadByEdges 8 = .ok (.if_icmp .eq 20, 3) := by decide +kernel
theorem dX1_isAheadByEdges_11 : decode cX1_isAheadByEdges 11 = .ok (.aload_n 0, 1) := by decide +kernel
theorem dX1_isAheadByEdges_12 : decode cX1_isAheadByEdges 12 = .ok (.getfield 32, 3) := by decide +kernel
theorem dX1_isAheadByEdges_15 : decode cX1_isAheadByEdges 15 = .ok (.aload_n 1, 1) := by decide +kernel
theorem dX1_isAheadByEdges_16 : decode cX1_isAheadByEdges 16 = .ok (.getfield 32, 3) := by decide +kernel
theorem dX1_isAheadByEdges_19 : decode cX1_isAheadByEdges 19 = .ok (.if_icmp .ge 7, 3) := by decide +kernel
theorem dX1_isAheadByEdges_22 : decode cX1_isAheadByEdges 22 = .ok (.iconst 1, 1) := by decide +kernel
theorem dX1_isAheadByEdges_23 : decode cX1_isAheadByEdges 23 = .ok (.goto 4, 3) := by decide +kernel
theorem dX1_isAheadByEdges_26 : decode cX1_isAheadByEdges 26 = .ok (.iconst 0, 1) := by decide +kernel
theorem dX1_isAheadByEdges_27 : decode cX1_isAheadByEdges 27 = .ok (.ireturn, 1) := by decide +kernel
theorem dX1_isAheadByEdges_28 : decode cX1_isAheadByEdges 28 = .ok (.aload_n 0, 1) := by decide +kernel
theorem dX1_isAheadByEdges_29 : decode cX1_isAheadByEdges 29 = .ok (.getfield 29, 3) := by decide +kernel
theorem dX1_isAheadByEdges_32 : decode cX1_isAheadByEdges 32 = .ok (.aload_n 1, 1) := by decide +kernel
theorem dX1_isAheadByEdges_33 : decode cX1_isAheadByEdges 33 = .ok (.getfield 29, 3) := by decide +kernel
theorem dX1_isAheadByEdges_36 : decode cX1_isAheadByEdges 36 = .ok (.if_icmp .eq 20, 3) := by decide +kernel
theorem dX1_isAheadByEdges_39 : decode cX1_isAheadByEdges 39 = .ok (.aload_n 0, 1) := by decide +kernel
theorem dX1_isAheadByEdges_40 : decode cX1_isAheadByEdges 40 = .ok (.getfield 29, 3) := by decide +kernel
theorem dX1_isAheadByEdges_43 : decode cX1_isAheadByEdges 43 = .ok (.aload_n 1, 1) := by decide +kernel
theorem dX1_isAheadByEdges_44 : decode cX1_isAheadByEdges 44 = .ok (.getfield 29, 3) := by decide +kernel
theorem dX1_isAheadByEdges_47 : decode cX1_isAheadByEdges 47 = .ok (.if_icmp .ge 7, 3) := by decide +kernel
theorem dX1_isAheadByEdges_50 : decode cX1_isAheadByEdges 50 = .ok (.iconst 1, 1) := by decide +kernel
theorem dX1_isAheadByEdges_51 : decode cX1_isAheadByEdges 51 = .ok (.goto 4, 3) := by decide +kernel
theorem dX1_isAheadByEdges_54 : decode cX1_isAheadByEdges 54 = .ok (.iconst 0, 1) := by decide +kernel
theorem dX1_isAheadByEdges_55 : decode cX1_isAheadByEdges 55 = .ok (.ireturn, 1) := by decide +kernel
theorem dX1_isAheadByEdges_56 : decode cX1_isAheadByEdges 56 = .ok (.aload_n 0, 1) := by decide +kernel
theorem dX1_isAheadByEdges_57 : decode cX1_isAheadByEdges 57 = .ok (.getfield 22, 3) := by decide +kernel
theorem dX1_isAheadByEdges_60 : decode cX1_isAheadByEdges 60 = .ok (.aload_n 1, 1) := by decide +kernel
theorem dX1_isAheadByEdges_61 : decode cX1_isAheadByEdges 61 = .ok (.getfield 22, 3) := by decide +kernel
theorem dX1_isAheadByEdges_64 : decode cX1_isAheadByEdges 64 = .ok (.if_icmp .ge 7, 3) := by decide +kernel
theorem dX1_isAheadByEdges_67 : decode cX1_isAheadByEdges 67 = .ok (.iconst 1, 1) := by decide +kernel
theorem dX1_isAheadByEdges_68 : decode cX1_isAheadByEdges 68 = .ok (.goto 4, 3) := by decide +kernel
theorem dX1_isAheadByEdges_71 : decode cX1_isAheadByEdges 71 = .ok (.iconst 0, 1) := by decide +kernel
theorem dX1_isAheadByEdges_72 : decode cX1_isAheadByEdges 72 = .ok (.ireturn, 1) := by decide +kernel
theorem dX1_comesBehind_0 : decode cX1_comesBehind 0 = .ok (.aload_n 0, 1) := by decide +kernel
theorem dX1_comesBehind_1 : decode cX1_comesBehind 1 = .ok (.getfield 15, 3) := by decide +kernel
theorem dX1_comesBehind_4 : decode cX1_comesBehind 4 = .ok (.astore_n 2, 1) := by decide +kernel
theorem dX1_comesBehind_5 : decode cX1_comesBehind 5 = .ok (.aload_n 2, 1) := by decide +kernel
theorem dX1_comesBehind_6 : decode cX1_comesBehind 6 = .ok (.ifnull 18, 3) := by decide +kernel
theorem dX1_comesBehind_9 : decode cX1_comesBehind 9 = .ok (.aload_n 2, 1) := by decide +kernel
theorem dX1_comesBehind_10 : decode cX1_comesBehind 10 = .ok (.aload_n 1, 1) := by decide +kernel
theorem dX1_comesBehind_11 : decode cX1_comesBehind 11 = .ok (.if_acmp .ne 5, 3) := by decide +kernel
theorem dX1_comesBehind_14 : decode cX1_comesBehind 14 = .ok (.iconst 1, 1) := by decide +kernel
theorem dX1_comesBehind_15 : decode cX1_comesBehind 15 = .ok (.ireturn, 1) := by decide +kernel
theorem dX1_comesBehind_16 : decode cX1_comesBehind 16 = .ok (.aload_n 2, 1) := by decide +kernel
theorem dX1_comesBehind_17 : decode cX1_comesBehind 17 = .ok (.getfield 15, 3) := by decide +kernel
theorem dX1_comesBehind_20 : decode cX1_comesBehind 20 = .ok (.astore_n 2, 1) := by decide +kernel
theorem dX1_comesBehind_21 : decode cX1_comesBehind 21 = .ok (.goto (-16), 3) := by decide +kernel
theorem dX1_comesBehind_24 : decode cX1_comesBehind 24 = .ok (.iconst 0, 1) := by decide +kernel
theorem dX1_comesBehind_25 : decode cX1_comesBehind 25 = .ok (.ireturn, 1) := by decide +kernel
theorem dX1_loosenFromLeader_0 : decode cX1_loosenFromLeader 0 = .ok (.aload_n 0, 1) := by decide +kernel
theorem dX1_loosenFromLeader_1 : decode cX1_loosenFromLeader 1 = .ok (.getfield 15, 3) := by decide +kernel
theorem dX1_loosenFromLeader_4 : decode cX1_loosenFromLeader 4 = .ok (.ifnull 16, 3) := by decide +kernel
theorem dX1_loosenFromLeader_7 : decode cX1_loosenFromLeader 7 = .ok (.aload_n 0, 1) := by decide +kernel
theorem dX1_loosenFromLeader_8 : decode cX1_loosenFromLeader 8 = .ok (.getfield 15, 3) := by decide +kernel
theorem dX1_loosenFromLeader_11 : decode cX1_loosenFromLeader 11 = .ok (.aconst_null, 1) := by decide +kernel
theorem dX1_loosenFromLeader_12 : decode cX1_loosenFromLeader 12 = .ok (.putfield 19, 3) := by decide +kernel
theorem dX1_loosenFromLeader_15 : decode cX1_loosenFromLeader 15 = .ok (.aload_n 0, 1) := by decide +kernel
theorem dX1_loosenFromLeader_16 : decode cX1_loosenFromLeader 16 = .ok (.aconst_null, 1) := by decide +kernel
theorem dX1_loosenFromLeader_17 : decode cX1_loosenFromLeader 17 = .ok (.putfield 15, 3) := by decide +kernel
theorem dX1_loosenFromLeader_20 : decode cX1_loosenFromLeader 20 = .ok (.return_, 1) := by decide +kernel
theorem dX1_loosenFromFollower_0 : decode cX1_loosenFromFollower 0 = .ok (.aload_n 0, 1) := by decide +kernel
theorem dX1_loosenFromFollower_1 : decode cX1_loosenFromFollower 1 = .ok (.getfield 19, 3) := by decide +kernel
theorem dX1_loosenFromFollower_4 : decode cX1_loosenFromFollower 4 = .ok (.ifnull 16, 3) := by decide +kernel
theorem dX1_loosenFromFollower_7 : decode cX1_loosenFromFollower 7 = .ok (.aload_n 0, 1) := by decide +kernel
theorem dX1_loosenFromFollower_8 : decode cX1_loosenFromFollower 8 = .ok (.getfield 19, 3) := by decide +kernel
theorem dX1_loosenFromFollower_11 : decode cX1_loosenFromFollower 11 = .ok (.aconst_null, 1) := by decide +kernel
theorem dX1_loosenFromFollower_12 : decode cX1_loosenFromFollower 12 = .ok (.putfield 15, 3) := by decide +kernel
theorem dX1_loosenFromFollower_15 : decode cX1_loosenFromFollower 15 = .ok (.aload_n 0, 1) := by decide +kernel
theorem dX1_loosenFromFollower_16 : decode cX1_loosenFromFollower 16 = .ok (.aconst_null, 1) := by decide +kernel
theorem dX1_loosenFromFollower_17 : decode cX1_loosenFromFollower 17 = .ok (.putfield 19, 3) := by decide +kernel
theorem dX1_loosenFromFollower_20 : decode cX1_loosenFromFollower 20 = .ok (.return_, 1) := by decide +kernel
theorem dX2_init_0 : decode cX2_init 0 = .ok (.aload_n 0, 1) := by decide +kernel
theorem dX2_init_1 : decode cX2_init 1 = .ok (.invokespecial 3, 3) := by decide +kernel
theorem dX2_init_4 : decode cX2_init 4 = .ok (.aload_n 0, 1) := by decide +kernel
theorem dX2_init_5 : decode cX2_init 5 = .ok (.bipush 24, 2) := by decide +kernel
theorem dX2_init_7 : decode cX2_init 7 = .ok (.newarray .int, 2) := by decide +kernel
theorem dX2_init_9 : decode cX2_init 9 = .ok (.putfield 9, 3) := by decide +kernel
theorem dX2_init_12 : decode cX2_init 12 = .ok (.aload_n 0, 1) := by decide +kernel
theorem dX2_init_13 : decode cX2_init 13 = .ok (.iconst 0, 1) := by decide +kernel
theorem dX2_init_14 : decode cX2_init 14 = .ok (.putfield 15, 3) := by decide +kernel
theorem dX2_init_17 : decode cX2_init 17 = .ok (.return_, 1) := by decide +kernel
theorem dX2_put_0 : decode cX2_put 0 = .ok (.aload_n 0, 1) := by decide +kernel
theorem dX2_put_1 : decode cX2_put 1 = .ok (.getfield 15, 3) := by decide +kernel
theorem dX2_put_4 : decode cX2_put 4 = .ok (.ifCond .lt 35, 3) := by decide +kernel
theorem dX2_put_7 : decode cX2_put 7 = .ok (.aload_n 0, 1) := by decide +kernel
theorem dX2_put_8 : decode cX2_put 8 = .ok (.getfield 15, 3) := by decide +kernel
theorem dX2_put_11 : decode cX2_put 11 = .ok (.aload_n 0, 1) := by decide +kernel
theorem dX2_put_12 : decode cX2_put 12 = .ok (.getfield 9, 3) := by decide +kernel
theorem dX2_put_15 : decode cX2_put 15 = .ok (.arraylength, 1) := by decide +kernel
theorem dX2_put_16 : decode cX2_put 16 = .ok (.if_icmp .ge 23, 3) := by decide +kernel
theorem dX2_put_19 : decode cX2_put 19 = .ok (.aload_n 0, 1) := by decide +kernel
theorem dX2_put_20 : decode cX2_put 20 = .ok (.getfield 9, 3) := by decide +kernel
theorem dX2_put_23 : decode cX2_put 23 = .ok (.aload_n 0, 1) := by decide +kernel
theorem dX2_put_24 : decode cX2_put 24 = .ok (.getfield 15, 3) := by decide +kernel
theorem dX2_put_27 : decode cX2_put 27 = .ok (.iload_n 1, 1) := by decide +kernel
theorem dX2_put_28 : decode cX2_put 28 = .ok (.iastore, 1) := by decide +kernel
theorem dX2_put_29 : decode cX2_put 29 = .ok (.aload_n 0, 1) := by decide +kernel
theorem dX2_put_30 : decode cX2_put 30 = .ok (.dup, 1) := by decide +kernel
theorem dX2_put_31 : decode cX2_put 31 = .ok (.getfield 15, 3) := by decide +kernel
theorem dX2_put_34 : decode cX2_put 34 = .ok (.iconst 1, 1) := by decide +kernel
theorem dX2_put_35 : decode cX2_put 35 = .ok (.iadd, 1) := by decide +kernel
theorem dX2_put_36 : decode cX2_put 36 = .ok (.putfield 15, 3) := by decide +kernel
theorem dX2_put_39 : decode cX2_put 39 = .ok (.return_, 1) := by decide +kernel
theorem dX2_take_0 : decode cX2_take 0 = .ok (.aload_n 0, 1) := by decide +kernel
theorem dX2_take_1 : decode cX2_take 1 = .ok (.getfield 15, 3) := by decide +kernel
theorem dX2_take_4 : decode cX2_take 4 = .ok (.iconst 1, 1) := by decide +kernel
theorem dX2_take_5 : decode cX2_take 5 = .ok (.isub, 1) := by decide +kernel
theorem dX2_take_6 : decode cX2_take 6 = .ok (.istore_n 1, 1) := by decide +kernel
theorem dX2_take_7 : decode cX2_take 7 = .ok (.iload_n 1, 1) := by decide +kernel
theorem dX2_take_8 : decode cX2_take 8 = .ok (.ifCond .lt 12, 3) := by decide +kernel
theorem dX2_take_11 : decode cX2_take 11 = .ok (.iload_n 1, 1) := by decide +kernel
theorem dX2_take_12 : decode cX2_take 12 = .ok (.aload_n 0, 1) := by decide +kernel
theorem dX2_take_13 : decode cX2_take 13 = .ok (.getfield 9, 3) := by decide +kernel
theorem dX2_take_16 : decode cX2_take 16 = .ok (.arraylength, 1) := by decide +kernel
theorem dX2_take_17 : decode cX2_take 17 = .ok (.if_icmp .lt 5, 3) := by decide +kernel
theorem dX2_take_20 : decode cX2_take 20 = .ok (.iconst 0, 1) := by decide +kernel
theorem dX2_take_21 : decode cX2_take 21 = .ok (.ireturn, 1) := by decide +kernel
theorem dX2_take_22 : decode cX2_take 22 = .ok (.aload_n 0, 1) := by decide +kernel
theorem dX2_take_23 : decode cX2_take 23 = .ok (.iload_n 1, 1) := by decide +kernel
theorem dX2_take_24 : decode cX2_take 24 = .ok (.putfield 15, 3) := by decide +kernel
theorem dX2_take_27 : decode cX2_take 27 = .ok (.aload_n 0, 1) := by decide +kernel
theorem dX2_take_28 : decode cX2_take 28 = .ok (.getfield 9, 3) := by decide +kernel
theorem dX2_take_31 : decode cX2_take 31 = .ok (.iload_n 1, 1) := by decide +kernel
theorem dX2_take_32 : decode cX2_take 32 = .ok (.iaload, 1) := by decide +kernel
theorem dX2_take_33 : decode cX2_take 33 = .ok (.ireturn, 1) := by decide +kernel
theorem dX3_init_0 : decode cX3_init 0 = .ok (.aload_n 0, 1) := by decide +kernel
theorem dX3_init_1 : decode cX3_init 1 = .ok (.invokespecial 3, 3) := by decide +kernel
theorem dX3_init_4 : decode cX3_init 4 = .ok (.aload_n 0, 1) := by decide +kernel
theorem dX3_init_5 : decode cX3_init 5 = .ok (.bipush 24, 2) := by decide +kernel
theorem dX3_init_7 : decode cX3_init 7 = .ok (.newarray .int, 2) := by decide +kernel
theorem dX3_init_9 : decode cX3_init 9 = .ok (.putfield 9, 3) := by decide +kernel
theorem dX3_init_12 : decode cX3_init 12 = .ok (.aload_n 0, 1) := by decide +kernel
theorem dX3_init_13 : decode cX3_init 13 = .ok (.iconst 0, 1) := by decide +kernel
theorem dX3_init_14 : decode cX3_init 14 = .ok (.putfield 15, 3) := by decide +kernel
theorem dX3_init_17 : decode cX3_init 17 = .ok (.return_, 1) := by decide +kernel
theorem dX3_add_0 : decode cX3_add 0 = .ok (.aload_n 0, 1) := by decide +kernel
theorem dX3_add_1 : decode cX3_add 1 = .ok (.getfield 15, 3) := by decide +kernel
theorem dX3_add_4 : decode cX3_add 4 = .ok (.ifCond .lt 35, 3) := by decide +kernel
theorem dX3_add_7 : decode cX3_add 7 = .ok (.aload_n 0, 1) := by decide +kernel
theorem dX3_add_8 : decode cX3_add 8 = .ok (.getfield 15, 3) := by decide +kernel
theorem dX3_add_11 : decode cX3_add 11 = .ok (.aload_n 0, 1) := by decide +kernel
theorem dX3_add_12 : decode cX3_add 12 = .ok (.getfield 9, 3) := by decide +kernel
theorem dX3_add_15 : decode cX3_add 15 = .ok (.arraylength, 1) := by decide +kernel
theorem dX3_add_16 : decode cX3_add 16 = .ok (.if_icmp .ge 23, 3) := by decide +kernel
theorem dX3_add_19 : decode cX3_add 19 = .ok (.aload_n 0, 1) := by decide +kernel
theorem dX3_add_20 : decode cX3_add 20 = .ok (.getfield 9, 3) := by decide +kernel
theorem dX3_add_23 : decode cX3_add 23 = .ok (.aload_n 0, 1) := by decide +kernel
theorem dX3_add_24 : decode cX3_add 24 = .ok (.getfield 15, 3) := by decide +kernel
theorem dX3_add_27 : decode cX3_add 27 = .ok (.iload_n 1, 1) := by decide +kernel
theorem dX3_add_28 : decode cX3_add 28 = .ok (.iastore, 1) := by decide +kernel
theorem dX3_add_29 : decode cX3_add 29 = .ok (.aload_n 0, 1) := by decide +kernel
theorem dX3_add_30 : decode cX3_add 30 = .ok (.dup, 1) := by decide +kernel
theorem dX3_add_31 : decode cX3_add 31 = .ok (.getfield 15, 3) := by decide +kernel
theorem dX3_add_34 : decode cX3_add 34 = .ok (.iconst 1, 1) := by decide +kernel
theorem dX3_add_35 : decode cX3_add 35 = .ok (.iadd, 1) := by decide +kernel
theorem dX3_add_36 : decode cX3_add 36 = .ok (.putfield 15, 3) := by decide +kernel
theorem dX3_add_39 : decode cX3_add 39 = .ok (.return_, 1) := by decide +kernel
theorem dX3_at_0 : decode cX3_at 0 = .ok (.iload_n 1, 1) := by decide +kernel
theorem dX3_at_1 : decode cX3_at 1 = .ok (.ifCond .lt 29, 3) := by decide +kernel
theorem dX3_at_4 : decode cX3_at 4 = .ok (.iload_n 1, 1) := by decide +kernel
theorem dX3_at_5 : decode cX3_at 5 = .ok (.aload_n 0, 1) := by decide +kernel
theorem dX3_at_6 : decode cX3_at 6 = .ok (.getfield 15, 3) := by decide +kernel
theorem dX3_at_9 : decode cX3_at 9 = .ok (.if_icmp .ge 21, 3) := by decide +kernel
theorem dX3_at_12 : decode cX3_at 12 = .ok (.iload_n 1, 1) := by decide +kernel
theorem dX3_at_13 : decode cX3_at 13 = .ok (.aload_n 0, 1) := by decide +kernel
theorem dX3_at_14 : decode cX3_at 14 = .ok (.getfield 9, 3) := by decide +kernel
theorem dX3_at_17 : decode cX3_at 17 = .ok (.arraylength, 1) := by decide +kernel
theorem dX3_at_18 : decode cX3_at 18 = .ok (.if_icmp .ge 12, 3) := by decide +kernel
theorem dX3_at_21 : decode cX3_at 21 = .ok (.aload_n 0, 1) := by decide +kernel
theorem dX3_at_22 : decode cX3_at 22 = .ok (.getfield 9, 3) := by decide +kernel
theorem dX3_at_25 : decode cX3_at 25 = .ok (.iload_n 1, 1) := by decide +kernel
theorem dX3_at_26 : decode cX3_at 26 = .ok (.iaload, 1) := by decide +kernel
theorem dX3_at_27 : decode cX3_at 27 = .ok (.goto 4, 3) := by decide +kernel
theorem dX3_at_30 : decode cX3_at 30 = .ok (.iconst (-1), 1) := by decide +kernel
theorem dX3_at_31 : decode cX3_at 31 = .ok (.ireturn, 1) := by decide +kernel
set_option maxRecDepth 20000 in
theorem ggX3_placeFor_X3_at : GoodIn wsX3_placeFor wsX3_at := goodIn_r _ [6, 1, 7, 8, 9] (by decide +kernel) (by decide +kernel)
set_option maxRecDepth 20000 in
theorem gX3_placeFor_X3_at : GoodIn wsX3_placeFor (wsV RX3 19 RX3 yX3_at wsX3_at) := goodIn_app (goodIn_of _ (by decide +kernel)) ggX3_placeFor_X3_at
theorem dX3_placeFor_0 : decode cX3_placeFor 0 = .ok (.iconst 0, 1) := by decide +kernel
theorem dX3_placeFor_1 : decode cX3_placeFor 1 = .ok (.istore_n 2, 1) := by decide +kernel
theorem dX3_placeFor_2 : decode cX3_placeFor 2 = .ok (.iload_n 2, 1) := by decide +kernel
theorem dX3_placeFor_3 : decode cX3_placeFor 3 = .ok (.aload_n 0, 1) := by decide +kernel
theorem dX3_placeFor_4 : decode cX3_placeFor 4 = .ok (.getfield 15, 3) := by decide +kernel
theorem dX3_placeFor_7 : decode cX3_placeFor 7 = .ok (.if_icmp .ge 20, 3) := by decide +kernel
theorem dX3_placeFor_10 : decode cX3_placeFor 10 = .ok (.aload_n 0, 1) := by decide +kernel
theorem dX3_placeFor_11 : decode cX3_placeFor 11 = .ok (.iload_n 2, 1) := by decide +kernel
theorem dX3_placeFor_12 : decode cX3_placeFor 12 = .ok (.invokevirtual 19, 3) := by decide +kernel
theorem dX3_placeFor_15 : decode cX3_placeFor 15 = .ok (.iload_n 1, 1) := by decide +kernel
theorem dX3_placeFor_16 : decode cX3_placeFor 16 = .ok (.if_icmp .ne 5, 3) := by decide +kernel
theorem dX3_placeFor_19 : decode cX3_placeFor 19 = .ok (.iload_n 2, 1) := by decide +kernel
theorem dX3_placeFor_20 : decode cX3_placeFor 20 = .ok (.ireturn, 1) := by decide +kernel
theorem dX3_placeFor_21 : decode cX3_placeFor 21 = .ok (.iinc 2 1, 3) := by decide +kernel
theorem dX3_placeFor_24 : decode cX3_placeFor 24 = .ok (.goto (-22), 3) := by decide +kernel
theorem dX3_placeFor_27 : decode cX3_placeFor 27 = .ok (.iconst (-1), 1) := by decide +kernel
theorem dX3_placeFor_28 : decode cX3_placeFor 28 = .ok (.ireturn, 1) := by decide +kernel
set_option maxRecDepth 20000 in
theorem ggX3_isSameAs_X3_at : GoodIn wsX3_isSameAs wsX3_at := goodIn_r _ [6, 1, 7, 8, 9] (by decide +kernel) (by decide +kernel)
set_option maxRecDepth 20000 in
theorem gX3_isSameAs_X3_at : GoodIn wsX3_isSameAs (wsV RX3 19 RX3 yX3_at wsX3_at) := goodIn_app (goodIn_of _ (by decide +kernel)) ggX3_isSameAs_X3_at
theorem dX3_isSameAs_0 : decode cX3_isSameAs 0 = .ok (.aload_n 0, 1) := by decide +kernel
theorem dX3_isSameAs_1 : decode cX3_isSameAs 1 = .ok (.getfield 15, 3) := by decide +kernel
theorem dX3_isSameAs_4 : decode cX3_isSameAs 4 = .ok (.aload_n 1, 1) := by decide +kernel
theorem dX3_isSameAs_5 : decode cX3_isSameAs 5 = .ok (.getfield 15, 3) := by decide +kernel
theorem dX3_isSameAs_8 : decode cX3_isSameAs 8 = .ok (.if_icmp .eq 5, 3) := by decide +kernel
theorem dX3_isSameAs_11 : decode cX3_isSameAs 11 = .ok (.iconst 0, 1) := by decide +kernel
theorem dX3_isSameAs_12 : decode cX3_isSameAs 12 = .ok (.ireturn, 1) := by decide +kernel
theorem dX3_isSameAs_13 : decode cX3_isSameAs 13 = .ok (.iconst 0, 1) := by decide +kernel
theorem dX3_isSameAs_14 : decode cX3_isSameAs 14 = .ok (.istore_n 2, 1) := by decide +kernel
theorem dX3_isSameAs_15 : decode cX3_isSameAs 15 = .ok (.iload_n 2, 1) := by decide +kernel
theorem dX3_isSameAs_16 : decode cX3_isSameAs 16 = .ok (.aload_n 0, 1) := by decide +kernel
theorem dX3_isSameAs_17 : decode cX3_isSameAs 17 = .ok (.getfield 15, 3) := by decide +kernel
theorem dX3_isSameAs_20 : decode cX3_isSameAs 20 = .ok (.if_icmp .ge 24, 3) := by decide +kernel
theorem dX3_isSameAs_23 : decode cX3_isSameAs 23 = .ok (.aload_n 0, 1) := by decide +kernel
theorem dX3_isSameAs_24 : decode cX3_isSameAs 24 = .ok (.iload_n 2, 1) := by decide +kernel
theorem dX3_isSameAs_25 : decode cX3_isSameAs 25 = .ok (.invokevirtual 19, 3) := by decide +kernel
theorem dX3_isSameAs_28 : decode cX3_isSameAs 28 = .ok (.aload_n 1, 1) := by decide +kernel
theorem dX3_isSameAs_29 : decode cX3_isSameAs 29 = .ok (.iload_n 2, 1) := by decide +kernel
theorem dX3_isSameAs_30 : decode cX3_isSameAs 30 = .ok (.invokevirtual 19, 3) := by decide +kernel
theorem dX3_isSameAs_33 : decode cX3_isSameAs 33 = .ok (.if_icmp .eq 5, 3) := by decide +kernel
theorem dX3_isSameAs_36 : decode cX3_isSameAs 36 = .ok (.iconst 0, 1) := by decide +kernel
theorem dX3_isSameAs_37 : decode cX3_isSameAs 37 = .ok (.ireturn, 1) := by decide +kernel
theorem dX3_isSameAs_38 : decode cX3_isSameAs 38 = .ok (.iinc 2 1, 3) := by decide +kernel
theorem dX3_isSameAs_41 : decode cX3_isSameAs 41 = .ok (.goto (-26), 3) := by decide +kernel
theorem dX3_isSameAs_44 : decode cX3_isSameAs 44 = .ok (.iconst 1, 1) := by decide +kernel
theorem dX3_isSameAs_45 : decode cX3_isSameAs 45 = .ok (.ireturn, 1) := by decide +kernel
set_option maxRecDepth 20000 in
theorem ggX3_become_X3_at : GoodIn wsX3_become wsX3_at := goodIn_r _ [6, 1, 7, 12, 13] (by decide +kernel) (by decide +kernel)
set_option maxRecDepth 20000 in
theorem gX3_become_X3_at : GoodIn wsX3_become (wsV RX3 19 RX3 yX3_at wsX3_at) := goodIn_app (goodIn_of _ (by decide +kernel)) ggX3_become_X3_at
set_option maxRecDepth 20000 in
theorem ggX3_become_X3_add : GoodIn wsX3_become wsX3_add := goodIn_r _ [11, 1, 7, 12, 13] (by decide +kernel) (by decide +kernel)
set_option maxRecDepth 20000 in
theorem gX3_become_X3_add : GoodIn wsX3_become (wsV RX3 23 RX3 yX3_add wsX3_add) := goodIn_app (goodIn_of _ (by decide +kernel)) ggX3_become_X3_add
theorem dX3_become_0 : decode cX3_become 0 = .ok (.aload_n 0, 1) := by decide +kernel
theorem dX3_become_1 : decode cX3_become 1 = .ok (.iconst 0, 1) := by decide +kernel
theorem dX3_become_2 : decode cX3_become 2 = .ok (.putfield 15, 3) := by decide +kernel
theorem dX3_become_5 : decode cX3_become 5 = .ok (.iconst 0, 1) := by decide +kernel
theorem dX3_become_6 : decode cX3_become 6 = .ok (.istore_n 2, 1) := by decide +kernel
theorem dX3_become_7 : decode cX3_become 7 = .ok (.iload_n 2, 1) := by decide +kernel
theorem dX3_become_8 : decode cX3_become 8 = .ok (.aload_n 1, 1) := by decide +kernel
theorem dX3_become_9 : decode cX3_become 9 = .ok (.getfield 15, 3) := by decide +kernel
theorem dX3_become_12 : decode cX3_become 12 = .ok (.if_icmp .ge 18, 3) := by decide +kernel
theorem dX3_become_15 : decode cX3_become 15 = .ok (.aload_n 0, 1) := by decide +kernel
theorem dX3_become_16 : decode cX3_become 16 = .ok (.aload_n 1, 1) := by decide +kernel
theorem dX3_become_17 : decode cX3_become 17 = .ok (.iload_n 2, 1) := by decide +kernel
theorem dX3_become_18 : decode cX3_become 18 = .ok (.invokevirtual 19, 3) := by decide +kernel
theorem dX3_become_21 : decode cX3_become 21 = .ok (.invokevirtual 23, 3) := by decide +kernel
theorem dX3_become_24 : decode cX3_become 24 = .ok (.iinc 2 1, 3) := by decide +kernel
theorem dX3_become_27 : decode cX3_become 27 = .ok (.goto (-20), 3) := by decide +kernel
theorem dX3_become_30 : decode cX3_become 30 = .ok (.return_, 1) := by decide +kernel
set_option maxRecDepth 20000 in
theorem ggX4_init_X3_init : GoodIn wsX4_init wsX3_init := goodIn_r _ [20, 21, 2, 3, 22, 23, 24, 37, 38] (by decide +kernel) (by decide +kernel)
set_option maxRecDepth 20000 in
theorem gX4_init_X3_init_n25 : GoodIn wsX4_init (wsX3_init) := ggX4_init_X3_init
set_option maxRecDepth 20000 in
theorem ggX4_init_X2_init : GoodIn wsX4_init wsX2_init := goodIn_r _ [26, 27, 2, 3, 22, 28, 29, 39, 40] (by decide +kernel) (by decide +kernel)
set_option maxRecDepth 20000 in
theorem gX4_init_X2_init_n32 : GoodIn wsX4_init (wsX2_init) := ggX4_init_X2_init
end
section
abbrev vwCl : List vw_C := [(RX0, TX0, 3), (RX1, TX1, 10), (RX2, TX2, 2), (RX3, TX3, 2), (RX4, TX4, 7), (RX5, TX5, 21)]
/-! a world as a map from addresses to what lies there; one judgement V over it; a row an instruction -/
abbrev MM : Type := Nat → Option va_E
def mup (M : MM) (a : Nat) (e : va_E) : MM := fun q => if q = a then some e else M q
theorem mup_s {M : MM} {a : Nat} {e : va_E} : mup M a e a = some e := by simp [mup]
theorem mup_n {M : MM} {a q : Nat} {e : va_E} (h : q ≠ a) : mup M a e q = M q := by simp [mup, h]
theorem mup_mup {M : MM} {a : Nat} {e e' : va_E} : mup (mup M a e) a e' = mup M a e' := by
  funext q; by_cases h : q = a <;> simp [mup, h]
theorem mup_comm {M : MM} {a b : Nat} {e e' : va_E} (h : a ≠ b) : mup (mup M a e) b e' = mup (mup M b e') a e := by
  funext q
  by_cases h1 : q = a
  · subst h1; simp [mup, h]
  · by_cases h2 : q = b
    · subst h2; simp [mup, h1]
    · simp [mup, h1, h2]
theorem mup_id {M : MM} {a : Nat} {e : va_E} (h : M a = some e) : mup M a e = M := by
  funext q
  by_cases h1 : q = a
  · subst h1; simp [mup, h]
  · simp [mup, h1]
/-- the classes' numbers, where the world begins, the arrays' classes -/
abbrev Om : Type := va_G × Nat × (Nat → ClassId)
abbrev Om.D (ω : Om) : va_G := ω.1
abbrev Om.z (ω : Om) : Nat := ω.2.1
abbrev Om.c (ω : Om) : Nat → ClassId := ω.2.2
abbrev zA (ω : Om) : Nat → Prop := fun q => ω.2.1 ≤ q
def tysO (ω : Om) : List (ClassId × FieldType) := [(ω.2.2 0, .int), (ω.2.2 1, .boolean), (ω.2.2 2, .long), (ω.2.2 3, .object "Readingorder$Box"), (ω.2.2 4, .object "Readingorder$Reading"), (ω.2.2 5, .object "Readingorder$Approval")]
def hm (ω : Om) (M : MM) (H : Heap) : Prop := ω.2.1 ≤ H.size ∧ ∀ a e, M a = some e → ω.2.1 ≤ a ∧ va_at ω.1 vwCl (a, e) H
def nwL : List Cond := [.castable "java/lang/IndexOutOfBoundsException" "java/lang/IndexOutOfBoundsException", .castable "java/lang/IllegalArgumentException" "java/lang/IllegalArgumentException", .castable "java/lang/IllegalStateException" "java/lang/IllegalStateException", .declares ⟨"java/lang/RuntimeException", "<init>", "(Ljava/lang/String;)V"⟩, .declares ⟨"java/lang/Exception", "<init>", "(Ljava/lang/String;)V"⟩, .declares ⟨"java/lang/Throwable", "<init>", "(Ljava/lang/String;)V"⟩]
theorem nwL_on : ∀ w ∈ nwL, w.onTables = true := by decide +kernel
def Nw3 (U : State) : Prop := ∀ w ∈ nwL, va_Nw w U
theorem Nw3.warm {s U : State} (hW : s.WarmedH U.vm) (h : Nw3 s) : Nw3 U := by
  intro w hw
  have hw2 := hw
  simp only [nwL, List.mem_cons, List.not_mem_nil, or_false] at hw2
  rcases hw2 with rfl | rfl | rfl | rfl | rfl | rfl
  · exact va_Nw.warmC hW (h _ hw)
  · exact va_Nw.warmC hW (h _ hw)
  · exact va_Nw.warmC hW (h _ hw)
  · exact va_Nw.warmD hW (h _ hw)
  · exact va_Nw.warmD hW (h _ hw)
  · exact va_Nw.warmD hW (h _ hw)
theorem Nw3.same {s U : State} (hv : s.vm = U.vm) (h : Nw3 s) : Nw3 U := fun w hw => va_Nw.same (nwL_on w hw) hv (h w hw)
def strs0 : List (Nat × String) := [(52, "there is no such kind"), (63, "there are no more numbers for boxes"), (102, "these two can't be tied"), (115, "there is a tie already that rules this one out"), (117, "the box follows none"), (144, "there is no such box"), (154, "nothing is told by that number"), (172, "there is no such person"), (174, "there is nothing to approve, or no number for an approval"), (179, "there is no such approval"), (201, "there is no such page"), (203, "there is no such box, or it is gone"), (205, "there is no such place"), (207, "the box is not within its page")]
/-- the texts of the exceptions, by their entries in the class's table -/
def StrK (U : State) : Prop := ∀ q ∈ strs0, ∃ sa, vk_R RX4 q.1 q.2 sa U
def Kw (ω : Om) (U : State) (H : Heap) : Prop := va_K ω.1 vwCl (tysO ω) U ∧ vx_Zq Bundle.tN "UNASSIGNED_STACK" Bundle.steD (zA ω) U H ∧ vx_Zq Bundle.tN "SUPPRESSED_SENTINEL" Bundle.listD (zA ω) U H ∧ StrK U ∧ Nw3 U
abbrev Sg : Type := Program × Launch × Env × Room × State × MethodId × Array Value × List Frame × Method × Code
abbrev Sg.s (σ : Sg) : State := σ.2.2.2.2.1
/-- what is fixed in a method's walk -/
def Fx (ω : Om) (σ : Sg) (cc : ByteArray) (nL : Nat) (Ts : List Cond) (own : String) (rm : Room) : Prop :=
  σ.1.tables.exec = Jvm.exec ∧ σ.2.2.2.2.2.2.2.2.2.code = cc ∧ σ.2.2.2.2.2.2.2.2.2.maxLocals = nL ∧ σ.2.2.2.2.1.vm.findClass own = some σ.2.2.2.2.2.1.cls ∧ (∀ w ∈ Ts, w.before σ.2.2.2.2.2.2.1 σ.2.2.2.2.1 = true) ∧ Kw ω σ.2.2.2.2.1 σ.2.2.2.2.1.heap ∧ σ.2.2.2.2.2.2.2.2.1.locks = false ∧ σ.2.2.2.1 = rm ∧ ω.2.1 ≤ σ.2.2.2.2.1.heap.size
def Lc (ls : Array Slot) (L : List (Option Value)) : Prop := ls.size = L.length ∧ lv_wf ls ∧ ∀ (i : Nat) (v : Value), L[i]? = some (some v) → ls[i]? = some (.val v)
def Wg (σ : Sg) (H : Heap) (locs : List Loc) (k n : Nat) (Q : State → Prop) (g : JFrame) : Prop := W σ.1 σ.2.1 σ.2.2.1 σ.2.2.2.1 σ.2.2.2.2.1 σ.2.2.2.2.2.1 σ.2.2.2.2.2.2.1 σ.2.2.2.2.2.2.2.1 σ.2.2.2.2.2.2.2.2.1 σ.2.2.2.2.2.2.2.2.2 H locs k n Q g
def V (ω : Om) (σ : Sg) (M : MM) (L : List (Option Value)) (k n : Nat) (Q : State → Prop) (pc : Nat) (st : List Value) : Prop :=
  ∀ (H : Heap) (locs : List Loc) (ls : Array Slot), hm ω M H → va_S (zA ω) σ.2.2.2.2.1.heap H locs → Lc ls L → Wg σ H locs k n Q (F0 σ.2.2.2.2.2.1 pc ls st)
theorem hm.P1 {ω : Om} {M : MM} {H : Heap} (h : hm ω M H) {a : Nat} {e : va_E} (ha : M a = some e) : va_P ω.1 vwCl [(a, e)] H := by
  intro k q hq
  have hz : k < 1 := (List.getElem?_eq_some_iff.mp hq).1
  rw [show k = 0 by omega] at hq
  cases hq
  exact (h.2 a e ha).2
theorem hm.lt {ω : Om} {M : MM} {H : Heap} (h : hm ω M H) {a : Nat} {e : va_E} (ha : M a = some e) : a < H.size := (h.2 a e ha).2.lt
theorem va_D1 {A : Nat → Prop} {a : Nat} {e : va_E} (h : A a) : va_D A [(a, e)] := by
  refine ⟨fun i j p q hi hj _ => ?_, fun k q hq => ?_⟩
  · have h1 : i < 1 := (List.getElem?_eq_some_iff.mp hi).1
    have h2 : j < 1 := (List.getElem?_eq_some_iff.mp hj).1
    omega
  · have hz : k < 1 := (List.getElem?_eq_some_iff.mp hq).1
    rw [show k = 0 by omega] at hq
    cases hq
    exact h
theorem hm.put {ω : Om} {M : MM} {H H1 : Heap} (h : hm ω M H) {a : Nat} {e e' : va_E} (ha : M a = some e) (h1 : va_at ω.1 vwCl (a, e') H1) (hz : H1.size = H.size) (hq : ∀ q : Nat, q ≠ a → H1[q]? = H[q]?) : hm ω (mup M a e') H1 := by
  refine ⟨by rw [hz]; exact h.1, fun b e2 hb => ?_⟩
  by_cases hba : b = a
  · subst hba
    rw [mup_s] at hb
    cases hb
    exact ⟨(h.2 b e ha).1, h1⟩
  · rw [mup_n hba] at hb
    exact ⟨(h.2 b e2 hb).1, (h.2 b e2 hb).2.kept (hq b hba)⟩
theorem hm.new {ω : Om} {M : MM} {H H1 : Heap} (h : hm ω M H) {e' : va_E} (h1 : va_at ω.1 vwCl (H.size, e') H1) (hz : H.size ≤ H1.size) (hq : ∀ q : Nat, q < H.size → H1[q]? = H[q]?) : hm ω (mup M H.size e') H1 ∧ M H.size = none := by
  have hn : M H.size = none := by
    cases hM : M H.size with
    | none => rfl
    | some e => exact absurd (h.lt hM) (Nat.lt_irrefl _)
  refine ⟨⟨Nat.le_trans h.1 hz, fun b e2 hb => ?_⟩, hn⟩
  by_cases hba : b = H.size
  · subst hba
    rw [mup_s] at hb
    cases hb
    exact ⟨h.1, h1⟩
  · rw [mup_n hba] at hb
    exact ⟨(h.2 b e2 hb).1, (h.2 b e2 hb).2.kept (hq b (h.lt hb))⟩
theorem Lc.get {ls : Array Slot} {L : List (Option Value)} (h : Lc ls L) {i : Nat} {v : Value} (hi : L[i]? = some (some v)) : ls[i]? = some (.val v) := h.2.2 i v hi
/-- the list of a table's locals, as the kit has it -/
def Lc.l (L : List (Option Value)) : List (Nat × Value) := (List.range L.length).filterMap (fun i => (L[i]?).bind (fun o => o.map (fun v => (i, v))))
theorem Lc.has {ls : Array Slot} {L : List (Option Value)} (h : Lc ls L) : lv_has ls L.length (Lc.l L) := by
  refine ⟨h.1, h.2.1, fun q hq => ?_⟩
  obtain ⟨i, -, hi⟩ := List.mem_filterMap.mp hq
  cases hL : L[i]? with
  | none => rw [hL] at hi; cases hi
  | some o =>
    cases o with
    | none => rw [hL] at hi; cases hi
    | some v =>
      rw [hL] at hi
      cases hi
      exact h.2.2 i v hL
theorem Lc.of {ls : Array Slot} {L : List (Option Value)} {l : List (Nat × Value)} (h : lv_has ls L.length l) (hl : ∀ (i : Nat) (v : Value), L[i]? = some (some v) → (i, v) ∈ l) : Lc ls L := ⟨h.1, h.2.1, fun i v hi => h.2.2 _ (hl i v hi)⟩
theorem Lc.setl {L : List (Option Value)} {i : Nat} {x : Value} (hi : i < L.length) (hc : ∀ v, L[i - 1]? = some (some v) → v.category ≠ 2) {ls : Array Slot} (h : lv_has ls L.length ((i, x) :: (Lc.l L).filter (fun q => !(q.1 == i) && !(q.1 + 1 == i && q.2.category == 2)))) : Lc ls (L.set i (some x)) := by
  refine Lc.of (by rw [List.length_set]; exact h) (fun j v hj => ?_)
  by_cases hji : j = i
  · subst hji
    rw [List.getElem?_set_self hi] at hj
    cases hj
    exact List.mem_cons_self
  · rw [List.getElem?_set_ne (Ne.symm hji)] at hj
    refine List.mem_cons_of_mem _ (List.mem_filter.mpr ⟨?_, ?_⟩)
    · refine List.mem_filterMap.mpr ⟨j, List.mem_range.mpr (List.getElem?_eq_some_iff.mp hj).1, ?_⟩
      rw [hj]; rfl
    · have h1 : (j == i) = false := by simp [hji]
      by_cases h2 : j + 1 = i
      · have h3 : v.category ≠ 2 := hc v (by rw [show i - 1 = j by omega]; exact hj)
        simp [h1, h3]
      · simp [h1, h2]
def isRV (v : Value) : Bool := match v with
  | .ref _ => true
  | .null => true
  | _ => false
def is1 (o : Option Value) : Bool := match o with
  | some v => v.category != 2
  | none => true
def all1 (L : List (Option Value)) : Bool := L.all is1
theorem all1_get {L : List (Option Value)} (h : all1 L = true) {i : Nat} {v : Value} (hi : L[i]? = some (some v)) : v.category ≠ 2 := by
  have h1 := List.all_eq_true.mp h (some v) (List.mem_of_getElem? hi)
  simpa [is1] using h1
theorem isRV_rf (o : Option Nat) : isRV (va_rf o) = true := by cases o <;> rfl
end
section
/-- no wide value lies just ahead of a place -/
def ok2 (L : List (Option Value)) (i : Nat) : Prop := ∀ v, L[i - 1]? = some (some v) → v.category ≠ 2
def c2b (o : Option (Option Value)) : Bool := match o with
  | some (some v) => v.category != 2
  | _ => true
theorem ok2_d {L : List (Option Value)} {i : Nat} (h : c2b L[i - 1]? = true) : ok2 L i := by
  intro v hv
  rw [hv] at h
  simpa [c2b] using h
theorem Lc.at_ {L : List (Option Value)} {j : Nat} {v : Value} (h : L[j]? = some (some v)) : ∃ i : Nat, (Lc.l L)[i]? = some (j, v) := by
  refine List.getElem?_of_mem (List.mem_filterMap.mpr ⟨j, List.mem_range.mpr (List.getElem?_eq_some_iff.mp h).1, ?_⟩)
  rw [h]; rfl
def FO (Ts : List Cond) (own : String) (idx ci k : Nat) : Prop := ∃ (C : String) (T : u_T) (N : Nat), vwCl[ci]? = some (C, T, N) ∧ k < N ∧ (∀ w ∈ u_ws C T N, w ∈ Ts) ∧ Cond.fieldLink own idx (T k).1 (T k).2.1 (T k).2.2.1 ∈ Ts
def FP (Ts : List Cond) (own : String) (idx ci k : Nat) (ty : FieldType) : Prop := ∃ (C : String) (T : u_T) (N : Nat) (ty0 : Nat → FieldType), vwCl[ci]? = some (C, T, N) ∧ k < N ∧ (∀ w ∈ u_ws C T N, w ∈ Ts) ∧ Cond.fieldLink own idx (T k).1 (T k).2.1 (T k).2.2.1 ∈ Ts ∧ (∀ k, k < N → parseFieldDescriptor (T k).2.2.1 = some (ty0 k)) ∧ (∀ a, a < N → ∀ b, b < N → a ≠ b → (T a).2.1 ≠ (T b).2.1) ∧ (T k).2.2.2 = false ∧ parseFieldDescriptor (T k).2.2.1 = some ty
def FQ (Ts : List Cond) (own : String) (idx ci k : Nat) (ty : FieldType) : Prop := ∃ (C : String) (T : u_T) (N : Nat) (ty0 : Nat → FieldType), vwCl[ci]? = some (C, T, N) ∧ k < N ∧ (∀ w ∈ u_ws C T N, w ∈ Ts) ∧ Cond.fieldLink own idx (T k).1 (T k).2.1 (T k).2.2.1 ∈ Ts ∧ (∀ k, k < N → parseFieldDescriptor (T k).2.2.1 = some (ty0 k)) ∧ (∀ a, a < N → ∀ b, b < N → a ≠ b → (T a).2.1 ≠ (T b).2.1) ∧ (T k).2.2.2 = true ∧ (T k).1 = own ∧ parseFieldDescriptor (T k).2.2.1 = some ty
theorem v_iconst {ω : Om} {σ : Sg} {cc : ByteArray} {nL : Nat} {Ts : List Cond} {own : String} {rm : Room} {M : MM} {L : List (Option Value)} {kc ks : Nat} {Q : State → Prop} {pc : Nat} {st : List Value} (F : Fx ω σ cc nL Ts own rm) {n : Int} {v : Int32} (d : decode cc pc = .ok (.iconst n, 1)) (hv : Int32.ofInt n = v) (k : V ω σ M L kc ks Q (pc + 1) (.int v :: st)) : V ω σ M L kc ks Q (pc) (st) := fun H locs ls h1 h2 h3 => lv_iconst F.1 F.2.1 d hv (k H locs ls h1 h2 h3)
theorem v_bipush {ω : Om} {σ : Sg} {cc : ByteArray} {nL : Nat} {Ts : List Cond} {own : String} {rm : Room} {M : MM} {L : List (Option Value)} {kc ks : Nat} {Q : State → Prop} {pc : Nat} {st : List Value} (F : Fx ω σ cc nL Ts own rm) {n : Int} {v : Int32} (d : decode cc pc = .ok (.bipush n, 2)) (hv : (Int8.ofInt n).toInt32 = v) (k : V ω σ M L kc ks Q (pc + 2) (.int v :: st)) : V ω σ M L kc ks Q (pc) (st) := fun H locs ls h1 h2 h3 => lv_bipush F.1 F.2.1 d hv (k H locs ls h1 h2 h3)
theorem v_lconst {ω : Om} {σ : Sg} {cc : ByteArray} {nL : Nat} {Ts : List Cond} {own : String} {rm : Room} {M : MM} {L : List (Option Value)} {kc ks : Nat} {Q : State → Prop} {pc : Nat} {st : List Value} (F : Fx ω σ cc nL Ts own rm) {n : Fin 2} {v : Int64} (d : decode cc pc = .ok (.lconst n, 1)) (hv : Int64.ofNat (n : Nat) = v) (k : V ω σ M L kc ks Q (pc + 1) (.long v :: st)) : V ω σ M L kc ks Q (pc) (st) := fun H locs ls h1 h2 h3 => lv_lconst F.1 F.2.1 d hv (k H locs ls h1 h2 h3)
theorem v_null {ω : Om} {σ : Sg} {cc : ByteArray} {nL : Nat} {Ts : List Cond} {own : String} {rm : Room} {M : MM} {L : List (Option Value)} {kc ks : Nat} {Q : State → Prop} {pc : Nat} {st : List Value} (F : Fx ω σ cc nL Ts own rm) (d : decode cc pc = .ok (.aconst_null, 1)) (k : V ω σ M L kc ks Q (pc + 1) (.null :: st)) : V ω σ M L kc ks Q (pc) (st) := fun H locs ls h1 h2 h3 => lv_null F.1 F.2.1 d (k H locs ls h1 h2 h3)
theorem v_iload_n {ω : Om} {σ : Sg} {cc : ByteArray} {nL : Nat} {Ts : List Cond} {own : String} {rm : Room} {M : MM} {L : List (Option Value)} {kc ks : Nat} {Q : State → Prop} {pc : Nat} {st : List Value} (F : Fx ω σ cc nL Ts own rm) {j : Fin 4} {x : Int32} (d : decode cc pc = .ok (.iload_n j, 1)) (hl : L[(j : Nat)]? = some (some (.int x))) (k : V ω σ M L kc ks Q (pc + 1) (.int x :: st)) : V ω σ M L kc ks Q (pc) (st) := fun H locs ls h1 h2 h3 => lv_iload_n F.1 F.2.1 d rfl (h3.get hl) (k H locs ls h1 h2 h3)
theorem v_iload {ω : Om} {σ : Sg} {cc : ByteArray} {nL : Nat} {Ts : List Cond} {own : String} {rm : Room} {M : MM} {L : List (Option Value)} {kc ks : Nat} {Q : State → Prop} {pc : Nat} {st : List Value} (F : Fx ω σ cc nL Ts own rm) {j : Nat} {x : Int32} (d : decode cc pc = .ok (.iload j, 2)) (hl : L[j]? = some (some (.int x))) (k : V ω σ M L kc ks Q (pc + 2) (.int x :: st)) : V ω σ M L kc ks Q (pc) (st) := fun H locs ls h1 h2 h3 => lv_iload F.1 F.2.1 d (h3.get hl) (k H locs ls h1 h2 h3)
theorem v_aload_n {ω : Om} {σ : Sg} {cc : ByteArray} {nL : Nat} {Ts : List Cond} {own : String} {rm : Room} {M : MM} {L : List (Option Value)} {kc ks : Nat} {Q : State → Prop} {pc : Nat} {st : List Value} (F : Fx ω σ cc nL Ts own rm) {j : Fin 4} {v : Value} (d : decode cc pc = .ok (.aload_n j, 1)) (hl : L[(j : Nat)]? = some (some v)) (hr : isRV v = true) (k : V ω σ M L kc ks Q (pc + 1) (v :: st)) : V ω σ M L kc ks Q (pc) (st) := by
  intro H locs ls h1 h2 h3
  cases v with
  | ref a => exact lv_aload_n F.1 F.2.1 d rfl (h3.get hl) (k H locs ls h1 h2 h3)
  | null => exact lv_aload_nN F.1 F.2.1 d rfl (h3.get hl) (k H locs ls h1 h2 h3)
  | _ => exact Bool.noConfusion hr
theorem v_aload {ω : Om} {σ : Sg} {cc : ByteArray} {nL : Nat} {Ts : List Cond} {own : String} {rm : Room} {M : MM} {L : List (Option Value)} {kc ks : Nat} {Q : State → Prop} {pc : Nat} {st : List Value} (F : Fx ω σ cc nL Ts own rm) {j : Nat} {v : Value} (d : decode cc pc = .ok (.aload j, 2)) (hl : L[j]? = some (some v)) (hr : isRV v = true) (k : V ω σ M L kc ks Q (pc + 2) (v :: st)) : V ω σ M L kc ks Q (pc) (st) := by
  intro H locs ls h1 h2 h3
  cases v with
  | ref a => exact lv_aload F.1 F.2.1 d (h3.get hl) (k H locs ls h1 h2 h3)
  | null => exact lv_aloadN F.1 F.2.1 d (h3.get hl) (k H locs ls h1 h2 h3)
  | _ => exact Bool.noConfusion hr
theorem v_istore_n {ω : Om} {σ : Sg} {cc : ByteArray} {nL : Nat} {Ts : List Cond} {own : String} {rm : Room} {M : MM} {L : List (Option Value)} {kc ks : Nat} {Q : State → Prop} {pc : Nat} {st : List Value} (F : Fx ω σ cc nL Ts own rm) {j : Fin 4} {x : Int32} (d : decode cc pc = .ok (.istore_n j, 1)) (hj : (j : Nat) < L.length) (hc : ok2 L (j : Nat)) (k : V ω σ M (L.set (j : Nat) (some (.int x))) kc ks Q (pc + 1) (st)) : V ω σ M L kc ks Q (pc) (.int x :: st) := fun H locs ls h1 h2 h3 => lv_istore_n F.1 F.2.1 d rfl h3.has hj rfl (fun ls2 hl2 => k H locs ls2 h1 h2 (Lc.setl hj hc hl2))
theorem v_istore {ω : Om} {σ : Sg} {cc : ByteArray} {nL : Nat} {Ts : List Cond} {own : String} {rm : Room} {M : MM} {L : List (Option Value)} {kc ks : Nat} {Q : State → Prop} {pc : Nat} {st : List Value} (F : Fx ω σ cc nL Ts own rm) {j : Nat} {x : Int32} (d : decode cc pc = .ok (.istore j, 2)) (hj : j < L.length) (hc : ok2 L j) (k : V ω σ M (L.set j (some (.int x))) kc ks Q (pc + 2) (st)) : V ω σ M L kc ks Q (pc) (.int x :: st) := fun H locs ls h1 h2 h3 => lv_istore F.1 F.2.1 d h3.has hj rfl (fun ls2 hl2 => k H locs ls2 h1 h2 (Lc.setl hj hc hl2))
theorem v_astore_n {ω : Om} {σ : Sg} {cc : ByteArray} {nL : Nat} {Ts : List Cond} {own : String} {rm : Room} {M : MM} {L : List (Option Value)} {kc ks : Nat} {Q : State → Prop} {pc : Nat} {st : List Value} (F : Fx ω σ cc nL Ts own rm) {j : Fin 4} {v : Value} (d : decode cc pc = .ok (.astore_n j, 1)) (hr : isRV v = true) (hj : (j : Nat) < L.length) (hc : ok2 L (j : Nat)) (k : V ω σ M (L.set (j : Nat) (some v)) kc ks Q (pc + 1) (st)) : V ω σ M L kc ks Q (pc) (v :: st) := by
  intro H locs ls h1 h2 h3
  cases v with
  | ref a => exact lv_astore_n F.1 F.2.1 d rfl h3.has hj rfl (fun ls2 hl2 => k H locs ls2 h1 h2 (Lc.setl hj hc hl2))
  | null => exact lv_astore_nN F.1 F.2.1 d rfl h3.has hj rfl (fun ls2 hl2 => k H locs ls2 h1 h2 (Lc.setl hj hc hl2))
  | _ => exact Bool.noConfusion hr
theorem v_astore {ω : Om} {σ : Sg} {cc : ByteArray} {nL : Nat} {Ts : List Cond} {own : String} {rm : Room} {M : MM} {L : List (Option Value)} {kc ks : Nat} {Q : State → Prop} {pc : Nat} {st : List Value} (F : Fx ω σ cc nL Ts own rm) {j : Nat} {v : Value} (d : decode cc pc = .ok (.astore j, 2)) (hr : isRV v = true) (hj : j < L.length) (hc : ok2 L j) (k : V ω σ M (L.set j (some v)) kc ks Q (pc + 2) (st)) : V ω σ M L kc ks Q (pc) (v :: st) := by
  intro H locs ls h1 h2 h3
  cases v with
  | ref a => exact lv_astore F.1 F.2.1 d h3.has hj rfl (fun ls2 hl2 => k H locs ls2 h1 h2 (Lc.setl hj hc hl2))
  | null => exact lv_astoreN F.1 F.2.1 d h3.has hj rfl (fun ls2 hl2 => k H locs ls2 h1 h2 (Lc.setl hj hc hl2))
  | _ => exact Bool.noConfusion hr
theorem v_iinc {ω : Om} {σ : Sg} {cc : ByteArray} {nL : Nat} {Ts : List Cond} {own : String} {rm : Room} {M : MM} {L : List (Option Value)} {kc ks : Nat} {Q : State → Prop} {pc : Nat} {st : List Value} (F : Fx ω σ cc nL Ts own rm) {j : Nat} {n : Int} {x v : Int32} (d : decode cc pc = .ok (.iinc j n, 3)) (hl : L[j]? = some (some (.int x))) (hv : x + Int32.ofInt n = v) (hc : ok2 L j) (k : V ω σ M (L.set j (some (.int v))) kc ks Q (pc + 3) (st)) : V ω σ M L kc ks Q (pc) (st) := by
  intro H locs ls h1 h2 h3
  have hj : j < L.length := (List.getElem?_eq_some_iff.mp hl).1
  obtain ⟨i, hi⟩ := Lc.at_ hl
  exact lv_iinc F.1 F.2.1 d h3.has hi hv hj rfl (fun ls2 hl2 => k H locs ls2 h1 h2 (Lc.setl hj hc hl2))
theorem v_iadd {ω : Om} {σ : Sg} {cc : ByteArray} {nL : Nat} {Ts : List Cond} {own : String} {rm : Room} {M : MM} {L : List (Option Value)} {kc ks : Nat} {Q : State → Prop} {pc : Nat} {st : List Value} (F : Fx ω σ cc nL Ts own rm) {x y : Int32} (d : decode cc pc = .ok (.iadd, 1)) (k : V ω σ M L kc ks Q (pc + 1) (.int (x + y) :: st)) : V ω σ M L kc ks Q (pc) (.int y :: .int x :: st) := fun H locs ls h1 h2 h3 => lv_iadd F.1 F.2.1 d (k H locs ls h1 h2 h3)
theorem v_isub {ω : Om} {σ : Sg} {cc : ByteArray} {nL : Nat} {Ts : List Cond} {own : String} {rm : Room} {M : MM} {L : List (Option Value)} {kc ks : Nat} {Q : State → Prop} {pc : Nat} {st : List Value} (F : Fx ω σ cc nL Ts own rm) {x y : Int32} (d : decode cc pc = .ok (.isub, 1)) (k : V ω σ M L kc ks Q (pc + 1) (.int (x - y) :: st)) : V ω σ M L kc ks Q (pc) (.int y :: .int x :: st) := fun H locs ls h1 h2 h3 => lv_isub F.1 F.2.1 d (k H locs ls h1 h2 h3)
theorem v_iand {ω : Om} {σ : Sg} {cc : ByteArray} {nL : Nat} {Ts : List Cond} {own : String} {rm : Room} {M : MM} {L : List (Option Value)} {kc ks : Nat} {Q : State → Prop} {pc : Nat} {st : List Value} (F : Fx ω σ cc nL Ts own rm) {x y : Int32} (d : decode cc pc = .ok (.iand, 1)) (k : V ω σ M L kc ks Q (pc + 1) (.int (x &&& y) :: st)) : V ω σ M L kc ks Q (pc) (.int y :: .int x :: st) := fun H locs ls h1 h2 h3 => lv_iand F.1 F.2.1 d (k H locs ls h1 h2 h3)
theorem v_ior {ω : Om} {σ : Sg} {cc : ByteArray} {nL : Nat} {Ts : List Cond} {own : String} {rm : Room} {M : MM} {L : List (Option Value)} {kc ks : Nat} {Q : State → Prop} {pc : Nat} {st : List Value} (F : Fx ω σ cc nL Ts own rm) {x y : Int32} (d : decode cc pc = .ok (.ior, 1)) (k : V ω σ M L kc ks Q (pc + 1) (.int (x ||| y) :: st)) : V ω σ M L kc ks Q (pc) (.int y :: .int x :: st) := fun H locs ls h1 h2 h3 => lv_ior F.1 F.2.1 d (k H locs ls h1 h2 h3)
theorem v_ixor {ω : Om} {σ : Sg} {cc : ByteArray} {nL : Nat} {Ts : List Cond} {own : String} {rm : Room} {M : MM} {L : List (Option Value)} {kc ks : Nat} {Q : State → Prop} {pc : Nat} {st : List Value} (F : Fx ω σ cc nL Ts own rm) {x y : Int32} (d : decode cc pc = .ok (.ixor, 1)) (k : V ω σ M L kc ks Q (pc + 1) (.int (x ^^^ y) :: st)) : V ω σ M L kc ks Q (pc) (.int y :: .int x :: st) := fun H locs ls h1 h2 h3 => lv_ixor F.1 F.2.1 d (k H locs ls h1 h2 h3)
theorem v_ishl {ω : Om} {σ : Sg} {cc : ByteArray} {nL : Nat} {Ts : List Cond} {own : String} {rm : Room} {M : MM} {L : List (Option Value)} {kc ks : Nat} {Q : State → Prop} {pc : Nat} {st : List Value} (F : Fx ω σ cc nL Ts own rm) {x y : Int32} (d : decode cc pc = .ok (.ishl, 1)) (k : V ω σ M L kc ks Q (pc + 1) (.int (x <<< (y &&& 31)) :: st)) : V ω σ M L kc ks Q (pc) (.int y :: .int x :: st) := fun H locs ls h1 h2 h3 => lv_ishl F.1 F.2.1 d (k H locs ls h1 h2 h3)
theorem v_ishr {ω : Om} {σ : Sg} {cc : ByteArray} {nL : Nat} {Ts : List Cond} {own : String} {rm : Room} {M : MM} {L : List (Option Value)} {kc ks : Nat} {Q : State → Prop} {pc : Nat} {st : List Value} (F : Fx ω σ cc nL Ts own rm) {x y : Int32} (d : decode cc pc = .ok (.ishr, 1)) (k : V ω σ M L kc ks Q (pc + 1) (.int (x >>> (y &&& 31)) :: st)) : V ω σ M L kc ks Q (pc) (.int y :: .int x :: st) := fun H locs ls h1 h2 h3 => lv_ishr F.1 F.2.1 d (k H locs ls h1 h2 h3)
theorem v_idiv {ω : Om} {σ : Sg} {cc : ByteArray} {nL : Nat} {Ts : List Cond} {own : String} {rm : Room} {M : MM} {L : List (Option Value)} {kc ks : Nat} {Q : State → Prop} {pc : Nat} {st : List Value} (F : Fx ω σ cc nL Ts own rm) {x y : Int32} (d : decode cc pc = .ok (.idiv, 1)) (hne : ¬ y = 0) (k : V ω σ M L kc ks Q (pc + 1) (.int (x / y) :: st)) : V ω σ M L kc ks Q (pc) (.int y :: .int x :: st) := fun H locs ls h1 h2 h3 => lv_idiv F.1 F.2.1 d hne (k H locs ls h1 h2 h3)
theorem v_i2l {ω : Om} {σ : Sg} {cc : ByteArray} {nL : Nat} {Ts : List Cond} {own : String} {rm : Room} {M : MM} {L : List (Option Value)} {kc ks : Nat} {Q : State → Prop} {pc : Nat} {st : List Value} (F : Fx ω σ cc nL Ts own rm) {x : Int32} (d : decode cc pc = .ok (.i2l, 1)) (k : V ω σ M L kc ks Q (pc + 1) (.long x.toInt64 :: st)) : V ω σ M L kc ks Q (pc) (.int x :: st) := fun H locs ls h1 h2 h3 => lv_i2l F.1 F.2.1 d rfl (k H locs ls h1 h2 h3)
theorem v_dup {ω : Om} {σ : Sg} {cc : ByteArray} {nL : Nat} {Ts : List Cond} {own : String} {rm : Room} {M : MM} {L : List (Option Value)} {kc ks : Nat} {Q : State → Prop} {pc : Nat} {st : List Value} (F : Fx ω σ cc nL Ts own rm) {v : Value} (d : decode cc pc = .ok (.dup, 1)) (hv : v.category = 1) (k : V ω σ M L kc ks Q (pc + 1) (v :: v :: st)) : V ω σ M L kc ks Q (pc) (v :: st) := fun H locs ls h1 h2 h3 => lv_dup F.1 F.2.1 d hv (k H locs ls h1 h2 h3)
theorem v_pop {ω : Om} {σ : Sg} {cc : ByteArray} {nL : Nat} {Ts : List Cond} {own : String} {rm : Room} {M : MM} {L : List (Option Value)} {kc ks : Nat} {Q : State → Prop} {pc : Nat} {st : List Value} (F : Fx ω σ cc nL Ts own rm) {v : Value} (d : decode cc pc = .ok (.pop, 1)) (hv : v.category = 1) (k : V ω σ M L kc ks Q (pc + 1) (st)) : V ω σ M L kc ks Q (pc) (v :: st) := fun H locs ls h1 h2 h3 => lv_pop F.1 F.2.1 d hv (k H locs ls h1 h2 h3)
theorem v_if_eq {ω : Om} {σ : Sg} {cc : ByteArray} {nL : Nat} {Ts : List Cond} {own : String} {rm : Room} {M : MM} {L : List (Option Value)} {kc ks : Nat} {Q : State → Prop} {pc : Nat} {st : List Value} (F : Fx ω σ cc nL Ts own rm) {x : Int32} {off : Int} (tgt : Nat) (d : decode cc pc = .ok (.ifCond .eq off, 3)) (ht : (pc : Int) + off = (tgt : Int)) (kt : x = 0 → V ω σ M L kc ks Q (tgt) (st)) (kf : ¬ x = 0 → V ω σ M L kc ks Q (pc + 3) (st)) : V ω σ M L kc ks Q (pc) (.int x :: st) := fun H locs ls h1 h2 h3 => lv_if_eq F.1 F.2.1 d ht (fun q => kt q H locs ls h1 h2 h3) (fun q => kf q H locs ls h1 h2 h3)
theorem v_if_ne {ω : Om} {σ : Sg} {cc : ByteArray} {nL : Nat} {Ts : List Cond} {own : String} {rm : Room} {M : MM} {L : List (Option Value)} {kc ks : Nat} {Q : State → Prop} {pc : Nat} {st : List Value} (F : Fx ω σ cc nL Ts own rm) {x : Int32} {off : Int} (tgt : Nat) (d : decode cc pc = .ok (.ifCond .ne off, 3)) (ht : (pc : Int) + off = (tgt : Int)) (kt : ¬ x = 0 → V ω σ M L kc ks Q (tgt) (st)) (kf : x = 0 → V ω σ M L kc ks Q (pc + 3) (st)) : V ω σ M L kc ks Q (pc) (.int x :: st) := fun H locs ls h1 h2 h3 => lv_if_ne F.1 F.2.1 d ht (fun q => kt q H locs ls h1 h2 h3) (fun q => kf q H locs ls h1 h2 h3)
theorem v_if_lt {ω : Om} {σ : Sg} {cc : ByteArray} {nL : Nat} {Ts : List Cond} {own : String} {rm : Room} {M : MM} {L : List (Option Value)} {kc ks : Nat} {Q : State → Prop} {pc : Nat} {st : List Value} (F : Fx ω σ cc nL Ts own rm) {x : Int32} {off : Int} (tgt : Nat) (d : decode cc pc = .ok (.ifCond .lt off, 3)) (ht : (pc : Int) + off = (tgt : Int)) (kt : x < 0 → V ω σ M L kc ks Q (tgt) (st)) (kf : ¬ x < 0 → V ω σ M L kc ks Q (pc + 3) (st)) : V ω σ M L kc ks Q (pc) (.int x :: st) := fun H locs ls h1 h2 h3 => lv_if_lt F.1 F.2.1 d ht (fun q => kt q H locs ls h1 h2 h3) (fun q => kf q H locs ls h1 h2 h3)
theorem v_if_ge {ω : Om} {σ : Sg} {cc : ByteArray} {nL : Nat} {Ts : List Cond} {own : String} {rm : Room} {M : MM} {L : List (Option Value)} {kc ks : Nat} {Q : State → Prop} {pc : Nat} {st : List Value} (F : Fx ω σ cc nL Ts own rm) {x : Int32} {off : Int} (tgt : Nat) (d : decode cc pc = .ok (.ifCond .ge off, 3)) (ht : (pc : Int) + off = (tgt : Int)) (kt : 0 ≤ x → V ω σ M L kc ks Q (tgt) (st)) (kf : ¬ 0 ≤ x → V ω σ M L kc ks Q (pc + 3) (st)) : V ω σ M L kc ks Q (pc) (.int x :: st) := fun H locs ls h1 h2 h3 => lv_if_ge F.1 F.2.1 d ht (fun q => kt q H locs ls h1 h2 h3) (fun q => kf q H locs ls h1 h2 h3)
theorem v_if_gt {ω : Om} {σ : Sg} {cc : ByteArray} {nL : Nat} {Ts : List Cond} {own : String} {rm : Room} {M : MM} {L : List (Option Value)} {kc ks : Nat} {Q : State → Prop} {pc : Nat} {st : List Value} (F : Fx ω σ cc nL Ts own rm) {x : Int32} {off : Int} (tgt : Nat) (d : decode cc pc = .ok (.ifCond .gt off, 3)) (ht : (pc : Int) + off = (tgt : Int)) (kt : 0 < x → V ω σ M L kc ks Q (tgt) (st)) (kf : ¬ 0 < x → V ω σ M L kc ks Q (pc + 3) (st)) : V ω σ M L kc ks Q (pc) (.int x :: st) := fun H locs ls h1 h2 h3 => lv_if_gt F.1 F.2.1 d ht (fun q => kt q H locs ls h1 h2 h3) (fun q => kf q H locs ls h1 h2 h3)
theorem v_if_le {ω : Om} {σ : Sg} {cc : ByteArray} {nL : Nat} {Ts : List Cond} {own : String} {rm : Room} {M : MM} {L : List (Option Value)} {kc ks : Nat} {Q : State → Prop} {pc : Nat} {st : List Value} (F : Fx ω σ cc nL Ts own rm) {x : Int32} {off : Int} (tgt : Nat) (d : decode cc pc = .ok (.ifCond .le off, 3)) (ht : (pc : Int) + off = (tgt : Int)) (kt : x ≤ 0 → V ω σ M L kc ks Q (tgt) (st)) (kf : ¬ x ≤ 0 → V ω σ M L kc ks Q (pc + 3) (st)) : V ω σ M L kc ks Q (pc) (.int x :: st) := fun H locs ls h1 h2 h3 => lv_if_le F.1 F.2.1 d ht (fun q => kt q H locs ls h1 h2 h3) (fun q => kf q H locs ls h1 h2 h3)
theorem v_icmp_eq {ω : Om} {σ : Sg} {cc : ByteArray} {nL : Nat} {Ts : List Cond} {own : String} {rm : Room} {M : MM} {L : List (Option Value)} {kc ks : Nat} {Q : State → Prop} {pc : Nat} {st : List Value} (F : Fx ω σ cc nL Ts own rm) {x y : Int32} {off : Int} (tgt : Nat) (d : decode cc pc = .ok (.if_icmp .eq off, 3)) (ht : (pc : Int) + off = (tgt : Int)) (kt : x = y → V ω σ M L kc ks Q (tgt) (st)) (kf : ¬ x = y → V ω σ M L kc ks Q (pc + 3) (st)) : V ω σ M L kc ks Q (pc) (.int y :: .int x :: st) := fun H locs ls h1 h2 h3 => lv_icmp_eq F.1 F.2.1 d ht (fun q => kt q H locs ls h1 h2 h3) (fun q => kf q H locs ls h1 h2 h3)
theorem v_icmp_ne {ω : Om} {σ : Sg} {cc : ByteArray} {nL : Nat} {Ts : List Cond} {own : String} {rm : Room} {M : MM} {L : List (Option Value)} {kc ks : Nat} {Q : State → Prop} {pc : Nat} {st : List Value} (F : Fx ω σ cc nL Ts own rm) {x y : Int32} {off : Int} (tgt : Nat) (d : decode cc pc = .ok (.if_icmp .ne off, 3)) (ht : (pc : Int) + off = (tgt : Int)) (kt : ¬ x = y → V ω σ M L kc ks Q (tgt) (st)) (kf : x = y → V ω σ M L kc ks Q (pc + 3) (st)) : V ω σ M L kc ks Q (pc) (.int y :: .int x :: st) := fun H locs ls h1 h2 h3 => lv_icmp_ne F.1 F.2.1 d ht (fun q => kt q H locs ls h1 h2 h3) (fun q => kf q H locs ls h1 h2 h3)
theorem v_icmp_lt {ω : Om} {σ : Sg} {cc : ByteArray} {nL : Nat} {Ts : List Cond} {own : String} {rm : Room} {M : MM} {L : List (Option Value)} {kc ks : Nat} {Q : State → Prop} {pc : Nat} {st : List Value} (F : Fx ω σ cc nL Ts own rm) {x y : Int32} {off : Int} (tgt : Nat) (d : decode cc pc = .ok (.if_icmp .lt off, 3)) (ht : (pc : Int) + off = (tgt : Int)) (kt : x < y → V ω σ M L kc ks Q (tgt) (st)) (kf : ¬ x < y → V ω σ M L kc ks Q (pc + 3) (st)) : V ω σ M L kc ks Q (pc) (.int y :: .int x :: st) := fun H locs ls h1 h2 h3 => lv_icmp_lt F.1 F.2.1 d ht (fun q => kt q H locs ls h1 h2 h3) (fun q => kf q H locs ls h1 h2 h3)
theorem v_icmp_ge {ω : Om} {σ : Sg} {cc : ByteArray} {nL : Nat} {Ts : List Cond} {own : String} {rm : Room} {M : MM} {L : List (Option Value)} {kc ks : Nat} {Q : State → Prop} {pc : Nat} {st : List Value} (F : Fx ω σ cc nL Ts own rm) {x y : Int32} {off : Int} (tgt : Nat) (d : decode cc pc = .ok (.if_icmp .ge off, 3)) (ht : (pc : Int) + off = (tgt : Int)) (kt : y ≤ x → V ω σ M L kc ks Q (tgt) (st)) (kf : ¬ y ≤ x → V ω σ M L kc ks Q (pc + 3) (st)) : V ω σ M L kc ks Q (pc) (.int y :: .int x :: st) := fun H locs ls h1 h2 h3 => lv_icmp_ge F.1 F.2.1 d ht (fun q => kt q H locs ls h1 h2 h3) (fun q => kf q H locs ls h1 h2 h3)
theorem v_icmp_gt {ω : Om} {σ : Sg} {cc : ByteArray} {nL : Nat} {Ts : List Cond} {own : String} {rm : Room} {M : MM} {L : List (Option Value)} {kc ks : Nat} {Q : State → Prop} {pc : Nat} {st : List Value} (F : Fx ω σ cc nL Ts own rm) {x y : Int32} {off : Int} (tgt : Nat) (d : decode cc pc = .ok (.if_icmp .gt off, 3)) (ht : (pc : Int) + off = (tgt : Int)) (kt : y < x → V ω σ M L kc ks Q (tgt) (st)) (kf : ¬ y < x → V ω σ M L kc ks Q (pc + 3) (st)) : V ω σ M L kc ks Q (pc) (.int y :: .int x :: st) := fun H locs ls h1 h2 h3 => lv_icmp_gt F.1 F.2.1 d ht (fun q => kt q H locs ls h1 h2 h3) (fun q => kf q H locs ls h1 h2 h3)
theorem v_icmp_le {ω : Om} {σ : Sg} {cc : ByteArray} {nL : Nat} {Ts : List Cond} {own : String} {rm : Room} {M : MM} {L : List (Option Value)} {kc ks : Nat} {Q : State → Prop} {pc : Nat} {st : List Value} (F : Fx ω σ cc nL Ts own rm) {x y : Int32} {off : Int} (tgt : Nat) (d : decode cc pc = .ok (.if_icmp .le off, 3)) (ht : (pc : Int) + off = (tgt : Int)) (kt : x ≤ y → V ω σ M L kc ks Q (tgt) (st)) (kf : ¬ x ≤ y → V ω σ M L kc ks Q (pc + 3) (st)) : V ω σ M L kc ks Q (pc) (.int y :: .int x :: st) := fun H locs ls h1 h2 h3 => lv_icmp_le F.1 F.2.1 d ht (fun q => kt q H locs ls h1 h2 h3) (fun q => kf q H locs ls h1 h2 h3)
theorem v_acmp_eq {ω : Om} {σ : Sg} {cc : ByteArray} {nL : Nat} {Ts : List Cond} {own : String} {rm : Room} {M : MM} {L : List (Option Value)} {kc ks : Nat} {Q : State → Prop} {pc : Nat} {st : List Value} (F : Fx ω σ cc nL Ts own rm) (rx ry : Option Nat) {off : Int} (tgt : Nat) (d : decode cc pc = .ok (.if_acmp .eq off, 3)) (ht : (pc : Int) + off = (tgt : Int)) (kt : rx = ry → V ω σ M L kc ks Q (tgt) (st)) (kf : ¬ rx = ry → V ω σ M L kc ks Q (pc + 3) (st)) : V ω σ M L kc ks Q (pc) (va_rf ry :: va_rf rx :: st) := fun H locs ls h1 h2 h3 => lv_acmp_eq F.1 F.2.1 d ht (fun q => kt q H locs ls h1 h2 h3) (fun q => kf q H locs ls h1 h2 h3)
theorem v_acmp_ne {ω : Om} {σ : Sg} {cc : ByteArray} {nL : Nat} {Ts : List Cond} {own : String} {rm : Room} {M : MM} {L : List (Option Value)} {kc ks : Nat} {Q : State → Prop} {pc : Nat} {st : List Value} (F : Fx ω σ cc nL Ts own rm) (rx ry : Option Nat) {off : Int} (tgt : Nat) (d : decode cc pc = .ok (.if_acmp .ne off, 3)) (ht : (pc : Int) + off = (tgt : Int)) (kt : ¬ rx = ry → V ω σ M L kc ks Q (tgt) (st)) (kf : rx = ry → V ω σ M L kc ks Q (pc + 3) (st)) : V ω σ M L kc ks Q (pc) (va_rf ry :: va_rf rx :: st) := fun H locs ls h1 h2 h3 => lv_acmp_ne F.1 F.2.1 d ht (fun q => kt q H locs ls h1 h2 h3) (fun q => kf q H locs ls h1 h2 h3)
theorem v_goto {ω : Om} {σ : Sg} {cc : ByteArray} {nL : Nat} {Ts : List Cond} {own : String} {rm : Room} {M : MM} {L : List (Option Value)} {kc ks : Nat} {Q : State → Prop} {pc : Nat} {st : List Value} (F : Fx ω σ cc nL Ts own rm) {off : Int} (tgt : Nat) (d : decode cc pc = .ok (.goto off, 3)) (ht : (pc : Int) + off = (tgt : Int)) (k : V ω σ M L kc ks Q (tgt) (st)) : V ω σ M L kc ks Q (pc) (st) := fun H locs ls h1 h2 h3 => lv_goto F.1 F.2.1 d ht (k H locs ls h1 h2 h3)
theorem v_ifnull_r {ω : Om} {σ : Sg} {cc : ByteArray} {nL : Nat} {Ts : List Cond} {own : String} {rm : Room} {M : MM} {L : List (Option Value)} {kc ks : Nat} {Q : State → Prop} {pc : Nat} {st : List Value} (F : Fx ω σ cc nL Ts own rm) {a : Nat} {off : Int} (d : decode cc pc = .ok (.ifnull off, 3)) (k : V ω σ M L kc ks Q (pc + 3) (st)) : V ω σ M L kc ks Q (pc) (.ref a :: st) := fun H locs ls h1 h2 h3 => lv_ifnull F.1 F.2.1 d (k H locs ls h1 h2 h3)
theorem v_ifnull_n {ω : Om} {σ : Sg} {cc : ByteArray} {nL : Nat} {Ts : List Cond} {own : String} {rm : Room} {M : MM} {L : List (Option Value)} {kc ks : Nat} {Q : State → Prop} {pc : Nat} {st : List Value} (F : Fx ω σ cc nL Ts own rm) {off : Int} (tgt : Nat) (d : decode cc pc = .ok (.ifnull off, 3)) (ht : (pc : Int) + off = (tgt : Int)) (k : V ω σ M L kc ks Q (tgt) (st)) : V ω σ M L kc ks Q (pc) (.null :: st) := fun H locs ls h1 h2 h3 => lv_ifnullN F.1 F.2.1 d ht (k H locs ls h1 h2 h3)
theorem v_ifnonnull_r {ω : Om} {σ : Sg} {cc : ByteArray} {nL : Nat} {Ts : List Cond} {own : String} {rm : Room} {M : MM} {L : List (Option Value)} {kc ks : Nat} {Q : State → Prop} {pc : Nat} {st : List Value} (F : Fx ω σ cc nL Ts own rm) {a : Nat} {off : Int} (tgt : Nat) (d : decode cc pc = .ok (.ifnonnull off, 3)) (ht : (pc : Int) + off = (tgt : Int)) (k : V ω σ M L kc ks Q (tgt) (st)) : V ω σ M L kc ks Q (pc) (.ref a :: st) := fun H locs ls h1 h2 h3 => lv_ifnonnull F.1 F.2.1 d ht (k H locs ls h1 h2 h3)
theorem v_ifnonnull_n {ω : Om} {σ : Sg} {cc : ByteArray} {nL : Nat} {Ts : List Cond} {own : String} {rm : Room} {M : MM} {L : List (Option Value)} {kc ks : Nat} {Q : State → Prop} {pc : Nat} {st : List Value} (F : Fx ω σ cc nL Ts own rm) {off : Int} (d : decode cc pc = .ok (.ifnonnull off, 3)) (k : V ω σ M L kc ks Q (pc + 3) (st)) : V ω σ M L kc ks Q (pc) (.null :: st) := fun H locs ls h1 h2 h3 => lv_ifnonnullN F.1 F.2.1 d (k H locs ls h1 h2 h3)
theorem v_tableOut {ω : Om} {σ : Sg} {cc : ByteArray} {nL : Nat} {Ts : List Cond} {own : String} {rm : Room} {M : MM} {L : List (Option Value)} {kc ks : Nat} {Q : State → Prop} {pc : Nat} {st : List Value} (F : Fx ω σ cc nL Ts own rm) {dflt lo hi : Int} {offs : Array Int} {len : Nat} {x : Int32} (tgt : Nat) (d : decode cc pc = .ok (.tableswitch dflt lo hi offs, len)) (h : x.toInt < lo ∨ hi < x.toInt) (ht : (pc : Int) + dflt = (tgt : Int)) (k : V ω σ M L kc ks Q (tgt) (st)) : V ω σ M L kc ks Q (pc) (.int x :: st) := fun H locs ls h1 h2 h3 => lv_tableOut F.1 F.2.1 d h ht (k H locs ls h1 h2 h3)
theorem v_tableIn {ω : Om} {σ : Sg} {cc : ByteArray} {nL : Nat} {Ts : List Cond} {own : String} {rm : Room} {M : MM} {L : List (Option Value)} {kc ks : Nat} {Q : State → Prop} {pc : Nat} {st : List Value} (F : Fx ω σ cc nL Ts own rm) {dflt lo hi : Int} {offs : Array Int} {len : Nat} {x : Int32} (off : Int) (tgt : Nat) (d : decode cc pc = .ok (.tableswitch dflt lo hi offs, len)) (a1 : ¬ x.toInt < lo) (a2 : ¬ hi < x.toInt) (ho : offs[(x.toInt - lo).toNat]? = some off) (ht : (pc : Int) + off = (tgt : Int)) (k : V ω σ M L kc ks Q (tgt) (st)) : V ω σ M L kc ks Q (pc) (.int x :: st) := fun H locs ls h1 h2 h3 => lv_tableIn F.1 F.2.1 d a1 a2 ho ht (k H locs ls h1 h2 h3)
theorem v_lcmp {ω : Om} {σ : Sg} {cc : ByteArray} {nL : Nat} {Ts : List Cond} {own : String} {rm : Room} {M : MM} {L : List (Option Value)} {kc ks : Nat} {Q : State → Prop} {pc : Nat} {st : List Value} (F : Fx ω σ cc nL Ts own rm) {x y : Int64} (d : decode cc pc = .ok (.lcmp, 1)) (k : V ω σ M L kc ks Q (pc + 1) (.int (lg_cmp x y) :: st)) : V ω σ M L kc ks Q (pc) (.long y :: .long x :: st) := fun H locs ls h1 h2 h3 => W.lcmp F.1 F.2.1 d (k H locs ls h1 h2 h3)
theorem v_widen {ω : Om} {σ : Sg} {cc : ByteArray} {nL : Nat} {Ts : List Cond} {own : String} {rm : Room} {M : MM} {L : List (Option Value)} {kc ks : Nat} {Q : State → Prop} {pc : Nat} {st : List Value} (F : Fx ω σ cc nL Ts own rm) (a b : Nat) (ha : kc ≤ a) (hb : ks ≤ b) (k : V ω σ M L a b Q (pc) (st)) : V ω σ M L kc ks Q (pc) (st) := fun H locs ls h1 h2 h3 => W.widen ha hb (k H locs ls h1 h2 h3)
theorem v_get {ω : Om} {σ : Sg} {cc : ByteArray} {nL : Nat} {Ts : List Cond} {own : String} {rm : Room} {M : MM} {L : List (Option Value)} {kc ks : Nat} {Q : State → Prop} {pc : Nat} {st : List Value} (F : Fx ω σ cc nL Ts own rm) {a : Nat} (ci kf : Nat) {idx : Nat} {fs : List Value} {v : Value} (f : FO Ts own idx ci kf) (d : decode cc pc = .ok (.getfield idx, 3)) (hM : M a = some (.inr (ci, fs))) (hv : fs[kf]? = some v) (k : V ω σ M L kc ks Q (pc + 3) (v :: st)) : V ω σ M L kc ks Q (pc) (.ref a :: st) := by
  intro H locs ls h1 h2 h3
  obtain ⟨C, T, N, hc, hk, hin, hlk⟩ := f
  exact va_get (D := ω.1) (ci := ci) F.1 F.2.1 F.2.2.2.2.1 hin F.2.2.2.1 F.2.2.2.2.2.1.1 (h1.P1 hM) 0 rfl hc kf hk (F.2.2.2.2.1 _ hlk) (fun _ h9 => h9) hv d (k H locs ls h1 h2 h3)
theorem v_put {ω : Om} {σ : Sg} {cc : ByteArray} {nL : Nat} {Ts : List Cond} {own : String} {rm : Room} {M : MM} {L : List (Option Value)} {kc ks : Nat} {Q : State → Prop} {pc : Nat} {st : List Value} (F : Fx ω σ cc nL Ts own rm) {a : Nat} (ci kf : Nat) {idx : Nat} {ty : FieldType} {fs : List Value} {v : Value} (f : FP Ts own idx ci kf ty) (d : decode cc pc = .ok (.putfield idx, 3)) (hM : M a = some (.inr (ci, fs))) (hn : narrow ty v = v) (hfit : fits ty v = true) (hl : kf < fs.length) (k : V ω σ (mup M a (.inr (ci, fs.set kf v))) L kc ks Q (pc + 3) (st)) : V ω σ M L kc ks Q (pc) (v :: .ref a :: st) := by
  intro H locs ls h1 h2 h3
  obtain ⟨C, T, N, ty0, hc, hk, hin, hlk, hty, hnm, hfin, hd⟩ := f
  have hts := F.2.2.2.2.1
  have hap := va_apart (own := own) hts hin ty0 hty hnm F.2.2.2.2.2.1.1 hc
  obtain ⟨hza, r, hr, cell, q1, q2, q3, q4⟩ := h1.2 a _ hM
  have hrr : r = (C, T, N) := Option.some.inj (hr.symm.trans hc)
  subst hrr
  obtain ⟨hS, hfc, kC, hkC, hkind⟩ := F.2.2.2.2.2.1.1.1 ci _ hc
  obtain ⟨cf, kf2, fi, f2, hi, hsl⟩ := hS kf hk
  have hlay := hts _ (hin _ (u_in_lay hk))
  unfold u_lay at hlay
  rw [if_neg (by rw [hfin]; decide)] at hlay
  have hst := (u_facts hfc hkC (u_lays hts hin hk) hi).1
  have h6 := u_store hfc hkC hkind hlay hi hd hn hfit
  refine W.putK F.1 F.2.1 (f := f2) ⟨F.2.2.2.1, hts _ hlk, ⟨_, _, _, hi⟩, hst⟩ (by rw [q2]; exact h6) q1 q3 (by rw [hsl]; exact k2_hasslot (q4 kf hk)) rfl rfl d fun H' e1 e2 e3 => ?_
  rw [hsl] at e1 ⊢
  exact k H' _ ls (h1.put hM ⟨_, hc, t_OB.to (V := updV (vp_V fs) kf v) ⟨_, e1, q2, q3, t_set q4 hap hk v⟩ (fun j _ => vp_updV_set hl v j)⟩ e2 e3) (h2.put e2 e3 hza) h3
theorem v_putF {ω : Om} {σ : Sg} {cc : ByteArray} {nL : Nat} {Ts : List Cond} {own : String} {rm : Room} {M : MM} {L : List (Option Value)} {kc ks : Nat} {Q : State → Prop} {pc : Nat} {st : List Value} (F : Fx ω σ cc nL Ts own rm) {a : Nat} (ci kf : Nat) {idx : Nat} {ty : FieldType} {fs : List Value} {v : Value} (f : FQ Ts own idx ci kf ty) (hname : σ.2.2.2.2.2.2.2.2.1.name = "<init>") (d : decode cc pc = .ok (.putfield idx, 3)) (hM : M a = some (.inr (ci, fs))) (hn : narrow ty v = v) (hfit : fits ty v = true) (hl : kf < fs.length) (k : V ω σ (mup M a (.inr (ci, fs.set kf v))) L kc ks Q (pc + 3) (st)) : V ω σ M L kc ks Q (pc) (v :: .ref a :: st) := by
  intro H locs ls h1 h2 h3
  obtain ⟨C, T, N, ty0, hc, hk, hin, hlk, hty, hnm, hfin, hdecl, hd⟩ := f
  have hts := F.2.2.2.2.1
  have hown := F.2.2.2.1
  have hap := va_apart (own := own) hts hin ty0 hty hnm F.2.2.2.2.2.1.1 hc
  obtain ⟨hza, r, hr, cell, q1, q2, q3, q4⟩ := h1.2 a _ hM
  have hrr : r = (C, T, N) := Option.some.inj (hr.symm.trans hc)
  subst hrr
  obtain ⟨hS, hfc, kC, hkC, hkind⟩ := F.2.2.2.2.2.1.1.1 ci _ hc
  obtain ⟨cf, kf2, fi, f2, hi, hsl⟩ := hS kf hk
  have hlay := hts _ (hin _ (u_in_lay hk))
  unfold u_lay at hlay
  rw [if_pos hfin] at hlay
  have hst := (u_facts hfc hkC (u_lays hts hin hk) hi).1
  have hcf : σ.2.2.2.2.2.1.cls = cf := by
    obtain ⟨_, _, c', _, _, _, -, -, hf', -, -, -, hown2, -⟩ := Cond.laysFinal_spec hlay
    have e1 : c' = cf := by have := hi.symm.trans hf'; simp at this; exact this.1.symm
    rw [hdecl] at hown2
    rw [← e1]; exact Option.some.inj (hown.symm.trans hown2)
  have h6 := u_fits hfc hkC hkind (Or.inr hlay) hi hd hn hfit
  refine W.putFinK F.1 F.2.1 hown (hts _ hlk) hi hst hcf hname (by rw [q2]; exact h6) q1 q3 (by rw [hsl]; exact k2_hasslot (q4 kf hk)) rfl rfl d fun H' e1 e2 e3 => ?_
  rw [hsl] at e1 ⊢
  exact k H' _ ls (h1.put hM ⟨_, hc, t_OB.to (V := updV (vp_V fs) kf v) ⟨_, e1, q2, q3, t_set q4 hap hk v⟩ (fun j _ => vp_updV_set hl v j)⟩ e2 e3) (h2.put e2 e3 hza) h3
theorem v_alen {ω : Om} {σ : Sg} {cc : ByteArray} {nL : Nat} {Ts : List Cond} {own : String} {rm : Room} {M : MM} {L : List (Option Value)} {kc ks : Nat} {Q : State → Prop} {pc : Nat} {st : List Value} (F : Fx ω σ cc nL Ts own rm) {a n : Nat} {cA : ClassId} {w : (Nat → Int32) ⊕ (Nat → Int64) ⊕ (Nat → UInt32) ⊕ (Nat → UInt64) ⊕ (Nat → Option Nat)} (t0 : Nat) {ty : FieldType} (d : decode cc pc = .ok (.arraylength, 1)) (hM : M a = some (.inl (cA, n, w))) (ht : (tysO ω)[t0]? = some (cA, ty)) (k : V ω σ M L kc ks Q (pc + 1) (.int (nI n) :: st)) : V ω σ M L kc ks Q (pc) (.ref a :: st) := fun H locs ls h1 h2 h3 => va_alen F.1 F.2.1 F.2.2.2.2.2.1.1 (h1.P1 hM) 0 t0 rfl ht rfl d (k H locs ls h1 h2 h3)
theorem v_iald {ω : Om} {σ : Sg} {cc : ByteArray} {nL : Nat} {Ts : List Cond} {own : String} {rm : Room} {M : MM} {L : List (Option Value)} {kc ks : Nat} {Q : State → Prop} {pc : Nat} {st : List Value} (F : Fx ω σ cc nL Ts own rm) {a n : Nat} {g : Nat → Int32} {i : Int32} (d : decode cc pc = .ok (.iaload, 1)) (hM : M a = some (.inl (ω.2.2 0, n, .inl g))) (hin : vp_in i n) (k : V ω σ M L kc ks Q (pc + 1) (.int (g i.toNatClampNeg) :: st)) : V ω σ M L kc ks Q (pc) (.int i :: .ref a :: st) := fun H locs ls h1 h2 h3 => va_iald F.1 F.2.1 F.2.2.2.2.2.1.1 (h1.P1 hM) 0 0 rfl rfl hin d (k H locs ls h1 h2 h3)
theorem v_zald {ω : Om} {σ : Sg} {cc : ByteArray} {nL : Nat} {Ts : List Cond} {own : String} {rm : Room} {M : MM} {L : List (Option Value)} {kc ks : Nat} {Q : State → Prop} {pc : Nat} {st : List Value} (F : Fx ω σ cc nL Ts own rm) {a n : Nat} {g : Nat → Int32} {i : Int32} (d : decode cc pc = .ok (.baload, 1)) (hM : M a = some (.inl (ω.2.2 1, n, .inl g))) (hin : vp_in i n) (k : V ω σ M L kc ks Q (pc + 1) (.int (g i.toNatClampNeg) :: st)) : V ω σ M L kc ks Q (pc) (.int i :: .ref a :: st) := fun H locs ls h1 h2 h3 => va_zald F.1 F.2.1 F.2.2.2.2.2.1.1 (h1.P1 hM) 0 1 rfl rfl hin d (k H locs ls h1 h2 h3)
theorem v_lald {ω : Om} {σ : Sg} {cc : ByteArray} {nL : Nat} {Ts : List Cond} {own : String} {rm : Room} {M : MM} {L : List (Option Value)} {kc ks : Nat} {Q : State → Prop} {pc : Nat} {st : List Value} (F : Fx ω σ cc nL Ts own rm) {a n : Nat} {g : Nat → Int64} {i : Int32} (d : decode cc pc = .ok (.laload, 1)) (hM : M a = some (.inl (ω.2.2 2, n, .inr (.inl g)))) (hin : vp_in i n) (k : V ω σ M L kc ks Q (pc + 1) (.long (g i.toNatClampNeg) :: st)) : V ω σ M L kc ks Q (pc) (.int i :: .ref a :: st) := fun H locs ls h1 h2 h3 => va_lald F.1 F.2.1 F.2.2.2.2.2.1.1 (h1.P1 hM) 0 2 rfl rfl hin d (k H locs ls h1 h2 h3)
theorem v_aald {ω : Om} {σ : Sg} {cc : ByteArray} {nL : Nat} {Ts : List Cond} {own : String} {rm : Room} {M : MM} {L : List (Option Value)} {kc ks : Nat} {Q : State → Prop} {pc : Nat} {st : List Value} (F : Fx ω σ cc nL Ts own rm) {a n : Nat} {g : Nat → Option Nat} {i : Int32} {cA : ClassId} {C : String} (t0 : Nat) (d : decode cc pc = .ok (.aaload, 1)) (hM : M a = some (.inl (cA, n, .inr (.inr (.inr (.inr g)))))) (ht : (tysO ω)[t0]? = some (cA, .object C)) (hin : vp_in i n) (k : V ω σ M L kc ks Q (pc + 1) (va_rf (g i.toNatClampNeg) :: st)) : V ω σ M L kc ks Q (pc) (.int i :: .ref a :: st) := fun H locs ls h1 h2 h3 => va_aldq F.1 F.2.1 F.2.2.2.2.2.1.1 (h1.P1 hM) 0 t0 rfl ht hin d (k H locs ls h1 h2 h3)
theorem v_iast {ω : Om} {σ : Sg} {cc : ByteArray} {nL : Nat} {Ts : List Cond} {own : String} {rm : Room} {M : MM} {L : List (Option Value)} {kc ks : Nat} {Q : State → Prop} {pc : Nat} {st : List Value} (F : Fx ω σ cc nL Ts own rm) {a n : Nat} {g : Nat → Int32} {i : Int32} {x : Int32} (d : decode cc pc = .ok (.iastore, 1)) (hM : M a = some (.inl (ω.2.2 0, n, .inl g))) (hin : vp_in i n) (k : V ω σ (mup M a (.inl (ω.2.2 0, n, .inl (upd g i.toNatClampNeg x)))) L kc ks Q (pc + 1) (st)) : V ω σ M L kc ks Q (pc) (.int x :: .int i :: .ref a :: st) := by
  intro H locs ls h1 h2 h3
  obtain ⟨hza, hat⟩ := h1.2 a _ hM
  refine W.iast F.1 F.2.1 hat ((F.2.2.2.2.2.1.1.2 0 _ rfl).1 n (fun j => .int (g j))) (fun q => by cases q) (by show ¬ (i < 0 ∨ (arrV _ _ _).slots.size ≤ _); rw [arrV_size]; exact hin) rfl rfl d fun H1 e1 z1 oq => ?_
  refine k H1 _ ls (h1.put hM ?_ z1 oq) (h2.put z1 oq hza) h3
  show H1[a]? = some (vp_cell _ _)
  rw [e1, vp_cell_i, vp_cell_i, arrV_store]
  congr 2
  funext q
  by_cases hq : q = i.toNatClampNeg
  · subst hq
    simp [updV, upd, vp_updL, vp_nar]
    try rfl
  · simp [updV, upd, vp_updL, hq]
theorem v_zast {ω : Om} {σ : Sg} {cc : ByteArray} {nL : Nat} {Ts : List Cond} {own : String} {rm : Room} {M : MM} {L : List (Option Value)} {kc ks : Nat} {Q : State → Prop} {pc : Nat} {st : List Value} (F : Fx ω σ cc nL Ts own rm) {a n : Nat} {g : Nat → Int32} {i : Int32} {x : Int32} (d : decode cc pc = .ok (.bastore, 1)) (hM : M a = some (.inl (ω.2.2 1, n, .inl g))) (hin : vp_in i n) (k : V ω σ (mup M a (.inl (ω.2.2 1, n, .inl (upd g i.toNatClampNeg (vp_nar .boolean x))))) L kc ks Q (pc + 1) (st)) : V ω σ M L kc ks Q (pc) (.int x :: .int i :: .ref a :: st) := by
  intro H locs ls h1 h2 h3
  obtain ⟨hza, hat⟩ := h1.2 a _ hM
  refine W.zast F.1 F.2.1 hat ((F.2.2.2.2.2.1.1.2 1 _ rfl).1 n (fun j => .int (g j))) (fun q => by cases q) (by show ¬ (i < 0 ∨ (arrV _ _ _).slots.size ≤ _); rw [arrV_size]; exact hin) rfl rfl d fun H1 e1 z1 oq => ?_
  refine k H1 _ ls (h1.put hM ?_ z1 oq) (h2.put z1 oq hza) h3
  show H1[a]? = some (vp_cell _ _)
  rw [e1, vp_cell_i, vp_cell_i, arrV_store]
  congr 2
  funext q
  by_cases hq : q = i.toNatClampNeg
  · subst hq
    simp [updV, upd, vp_updL, vp_nar]
    try rfl
  · simp [updV, upd, vp_updL, hq]
theorem v_last {ω : Om} {σ : Sg} {cc : ByteArray} {nL : Nat} {Ts : List Cond} {own : String} {rm : Room} {M : MM} {L : List (Option Value)} {kc ks : Nat} {Q : State → Prop} {pc : Nat} {st : List Value} (F : Fx ω σ cc nL Ts own rm) {a n : Nat} {g : Nat → Int64} {i : Int32} {x : Int64} (d : decode cc pc = .ok (.lastore, 1)) (hM : M a = some (.inl (ω.2.2 2, n, .inr (.inl g)))) (hin : vp_in i n) (k : V ω σ (mup M a (.inl (ω.2.2 2, n, .inr (.inl (vp_updL g i.toNatClampNeg x))))) L kc ks Q (pc + 1) (st)) : V ω σ M L kc ks Q (pc) (.long x :: .int i :: .ref a :: st) := by
  intro H locs ls h1 h2 h3
  obtain ⟨hza, hat⟩ := h1.2 a _ hM
  refine W.last F.1 F.2.1 hat ((F.2.2.2.2.2.1.1.2 2 _ rfl).1 n (fun j => .long (g j))) (fun q => by cases q) (by show ¬ (i < 0 ∨ (arrV _ _ _).slots.size ≤ _); rw [arrV_size]; exact hin) rfl rfl d fun H1 e1 z1 oq => ?_
  refine k H1 _ ls (h1.put hM ?_ z1 oq) (h2.put z1 oq hza) h3
  show H1[a]? = some (vp_cell _ _)
  rw [e1, vp_cell_l, vp_cell_l, arrV_store]
  congr 2
  funext q
  by_cases hq : q = i.toNatClampNeg
  · subst hq
    simp [updV, upd, vp_updL, vp_nar]
    try rfl
  · simp [updV, upd, vp_updL, hq]
theorem v_aast {ω : Om} {σ : Sg} {cc : ByteArray} {nL : Nat} {Ts : List Cond} {own : String} {rm : Room} {M : MM} {L : List (Option Value)} {kc ks : Nat} {Q : State → Prop} {pc : Nat} {st : List Value} (F : Fx ω σ cc nL Ts own rm) {a n v : Nat} {g : Nat → Option Nat} {i : Int32} {cA : ClassId} (t0 ci : Nat) {r : vw_C} {vs : List Value} (d : decode cc pc = .ok (.aastore, 1)) (hM : M a = some (.inl (cA, n, .inr (.inr (.inr (.inr g)))))) (ht : (tysO ω)[t0]? = some (cA, .object r.1)) (hv : M v = some (.inr (ci, vs))) (hc : vwCl[ci]? = some r) (hin : vp_in i n) (k : V ω σ (mup M a (.inl (cA, n, .inr (.inr (.inr (.inr (va_up g i.toNatClampNeg (some v)))))))) L kc ks Q (pc + 1) (st)) : V ω σ M L kc ks Q (pc) (.ref v :: .int i :: .ref a :: st) := by
  intro H locs ls h1 h2 h3
  have hlt : i.toNatClampNeg < n := Nat.not_le.mp fun q => hin (Or.inr q)
  have h0 : ¬ i < 0 := fun q => hin (Or.inl q)
  obtain ⟨hza, hat⟩ := h1.2 a _ hM
  have hK := F.2.2.2.2.2.1.1
  obtain ⟨-, r', hr', cellV, g1, g2, g3, -⟩ := h1.2 v _ hv
  have hcls := (hK.1 ci r hc).2
  obtain ⟨kA, comp, k1, k2, k3, -⟩ := (hK.2 t0 _ ht).2
  have hcomp : comp = ω.1.1 ci := Option.some.inj (k3.symm.trans hcls.1)
  subst hcomp
  obtain ⟨kC, hkC, -⟩ := hcls.2
  refine W.aast F.1 F.2.1 hat (fun q h => by cases h) (fun h => by cases h) k1 k2 rfl hkC ⟨h0, by show _ < (arrV _ _ _).slots.size; rw [arrV_size]; exact hlt⟩ g1 (fun q h => by rw [g3] at h; cases h) (by rw [g2]; exact hkC) (by rw [g2]; exact va_assign hcls) rfl rfl d fun H1 e z oq => ?_
  refine k H1 _ ls (h1.put hM ?_ z oq) (h2.put z oq hza) h3
  show H1[a]? = some (vp_cell _ _)
  rw [e, vp_cell_q, vp_cell_q, arrV_store]
  congr 2
  funext q
  by_cases hq : q = i.toNatClampNeg
  · subst hq
    simp [updV, va_up, va_rf]
  · simp [updV, va_up, hq]
end
section
/-! contracts over worlds as maps; calls and ends in the judgement V -/
theorem Kw.go {ω : Om} {s U : State} {H H1 : Heap} {locs : List Loc} (h : Kw ω s H) (hS : va_S (zA ω) H H1 locs) (hW : s.WarmedH U.vm) : Kw ω U H1 := by
  obtain ⟨h1, h2, h3, h4, h5⟩ := h
  have hv := hW.alike
  exact ⟨va_K.moved hv h1, vx_Zq.moved hv (h2.kept fun a ha hn => hS.2.1 a ha hn), vx_Zq.moved hv (h3.kept fun a ha hn => hS.2.1 a ha hn), fun q hq => (h4 q hq).imp fun sa h => vk_R.warm hW h, h5.warm hW⟩
def PcO (ω : Om) (av : List Value) (M : MM) : Array Value → State → Prop := va_Pc av (fun U => hm ω M U.heap ∧ Kw ω U U.heap)
def QcO (ω : Om) (PQ : Option Value → MM → Prop) : Array Value → State → Outcome → State → Prop := fun _ st oc t => (∃ (v : Option Value) (M' : MM), oc = .returned v ∧ PQ v M' ∧ hm ω M' t.heap) ∧ va_F (zA ω) st t
def Ct (l : Launch) (ω : Om) (y : MethodName) (ws : List Cond) (rm : Room) (av : List Value) (M : MM) (PQ : Option Value → MM → Prop) (mc ms : Nat) : Prop := Met l y ws rm (PcO ω av M) (QcO ω PQ) mc ms (zA ω)
def BQ (ω : Om) (σ : Sg) (PQ : Option Value → MM → Prop) (mc ms : Nat) : State → Prop := MQ σ.2.2.2.2.2.2.2.1 (QcO ω PQ) σ.2.2.2.2.2.2.1 σ.2.2.2.2.1 mc ms (zA ω)
theorem PcO.blind {ω : Om} {av : List Value} {M : MM} : FrameBlind (PcO ω av M) := by
  intro a U g mk h
  obtain ⟨h1, h2, h3, h4, h5, h6, h7⟩ := h
  exact ⟨h1, h2, va_K.moved (u := U) (U := U.calling g mk a) (Vm.Alike.refl U.vm) h3, vx_Zq.moved (u := U) (U := U.calling g mk a) (Vm.Alike.refl U.vm) h4, vx_Zq.moved (u := U) (U := U.calling g mk a) (Vm.Alike.refl U.vm) h5, fun q hq => (h6 q hq).imp fun sa h => vk_R.same (u := U) (U := U.calling g mk a) rfl h, Nw3.same (s := U) (U := U.calling g mk a) rfl h7⟩
theorem Ct.ofV {l : Launch} {ω : Om} {y : MethodName} {ws ws' : List Cond} {rm : Room} {av : List Value} {M : MM} {PQ : Option Value → MM → Prop} {mc ms : Nat} {cc : ByteArray} {maxL : Nat} {ret : Option FieldType} (L : List (Option Value))
    (hy : plainName y.cls = true) (hw : ws = Cond.code y cc maxL ret :: ws') (hsl : (lg_sl av).length ≤ maxL) (hL : L.length = maxL) (hav : ∀ (i : Nat) (v : Value), L[i]? = some (some v) → (i, v) ∈ lv_args 0 av)
    (body : ∀ σ : Sg, Fx ω σ cc maxL ws y.cls rm → σ.2.1 = l → σ.2.2.2.2.2.2.2.2.1.sig.returnType = ret → σ.2.2.2.2.2.2.2.2.1.name = y.name → V ω σ M L 0 0 (BQ ω σ PQ mc ms) 0 []) : Ct l ω y ws rm av M PQ mc ms := by
  refine Met.ofW (cc := cc) (maxL := maxL) (ret := ret) hy hw ?_
  intro p e s m args below meth c s₁ B hml hv
  obtain ⟨rfl, hM, hK⟩ := hv
  have hl := lv_entry av (n := maxL) hsl
  rw [lg_entry_eq]
  generalize (lg_sl av ++ List.replicate (maxL - (lg_sl av).length) Slot.unset).toArray = ls at hl ⊢
  exact body (p, l, e, rm, s, m, av.toArray, below, meth, c) ⟨B.exec, B.bytes, hml, findClass_of_methodNamed B.named, atoms_spec (ws := ws) B.pre, hK, B.notSynchronized, rfl, hM.1⟩ rfl B.returns (name_of_methodNamed B.named B.method).1
    s.heap [] ls hM va_S.rf (Lc.of (by rw [hL]; exact hl) hav)
theorem run_go {p : Program} {l : Launch} {e : Env} {R : Room} {s : State} {m : MethodId} {args : Array Value} {below : List Frame} {meth : Method} {c : Code} {H : Heap} {locs : List Loc} {kc ks mc ms : Nat} {Q : State → Prop} {pc : Nat} {ls : Array Slot} {st0 st : List Value} {ω : Om} {PQ : Option Value → MM → Prop} {a : Array Value}
    (hr : va_Run p l e R s m args below meth c H locs kc ks mc ms (F0 m pc ls st0) st (QcO ω PQ a) (zA ω)) (h2 : va_S (zA ω) s.heap H locs)
    (kk : ∀ (v : Option Value) (M' : MM) (H1 : Heap) (locs1 : List Loc), PQ v M' → hm ω M' H1 → va_S (zA ω) s.heap H1 locs1 → W p l e R s m args below meth c H1 locs1 (kc + mc) (ks + ms) Q (F0 m (pc + 3) ls (v.toList ++ st))) : W p l e R s m args below meth c H locs kc ks Q (F0 m pc ls st0) := by
  intro T hT X
  obtain ⟨v, st₀, t, T', L, h0, X', hL, e1, e2, ⟨⟨v', M', hv, hp, hb⟩, hz, hk⟩, stp⟩ := hr T hT X
  cases hv
  rw [h0] at hz hk
  obtain ⟨t2, a1, b1⟩ := kk v M' T'.heap (locs ++ L) hp (by rw [e1]; exact hb)
    ⟨Nat.le_trans h2.1 (by rw [e1]; exact hz), fun q h1 hn => by rw [e1, hk q (Nat.lt_of_lt_of_le h1 h2.1) hn]; exact h2.2.1 q h1 hn, fun q hq => by
      rcases List.mem_append.mp hq with h | h
      · exact h2.2.2 q h
      · exact hL q h⟩ T' rfl X'
  exact ⟨t2, stp t2 a1, b1⟩
theorem PcO.at {ω : Om} {σ : Sg} {M : MM} {H : Heap} {locs : List Loc} {av : List Value} (hK : Kw ω σ.2.2.2.2.1 σ.2.2.2.2.1.heap) (h1 : hm ω M H) (h2 : va_S (zA ω) σ.2.2.2.2.1.heap H locs) : ∀ U : State, U.heap = H → σ.2.2.2.2.1.WarmedH U.vm → PcO ω av M av.toArray U := by
  intro U hU hW
  subst hU
  exact ⟨rfl, h1, hK.go h2 hW⟩
theorem hm.recv {ω : Om} {σ : Sg} {M : MM} {H : Heap} (hK : Kw ω σ.2.2.2.2.1 σ.2.2.2.2.1.heap) (h1 : hm ω M H) {b ci : Nat} {fs : List Value} {q : vw_C} (hb : M b = some (.inr (ci, fs))) (hc : vwCl[ci]? = some q) : ∃ cell : Cell, H[b]? = some cell ∧ cell.vm.isStatics = false ∧ σ.2.2.2.2.1.vm.findClass q.1 = some cell.cls := va_recv (q0 := 0) hK.1 (h1.P1 hb) hc rfl
/-- contracts of methods that may throw: a call that throws leaves the world as it was -/
def XcO (ω : Om) (PX : String → Prop) (M : MM) : String → State → State → Prop := fun E st t => PX E ∧ hm ω M t.heap ∧ va_F (zA ω) st t
def CtX (l : Launch) (ω : Om) (y : MethodName) (ws : List Cond) (rm : Room) (av : List Value) (M : MM) (PQ : Option Value → MM → Prop) (PX : String → Prop) (mc ms : Nat) : Prop := vx_Met l y ws rm (PcO ω av M) (QcO ω PQ) (XcO ω PX M) mc ms (zA ω)
def BX (ω : Om) (σ : Sg) (PQ : Option Value → MM → Prop) (PX : String → Prop) (M : MM) (mc ms : Nat) : State → Prop := vx_MQ σ.2.2.2.2.2.2.2.1 (QcO ω PQ) (XcO ω PX M) σ.2.2.2.2.2.2.1 σ.2.2.2.2.1 mc ms (zA ω)
theorem CtX.ofV {l : Launch} {ω : Om} {y : MethodName} {ws ws' : List Cond} {rm : Room} {av : List Value} {M : MM} {PQ : Option Value → MM → Prop} {PX : String → Prop} {mc ms : Nat} {cc : ByteArray} {maxL : Nat} {ret : Option FieldType} (L : List (Option Value))
    (hy : plainName y.cls = true) (hw : ws = Cond.code y cc maxL ret :: ws') (hsl : (lg_sl av).length ≤ maxL) (hL : L.length = maxL) (hav : ∀ (i : Nat) (v : Value), L[i]? = some (some v) → (i, v) ∈ lv_args 0 av)
    (body : ∀ σ : Sg, Fx ω σ cc maxL ws y.cls rm → σ.2.1 = l → σ.2.2.2.2.2.2.2.2.1.sig.returnType = ret → (∀ x ∈ σ.2.2.2.2.2.2.2.2.2.exceptionTable.toList, False) → V ω σ M L 0 0 (BX ω σ PQ PX M mc ms) 0 []) : CtX l ω y ws rm av M PQ PX mc ms := by
  refine vx_ofW (cc := cc) (maxL := maxL) (ret := ret) hy hw ?_
  intro p e s m args below meth c s₁ B hml hnx hv
  obtain ⟨rfl, hM, hK⟩ := hv
  have hl := lv_entry av (n := maxL) hsl
  rw [lg_entry_eq]
  generalize (lg_sl av ++ List.replicate (maxL - (lg_sl av).length) Slot.unset).toArray = ls at hl ⊢
  exact body (p, l, e, rm, s, m, av.toArray, below, meth, c) ⟨B.exec, B.bytes, hml, findClass_of_methodNamed B.named, atoms_spec (ws := ws) B.pre, hK, B.notSynchronized, rfl, hM.1⟩ rfl B.returns hnx
    s.heap [] ls hM va_S.rf (Lc.of (by rw [hL]; exact hl) hav)
/-- what never throws is a contract without throws -/
theorem CtX.noX {l : Launch} {ω : Om} {y : MethodName} {ws : List Cond} {rm : Room} {av : List Value} {M : MM} {PQ : Option Value → MM → Prop} {PX : String → Prop} {mc ms : Nat} (h : CtX l ω y ws rm av M PQ PX mc ms) (hx : ∀ E, ¬ PX E) : Ct l ω y ws rm av M PQ mc ms := by
  intro p e ha hc hk s m args below hf happ hP hK
  obtain ⟨n, o, h1, h2, h3, h4⟩ := h p e ha hc hk s m args below hf happ hP hK
  rcases h4 with h4 | ⟨q, -, E, ce, L, hX, -⟩
  · exact ⟨n, o, h1, h2, h3, h4⟩
  · exact absurd hX.1 (hx E)
theorem runX_go {p : Program} {l : Launch} {e : Env} {R : Room} {s : State} {m : MethodId} {args : Array Value} {below : List Frame} {meth : Method} {c : Code} {H : Heap} {locs : List Loc} {kc ks mc ms mc0 ms0 : Nat} {pc : Nat} {ls : Array Slot} {st0 st : List Value} {ω : Om} {PQ PQ0 : Option Value → MM → Prop} {PX PX0 : String → Prop} {M : MM} {a : Array Value}
    (hnx : ∀ x ∈ c.exceptionTable.toList, False) (hlk : meth.locks = false) (hr : vx_Run p l e R s m args below meth c H locs kc ks mc ms (F0 m pc ls st0) st (QcO ω PQ a) (XcO ω PX M) (zA ω)) (h2 : va_S (zA ω) s.heap H locs)
    (kk : ∀ (v : Option Value) (M' : MM) (H1 : Heap) (locs1 : List Loc), PQ v M' → hm ω M' H1 → va_S (zA ω) s.heap H1 locs1 → W p l e R s m args below meth c H1 locs1 (kc + mc) (ks + ms) (vx_MQ below (QcO ω PQ0) (XcO ω PX0 M) args s mc0 ms0 (zA ω)) (F0 m (pc + 3) ls (v.toList ++ st)))
    (hxs : ∀ E, PX E → PX0 E) (hck : kc + mc ≤ mc0) (hsk : ks + ms ≤ ms0) : W p l e R s m args below meth c H locs kc ks (vx_MQ below (QcO ω PQ0) (XcO ω PX0 M) args s mc0 ms0 (zA ω)) (F0 m pc ls st0) := by
  intro T hT X
  have keep : ∀ {st₀ t T' : State} {L : List Loc}, st₀.heap = H → T'.heap = t.heap → (∀ q ∈ L, zA ω q.base) → va_F (zA ω) st₀ t → va_S (zA ω) s.heap T'.heap (locs ++ L) := by
    intro st₀ t T' L h0 e1 hL hF
    obtain ⟨hz, hk⟩ := hF
    rw [h0] at hz hk
    exact ⟨Nat.le_trans h2.1 (by rw [e1]; exact hz), fun q h1 hn => by rw [e1, hk q (Nat.lt_of_lt_of_le h1 h2.1) hn]; exact h2.2.1 q h1 hn, fun q hq => by
      rcases List.mem_append.mp hq with h | h
      · exact h2.2.2 q h
      · exact hL q h⟩
  rcases hr T hT X with ⟨v, st₀, t, T', L, h0, X', hL, e1, e2, ⟨⟨v', M', hv, hp, hb⟩, hF⟩, stp⟩ | ⟨q, st₀, t, T', L, E, ce, h0, X', hL, e1, e2, ⟨hp, hb, hF⟩, hce, hcv, hcl, stp⟩
  · cases hv
    obtain ⟨t2, a1, b1⟩ := kk v M' T'.heap (locs ++ L) hp (by rw [e1]; exact hb) (keep h0 e1 hL hF) T' rfl X'
    exact ⟨t2, stp t2 a1, b1⟩
  · have hS := keep h0 e1 hL hF
    obtain ⟨t2, a1, b1⟩ := vx_out (ls := ls) (rest := st) (pc := pc) (mc := mc0) (ms := ms0) (Qc := QcO ω PQ0) (XC := XcO ω PX0 M) (free := zA ω) (H := T'.heap) (fun x hx => (hnx x hx).elim) hlk (by rw [e1]; exact hce) hcv hcl
      (fun t9 ht9 _ => ⟨hxs E hp, by rw [ht9, e1]; exact hb, hS.F ht9⟩) hS.2.2 hck hsk T' rfl X'
    exact ⟨t2, stp.trans a1, b1⟩
section CALLS
variable {ω : Om} {σ : Sg} {cc : ByteArray} {nL : Nat} {Ts : List Cond} {own : String} {rm : Room} {M : MM} {L : List (Option Value)} {kc ks : Nat} {Q : State → Prop} {pc : Nat} {st stk : List Value}
variable {y : MethodName} {ws' ws'' : List Cond} {rm' : Room} {PQ : Option Value → MM → Prop} {mc ms idx ci b maxL : Nat} {bytes : ByteArray} {ret : Option FieldType} {fs : List Value} {q : vw_C} {PQ0 : Option Value → MM → Prop} {PX PX0 : String → Prop} {mc0 ms0 : Nat}
/-- what a call asks of the two rooms and of the stack below -/
def RmOk (rm' rm : Room) (maxL mc ms kc ks : Nat) (st : List Value) : Prop := (rm'.cells = mc ∧ rm'.slots = ms) ∧ (rm'.frames + 1 ≤ rm.frames ∧ 8 + (maxL + 11) + rm'.locals ≤ rm.locals) ∧ (kc + mc ≤ rm.cells ∧ ks + ms ≤ rm.slots) ∧ (st.map fun v => v.category).sum ≤ 8
theorem v_callV (F : Fx ω σ cc nL Ts own rm) (n : Nat) (As : List Value) (hst : stk = As.reverse ++ .ref b :: st) (hn : As.length = n) (hLn : L.length = nL) (hM : Ct σ.2.1 ω y ws' rm' (.ref b :: As) M PQ mc ms) (hG : GoodIn Ts (wsV own idx q.1 y ws')) (hw : ws' = Cond.code y bytes maxL ret :: ws'')
    (hd : y.cls = q.1 ∧ y.cls ≠ "java/lang/invoke/MethodHandle" ∧ y.cls ≠ "java/lang/invoke/VarHandle" ∧ (parseMethodDescriptor y.desc).map (fun d => d.parameters.length) = some n) (hR : RmOk rm' rm maxL mc ms kc ks st) (hb : M b = some (.inr (ci, fs))) (hc : vwCl[ci]? = some q) (d : decode cc pc = .ok (.invokevirtual idx, 3)) 
    (k : ∀ (v : Option Value) (M' : MM), PQ v M' → V ω σ M' L (kc + mc) (ks + ms) Q (pc + 3) (v.toList ++ st)) : V ω σ M L kc ks Q pc stk := by
  subst hst
  obtain ⟨p, l, e, R, s, m, args, below, meth, c⟩ := σ
  intro H locs ls h1 h2 h3
  obtain ⟨hx, hb9, hml, hown, hts, hK, hlk, hRr, hz⟩ := F
  cases hRr
  exact run_go (va_runV (nL := nL) (y := y) (ws := ws') (rm := rm') (n := n) (As := As) (rest := st) ⟨hx, hb9, hml, hown, hts⟩ hM (cwV n hts hG hw hR.1.1 hR.1.2 hd hR.2.1) ⟨PcO.blind, hm.recv (σ := (p, l, e, R, s, m, args, below, meth, c)) hK h1 hb hc, PcO.at (σ := (p, l, e, R, s, m, args, below, meth, c)) hK h1 h2⟩ rfl hn (h3.1.trans hLn) rfl (lv_room (m := m) (pc := 0) (ls := #[]) (rest := []) hR.2.2.2) d hR.2.2.1) h2 (fun v M' H1 locs1 hp hm1 hs1 => k v M' hp H1 locs1 ls hm1 hs1 h3)
theorem v_callS (F : Fx ω σ cc nL Ts own rm) (n : Nat) (As : List Value) (hst : stk = As.reverse ++ st) (hn : As.length = n) (hLn : L.length = nL) (hM : Ct σ.2.1 ω y ws' rm' As M PQ mc ms) (hG : GoodIn Ts (va_wsS own idx y ws')) (hw : ws' = Cond.code y bytes maxL ret :: ws'')
    (hd : y.cls ≠ "java/lang/invoke/MethodHandle" ∧ y.cls ≠ "java/lang/invoke/VarHandle" ∧ (parseMethodDescriptor y.desc).map (fun d => d.parameters.length) = some n) (hR : RmOk rm' rm maxL mc ms kc ks st) (d : decode cc pc = .ok (.invokestatic idx, 3)) 
    (k : ∀ (v : Option Value) (M' : MM), PQ v M' → V ω σ M' L (kc + mc) (ks + ms) Q (pc + 3) (v.toList ++ st)) : V ω σ M L kc ks Q pc stk := by
  subst hst
  obtain ⟨p, l, e, R, s, m, args, below, meth, c⟩ := σ
  intro H locs ls h1 h2 h3
  obtain ⟨hx, hb9, hml, hown, hts, hK, hlk, hRr, hz⟩ := F
  cases hRr
  exact run_go (va_runS (nL := nL) (y := y) (ws := ws') (rm := rm') (n := n) (As := As) (rest := st) ⟨hx, hb9, hml, hown, hts⟩ hM (va_cwS n hts hG hw hR.1.1 hR.1.2 hd hR.2.1) ⟨PcO.blind, PcO.at (σ := (p, l, e, R, s, m, args, below, meth, c)) hK h1 h2⟩ rfl hn (h3.1.trans hLn) rfl (lv_room (m := m) (pc := 0) (ls := #[]) (rest := []) hR.2.2.2) d hR.2.2.1) h2 (fun v M' H1 locs1 hp hm1 hs1 => k v M' hp H1 locs1 ls hm1 hs1 h3)
theorem v_callI (F : Fx ω σ cc nL Ts own rm) (n : Nat) (As : List Value) (hst : stk = As.reverse ++ .ref b :: st) (hn : As.length = n) (hLn : L.length = nL) (hM : Ct σ.2.1 ω y ws' rm' (.ref b :: As) M PQ mc ms) (hG : GoodIn Ts ws') (hw : ws' = Cond.code y bytes maxL none :: ws'')
    (hd : y.cls ≠ "java/lang/invoke/MethodHandle" ∧ y.cls ≠ "java/lang/invoke/VarHandle" ∧ (parseMethodDescriptor y.desc).map (fun d => d.parameters.length) = some n) (hR : RmOk rm' rm maxL mc ms kc ks st) (hini : Cond.initialized y.cls ∈ Ts) (hin : Cond.instanceMethod y ∈ Ts) (hy1 : y.name = "<init>") (hl : Cond.methodLink own idx y ∈ Ts) (d : decode cc pc = .ok (.invokespecial idx, 3)) 
    (k : ∀ (v : Option Value) (M' : MM), PQ v M' → V ω σ M' L (kc + mc) (ks + ms) Q (pc + 3) (v.toList ++ st)) : V ω σ M L kc ks Q pc stk := by
  subst hst
  obtain ⟨p, l, e, R, s, m, args, below, meth, c⟩ := σ
  intro H locs ls h1 h2 h3
  obtain ⟨hx, hb9, hml, hown, hts, hK, hlk, hRr, hz⟩ := F
  cases hRr
  exact run_go (va_runI (nL := nL) (y := y) (ws := ws') (rm := rm') (n := n) (As := As) (rest := st) ⟨hx, hb9, hml, hown, hts⟩ hM (cwI n hts hG hw hR.1.1 hR.1.2 (hts _ hini) (hts _ hl) (hts _ hin) hy1 hd hR.2.1) ⟨PcO.blind, PcO.at (σ := (p, l, e, R, s, m, args, below, meth, c)) hK h1 h2⟩ rfl hn (h3.1.trans hLn) rfl (lv_room (m := m) (pc := 0) (ls := #[]) (rest := []) hR.2.2.2) d hR.2.2.1) h2 (fun v M' H1 locs1 hp hm1 hs1 => k v M' hp H1 locs1 ls hm1 hs1 h3)
theorem v_callIN (F : Fx ω σ cc nL Ts own rm) (n : Nat) (As : List Value) (hst : stk = As.reverse ++ .ref b :: st) (hn : As.length = n) (hLn : L.length = nL) (hM : Ct σ.2.1 ω y ws' rm' (.ref b :: As) M PQ mc ms) (hG : GoodIn Ts ws') (hw : ws' = Cond.code y bytes maxL none :: ws'')
    (hd : y.cls ≠ "java/lang/invoke/MethodHandle" ∧ y.cls ≠ "java/lang/invoke/VarHandle" ∧ (parseMethodDescriptor y.desc).map (fun d => d.parameters.length) = some n) (hR : RmOk rm' rm maxL mc ms kc ks st) (hini : Cond.initialized y.cls ∈ Ts) (hin : Cond.instanceMethod y ∈ Ts) (hy1 : y.name = "<init>") {host : String} (hl : Cond.methodLinkNest own idx y host ∈ Ts) (d : decode cc pc = .ok (.invokespecial idx, 3)) 
    (k : ∀ (v : Option Value) (M' : MM), PQ v M' → V ω σ M' L (kc + mc) (ks + ms) Q (pc + 3) (v.toList ++ st)) : V ω σ M L kc ks Q pc stk := by
  subst hst
  obtain ⟨p, l, e, R, s, m, args, below, meth, c⟩ := σ
  intro H locs ls h1 h2 h3
  obtain ⟨hx, hb9, hml, hown, hts, hK, hlk, hRr, hz⟩ := F
  cases hRr
  exact run_go (va_runIN (nL := nL) (y := y) (ws := ws') (rm := rm') (n := n) (As := As) (rest := st) ⟨hx, hb9, hml, hown, hts⟩ hM ⟨va_cnB n hts hG hw hR.1.1 hR.1.2 (va_Nw.of rfl (hts _ hl)) (hts _ hini) hd hR.2.1, hy1, hts _ hin⟩ ⟨PcO.blind, PcO.at (σ := (p, l, e, R, s, m, args, below, meth, c)) hK h1 h2⟩ rfl hn (h3.1.trans hLn) rfl (lv_room (m := m) (pc := 0) (ls := #[]) (rest := []) hR.2.2.2) d hR.2.2.1) h2 (fun v M' H1 locs1 hp hm1 hs1 => k v M' hp H1 locs1 ls hm1 hs1 h3)
theorem v_callVX (F : Fx ω σ cc nL Ts own rm) (n : Nat) (As : List Value) (hst : stk = As.reverse ++ .ref b :: st) (hn : As.length = n) (hLn : L.length = nL) (hM : CtX σ.2.1 ω y ws' rm' (.ref b :: As) M PQ PX mc ms) (hG : GoodIn Ts (wsV own idx q.1 y ws')) (hw : ws' = Cond.code y bytes maxL ret :: ws'')
    (hd : y.cls = q.1 ∧ y.cls ≠ "java/lang/invoke/MethodHandle" ∧ y.cls ≠ "java/lang/invoke/VarHandle" ∧ (parseMethodDescriptor y.desc).map (fun d => d.parameters.length) = some n) (hR : RmOk rm' rm maxL mc ms kc ks st) (hb : M b = some (.inr (ci, fs))) (hc : vwCl[ci]? = some q) (d : decode cc pc = .ok (.invokevirtual idx, 3)) (hxs : ∀ E, PX E → PX0 E) (hnx : ∀ x ∈ σ.2.2.2.2.2.2.2.2.2.exceptionTable.toList, False) (hck : kc + mc ≤ mc0) (hsk : ks + ms ≤ ms0) 
    (k : ∀ (v : Option Value) (M' : MM), PQ v M' → V ω σ M' L (kc + mc) (ks + ms) (BX ω σ PQ0 PX0 M mc0 ms0) (pc + 3) (v.toList ++ st)) : V ω σ M L kc ks (BX ω σ PQ0 PX0 M mc0 ms0) pc stk := by
  subst hst
  obtain ⟨p, l, e, R, s, m, args, below, meth, c⟩ := σ
  intro H locs ls h1 h2 h3
  obtain ⟨hx, hb9, hml, hown, hts, hK, hlk, hRr, hz⟩ := F
  cases hRr
  exact runX_go hnx hlk (vx_runV (nL := nL) (y := y) (ws := ws') (rm := rm') (n := n) (As := As) (rest := st) ⟨hx, hb9, hml, hown, hts⟩ hM (cwV n hts hG hw hR.1.1 hR.1.2 hd hR.2.1) ⟨PcO.blind, hm.recv (σ := (p, l, e, R, s, m, args, below, meth, c)) hK h1 hb hc, PcO.at (σ := (p, l, e, R, s, m, args, below, meth, c)) hK h1 h2⟩ rfl hn (h3.1.trans hLn) rfl (lv_room (m := m) (pc := 0) (ls := #[]) (rest := []) hR.2.2.2) d hR.2.2.1) h2 (fun v M' H1 locs1 hp hm1 hs1 => k v M' hp H1 locs1 ls hm1 hs1 h3) hxs hck hsk
theorem v_callSX (F : Fx ω σ cc nL Ts own rm) (n : Nat) (As : List Value) (hst : stk = As.reverse ++ st) (hn : As.length = n) (hLn : L.length = nL) (hM : CtX σ.2.1 ω y ws' rm' As M PQ PX mc ms) (hG : GoodIn Ts (va_wsS own idx y ws')) (hw : ws' = Cond.code y bytes maxL ret :: ws'')
    (hd : y.cls ≠ "java/lang/invoke/MethodHandle" ∧ y.cls ≠ "java/lang/invoke/VarHandle" ∧ (parseMethodDescriptor y.desc).map (fun d => d.parameters.length) = some n) (hR : RmOk rm' rm maxL mc ms kc ks st) (d : decode cc pc = .ok (.invokestatic idx, 3)) (hxs : ∀ E, PX E → PX0 E) (hnx : ∀ x ∈ σ.2.2.2.2.2.2.2.2.2.exceptionTable.toList, False) (hck : kc + mc ≤ mc0) (hsk : ks + ms ≤ ms0) 
    (k : ∀ (v : Option Value) (M' : MM), PQ v M' → V ω σ M' L (kc + mc) (ks + ms) (BX ω σ PQ0 PX0 M mc0 ms0) (pc + 3) (v.toList ++ st)) : V ω σ M L kc ks (BX ω σ PQ0 PX0 M mc0 ms0) pc stk := by
  subst hst
  obtain ⟨p, l, e, R, s, m, args, below, meth, c⟩ := σ
  intro H locs ls h1 h2 h3
  obtain ⟨hx, hb9, hml, hown, hts, hK, hlk, hRr, hz⟩ := F
  cases hRr
  exact runX_go hnx hlk (vx_runS (nL := nL) (y := y) (ws := ws') (rm := rm') (n := n) (As := As) (rest := st) ⟨hx, hb9, hml, hown, hts⟩ hM (va_cwS n hts hG hw hR.1.1 hR.1.2 hd hR.2.1) ⟨PcO.blind, PcO.at (σ := (p, l, e, R, s, m, args, below, meth, c)) hK h1 h2⟩ rfl hn (h3.1.trans hLn) rfl (lv_room (m := m) (pc := 0) (ls := #[]) (rest := []) hR.2.2.2) d hR.2.2.1) h2 (fun v M' H1 locs1 hp hm1 hs1 => k v M' hp H1 locs1 ls hm1 hs1 h3) hxs hck hsk
theorem v_iret (F : Fx ω σ cc nL Ts own rm) {x : Int32} (hr : σ.2.2.2.2.2.2.2.2.1.sig.returnType = some .int) (d : decode cc pc = .ok (.ireturn, 1)) (hk : kc ≤ mc) (hs : ks ≤ ms) (hp : PQ (some (.int x)) M) : V ω σ M L kc ks (BQ ω σ PQ mc ms) pc [.int x] :=
  fun H locs ls h1 h2 h3 => W.widen hk hs (W.iret F.1 F.2.1 hr (fun t ht _ => ⟨⟨_, M, rfl, hp, by rw [ht]; exact h1⟩, h2.F ht⟩) h2.2.2 d F.2.2.2.2.2.2.1)
theorem v_zret (F : Fx ω σ cc nL Ts own rm) {x : Int32} (hr : σ.2.2.2.2.2.2.2.2.1.sig.returnType = some .boolean) (d : decode cc pc = .ok (.ireturn, 1)) (hx : narrow .boolean (.int x) = .int x) (hk : kc ≤ mc) (hs : ks ≤ ms) (hp : PQ (some (.int x)) M) : V ω σ M L kc ks (BQ ω σ PQ mc ms) pc [.int x] :=
  fun H locs ls h1 h2 h3 => W.widen hk hs (W.zret F.1 F.2.1 hr hx (fun t ht _ => ⟨⟨_, M, rfl, hp, by rw [ht]; exact h1⟩, h2.F ht⟩) h2.2.2 d F.2.2.2.2.2.2.1)
theorem v_aret (F : Fx ω σ cc nL Ts own rm) {v : Value} {C : String} (hr : σ.2.2.2.2.2.2.2.2.1.sig.returnType = some (.object C)) (d : decode cc pc = .ok (.areturn, 1)) (hv : isRV v = true) (hk : kc ≤ mc) (hs : ks ≤ ms) (hp : PQ (some v) M) : V ω σ M L kc ks (BQ ω σ PQ mc ms) pc [v] :=
  fun H locs ls h1 h2 h3 => W.widen hk hs (W.aret F.1 F.2.1 hr (Or.inl ⟨_, rfl⟩) (by cases v <;> first | exact Or.inl rfl | exact Or.inr ⟨_, rfl⟩ | exact Bool.noConfusion hv) (fun t ht _ => ⟨⟨_, M, rfl, hp, by rw [ht]; exact h1⟩, h2.F ht⟩) h2.2.2 d F.2.2.2.2.2.2.1)
theorem v_vret (F : Fx ω σ cc nL Ts own rm) (hr : σ.2.2.2.2.2.2.2.2.1.sig.returnType = none) (d : decode cc pc = .ok (.return_, 1)) (hk : kc ≤ mc) (hs : ks ≤ ms) (hp : PQ none M) : V ω σ M L kc ks (BQ ω σ PQ mc ms) pc [] :=
  fun H locs ls h1 h2 h3 => W.widen hk hs (W.vret F.1 F.2.1 hr (fun t ht _ => ⟨⟨_, M, rfl, hp, by rw [ht]; exact h1⟩, h2.F ht⟩) h2.2.2 d F.2.2.2.2.2.2.1)
/-- the end of a body that may throw, where it doesn't -/
theorem v_x {M0 : MM} (k : V ω σ M L kc ks (BQ ω σ PQ mc ms) pc st) : V ω σ M L kc ks (BX ω σ PQ PX M0 mc ms) pc st :=
  fun H locs ls h1 h2 h3 => vx_ret (k H locs ls h1 h2 h3)
def nmE : List String := ["java/lang/RuntimeException", "java/lang/Exception"]
/-- 'throw new E("text")' -/
theorem v_throw (F : Fx ω σ cc nL Ts RX4 rm) {cls text : String} {ik is ic : Nat} (hl : σ.2.1.stackTraces = false) (hLn : L.length = nL) (hnx : ∀ x ∈ σ.2.2.2.2.2.2.2.2.2.exceptionTable.toList, False) (hq : (is, text) ∈ strs0) (hcls : Bundle.fit cls = true) (hk : Cond.classLink RX4 ik cls ∈ Ts) (hini : Cond.initialized cls ∈ Ts) (hat : ∀ w ∈ (vx_atS RX4 ic cls nmE).filter goodWord, w ∈ Ts) (hnw : ∀ w ∈ vx_atS RX4 ic cls nmE, goodWord w = true ∨ w ∈ nwL)
    (hgood : ∀ w ∈ Cond.classLink RX4 ik cls :: Cond.initialized cls :: vx_atS RX4 ic cls nmE, vx_ot w = true)
    (d0 : decode cc pc = .ok (.new ik, 3)) (d3 : decode cc (pc + 3) = .ok (.dup, 1)) (d4 : decode cc (pc + 4) = .ok (.ldc is, 2)) (d6 : decode cc (pc + 6) = .ok (.invokespecial ic, 3)) (d9 : decode cc (pc + 9) = .ok (.athrow, 1))
    (hR : 5 < rm.frames ∧ (st.map fun v => v.category).sum + 82 ≤ rm.locals ∧ kc + 1 ≤ rm.cells ∧ ks + 6 ≤ rm.slots) (hc : kc + 1 ≤ mc) (hs : ks + 6 ≤ ms) (hp : PX cls) : V ω σ M L kc ks (BX ω σ PQ PX M mc ms) pc st := by
  obtain ⟨p, l, e, R, s, m, args, below, meth, c⟩ := σ
  intro H locs ls h1 h2 h3
  obtain ⟨hx, hb9, hml, hown, hts, ⟨hK, hU, hN, hst, hw3⟩, hlk, hRr, hz⟩ := F
  cases hRr
  obtain ⟨sa, hsa⟩ := hst _ hq
  refine vx_throwS hx hb9 hl hown hcls (by decide +kernel) (hts _ hk) (hts _ hini) hsa (names := nmE) (ic := ic) (fun w hw => ?_) hgood hU hN h2 (h3.1.trans (hLn.trans hml.symm)) d0 d3 d4 d6 d9 (fun x hx => (hnx x hx).elim) hR.1 hR.2.1 hR.2.2.1 hR.2.2.2 hlk (fun t _ hzt hkt => ?_) h2.2.2 hc hs
  · rcases hnw w hw with h | h
    · exact hts _ (hat w (List.mem_filter.mpr ⟨hw, h⟩))
    · exact va_Nw.use (nwL_on w h) (hw3 w h)
  · refine ⟨hp, ⟨Nat.le_trans h1.1 hzt, fun a e9 ha => ⟨(h1.2 a e9 ha).1, (h1.2 a e9 ha).2.kept (hkt a (h1.lt ha))⟩⟩, Nat.le_trans h2.1 hzt, fun q hq1 hq2 => ?_⟩
    rw [hkt q (Nat.lt_of_lt_of_le hq1 h2.1)]
    exact h2.2.1 q hq1 hq2
theorem v_objInit (F : Fx ω σ cc nL Ts own rm) {a : Nat} (hLn : L.length = nL) (hl : Cond.methodLink own idx Lib.objectInit ∈ Ts) (hi : Cond.instanceMethod Lib.objectInit ∈ Ts) (hcd : Cond.code Lib.objectInit ⟨#[0xb1]⟩ 1 none ∈ Ts) (d : decode cc pc = .ok (.invokespecial idx, 3)) (hR : 1 ≤ rm.frames ∧ (st.map fun v => v.category).sum + 12 ≤ rm.locals)
    (k : V ω σ M L kc ks Q (pc + 3) st) : V ω σ M L kc ks Q pc (.ref a :: st) := by
  obtain ⟨p, l, e, R, s, m, args, below, meth, c⟩ := σ
  intro H locs ls h1 h2 h3
  obtain ⟨hx, hb9, hml, hown, hts, hK, hlk, hRr, hz⟩ := F
  cases hRr
  exact W.objInit hx hb9 hown (hts _ hl) (hts _ hi) (hts _ hcd) rfl (h3.1.trans (hLn.trans hml.symm)) rfl d hR.1 (by show 2 * 0 + _ + 12 ≤ _; omega) (k H locs ls h1 h2 h3)
/-- a new object: its fields by the types of their declarations -/
theorem v_new (F : Fx ω σ cc nL Ts own rm) (ci : Nat) {C : String} {T : u_T} {N : Nat} (ty : Nat → FieldType) (fs : List Value) (hc : vwCl[ci]? = some (C, T, N)) (hin : ∀ w ∈ u_ws C T N, w ∈ Ts) (hty : ∀ k, k < N → parseFieldDescriptor (T k).2.2.1 = some (ty k)) (hcl : Cond.classLink own idx C ∈ Ts) (hinst : Cond.instantiable C N ∈ Ts) (hini : Cond.initialized C ∈ Ts) (hfs : ∀ j, j < N → defaultValue (ty j) = vp_V fs j) (d : decode cc pc = .ok (.new idx, 3)) (hR : kc + 1 ≤ rm.cells ∧ ks + N ≤ rm.slots)
    (k : ∀ a : Nat, M a = none → V ω σ (mup M a (.inr (ci, fs))) L (kc + 1) (ks + N) Q (pc + 3) (.ref a :: st)) : V ω σ M L kc ks Q pc st := by
  obtain ⟨p, l, e, R, s, m, args, below, meth, c⟩ := σ
  intro H locs ls h1 h2 h3
  obtain ⟨hx, hb9, hml, hown, hts, hK, hlk, hRr, hz⟩ := F
  cases hRr
  have hKn := hK.1.1 ci _ hc
  refine W.newcK hx hb9 hown (hts _ hcl) (hts _ hinst) (hts _ hini) rfl d hR.1 hR.2 hKn.2.1 rfl fun H1 kC hkC e1 z1 o1 => ?_
  obtain ⟨g1, g2⟩ := h1.new (e' := .inr (ci, fs)) ⟨_, hc, (u_born ty hts hin hKn hkC e1 hty).to hfs⟩ (by omega) o1
  exact k H.size g2 H1 locs ls g1 ⟨Nat.le_trans h2.1 (by omega), fun x hx1 hx2 => (o1 x (Nat.lt_of_lt_of_le hx1 h2.1)).trans (h2.2.1 x hx1 hx2), h2.2.2⟩ h3
end CALLS
end
section
/-! the rows over numbers that are known to be small and not negative -/
def bI (b : Bool) : Int32 := if b then 1 else 0
theorem bI_t : bI true = 1 := rfl
theorem bI_f : bI false = 0 := rfl
theorem bI_0 {b : Bool} : bI b = 0 ↔ b = false := by cases b <;> decide
theorem bI_n {b : Bool} : narrow .boolean (.int (bI b)) = .int (bI b) := by cases b <;> rfl
theorem bI_fit {b : Bool} : fits .boolean (.int (bI b)) = true := by cases b <;> rfl
def nd (s f : Nat) : Nat := s ^^^ (s &&& f)
theorem nd_tb (s f i : Nat) : (nd s f).testBit i = (s.testBit i && !f.testBit i) := by
  unfold nd
  rw [Nat.testBit_xor, Nat.testBit_and]
  cases s.testBit i <;> cases f.testBit i <;> rfl
theorem nI_bv (n : Nat) : (nI n).toBitVec = BitVec.ofNat 32 n := rfl
theorem nI_or (a b : Nat) : nI a ||| nI b = nI (a ||| b) := by
  apply Int32.toBitVec_inj.mp
  apply BitVec.eq_of_getLsbD_eq
  intro i hi
  simp [nI_bv, Nat.testBit_or]
theorem nI_and (a b : Nat) : nI a &&& nI b = nI (a &&& b) := by
  apply Int32.toBitVec_inj.mp
  apply BitVec.eq_of_getLsbD_eq
  intro i hi
  simp [nI_bv, Nat.testBit_and]
theorem nI_nd (s f : Nat) : nI s &&& (nI f ^^^ (-1)) = nI (nd s f) := by
  apply Int32.toBitVec_inj.mp
  apply BitVec.eq_of_getLsbD_eq
  intro i hi
  have h1 : ((-1 : Int32)).toBitVec = BitVec.allOnes 32 := by decide
  have e : ∀ n : Nat, (BitVec.ofNat 32 n)[i] = n.testBit i := fun n => by simp [← BitVec.getLsbD_eq_getElem, BitVec.getLsbD_ofNat, hi]
  simp [nI_bv, h1, hi]
  rw [e, e, e, nd_tb]
theorem nI_shl1 : ∀ j, j < 31 → (nI 1 <<< (nI j &&& 31)) = nI (2 ^ j) := by decide +kernel
theorem nI_s31 : ∀ j, j < 31 → ((nI j &&& 31).toBitVec.smod 32).toNat = j := by decide +kernel
theorem nI_shr {s j : Nat} (hs : s < 2 ^ 31) (hj : j < 31) : (nI s >>> (nI j &&& 31)) = nI (s / 2 ^ j) := pk_shrN hs _ j (nI_s31 j hj)
theorem tb_div (s j : Nat) : ((s / 2 ^ j) &&& 1) = if s.testBit j then 1 else 0 := by
  rw [Nat.testBit_eq_decide_div_mod_eq, Nat.and_one_is_mod]
  have h : s / 2 ^ j % 2 < 2 := Nat.mod_lt _ (by decide)
  by_cases h1 : s / 2 ^ j % 2 = 1
  · simp [h1]
  · have h0 : s / 2 ^ j % 2 = 0 := by omega
    simp [h0]
theorem v_iadd_n {ω : Om} {σ : Sg} {cc : ByteArray} {nL : Nat} {Ts : List Cond} {own : String} {rm : Room} {M : MM} {L : List (Option Value)} {kc ks : Nat} {Q : State → Prop} {pc : Nat} {st : List Value} (F : Fx ω σ cc nL Ts own rm) {a b : Nat} (d : decode cc pc = .ok (.iadd, 1)) (k : V ω σ M L kc ks Q (pc + 1) (.int (nI (a + b)) :: st)) : V ω σ M L kc ks Q (pc) (.int (nI b) :: .int (nI a) :: st) := v_iadd F d (by rw [nI_add]; exact k)
theorem v_isub_n {ω : Om} {σ : Sg} {cc : ByteArray} {nL : Nat} {Ts : List Cond} {own : String} {rm : Room} {M : MM} {L : List (Option Value)} {kc ks : Nat} {Q : State → Prop} {pc : Nat} {st : List Value} (F : Fx ω σ cc nL Ts own rm) {a b : Nat} (d : decode cc pc = .ok (.isub, 1)) (h : b ≤ a) (k : V ω σ M L kc ks Q (pc + 1) (.int (nI (a - b)) :: st)) : V ω σ M L kc ks Q (pc) (.int (nI b) :: .int (nI a) :: st) := v_isub F d (by rw [pk_sub h]; exact k)
theorem v_ior_n {ω : Om} {σ : Sg} {cc : ByteArray} {nL : Nat} {Ts : List Cond} {own : String} {rm : Room} {M : MM} {L : List (Option Value)} {kc ks : Nat} {Q : State → Prop} {pc : Nat} {st : List Value} (F : Fx ω σ cc nL Ts own rm) {a b : Nat} (d : decode cc pc = .ok (.ior, 1)) (k : V ω σ M L kc ks Q (pc + 1) (.int (nI (a ||| b)) :: st)) : V ω σ M L kc ks Q (pc) (.int (nI b) :: .int (nI a) :: st) := v_ior F d (by rw [nI_or]; exact k)
theorem v_iand_n {ω : Om} {σ : Sg} {cc : ByteArray} {nL : Nat} {Ts : List Cond} {own : String} {rm : Room} {M : MM} {L : List (Option Value)} {kc ks : Nat} {Q : State → Prop} {pc : Nat} {st : List Value} (F : Fx ω σ cc nL Ts own rm) {a b : Nat} (d : decode cc pc = .ok (.iand, 1)) (k : V ω σ M L kc ks Q (pc + 1) (.int (nI (a &&& b)) :: st)) : V ω σ M L kc ks Q (pc) (.int (nI b) :: .int (nI a) :: st) := v_iand F d (by rw [nI_and]; exact k)
theorem v_iand_nd {ω : Om} {σ : Sg} {cc : ByteArray} {nL : Nat} {Ts : List Cond} {own : String} {rm : Room} {M : MM} {L : List (Option Value)} {kc ks : Nat} {Q : State → Prop} {pc : Nat} {st : List Value} (F : Fx ω σ cc nL Ts own rm) {a b : Nat} (d : decode cc pc = .ok (.iand, 1)) (k : V ω σ M L kc ks Q (pc + 1) (.int (nI (nd a b)) :: st)) : V ω σ M L kc ks Q (pc) (.int (nI b ^^^ (-1)) :: .int (nI a) :: st) := v_iand F d (by rw [nI_nd]; exact k)
theorem v_ishl_n {ω : Om} {σ : Sg} {cc : ByteArray} {nL : Nat} {Ts : List Cond} {own : String} {rm : Room} {M : MM} {L : List (Option Value)} {kc ks : Nat} {Q : State → Prop} {pc : Nat} {st : List Value} (F : Fx ω σ cc nL Ts own rm) {b : Nat} (d : decode cc pc = .ok (.ishl, 1)) (hb : b < 31) (k : V ω σ M L kc ks Q (pc + 1) (.int (nI (2 ^ b)) :: st)) : V ω σ M L kc ks Q (pc) (.int (nI b) :: .int (nI 1) :: st) := v_ishl F d (by rw [nI_shl1 b hb]; exact k)
theorem v_ishr_n {ω : Om} {σ : Sg} {cc : ByteArray} {nL : Nat} {Ts : List Cond} {own : String} {rm : Room} {M : MM} {L : List (Option Value)} {kc ks : Nat} {Q : State → Prop} {pc : Nat} {st : List Value} (F : Fx ω σ cc nL Ts own rm) {a b : Nat} (d : decode cc pc = .ok (.ishr, 1)) (ha : a < 2 ^ 31) (hb : b < 31) (k : V ω σ M L kc ks Q (pc + 1) (.int (nI (a / 2 ^ b)) :: st)) : V ω σ M L kc ks Q (pc) (.int (nI b) :: .int (nI a) :: st) := v_ishr F d (by rw [nI_shr ha hb]; exact k)
theorem v_idiv_n {ω : Om} {σ : Sg} {cc : ByteArray} {nL : Nat} {Ts : List Cond} {own : String} {rm : Room} {M : MM} {L : List (Option Value)} {kc ks : Nat} {Q : State → Prop} {pc : Nat} {st : List Value} (F : Fx ω σ cc nL Ts own rm) {a b : Nat} (d : decode cc pc = .ok (.idiv, 1)) (ha : a < 2 ^ 31) (h0 : 0 < b) (hb : b < 2 ^ 31) (k : V ω σ M L kc ks Q (pc + 1) (.int (nI (a / b)) :: st)) : V ω σ M L kc ks Q (pc) (.int (nI b) :: .int (nI a) :: st) := v_idiv F d (nI_ne0 h0 hb) (by rw [pk_div ha h0 hb]; exact k)
theorem v_icmp_eq_n {ω : Om} {σ : Sg} {cc : ByteArray} {nL : Nat} {Ts : List Cond} {own : String} {rm : Room} {M : MM} {L : List (Option Value)} {kc ks : Nat} {Q : State → Prop} {pc : Nat} {st : List Value} (F : Fx ω σ cc nL Ts own rm) {a b : Nat} {off : Int} (tgt : Nat) (d : decode cc pc = .ok (.if_icmp .eq off, 3)) (ht : (pc : Int) + off = (tgt : Int)) (ha : a < 2 ^ 31) (hb : b < 2 ^ 31) (kt : a = b → V ω σ M L kc ks Q (tgt) (st)) (kf : ¬ a = b → V ω σ M L kc ks Q (pc + 3) (st)) : V ω σ M L kc ks Q (pc) (.int (nI b) :: .int (nI a) :: st) := v_icmp_eq F tgt d ht (fun q => kt ((nI_eq ha hb).mp q)) (fun q => kf (fun q2 => q ((nI_eq ha hb).mpr q2)))
theorem v_icmp_ne_n {ω : Om} {σ : Sg} {cc : ByteArray} {nL : Nat} {Ts : List Cond} {own : String} {rm : Room} {M : MM} {L : List (Option Value)} {kc ks : Nat} {Q : State → Prop} {pc : Nat} {st : List Value} (F : Fx ω σ cc nL Ts own rm) {a b : Nat} {off : Int} (tgt : Nat) (d : decode cc pc = .ok (.if_icmp .ne off, 3)) (ht : (pc : Int) + off = (tgt : Int)) (ha : a < 2 ^ 31) (hb : b < 2 ^ 31) (kt : ¬ a = b → V ω σ M L kc ks Q (tgt) (st)) (kf : a = b → V ω σ M L kc ks Q (pc + 3) (st)) : V ω σ M L kc ks Q (pc) (.int (nI b) :: .int (nI a) :: st) := v_icmp_ne F tgt d ht (fun q => kt (fun q2 => q ((nI_eq ha hb).mpr q2))) (fun q => kf ((nI_eq ha hb).mp q))
theorem v_icmp_lt_n {ω : Om} {σ : Sg} {cc : ByteArray} {nL : Nat} {Ts : List Cond} {own : String} {rm : Room} {M : MM} {L : List (Option Value)} {kc ks : Nat} {Q : State → Prop} {pc : Nat} {st : List Value} (F : Fx ω σ cc nL Ts own rm) {a b : Nat} {off : Int} (tgt : Nat) (d : decode cc pc = .ok (.if_icmp .lt off, 3)) (ht : (pc : Int) + off = (tgt : Int)) (ha : a < 2 ^ 31) (hb : b < 2 ^ 31) (kt : a < b → V ω σ M L kc ks Q (tgt) (st)) (kf : ¬ a < b → V ω σ M L kc ks Q (pc + 3) (st)) : V ω σ M L kc ks Q (pc) (.int (nI b) :: .int (nI a) :: st) := v_icmp_lt F tgt d ht (fun q => kt ((nI_ltI ha hb).mp q)) (fun q => kf (fun q2 => q ((nI_ltI ha hb).mpr q2)))
theorem v_icmp_ge_n {ω : Om} {σ : Sg} {cc : ByteArray} {nL : Nat} {Ts : List Cond} {own : String} {rm : Room} {M : MM} {L : List (Option Value)} {kc ks : Nat} {Q : State → Prop} {pc : Nat} {st : List Value} (F : Fx ω σ cc nL Ts own rm) {a b : Nat} {off : Int} (tgt : Nat) (d : decode cc pc = .ok (.if_icmp .ge off, 3)) (ht : (pc : Int) + off = (tgt : Int)) (ha : a < 2 ^ 31) (hb : b < 2 ^ 31) (kt : b ≤ a → V ω σ M L kc ks Q (tgt) (st)) (kf : ¬ b ≤ a → V ω σ M L kc ks Q (pc + 3) (st)) : V ω σ M L kc ks Q (pc) (.int (nI b) :: .int (nI a) :: st) := v_icmp_ge F tgt d ht (fun q => kt ((nI_leI hb ha).mp q)) (fun q => kf (fun q2 => q ((nI_leI hb ha).mpr q2)))
theorem v_icmp_gt_n {ω : Om} {σ : Sg} {cc : ByteArray} {nL : Nat} {Ts : List Cond} {own : String} {rm : Room} {M : MM} {L : List (Option Value)} {kc ks : Nat} {Q : State → Prop} {pc : Nat} {st : List Value} (F : Fx ω σ cc nL Ts own rm) {a b : Nat} {off : Int} (tgt : Nat) (d : decode cc pc = .ok (.if_icmp .gt off, 3)) (ht : (pc : Int) + off = (tgt : Int)) (ha : a < 2 ^ 31) (hb : b < 2 ^ 31) (kt : b < a → V ω σ M L kc ks Q (tgt) (st)) (kf : ¬ b < a → V ω σ M L kc ks Q (pc + 3) (st)) : V ω σ M L kc ks Q (pc) (.int (nI b) :: .int (nI a) :: st) := v_icmp_gt F tgt d ht (fun q => kt ((nI_ltI hb ha).mp q)) (fun q => kf (fun q2 => q ((nI_ltI hb ha).mpr q2)))
theorem v_icmp_le_n {ω : Om} {σ : Sg} {cc : ByteArray} {nL : Nat} {Ts : List Cond} {own : String} {rm : Room} {M : MM} {L : List (Option Value)} {kc ks : Nat} {Q : State → Prop} {pc : Nat} {st : List Value} (F : Fx ω σ cc nL Ts own rm) {a b : Nat} {off : Int} (tgt : Nat) (d : decode cc pc = .ok (.if_icmp .le off, 3)) (ht : (pc : Int) + off = (tgt : Int)) (ha : a < 2 ^ 31) (hb : b < 2 ^ 31) (kt : a ≤ b → V ω σ M L kc ks Q (tgt) (st)) (kf : ¬ a ≤ b → V ω σ M L kc ks Q (pc + 3) (st)) : V ω σ M L kc ks Q (pc) (.int (nI b) :: .int (nI a) :: st) := v_icmp_le F tgt d ht (fun q => kt ((nI_leI ha hb).mp q)) (fun q => kf (fun q2 => q ((nI_leI ha hb).mpr q2)))
theorem v_if_eq_n {ω : Om} {σ : Sg} {cc : ByteArray} {nL : Nat} {Ts : List Cond} {own : String} {rm : Room} {M : MM} {L : List (Option Value)} {kc ks : Nat} {Q : State → Prop} {pc : Nat} {st : List Value} (F : Fx ω σ cc nL Ts own rm) {a : Nat} {off : Int} (tgt : Nat) (d : decode cc pc = .ok (.ifCond .eq off, 3)) (ht : (pc : Int) + off = (tgt : Int)) (ha : a < 2 ^ 31) (kt : a = 0 → V ω σ M L kc ks Q (tgt) (st)) (kf : ¬ a = 0 → V ω σ M L kc ks Q (pc + 3) (st)) : V ω σ M L kc ks Q (pc) (.int (nI a) :: st) := v_if_eq F tgt d ht (fun q => kt ((nI_eq ha (by decide) (b := 0)).mp q)) (fun q => kf (fun q2 => q (by rw [q2]; rfl)))
theorem v_if_ne_n {ω : Om} {σ : Sg} {cc : ByteArray} {nL : Nat} {Ts : List Cond} {own : String} {rm : Room} {M : MM} {L : List (Option Value)} {kc ks : Nat} {Q : State → Prop} {pc : Nat} {st : List Value} (F : Fx ω σ cc nL Ts own rm) {a : Nat} {off : Int} (tgt : Nat) (d : decode cc pc = .ok (.ifCond .ne off, 3)) (ht : (pc : Int) + off = (tgt : Int)) (ha : a < 2 ^ 31) (kt : ¬ a = 0 → V ω σ M L kc ks Q (tgt) (st)) (kf : a = 0 → V ω σ M L kc ks Q (pc + 3) (st)) : V ω σ M L kc ks Q (pc) (.int (nI a) :: st) := v_if_ne F tgt d ht (fun q => kt (fun q2 => q (by rw [q2]; rfl))) (fun q => kf ((nI_eq ha (by decide) (b := 0)).mp q))
theorem v_if_gt_n {ω : Om} {σ : Sg} {cc : ByteArray} {nL : Nat} {Ts : List Cond} {own : String} {rm : Room} {M : MM} {L : List (Option Value)} {kc ks : Nat} {Q : State → Prop} {pc : Nat} {st : List Value} (F : Fx ω σ cc nL Ts own rm) {a : Nat} {off : Int} (tgt : Nat) (d : decode cc pc = .ok (.ifCond .gt off, 3)) (ht : (pc : Int) + off = (tgt : Int)) (ha : a < 2 ^ 31) (kt : 0 < a → V ω σ M L kc ks Q (tgt) (st)) (kf : ¬ 0 < a → V ω σ M L kc ks Q (pc + 3) (st)) : V ω σ M L kc ks Q (pc) (.int (nI a) :: st) := v_if_gt F tgt d ht (fun q => kt ((nI_ltI (a := 0) (by decide) ha).mp q)) (fun q => kf (fun q2 => q ((nI_ltI (a := 0) (by decide) ha).mpr q2)))
theorem v_if_le_n {ω : Om} {σ : Sg} {cc : ByteArray} {nL : Nat} {Ts : List Cond} {own : String} {rm : Room} {M : MM} {L : List (Option Value)} {kc ks : Nat} {Q : State → Prop} {pc : Nat} {st : List Value} (F : Fx ω σ cc nL Ts own rm) {a : Nat} {off : Int} (tgt : Nat) (d : decode cc pc = .ok (.ifCond .le off, 3)) (ht : (pc : Int) + off = (tgt : Int)) (ha : a < 2 ^ 31) (kt : a = 0 → V ω σ M L kc ks Q (tgt) (st)) (kf : ¬ a = 0 → V ω σ M L kc ks Q (pc + 3) (st)) : V ω σ M L kc ks Q (pc) (.int (nI a) :: st) := v_if_le F tgt d ht (fun q => kt (Nat.le_zero.mp ((nI_leI (b := 0) ha (by decide)).mp q))) (fun q => kf (fun q2 => q (by rw [q2]; decide)))
theorem v_if_lt_n {ω : Om} {σ : Sg} {cc : ByteArray} {nL : Nat} {Ts : List Cond} {own : String} {rm : Room} {M : MM} {L : List (Option Value)} {kc ks : Nat} {Q : State → Prop} {pc : Nat} {st : List Value} (F : Fx ω σ cc nL Ts own rm) {a : Nat} {off : Int} (tgt : Nat) (d : decode cc pc = .ok (.ifCond .lt off, 3)) (ht : (pc : Int) + off = (tgt : Int)) (ha : a < 2 ^ 31) (k : V ω σ M L kc ks Q (pc + 3) (st)) : V ω σ M L kc ks Q (pc) (.int (nI a) :: st) := v_if_lt F tgt d ht (fun q => absurd q (nI_pos ha)) (fun _ => k)
theorem v_if_ge_n {ω : Om} {σ : Sg} {cc : ByteArray} {nL : Nat} {Ts : List Cond} {own : String} {rm : Room} {M : MM} {L : List (Option Value)} {kc ks : Nat} {Q : State → Prop} {pc : Nat} {st : List Value} (F : Fx ω σ cc nL Ts own rm) {a : Nat} {off : Int} (tgt : Nat) (d : decode cc pc = .ok (.ifCond .ge off, 3)) (ht : (pc : Int) + off = (tgt : Int)) (ha : a < 2 ^ 31) (k : V ω σ M L kc ks Q (tgt) (st)) : V ω σ M L kc ks Q (pc) (.int (nI a) :: st) := v_if_ge F tgt d ht (fun _ => k) (fun q => absurd (nI_pos' ha) q)
theorem v_if_eq_b {ω : Om} {σ : Sg} {cc : ByteArray} {nL : Nat} {Ts : List Cond} {own : String} {rm : Room} {M : MM} {L : List (Option Value)} {kc ks : Nat} {Q : State → Prop} {pc : Nat} {st : List Value} (F : Fx ω σ cc nL Ts own rm) {b : Bool} {off : Int} (tgt : Nat) (d : decode cc pc = .ok (.ifCond .eq off, 3)) (ht : (pc : Int) + off = (tgt : Int)) (kt : b = false → V ω σ M L kc ks Q (tgt) (st)) (kf : b = true → V ω σ M L kc ks Q (pc + 3) (st)) : V ω σ M L kc ks Q (pc) (.int (bI b) :: st) := v_if_eq F tgt d ht (fun q => kt (bI_0.mp q)) (fun q => kf (by cases b; exact absurd rfl q; rfl))
theorem v_if_ne_b {ω : Om} {σ : Sg} {cc : ByteArray} {nL : Nat} {Ts : List Cond} {own : String} {rm : Room} {M : MM} {L : List (Option Value)} {kc ks : Nat} {Q : State → Prop} {pc : Nat} {st : List Value} (F : Fx ω σ cc nL Ts own rm) {b : Bool} {off : Int} (tgt : Nat) (d : decode cc pc = .ok (.ifCond .ne off, 3)) (ht : (pc : Int) + off = (tgt : Int)) (kt : b = true → V ω σ M L kc ks Q (tgt) (st)) (kf : b = false → V ω σ M L kc ks Q (pc + 3) (st)) : V ω σ M L kc ks Q (pc) (.int (bI b) :: st) := v_if_ne F tgt d ht (fun q => kt (by cases b; exact absurd rfl q; rfl)) (fun q => kf (bI_0.mp q))
theorem v_iald_n {ω : Om} {σ : Sg} {cc : ByteArray} {nL : Nat} {Ts : List Cond} {own : String} {rm : Room} {M : MM} {L : List (Option Value)} {kc ks : Nat} {Q : State → Prop} {pc : Nat} {st : List Value} (F : Fx ω σ cc nL Ts own rm) {a n j : Nat} {g : Nat → Int32} (d : decode cc pc = .ok (.iaload, 1)) (hM : M a = some (.inl (ω.2.2 0, n, .inl g))) (hj : j < n) (hn : n < 2 ^ 31) (k : V ω σ M L kc ks Q (pc + 1) (.int (g j) :: st)) : V ω σ M L kc ks Q (pc) (.int (nI j) :: .ref a :: st) := v_iald F d hM (vp_in_nI hj hn) (by rw [nI_clamp (Nat.lt_trans hj hn)]; exact k)
theorem v_zald_n {ω : Om} {σ : Sg} {cc : ByteArray} {nL : Nat} {Ts : List Cond} {own : String} {rm : Room} {M : MM} {L : List (Option Value)} {kc ks : Nat} {Q : State → Prop} {pc : Nat} {st : List Value} (F : Fx ω σ cc nL Ts own rm) {a n j : Nat} {g : Nat → Int32} (d : decode cc pc = .ok (.baload, 1)) (hM : M a = some (.inl (ω.2.2 1, n, .inl g))) (hj : j < n) (hn : n < 2 ^ 31) (k : V ω σ M L kc ks Q (pc + 1) (.int (g j) :: st)) : V ω σ M L kc ks Q (pc) (.int (nI j) :: .ref a :: st) := v_zald F d hM (vp_in_nI hj hn) (by rw [nI_clamp (Nat.lt_trans hj hn)]; exact k)
theorem v_aald_n {ω : Om} {σ : Sg} {cc : ByteArray} {nL : Nat} {Ts : List Cond} {own : String} {rm : Room} {M : MM} {L : List (Option Value)} {kc ks : Nat} {Q : State → Prop} {pc : Nat} {st : List Value} (F : Fx ω σ cc nL Ts own rm) {a n j : Nat} {g : Nat → Option Nat} {cA : ClassId} {C : String} (t0 : Nat) (d : decode cc pc = .ok (.aaload, 1)) (hM : M a = some (.inl (cA, n, .inr (.inr (.inr (.inr g)))))) (ht : (tysO ω)[t0]? = some (cA, .object C)) (hj : j < n) (hn : n < 2 ^ 31) (kn : g j = none → V ω σ M L kc ks Q (pc + 1) (.null :: st)) (kr : ∀ b, g j = some b → V ω σ M L kc ks Q (pc + 1) (.ref b :: st)) : V ω σ M L kc ks Q (pc) (.int (nI j) :: .ref a :: st) := v_aald F t0 d hM ht (vp_in_nI hj hn) (by rw [nI_clamp (Nat.lt_trans hj hn)]; cases hg : g j with | none => exact kn hg | some b => exact kr b hg)
theorem v_get_o {ω : Om} {σ : Sg} {cc : ByteArray} {nL : Nat} {Ts : List Cond} {own : String} {rm : Room} {M : MM} {L : List (Option Value)} {kc ks : Nat} {Q : State → Prop} {pc : Nat} {st : List Value} (F : Fx ω σ cc nL Ts own rm) {a : Nat} (ci kf : Nat) {idx : Nat} {fs : List Value} {o : Option Nat} (f : FO Ts own idx ci kf) (d : decode cc pc = .ok (.getfield idx, 3)) (hM : M a = some (.inr (ci, fs))) (hv : fs[kf]? = some (va_rf o)) (kn : o = none → V ω σ M L kc ks Q (pc + 3) (.null :: st)) (kr : ∀ b, o = some b → V ω σ M L kc ks Q (pc + 3) (.ref b :: st)) : V ω σ M L kc ks Q (pc) (.ref a :: st) := v_get F ci kf f d hM hv (by cases o with | none => exact kn rfl | some b => exact kr b rfl)
theorem v_iast_n {ω : Om} {σ : Sg} {cc : ByteArray} {nL : Nat} {Ts : List Cond} {own : String} {rm : Room} {M : MM} {L : List (Option Value)} {kc ks : Nat} {Q : State → Prop} {pc : Nat} {st : List Value} (F : Fx ω σ cc nL Ts own rm) {a n j : Nat} {g : Nat → Int32} {x : Int32} (d : decode cc pc = .ok (.iastore, 1)) (hM : M a = some (.inl (ω.2.2 0, n, .inl g))) (hj : j < n) (hn : n < 2 ^ 31) (k : V ω σ (mup M a (.inl (ω.2.2 0, n, .inl (upd g j x)))) L kc ks Q (pc + 1) (st)) : V ω σ M L kc ks Q (pc) (.int x :: .int (nI j) :: .ref a :: st) := v_iast F d hM (vp_in_nI hj hn) (by rw [nI_clamp (Nat.lt_trans hj hn)]; exact k)
theorem v_zast_n {ω : Om} {σ : Sg} {cc : ByteArray} {nL : Nat} {Ts : List Cond} {own : String} {rm : Room} {M : MM} {L : List (Option Value)} {kc ks : Nat} {Q : State → Prop} {pc : Nat} {st : List Value} (F : Fx ω σ cc nL Ts own rm) {a n j : Nat} {g : Nat → Int32} {x : Int32} (d : decode cc pc = .ok (.bastore, 1)) (hM : M a = some (.inl (ω.2.2 1, n, .inl g))) (hj : j < n) (hn : n < 2 ^ 31) (k : V ω σ (mup M a (.inl (ω.2.2 1, n, .inl (upd g j (vp_nar .boolean x))))) L kc ks Q (pc + 1) (st)) : V ω σ M L kc ks Q (pc) (.int x :: .int (nI j) :: .ref a :: st) := v_zast F d hM (vp_in_nI hj hn) (by rw [nI_clamp (Nat.lt_trans hj hn)]; exact k)
theorem v_iinc1 {ω : Om} {σ : Sg} {cc : ByteArray} {nL : Nat} {Ts : List Cond} {own : String} {rm : Room} {M : MM} {L : List (Option Value)} {kc ks : Nat} {Q : State → Prop} {pc : Nat} {st : List Value} (F : Fx ω σ cc nL Ts own rm) {j x : Nat} (d : decode cc pc = .ok (.iinc j 1, 3)) (hl : L[j]? = some (some (.int (nI x)))) (hc : ok2 L j) (k : V ω σ M (L.set j (some (.int (nI (x + 1))))) kc ks Q (pc + 3) (st)) : V ω σ M L kc ks Q (pc) (st) := v_iinc F d hl (nI_1 x) hc k
theorem V.rf {ω : Om} {σ : Sg} {M : MM} {L : List (Option Value)} {kc ks : Nat} {Q : State → Prop} {pc : Nat} {st : List Value} {o : Option Nat} (kn : o = none → V ω σ M L kc ks Q pc (.null :: st)) (kr : ∀ b, o = some b → V ω σ M L kc ks Q pc (.ref b :: st)) : V ω σ M L kc ks Q pc ((some (va_rf o)).toList ++ st) := by
  cases o with
  | none => exact kn rfl
  | some b => exact kr b rfl
theorem V.toI {ω : Om} {σ : Sg} {M : MM} {L : List (Option Value)} {kc ks : Nat} {Q : State → Prop} {pc : Nat} {st : List Value} {x y : Int32} (h : x = y) (k : V ω σ M L kc ks Q pc (.int y :: st)) : V ω σ M L kc ks Q pc (.int x :: st) := by rw [h]; exact k
theorem lv_args_get : ∀ (vs : List Value) (n : Nat), (∀ v ∈ vs, v.category ≠ 2) → ∀ (i : Nat) (v : Value), vs[i]? = some v → (n + i, v) ∈ lv_args n vs := by
  intro vs
  induction vs with
  | nil => intro n _ i v h; cases h
  | cons x xs ih =>
    intro n hc i v h
    have hx : ¬ x.category = 2 := hc x List.mem_cons_self
    cases i with
    | zero =>
      cases h
      exact List.mem_cons_self
    | succ i =>
      refine List.mem_cons_of_mem _ ?_
      rw [if_neg hx]
      have := ih (n + 1) (fun v hv => hc v (List.mem_cons_of_mem _ hv)) i v h
      rwa [show n + 1 + i = n + (i + 1) by omega] at this
theorem Lc.av {av : List Value} {k : Nat} (hc : all1 (av.map some) = true) : ∀ (i : Nat) (v : Value), (av.map some ++ List.replicate k none)[i]? = some (some v) → (i, v) ∈ lv_args 0 av := by
  intro i v hi
  have h1 : av[i]? = some v := by
    by_cases h : i < av.length
    · rw [List.getElem?_append_left (by simpa using h), List.getElem?_map] at hi
      cases h2 : av[i]? with
      | none => rw [h2] at hi; cases hi
      | some w => rw [h2] at hi; cases hi; rfl
    · rw [List.getElem?_append_right (by simpa using h)] at hi
      have := List.mem_of_getElem? hi
      rw [List.mem_replicate] at this
      cases this.2
  have h2 : ∀ v ∈ av, v.category ≠ 2 := by
    intro v hv
    have h3 := List.all_eq_true.mp hc (some v) (List.mem_map.mpr ⟨v, hv, rfl⟩)
    simpa [is1] using h3
  have := lv_args_get av 0 h2 i v h1
  rwa [Nat.zero_add] at this
end
section
/-! what a state of the class and of the reference is: n boxes with their numbers B i 0 .. (0 page, 1 left, 2 top, 3 width, 4 height, 5 kind, 6 the one that it follows and 1, or 0, 7 the one that it leads and 1, or 0, 8 whether it is gone), k approvals P i (0 person, 1 page, 2 whether it holds) -/
abbrev FF : Type := Nat → Nat → Nat
def u2 (B : FF) (i j v : Nat) : FF := fun a b => if a = i ∧ b = j then v else B a b
/-- addresses: A 0 j single things, A 1 i the boxes, A 2 p the readings (5 the trial, 6 the pile), A 3 p their rows, A 4 k the approvals -/
def oA (A : FF) (x : Nat) : Option Nat := match x with
  | 0 => none
  | j + 1 => some (A 1 j)
def bxF (A B : FF) (i : Nat) : List Value := [.int (nI i), .int (nI (B i 0)), .int (nI (B i 5)), .int (nI (B i 1)), .int (nI (B i 2)), .int (nI (B i 3)), .int (nI (B i 4)), .int (nI (B i 8)), va_rf (oA A (B i 6)), va_rf (oA A (B i 7))]
def apF (P : FF) (i : Nat) : List Value := [.int (nI (P i 0)), .int (nI (P i 1)), .int (nI (P i 2))]
def qa (n : Nat) (f : Nat → Nat) : Nat → Option Nat := fun i => if i < n then some (f i) else none
theorem qa_in {n i : Nat} {f : Nat → Nat} (h : i < n) : qa n f i = some (f i) := by simp [qa, h]
theorem qa_out {n i : Nat} {f : Nat → Nat} (h : ¬ i < n) : qa n f i = none := by simp [qa, h]
theorem zl1 {b : Bool} (h : b = true) : some (Value.int (nI 1)) = some (.int (bI b)) := by rw [h]; rfl
theorem zl0 {b : Bool} (h : b = false) : some (Value.int (nI 0)) = some (.int (bI b)) := by rw [h]; rfl
theorem il {x y : Nat} (h : x = y) : some (Value.int (nI x)) = some (.int (nI y)) := by rw [h]
theorem pfold_0 {α : Type} : True := trivial
/-- a loop from 0 on: f takes what came out so far and the number -/
def fl {α : Type} (f : α → Nat → α) (a : α) : Nat → α
  | 0 => a
  | n + 1 => f (fl f a n) n
theorem fl_s {α : Type} (f : α → Nat → α) (a : α) (n : Nat) : fl f a (n + 1) = f (fl f a n) n := rfl
/-- a loop by a counter that goes up to e -/
theorem up_to (e : Nat) (T : Nat → Prop) (hx : T e) (hs : ∀ i, i < e → T (i + 1) → T i) : ∀ i, i ≤ e → T i := by
  intro i hi
  obtain ⟨k, hk⟩ : ∃ k, e = i + k := ⟨e - i, by omega⟩
  induction k generalizing i with
  | zero => rw [show i = e by omega]; exact hx
  | succ k ih => exact hs i (by omega) (ih (i + 1) (by omega) (by omega))
theorem hgd_142_146 : ∀ w ∈ Cond.classLink RX4 142 "java/lang/IndexOutOfBoundsException" :: Cond.initialized "java/lang/IndexOutOfBoundsException" :: vx_atS RX4 146 "java/lang/IndexOutOfBoundsException" nmE, vx_ot w = true := by decide +kernel
theorem hgd_50_54 : ∀ w ∈ Cond.classLink RX4 50 "java/lang/IllegalArgumentException" :: Cond.initialized "java/lang/IllegalArgumentException" :: vx_atS RX4 54 "java/lang/IllegalArgumentException" nmE, vx_ot w = true := by decide +kernel
theorem hgd_61_65 : ∀ w ∈ Cond.classLink RX4 61 "java/lang/IllegalStateException" :: Cond.initialized "java/lang/IllegalStateException" :: vx_atS RX4 65 "java/lang/IllegalStateException" nmE, vx_ot w = true := by decide +kernel
theorem hnw_146 : ∀ w ∈ vx_atS RX4 146 "java/lang/IndexOutOfBoundsException" nmE, goodWord w = true ∨ w ∈ nwL := by decide +kernel
theorem hnw_54 : ∀ w ∈ vx_atS RX4 54 "java/lang/IllegalArgumentException" nmE, goodWord w = true ∨ w ∈ nwL := by decide +kernel
theorem hnw_65 : ∀ w ∈ vx_atS RX4 65 "java/lang/IllegalStateException" nmE, goodWord w = true ∨ w ∈ nwL := by decide +kernel
end
section
/-! the boxes' own methods -/
def rmX1_bottom : Room := { frames := 0, cells := 0, slots := 0, locals := 0 }
theorem hd_X1_bottom : yX1_bottom.cls = (RX1, TX1, 10).1 ∧ yX1_bottom.cls ≠ "java/lang/invoke/MethodHandle" ∧ yX1_bottom.cls ≠ "java/lang/invoke/VarHandle" ∧ (parseMethodDescriptor yX1_bottom.desc).map (fun d => d.parameters.length) = some 0 := by decide +kernel
theorem fo_X1_bottom_32 : FO wsX1_bottom RX1 32 1 4 := ⟨_, _, _, rfl, by decide, by decide +kernel, by decide +kernel⟩
theorem fo_X1_bottom_38 : FO wsX1_bottom RX1 38 1 6 := ⟨_, _, _, rfl, by decide, by decide +kernel, by decide +kernel⟩
set_option maxHeartbeats 4000000 in
set_option maxRecDepth 100000 in
theorem c_X1_bottom {l : Launch} {ω : Om} {M : MM} {b i : Nat} {A B : FF} (hW : ∀ i j, B i j < 128) (hb : M b = some (.inr (1, bxF A B i))) : Ct l ω yX1_bottom wsX1_bottom rmX1_bottom [.ref b] M (fun v M9 => v = some (.int (nI (B i 2 + B i 4))) ∧ M9 = M) 0 0 := by
  refine Ct.ofV (cc := cX1_bottom) (maxL := 1) (ret := (some .int)) [some (.ref b)] (by decide) rfl (Nat.le_of_ble_eq_true rfl) rfl (Lc.av (av := [.ref b]) (k := 0) rfl) ?_
  intro σ F hl hr hname
  have F : Fx ω σ cX1_bottom 1 wsX1_bottom RX1 rmX1_bottom := F
  refine v_aload_n F dX1_bottom_0 rfl rfl ?_
  refine v_get F 1 4 fo_X1_bottom_32 dX1_bottom_1 hb rfl ?_
  refine v_aload_n F dX1_bottom_4 rfl rfl ?_
  refine v_get F 1 6 fo_X1_bottom_38 dX1_bottom_5 hb rfl ?_
  refine v_iadd_n F dX1_bottom_8 ?_
  exact v_iret F hr dX1_bottom_9 (Nat.le_of_ble_eq_true rfl) (Nat.le_of_ble_eq_true rfl) ⟨rfl, rfl⟩
def rmX1_begin : Room := { frames := 0, cells := 0, slots := 0, locals := 0 }
theorem hd_X1_begin : yX1_begin.cls = (RX1, TX1, 10).1 ∧ yX1_begin.cls ≠ "java/lang/invoke/MethodHandle" ∧ yX1_begin.cls ≠ "java/lang/invoke/VarHandle" ∧ (parseMethodDescriptor yX1_begin.desc).map (fun d => d.parameters.length) = some 1 := by decide +kernel
theorem fo_X1_begin_29 : FO wsX1_begin RX1 29 1 3 := ⟨_, _, _, rfl, by decide, by decide +kernel, by decide +kernel⟩
theorem fo_X1_begin_32 : FO wsX1_begin RX1 32 1 4 := ⟨_, _, _, rfl, by decide, by decide +kernel, by decide +kernel⟩
set_option maxHeartbeats 4000000 in
set_option maxRecDepth 100000 in
theorem c_X1_begin {l : Launch} {ω : Om} {M : MM} {b i : Nat} {ac : Bool} {A B : FF} (hW : ∀ i j, B i j < 128) (hb : M b = some (.inr (1, bxF A B i))) : Ct l ω yX1_begin wsX1_begin rmX1_begin [.ref b, .int (bI ac)] M (fun v M9 => v = some (.int (nI (B i (if ac then 2 else 1)))) ∧ M9 = M) 0 0 := by
  refine Ct.ofV (cc := cX1_begin) (maxL := 2) (ret := (some .int)) [some (.ref b), some (.int (bI ac))] (by decide) rfl (Nat.le_of_ble_eq_true rfl) rfl (Lc.av (av := [.ref b, .int (bI ac)]) (k := 0) rfl) ?_
  intro σ F hl hr hname
  have F : Fx ω σ cX1_begin 2 wsX1_begin RX1 rmX1_begin := F
  refine v_iload_n F dX1_begin_0 rfl ?_
  refine v_if_eq_b F 11 dX1_begin_1 (by decide) (fun c1 => ?_) (fun c1 => ?_)
  · refine v_aload_n F dX1_begin_11 rfl rfl ?_
    refine v_get F 1 3 fo_X1_begin_29 dX1_begin_12 hb rfl ?_
    exact v_iret F hr dX1_begin_15 (Nat.le_of_ble_eq_true rfl) (Nat.le_of_ble_eq_true rfl) ⟨by simp [*], rfl⟩
  · refine v_aload_n F dX1_begin_4 rfl rfl ?_
    refine v_get F 1 4 fo_X1_begin_32 dX1_begin_5 hb rfl ?_
    refine v_goto F 15 dX1_begin_8 (by decide) ?_
    exact v_iret F hr dX1_begin_15 (Nat.le_of_ble_eq_true rfl) (Nat.le_of_ble_eq_true rfl) ⟨by simp [*], rfl⟩
def rmX1_end : Room := { frames := 0, cells := 0, slots := 0, locals := 0 }
theorem hd_X1_end : yX1_end.cls = (RX1, TX1, 10).1 ∧ yX1_end.cls ≠ "java/lang/invoke/MethodHandle" ∧ yX1_end.cls ≠ "java/lang/invoke/VarHandle" ∧ (parseMethodDescriptor yX1_end.desc).map (fun d => d.parameters.length) = some 1 := by decide +kernel
theorem fo_X1_end_29 : FO wsX1_end RX1 29 1 3 := ⟨_, _, _, rfl, by decide, by decide +kernel, by decide +kernel⟩
theorem fo_X1_end_32 : FO wsX1_end RX1 32 1 4 := ⟨_, _, _, rfl, by decide, by decide +kernel, by decide +kernel⟩
theorem fo_X1_end_35 : FO wsX1_end RX1 35 1 5 := ⟨_, _, _, rfl, by decide, by decide +kernel, by decide +kernel⟩
theorem fo_X1_end_38 : FO wsX1_end RX1 38 1 6 := ⟨_, _, _, rfl, by decide, by decide +kernel, by decide +kernel⟩
set_option maxHeartbeats 4000000 in
set_option maxRecDepth 100000 in
theorem c_X1_end {l : Launch} {ω : Om} {M : MM} {b i : Nat} {ac : Bool} {A B : FF} (hW : ∀ i j, B i j < 128) (hb : M b = some (.inr (1, bxF A B i))) : Ct l ω yX1_end wsX1_end rmX1_end [.ref b, .int (bI ac)] M (fun v M9 => v = some (.int (nI (if ac then B i 2 + B i 4 else B i 1 + B i 3))) ∧ M9 = M) 0 0 := by
  refine Ct.ofV (cc := cX1_end) (maxL := 2) (ret := (some .int)) [some (.ref b), some (.int (bI ac))] (by decide) rfl (Nat.le_of_ble_eq_true rfl) rfl (Lc.av (av := [.ref b, .int (bI ac)]) (k := 0) rfl) ?_
  intro σ F hl hr hname
  have F : Fx ω σ cX1_end 2 wsX1_end RX1 rmX1_end := F
  refine v_iload_n F dX1_end_0 rfl ?_
  refine v_if_eq_b F 16 dX1_end_1 (by decide) (fun c1 => ?_) (fun c1 => ?_)
  · refine v_aload_n F dX1_end_16 rfl rfl ?_
    refine v_get F 1 3 fo_X1_end_29 dX1_end_17 hb rfl ?_
    refine v_aload_n F dX1_end_20 rfl rfl ?_
    refine v_get F 1 5 fo_X1_end_35 dX1_end_21 hb rfl ?_
    refine v_iadd_n F dX1_end_24 ?_
    exact v_iret F hr dX1_end_25 (Nat.le_of_ble_eq_true rfl) (Nat.le_of_ble_eq_true rfl) ⟨by simp [*], rfl⟩
  · refine v_aload_n F dX1_end_4 rfl rfl ?_
    refine v_get F 1 4 fo_X1_end_32 dX1_end_5 hb rfl ?_
    refine v_aload_n F dX1_end_8 rfl rfl ?_
    refine v_get F 1 6 fo_X1_end_38 dX1_end_9 hb rfl ?_
    refine v_iadd_n F dX1_end_12 ?_
    refine v_goto F 25 dX1_end_13 (by decide) ?_
    exact v_iret F hr dX1_end_25 (Nat.le_of_ble_eq_true rfl) (Nat.le_of_ble_eq_true rfl) ⟨by simp [*], rfl⟩
def rmX1_middleAcross : Room := { frames := 0, cells := 0, slots := 0, locals := 0 }
theorem hd_X1_middleAcross : yX1_middleAcross.cls = (RX1, TX1, 10).1 ∧ yX1_middleAcross.cls ≠ "java/lang/invoke/MethodHandle" ∧ yX1_middleAcross.cls ≠ "java/lang/invoke/VarHandle" ∧ (parseMethodDescriptor yX1_middleAcross.desc).map (fun d => d.parameters.length) = some 0 := by decide +kernel
theorem fo_X1_middleAcross_29 : FO wsX1_middleAcross RX1 29 1 3 := ⟨_, _, _, rfl, by decide, by decide +kernel, by decide +kernel⟩
theorem fo_X1_middleAcross_35 : FO wsX1_middleAcross RX1 35 1 5 := ⟨_, _, _, rfl, by decide, by decide +kernel, by decide +kernel⟩
set_option maxHeartbeats 4000000 in
set_option maxRecDepth 100000 in
theorem c_X1_middleAcross {l : Launch} {ω : Om} {M : MM} {b i : Nat} {A B : FF} (hW : ∀ i j, B i j < 128) (hb : M b = some (.inr (1, bxF A B i))) : Ct l ω yX1_middleAcross wsX1_middleAcross rmX1_middleAcross [.ref b] M (fun v M9 => v = some (.int (nI (B i 1 + B i 3 / 2))) ∧ M9 = M) 0 0 := by
  refine Ct.ofV (cc := cX1_middleAcross) (maxL := 1) (ret := (some .int)) [some (.ref b)] (by decide) rfl (Nat.le_of_ble_eq_true rfl) rfl (Lc.av (av := [.ref b]) (k := 0) rfl) ?_
  intro σ F hl hr hname
  have F : Fx ω σ cX1_middleAcross 1 wsX1_middleAcross RX1 rmX1_middleAcross := F
  refine v_aload_n F dX1_middleAcross_0 rfl rfl ?_
  refine v_get F 1 3 fo_X1_middleAcross_29 dX1_middleAcross_1 hb rfl ?_
  refine v_aload_n F dX1_middleAcross_4 rfl rfl ?_
  refine v_get F 1 5 fo_X1_middleAcross_35 dX1_middleAcross_5 hb rfl ?_
  refine v_iconst (v := nI 2) F dX1_middleAcross_8 (by decide) ?_
  refine v_idiv_n F dX1_middleAcross_9 (by first | omega | exact Nat.lt_trans (hW _ _) (by decide) | (have h1 := hW i 1; have h2 := hW i 2; have h3 := hW i 3; have h4 := hW i 4; have h5 := hW i 5; omega)) (by decide) (by decide) ?_
  refine v_iadd_n F dX1_middleAcross_10 ?_
  exact v_iret F hr dX1_middleAcross_11 (Nat.le_of_ble_eq_true rfl) (Nat.le_of_ble_eq_true rfl) ⟨rfl, rfl⟩
def rmX1_middleDown : Room := { frames := 0, cells := 0, slots := 0, locals := 0 }
theorem hd_X1_middleDown : yX1_middleDown.cls = (RX1, TX1, 10).1 ∧ yX1_middleDown.cls ≠ "java/lang/invoke/MethodHandle" ∧ yX1_middleDown.cls ≠ "java/lang/invoke/VarHandle" ∧ (parseMethodDescriptor yX1_middleDown.desc).map (fun d => d.parameters.length) = some 0 := by decide +kernel
theorem fo_X1_middleDown_32 : FO wsX1_middleDown RX1 32 1 4 := ⟨_, _, _, rfl, by decide, by decide +kernel, by decide +kernel⟩
theorem fo_X1_middleDown_38 : FO wsX1_middleDown RX1 38 1 6 := ⟨_, _, _, rfl, by decide, by decide +kernel, by decide +kernel⟩
set_option maxHeartbeats 4000000 in
set_option maxRecDepth 100000 in
theorem c_X1_middleDown {l : Launch} {ω : Om} {M : MM} {b i : Nat} {A B : FF} (hW : ∀ i j, B i j < 128) (hb : M b = some (.inr (1, bxF A B i))) : Ct l ω yX1_middleDown wsX1_middleDown rmX1_middleDown [.ref b] M (fun v M9 => v = some (.int (nI (B i 2 + B i 4 / 2))) ∧ M9 = M) 0 0 := by
  refine Ct.ofV (cc := cX1_middleDown) (maxL := 1) (ret := (some .int)) [some (.ref b)] (by decide) rfl (Nat.le_of_ble_eq_true rfl) rfl (Lc.av (av := [.ref b]) (k := 0) rfl) ?_
  intro σ F hl hr hname
  have F : Fx ω σ cX1_middleDown 1 wsX1_middleDown RX1 rmX1_middleDown := F
  refine v_aload_n F dX1_middleDown_0 rfl rfl ?_
  refine v_get F 1 4 fo_X1_middleDown_32 dX1_middleDown_1 hb rfl ?_
  refine v_aload_n F dX1_middleDown_4 rfl rfl ?_
  refine v_get F 1 6 fo_X1_middleDown_38 dX1_middleDown_5 hb rfl ?_
  refine v_iconst (v := nI 2) F dX1_middleDown_8 (by decide) ?_
  refine v_idiv_n F dX1_middleDown_9 (by first | omega | exact Nat.lt_trans (hW _ _) (by decide) | (have h1 := hW i 1; have h2 := hW i 2; have h3 := hW i 3; have h4 := hW i 4; have h5 := hW i 5; omega)) (by decide) (by decide) ?_
  refine v_iadd_n F dX1_middleDown_10 ?_
  exact v_iret F hr dX1_middleDown_11 (Nat.le_of_ble_eq_true rfl) (Nat.le_of_ble_eq_true rfl) ⟨rfl, rfl⟩
def rmX1_isHead : Room := { frames := 0, cells := 0, slots := 0, locals := 0 }
theorem hd_X1_isHead : yX1_isHead.cls = (RX1, TX1, 10).1 ∧ yX1_isHead.cls ≠ "java/lang/invoke/MethodHandle" ∧ yX1_isHead.cls ≠ "java/lang/invoke/VarHandle" ∧ (parseMethodDescriptor yX1_isHead.desc).map (fun d => d.parameters.length) = some 0 := by decide +kernel
theorem fo_X1_isHead_41 : FO wsX1_isHead RX1 41 1 2 := ⟨_, _, _, rfl, by decide, by decide +kernel, by decide +kernel⟩
set_option maxHeartbeats 4000000 in
set_option maxRecDepth 100000 in
theorem c_X1_isHead {l : Launch} {ω : Om} {M : MM} {b i : Nat} {A B : FF} (hW : ∀ i j, B i j < 128) (hb : M b = some (.inr (1, bxF A B i))) : Ct l ω yX1_isHead wsX1_isHead rmX1_isHead [.ref b] M (fun v M9 => v = some (.int (bI (decide (4 ≤ B i 5)))) ∧ M9 = M) 0 0 := by
  refine Ct.ofV (cc := cX1_isHead) (maxL := 1) (ret := (some .boolean)) [some (.ref b)] (by decide) rfl (Nat.le_of_ble_eq_true rfl) rfl (Lc.av (av := [.ref b]) (k := 0) rfl) ?_
  intro σ F hl hr hname
  have F : Fx ω σ cX1_isHead 1 wsX1_isHead RX1 rmX1_isHead := F
  refine v_aload_n F dX1_isHead_0 rfl rfl ?_
  refine v_get F 1 2 fo_X1_isHead_41 dX1_isHead_1 hb rfl ?_
  refine v_iconst (v := nI 4) F dX1_isHead_4 (by decide) ?_
  refine v_icmp_lt_n F 12 dX1_isHead_5 (by decide) (by first | omega | exact Nat.lt_trans (hW _ _) (by decide) | (have h1 := hW i 1; have h2 := hW i 2; have h3 := hW i 3; have h4 := hW i 4; have h5 := hW i 5; omega)) (by first | omega | exact Nat.lt_trans (hW _ _) (by decide) | (have h1 := hW i 1; have h2 := hW i 2; have h3 := hW i 3; have h4 := hW i 4; have h5 := hW i 5; omega)) (fun c5 => ?_) (fun c5 => ?_)
  · refine v_iconst (v := nI 0) F dX1_isHead_12 (by decide) ?_
    exact v_zret F hr dX1_isHead_13 rfl (Nat.le_of_ble_eq_true rfl) (Nat.le_of_ble_eq_true rfl) (by first | exact ⟨zl1 (by simp; omega), rfl⟩ | exact ⟨zl0 (by simp; omega), rfl⟩)
  · refine v_iconst (v := nI 1) F dX1_isHead_8 (by decide) ?_
    refine v_goto F 13 dX1_isHead_9 (by decide) ?_
    exact v_zret F hr dX1_isHead_13 rfl (Nat.le_of_ble_eq_true rfl) (Nat.le_of_ble_eq_true rfl) (by first | exact ⟨zl1 (by simp; omega), rfl⟩ | exact ⟨zl0 (by simp; omega), rfl⟩)
def rmX1_level : Room := { frames := 0, cells := 0, slots := 0, locals := 0 }
theorem hd_X1_level : yX1_level.cls = (RX1, TX1, 10).1 ∧ yX1_level.cls ≠ "java/lang/invoke/MethodHandle" ∧ yX1_level.cls ≠ "java/lang/invoke/VarHandle" ∧ (parseMethodDescriptor yX1_level.desc).map (fun d => d.parameters.length) = some 0 := by decide +kernel
theorem fo_X1_level_41 : FO wsX1_level RX1 41 1 2 := ⟨_, _, _, rfl, by decide, by decide +kernel, by decide +kernel⟩
set_option maxHeartbeats 4000000 in
set_option maxRecDepth 100000 in
theorem c_X1_level {l : Launch} {ω : Om} {M : MM} {b i : Nat} {A B : FF} (hW : ∀ i j, B i j < 128) (hb : M b = some (.inr (1, bxF A B i))) (h4 : 4 ≤ B i 5) : Ct l ω yX1_level wsX1_level rmX1_level [.ref b] M (fun v M9 => v = some (.int (nI (B i 5 - 3))) ∧ M9 = M) 0 0 := by
  refine Ct.ofV (cc := cX1_level) (maxL := 1) (ret := (some .int)) [some (.ref b)] (by decide) rfl (Nat.le_of_ble_eq_true rfl) rfl (Lc.av (av := [.ref b]) (k := 0) rfl) ?_
  intro σ F hl hr hname
  have F : Fx ω σ cX1_level 1 wsX1_level RX1 rmX1_level := F
  refine v_aload_n F dX1_level_0 rfl rfl ?_
  refine v_get F 1 2 fo_X1_level_41 dX1_level_1 hb rfl ?_
  refine v_iconst (v := nI 4) F dX1_level_4 (by decide) ?_
  refine v_isub_n F dX1_level_5 (by first | omega | exact Nat.lt_trans (hW _ _) (by decide) | (have h1 := hW i 1; have h2 := hW i 2; have h3 := hW i 3; have h4 := hW i 4; have h5 := hW i 5; omega)) ?_
  refine v_iconst (v := nI 1) F dX1_level_6 (by decide) ?_
  refine v_iadd_n F dX1_level_7 ?_
  exact v_iret F hr dX1_level_8 (Nat.le_of_ble_eq_true rfl) (Nat.le_of_ble_eq_true rfl) ⟨il (by omega), rfl⟩
def ovl (B : FF) (i j : Nat) : Bool := decide (B i 1 < B j 1 + B j 3) && decide (B j 1 < B i 1 + B i 3) && decide (B i 2 < B j 2 + B j 4) && decide (B j 2 < B i 2 + B i 4)
def rmX1_overlaps : Room := { frames := 1, cells := 0, slots := 0, locals := 20 }
theorem hd_X1_overlaps : yX1_overlaps.cls = (RX1, TX1, 10).1 ∧ yX1_overlaps.cls ≠ "java/lang/invoke/MethodHandle" ∧ yX1_overlaps.cls ≠ "java/lang/invoke/VarHandle" ∧ (parseMethodDescriptor yX1_overlaps.desc).map (fun d => d.parameters.length) = some 1 := by decide +kernel
theorem fo_X1_overlaps_29 : FO wsX1_overlaps RX1 29 1 3 := ⟨_, _, _, rfl, by decide, by decide +kernel, by decide +kernel⟩
theorem fo_X1_overlaps_32 : FO wsX1_overlaps RX1 32 1 4 := ⟨_, _, _, rfl, by decide, by decide +kernel, by decide +kernel⟩
theorem fo_X1_overlaps_35 : FO wsX1_overlaps RX1 35 1 5 := ⟨_, _, _, rfl, by decide, by decide +kernel, by decide +kernel⟩
set_option maxHeartbeats 4000000 in
set_option maxRecDepth 100000 in
theorem c_X1_overlaps {l : Launch} {ω : Om} {M : MM} {b b2 i j : Nat} {A B : FF} (hW : ∀ i j, B i j < 128) (hb : M b = some (.inr (1, bxF A B i))) (hb2 : M b2 = some (.inr (1, bxF A B j))) : Ct l ω yX1_overlaps wsX1_overlaps rmX1_overlaps [.ref b, .ref b2] M (fun v M9 => v = some (.int (bI (ovl B i j))) ∧ M9 = M) 0 0 := by
  refine Ct.ofV (cc := cX1_overlaps) (maxL := 2) (ret := (some .boolean)) [some (.ref b), some (.ref b2)] (by decide) rfl (Nat.le_of_ble_eq_true rfl) rfl (Lc.av (av := [.ref b, .ref b2]) (k := 0) rfl) ?_
  intro σ F hl hr hname
  have F : Fx ω σ cX1_overlaps 2 wsX1_overlaps RX1 rmX1_overlaps := F
  refine v_aload_n F dX1_overlaps_0 rfl rfl ?_
  refine v_get F 1 3 fo_X1_overlaps_29 dX1_overlaps_1 (by first | exact hb | exact hb2) rfl ?_
  refine v_aload_n F dX1_overlaps_4 rfl rfl ?_
  refine v_get F 1 3 fo_X1_overlaps_29 dX1_overlaps_5 (by first | exact hb | exact hb2) rfl ?_
  refine v_aload_n F dX1_overlaps_8 rfl rfl ?_
  refine v_get F 1 5 fo_X1_overlaps_35 dX1_overlaps_9 (by first | exact hb | exact hb2) rfl ?_
  refine v_iadd_n F dX1_overlaps_12 ?_
  refine v_icmp_ge_n F 58 dX1_overlaps_13 (by decide) (by first | omega | exact Nat.lt_trans (hW _ _) (by decide) | (have h1 := hW i 1; have h2 := hW i 2; have h3 := hW i 3; have h4 := hW i 4; have g1 := hW j 1; have g2 := hW j 2; have g3 := hW j 3; have g4 := hW j 4; omega)) (by first | omega | exact Nat.lt_trans (hW _ _) (by decide) | (have h1 := hW i 1; have h2 := hW i 2; have h3 := hW i 3; have h4 := hW i 4; have g1 := hW j 1; have g2 := hW j 2; have g3 := hW j 3; have g4 := hW j 4; omega)) (fun c13 => ?_) (fun c13 => ?_)
  · refine v_iconst (v := nI 0) F dX1_overlaps_58 (by decide) ?_
    exact v_zret F hr dX1_overlaps_59 rfl (Nat.le_of_ble_eq_true rfl) (Nat.le_of_ble_eq_true rfl) (by first | exact ⟨zl1 (by simp [ovl]; omega), rfl⟩ | exact ⟨zl0 (by simp [ovl]; omega), rfl⟩)
  · refine v_aload_n F dX1_overlaps_16 rfl rfl ?_
    refine v_get F 1 3 fo_X1_overlaps_29 dX1_overlaps_17 (by first | exact hb | exact hb2) rfl ?_
    refine v_aload_n F dX1_overlaps_20 rfl rfl ?_
    refine v_get F 1 3 fo_X1_overlaps_29 dX1_overlaps_21 (by first | exact hb | exact hb2) rfl ?_
    refine v_aload_n F dX1_overlaps_24 rfl rfl ?_
    refine v_get F 1 5 fo_X1_overlaps_35 dX1_overlaps_25 (by first | exact hb | exact hb2) rfl ?_
    refine v_iadd_n F dX1_overlaps_28 ?_
    refine v_icmp_ge_n F 58 dX1_overlaps_29 (by decide) (by first | omega | exact Nat.lt_trans (hW _ _) (by decide) | (have h1 := hW i 1; have h2 := hW i 2; have h3 := hW i 3; have h4 := hW i 4; have g1 := hW j 1; have g2 := hW j 2; have g3 := hW j 3; have g4 := hW j 4; omega)) (by first | omega | exact Nat.lt_trans (hW _ _) (by decide) | (have h1 := hW i 1; have h2 := hW i 2; have h3 := hW i 3; have h4 := hW i 4; have g1 := hW j 1; have g2 := hW j 2; have g3 := hW j 3; have g4 := hW j 4; omega)) (fun c29 => ?_) (fun c29 => ?_)
    · refine v_iconst (v := nI 0) F dX1_overlaps_58 (by decide) ?_
      exact v_zret F hr dX1_overlaps_59 rfl (Nat.le_of_ble_eq_true rfl) (Nat.le_of_ble_eq_true rfl) (by first | exact ⟨zl1 (by simp [ovl]; omega), rfl⟩ | exact ⟨zl0 (by simp [ovl]; omega), rfl⟩)
    · refine v_aload_n F dX1_overlaps_32 rfl rfl ?_
      refine v_get F 1 4 fo_X1_overlaps_32 dX1_overlaps_33 (by first | exact hb | exact hb2) rfl ?_
      refine v_aload_n F dX1_overlaps_36 rfl rfl ?_
      refine v_callV F 0 [] rfl rfl rfl (c_X1_bottom hW hb2) gX1_overlaps_X1_bottom rfl hd_X1_bottom ⟨⟨rfl, rfl⟩, ⟨(Nat.le_of_ble_eq_true rfl), (Nat.le_of_ble_eq_true rfl)⟩, ⟨(Nat.le_of_ble_eq_true rfl), (Nat.le_of_ble_eq_true rfl)⟩, (Nat.le_of_ble_eq_true rfl)⟩ hb2 rfl dX1_overlaps_37 (fun v37 M37 q37 => ?_)
      obtain ⟨rfl, rfl⟩ := q37
      refine v_icmp_ge_n F 58 dX1_overlaps_40 (by decide) (by first | omega | exact Nat.lt_trans (hW _ _) (by decide) | (have h1 := hW i 1; have h2 := hW i 2; have h3 := hW i 3; have h4 := hW i 4; have g1 := hW j 1; have g2 := hW j 2; have g3 := hW j 3; have g4 := hW j 4; omega)) (by first | omega | exact Nat.lt_trans (hW _ _) (by decide) | (have h1 := hW i 1; have h2 := hW i 2; have h3 := hW i 3; have h4 := hW i 4; have g1 := hW j 1; have g2 := hW j 2; have g3 := hW j 3; have g4 := hW j 4; omega)) (fun c40 => ?_) (fun c40 => ?_)
      · refine v_iconst (v := nI 0) F dX1_overlaps_58 (by decide) ?_
        exact v_zret F hr dX1_overlaps_59 rfl (Nat.le_of_ble_eq_true rfl) (Nat.le_of_ble_eq_true rfl) (by first | exact ⟨zl1 (by simp [ovl]; omega), rfl⟩ | exact ⟨zl0 (by simp [ovl]; omega), rfl⟩)
      · refine v_aload_n F dX1_overlaps_43 rfl rfl ?_
        refine v_get F 1 4 fo_X1_overlaps_32 dX1_overlaps_44 (by first | exact hb | exact hb2) rfl ?_
        refine v_aload_n F dX1_overlaps_47 rfl rfl ?_
        refine v_callV F 0 [] rfl rfl rfl (c_X1_bottom hW hb) gX1_overlaps_X1_bottom rfl hd_X1_bottom ⟨⟨rfl, rfl⟩, ⟨(Nat.le_of_ble_eq_true rfl), (Nat.le_of_ble_eq_true rfl)⟩, ⟨(Nat.le_of_ble_eq_true rfl), (Nat.le_of_ble_eq_true rfl)⟩, (Nat.le_of_ble_eq_true rfl)⟩ hb rfl dX1_overlaps_48 (fun v48 M48 q48 => ?_)
        obtain ⟨rfl, rfl⟩ := q48
        refine v_icmp_ge_n F 58 dX1_overlaps_51 (by decide) (by first | omega | exact Nat.lt_trans (hW _ _) (by decide) | (have h1 := hW i 1; have h2 := hW i 2; have h3 := hW i 3; have h4 := hW i 4; have g1 := hW j 1; have g2 := hW j 2; have g3 := hW j 3; have g4 := hW j 4; omega)) (by first | omega | exact Nat.lt_trans (hW _ _) (by decide) | (have h1 := hW i 1; have h2 := hW i 2; have h3 := hW i 3; have h4 := hW i 4; have g1 := hW j 1; have g2 := hW j 2; have g3 := hW j 3; have g4 := hW j 4; omega)) (fun c51 => ?_) (fun c51 => ?_)
        · refine v_iconst (v := nI 0) F dX1_overlaps_58 (by decide) ?_
          exact v_zret F hr dX1_overlaps_59 rfl (Nat.le_of_ble_eq_true rfl) (Nat.le_of_ble_eq_true rfl) (by first | exact ⟨zl1 (by simp [ovl]; omega), rfl⟩ | exact ⟨zl0 (by simp [ovl]; omega), rfl⟩)
        · refine v_iconst (v := nI 1) F dX1_overlaps_54 (by decide) ?_
          refine v_goto F 59 dX1_overlaps_55 (by decide) ?_
          exact v_zret F hr dX1_overlaps_59 rfl (Nat.le_of_ble_eq_true rfl) (Nat.le_of_ble_eq_true rfl) (by first | exact ⟨zl1 (by simp [ovl]; omega), rfl⟩ | exact ⟨zl0 (by simp [ovl]; omega), rfl⟩)
def ahd (B : FF) (i j : Nat) : Bool := if B i 2 = B j 2 then (if B i 1 = B j 1 then decide (i < j) else decide (B i 1 < B j 1)) else decide (B i 2 < B j 2)
def rmX1_isAheadByEdges : Room := { frames := 0, cells := 0, slots := 0, locals := 0 }
theorem hd_X1_isAheadByEdges : yX1_isAheadByEdges.cls = (RX1, TX1, 10).1 ∧ yX1_isAheadByEdges.cls ≠ "java/lang/invoke/MethodHandle" ∧ yX1_isAheadByEdges.cls ≠ "java/lang/invoke/VarHandle" ∧ (parseMethodDescriptor yX1_isAheadByEdges.desc).map (fun d => d.parameters.length) = some 1 := by decide +kernel
theorem fo_X1_isAheadByEdges_22 : FO wsX1_isAheadByEdges RX1 22 1 0 := ⟨_, _, _, rfl, by decide, by decide +kernel, by decide +kernel⟩
theorem fo_X1_isAheadByEdges_29 : FO wsX1_isAheadByEdges RX1 29 1 3 := ⟨_, _, _, rfl, by decide, by decide +kernel, by decide +kernel⟩
theorem fo_X1_isAheadByEdges_32 : FO wsX1_isAheadByEdges RX1 32 1 4 := ⟨_, _, _, rfl, by decide, by decide +kernel, by decide +kernel⟩
set_option maxHeartbeats 4000000 in
set_option maxRecDepth 100000 in
theorem c_X1_isAheadByEdges {l : Launch} {ω : Om} {M : MM} {b b2 i j : Nat} {A B : FF} (hW : ∀ i j, B i j < 128) (hb : M b = some (.inr (1, bxF A B i))) (hb2 : M b2 = some (.inr (1, bxF A B j))) (hi : i < 24) (hj : j < 24) : Ct l ω yX1_isAheadByEdges wsX1_isAheadByEdges rmX1_isAheadByEdges [.ref b, .ref b2] M (fun v M9 => v = some (.int (bI (ahd B i j))) ∧ M9 = M) 0 0 := by
  refine Ct.ofV (cc := cX1_isAheadByEdges) (maxL := 2) (ret := (some .boolean)) [some (.ref b), some (.ref b2)] (by decide) rfl (Nat.le_of_ble_eq_true rfl) rfl (Lc.av (av := [.ref b, .ref b2]) (k := 0) rfl) ?_
  intro σ F hl hr hname
  have F : Fx ω σ cX1_isAheadByEdges 2 wsX1_isAheadByEdges RX1 rmX1_isAheadByEdges := F
  refine v_aload_n F dX1_isAheadByEdges_0 rfl rfl ?_
  refine v_get F 1 4 fo_X1_isAheadByEdges_32 dX1_isAheadByEdges_1 (by first | exact hb | exact hb2) rfl ?_
  refine v_aload_n F dX1_isAheadByEdges_4 rfl rfl ?_
  refine v_get F 1 4 fo_X1_isAheadByEdges_32 dX1_isAheadByEdges_5 (by first | exact hb | exact hb2) rfl ?_
  refine v_icmp_eq_n F 28 dX1_isAheadByEdges_8 (by decide) (by first | omega | exact Nat.lt_trans (hW _ _) (by decide) | (have h1 := hW i 1; have h2 := hW i 2; have h3 := hW i 3; have h4 := hW i 4; have g1 := hW j 1; have g2 := hW j 2; have g3 := hW j 3; have g4 := hW j 4; omega)) (by first | omega | exact Nat.lt_trans (hW _ _) (by decide) | (have h1 := hW i 1; have h2 := hW i 2; have h3 := hW i 3; have h4 := hW i 4; have g1 := hW j 1; have g2 := hW j 2; have g3 := hW j 3; have g4 := hW j 4; omega)) (fun c8 => ?_) (fun c8 => ?_)
  · refine v_aload_n F dX1_isAheadByEdges_28 rfl rfl ?_
    refine v_get F 1 3 fo_X1_isAheadByEdges_29 dX1_isAheadByEdges_29 (by first | exact hb | exact hb2) rfl ?_
    refine v_aload_n F dX1_isAheadByEdges_32 rfl rfl ?_
    refine v_get F 1 3 fo_X1_isAheadByEdges_29 dX1_isAheadByEdges_33 (by first | exact hb | exact hb2) rfl ?_
    refine v_icmp_eq_n F 56 dX1_isAheadByEdges_36 (by decide) (by first | omega | exact Nat.lt_trans (hW _ _) (by decide) | (have h1 := hW i 1; have h2 := hW i 2; have h3 := hW i 3; have h4 := hW i 4; have g1 := hW j 1; have g2 := hW j 2; have g3 := hW j 3; have g4 := hW j 4; omega)) (by first | omega | exact Nat.lt_trans (hW _ _) (by decide) | (have h1 := hW i 1; have h2 := hW i 2; have h3 := hW i 3; have h4 := hW i 4; have g1 := hW j 1; have g2 := hW j 2; have g3 := hW j 3; have g4 := hW j 4; omega)) (fun c36 => ?_) (fun c36 => ?_)
    · refine v_aload_n F dX1_isAheadByEdges_56 rfl rfl ?_
      refine v_get F 1 0 fo_X1_isAheadByEdges_22 dX1_isAheadByEdges_57 (by first | exact hb | exact hb2) rfl ?_
      refine v_aload_n F dX1_isAheadByEdges_60 rfl rfl ?_
      refine v_get F 1 0 fo_X1_isAheadByEdges_22 dX1_isAheadByEdges_61 (by first | exact hb | exact hb2) rfl ?_
      refine v_icmp_ge_n F 71 dX1_isAheadByEdges_64 (by decide) (by first | omega | exact Nat.lt_trans (hW _ _) (by decide) | (have h1 := hW i 1; have h2 := hW i 2; have h3 := hW i 3; have h4 := hW i 4; have g1 := hW j 1; have g2 := hW j 2; have g3 := hW j 3; have g4 := hW j 4; omega)) (by first | omega | exact Nat.lt_trans (hW _ _) (by decide) | (have h1 := hW i 1; have h2 := hW i 2; have h3 := hW i 3; have h4 := hW i 4; have g1 := hW j 1; have g2 := hW j 2; have g3 := hW j 3; have g4 := hW j 4; omega)) (fun c64 => ?_) (fun c64 => ?_)
      · refine v_iconst (v := nI 0) F dX1_isAheadByEdges_71 (by decide) ?_
        exact v_zret F hr dX1_isAheadByEdges_72 rfl (Nat.le_of_ble_eq_true rfl) (Nat.le_of_ble_eq_true rfl) (by first | (refine ⟨zl1 ?_, rfl⟩; simp [ahd, *]; done) | (refine ⟨zl1 ?_, rfl⟩; simp [ahd, *]; omega) | (refine ⟨zl0 ?_, rfl⟩; simp [ahd, *]; done) | (refine ⟨zl0 ?_, rfl⟩; simp [ahd, *]; omega))
      · refine v_iconst (v := nI 1) F dX1_isAheadByEdges_67 (by decide) ?_
        refine v_goto F 72 dX1_isAheadByEdges_68 (by decide) ?_
        exact v_zret F hr dX1_isAheadByEdges_72 rfl (Nat.le_of_ble_eq_true rfl) (Nat.le_of_ble_eq_true rfl) (by first | (refine ⟨zl1 ?_, rfl⟩; simp [ahd, *]; done) | (refine ⟨zl1 ?_, rfl⟩; simp [ahd, *]; omega) | (refine ⟨zl0 ?_, rfl⟩; simp [ahd, *]; done) | (refine ⟨zl0 ?_, rfl⟩; simp [ahd, *]; omega))
    · refine v_aload_n F dX1_isAheadByEdges_39 rfl rfl ?_
      refine v_get F 1 3 fo_X1_isAheadByEdges_29 dX1_isAheadByEdges_40 (by first | exact hb | exact hb2) rfl ?_
      refine v_aload_n F dX1_isAheadByEdges_43 rfl rfl ?_
      refine v_get F 1 3 fo_X1_isAheadByEdges_29 dX1_isAheadByEdges_44 (by first | exact hb | exact hb2) rfl ?_
      refine v_icmp_ge_n F 54 dX1_isAheadByEdges_47 (by decide) (by first | omega | exact Nat.lt_trans (hW _ _) (by decide) | (have h1 := hW i 1; have h2 := hW i 2; have h3 := hW i 3; have h4 := hW i 4; have g1 := hW j 1; have g2 := hW j 2; have g3 := hW j 3; have g4 := hW j 4; omega)) (by first | omega | exact Nat.lt_trans (hW _ _) (by decide) | (have h1 := hW i 1; have h2 := hW i 2; have h3 := hW i 3; have h4 := hW i 4; have g1 := hW j 1; have g2 := hW j 2; have g3 := hW j 3; have g4 := hW j 4; omega)) (fun c47 => ?_) (fun c47 => ?_)
      · refine v_iconst (v := nI 0) F dX1_isAheadByEdges_54 (by decide) ?_
        exact v_zret F hr dX1_isAheadByEdges_55 rfl (Nat.le_of_ble_eq_true rfl) (Nat.le_of_ble_eq_true rfl) (by first | (refine ⟨zl1 ?_, rfl⟩; simp [ahd, *]; done) | (refine ⟨zl1 ?_, rfl⟩; simp [ahd, *]; omega) | (refine ⟨zl0 ?_, rfl⟩; simp [ahd, *]; done) | (refine ⟨zl0 ?_, rfl⟩; simp [ahd, *]; omega))
      · refine v_iconst (v := nI 1) F dX1_isAheadByEdges_50 (by decide) ?_
        refine v_goto F 55 dX1_isAheadByEdges_51 (by decide) ?_
        exact v_zret F hr dX1_isAheadByEdges_55 rfl (Nat.le_of_ble_eq_true rfl) (Nat.le_of_ble_eq_true rfl) (by first | (refine ⟨zl1 ?_, rfl⟩; simp [ahd, *]; done) | (refine ⟨zl1 ?_, rfl⟩; simp [ahd, *]; omega) | (refine ⟨zl0 ?_, rfl⟩; simp [ahd, *]; done) | (refine ⟨zl0 ?_, rfl⟩; simp [ahd, *]; omega))
  · refine v_aload_n F dX1_isAheadByEdges_11 rfl rfl ?_
    refine v_get F 1 4 fo_X1_isAheadByEdges_32 dX1_isAheadByEdges_12 (by first | exact hb | exact hb2) rfl ?_
    refine v_aload_n F dX1_isAheadByEdges_15 rfl rfl ?_
    refine v_get F 1 4 fo_X1_isAheadByEdges_32 dX1_isAheadByEdges_16 (by first | exact hb | exact hb2) rfl ?_
    refine v_icmp_ge_n F 26 dX1_isAheadByEdges_19 (by decide) (by first | omega | exact Nat.lt_trans (hW _ _) (by decide) | (have h1 := hW i 1; have h2 := hW i 2; have h3 := hW i 3; have h4 := hW i 4; have g1 := hW j 1; have g2 := hW j 2; have g3 := hW j 3; have g4 := hW j 4; omega)) (by first | omega | exact Nat.lt_trans (hW _ _) (by decide) | (have h1 := hW i 1; have h2 := hW i 2; have h3 := hW i 3; have h4 := hW i 4; have g1 := hW j 1; have g2 := hW j 2; have g3 := hW j 3; have g4 := hW j 4; omega)) (fun c19 => ?_) (fun c19 => ?_)
    · refine v_iconst (v := nI 0) F dX1_isAheadByEdges_26 (by decide) ?_
      exact v_zret F hr dX1_isAheadByEdges_27 rfl (Nat.le_of_ble_eq_true rfl) (Nat.le_of_ble_eq_true rfl) (by first | (refine ⟨zl1 ?_, rfl⟩; simp [ahd, *]; done) | (refine ⟨zl1 ?_, rfl⟩; simp [ahd, *]; omega) | (refine ⟨zl0 ?_, rfl⟩; simp [ahd, *]; done) | (refine ⟨zl0 ?_, rfl⟩; simp [ahd, *]; omega))
    · refine v_iconst (v := nI 1) F dX1_isAheadByEdges_22 (by decide) ?_
      refine v_goto F 27 dX1_isAheadByEdges_23 (by decide) ?_
      exact v_zret F hr dX1_isAheadByEdges_27 rfl (Nat.le_of_ble_eq_true rfl) (Nat.le_of_ble_eq_true rfl) (by first | (refine ⟨zl1 ?_, rfl⟩; simp [ahd, *]; done) | (refine ⟨zl1 ?_, rfl⟩; simp [ahd, *]; omega) | (refine ⟨zl0 ?_, rfl⟩; simp [ahd, *]; done) | (refine ⟨zl0 ?_, rfl⟩; simp [ahd, *]; omega))
end
section
/-! readings, pile, approvals, ties -/
theorem loop_up (e : Nat) (T : Nat → Prop) (h : ∀ i, i ≤ e → (i < e → T (i + 1)) → T i) : ∀ i, i ≤ e → T i := by
  intro i hi
  obtain ⟨k, hk⟩ : ∃ k, e = i + k := ⟨e - i, by omega⟩
  induction k generalizing i with
  | zero => exact h i hi (fun q => absurd q (by omega))
  | succ k ih => exact h i hi (fun q => ih (i + 1) (by omega) (by omega))
theorem loop_dn (T : Nat → Prop) (h : ∀ N, (∀ N', N' < N → T N') → T N) : ∀ N, T N := fun N => Nat.strongRecOn N h
def rmX0_holdsFor : Room := { frames := 0, cells := 0, slots := 0, locals := 0 }
theorem hd_X0_holdsFor : yX0_holdsFor.cls = (RX0, TX0, 3).1 ∧ yX0_holdsFor.cls ≠ "java/lang/invoke/MethodHandle" ∧ yX0_holdsFor.cls ≠ "java/lang/invoke/VarHandle" ∧ (parseMethodDescriptor yX0_holdsFor.desc).map (fun d => d.parameters.length) = some 1 := by decide +kernel
theorem fo_X0_holdsFor_7 : FO wsX0_holdsFor RX0 7 0 2 := ⟨_, _, _, rfl, by decide, by decide +kernel, by decide +kernel⟩
theorem fo_X0_holdsFor_17 : FO wsX0_holdsFor RX0 17 0 1 := ⟨_, _, _, rfl, by decide, by decide +kernel, by decide +kernel⟩
set_option maxHeartbeats 4000000 in
set_option maxRecDepth 100000 in
theorem c_X0_holdsFor {l : Launch} {ω : Om} {M : MM} {a i p : Nat} {P : FF} (hW : ∀ i j, P i j < 128) (hp : p < 128) (ha : M a = some (.inr (0, apF P i))) : Ct l ω yX0_holdsFor wsX0_holdsFor rmX0_holdsFor [.ref a, .int (nI p)] M (fun v M9 => v = some (.int (bI (decide (P i 2 ≠ 0 ∧ P i 1 = p)))) ∧ M9 = M) 0 0 := by
  refine Ct.ofV (cc := cX0_holdsFor) (maxL := 2) (ret := (some .boolean)) [some (.ref a), some (.int (nI p))] (by decide) rfl (Nat.le_of_ble_eq_true rfl) rfl (Lc.av (av := [.ref a, .int (nI p)]) (k := 0) rfl) ?_
  intro σ F hl hr hname
  have F : Fx ω σ cX0_holdsFor 2 wsX0_holdsFor RX0 rmX0_holdsFor := F
  refine v_aload_n F dX0_holdsFor_0 rfl rfl ?_
  refine v_get F 0 2 fo_X0_holdsFor_7 dX0_holdsFor_1 ha rfl ?_
  refine v_if_eq_n F 19 dX0_holdsFor_4 (by decide) (by first | omega | exact Nat.lt_trans (hW _ _) (by decide)) (fun c4 => ?_) (fun c4 => ?_)
  · refine v_iconst (v := nI 0) F dX0_holdsFor_19 (by decide) ?_
    exact v_zret F hr dX0_holdsFor_20 rfl (Nat.le_of_ble_eq_true rfl) (Nat.le_of_ble_eq_true rfl) (by first | (refine ⟨zl1 ?_, rfl⟩; simp [*]; done) | (refine ⟨zl1 ?_, rfl⟩; simp [*]; omega) | (refine ⟨zl0 ?_, rfl⟩; simp [*]; done) | (refine ⟨zl0 ?_, rfl⟩; simp [*]; omega))
  · refine v_aload_n F dX0_holdsFor_7 rfl rfl ?_
    refine v_get F 0 1 fo_X0_holdsFor_17 dX0_holdsFor_8 ha rfl ?_
    refine v_iload_n F dX0_holdsFor_11 rfl ?_
    refine v_icmp_ne_n F 19 dX0_holdsFor_12 (by decide) (by first | omega | exact Nat.lt_trans (hW _ _) (by decide)) (by first | omega | exact Nat.lt_trans (hW _ _) (by decide)) (fun c12 => ?_) (fun c12 => ?_)
    · refine v_iconst (v := nI 0) F dX0_holdsFor_19 (by decide) ?_
      exact v_zret F hr dX0_holdsFor_20 rfl (Nat.le_of_ble_eq_true rfl) (Nat.le_of_ble_eq_true rfl) (by first | (refine ⟨zl1 ?_, rfl⟩; simp [*]; done) | (refine ⟨zl1 ?_, rfl⟩; simp [*]; omega) | (refine ⟨zl0 ?_, rfl⟩; simp [*]; done) | (refine ⟨zl0 ?_, rfl⟩; simp [*]; omega))
    · refine v_iconst (v := nI 1) F dX0_holdsFor_15 (by decide) ?_
      refine v_goto F 20 dX0_holdsFor_16 (by decide) ?_
      exact v_zret F hr dX0_holdsFor_20 rfl (Nat.le_of_ble_eq_true rfl) (Nat.le_of_ble_eq_true rfl) (by first | (refine ⟨zl1 ?_, rfl⟩; simp [*]; done) | (refine ⟨zl1 ?_, rfl⟩; simp [*]; omega) | (refine ⟨zl0 ?_, rfl⟩; simp [*]; done) | (refine ⟨zl0 ?_, rfl⟩; simp [*]; omega))
/-- up the ties: from a box x the m-th that is ahead of it, and 1; 0 where there is none -/
def up (B : FF) : Nat → Nat → Nat
  | 0, x => x + 1
  | m + 1, x => match up B m x with
    | 0 => 0
    | y + 1 => B y 6
theorem up_s {B : FF} {m x y : Nat} (h : up B m x = y + 1) : up B (m + 1) x = B y 6 := by simp [up, h]
theorem up_0 {B : FF} {m x : Nat} (h : up B m x = 0) : up B (m + 1) x = 0 := by simp [up, h]
theorem up_z {B : FF} {m x : Nat} (h : up B m x = 0) : ∀ q, m ≤ q → up B q x = 0 := by
  intro q hq
  obtain ⟨k, rfl⟩ : ∃ k, q = m + k := ⟨q - m, by omega⟩
  induction k with
  | zero => exact h
  | succ k ih => exact up_0 (ih (by omega))
def rmX1_comesBehind : Room := { frames := 0, cells := 0, slots := 0, locals := 0 }
theorem hd_X1_comesBehind : yX1_comesBehind.cls = (RX1, TX1, 10).1 ∧ yX1_comesBehind.cls ≠ "java/lang/invoke/MethodHandle" ∧ yX1_comesBehind.cls ≠ "java/lang/invoke/VarHandle" ∧ (parseMethodDescriptor yX1_comesBehind.desc).map (fun d => d.parameters.length) = some 1 := by decide +kernel
theorem fo_X1_comesBehind_15 : FO wsX1_comesBehind RX1 15 1 8 := ⟨_, _, _, rfl, by decide, by decide +kernel, by decide +kernel⟩
set_option maxHeartbeats 4000000 in
set_option maxRecDepth 100000 in
theorem c_X1_comesBehind {l : Launch} {ω : Om} {M : MM} {i t n : Nat} {A B : FF} (hX : ∀ j, j < n → M (A 1 j) = some (.inr (1, bxF A B j))) (hin : ∀ j y, j < n → B j 6 = y + 1 → y < n) (hinj : ∀ x y, x < n → y < n → A 1 x = A 1 y → x = y) (ρ : Nat → Nat) (hρ : ∀ j y, j < n → B j 6 = y + 1 → ρ y < ρ j) (hi : i < n) (ht : t < n) : Ct l ω yX1_comesBehind wsX1_comesBehind rmX1_comesBehind [.ref (A 1 i), .ref (A 1 t)] M (fun v M9 => (∃ b9 : Bool, v = some (.int (bI b9)) ∧ (b9 = true ↔ ∃ q, up B (q + 1) i = t + 1)) ∧ M9 = M) 0 0 := by
  refine Ct.ofV (cc := cX1_comesBehind) (maxL := 3) (ret := (some .boolean)) [some (.ref (A 1 i)), some (.ref (A 1 t)), none] (by decide) rfl (Nat.le_of_ble_eq_true rfl) rfl (Lc.av (av := [.ref (A 1 i), .ref (A 1 t)]) (k := 1) rfl) ?_
  intro σ F hl hr hname
  have F : Fx ω σ cX1_comesBehind 3 wsX1_comesBehind RX1 rmX1_comesBehind := F
  have lp : ∀ N m, (∀ q, q < m → up B (q + 1) i ≠ t + 1) → (∀ y, up B (m + 1) i = y + 1 → y < n ∧ ρ y < N) → V ω σ M [some (.ref (A 1 i)), some (.ref (A 1 t)), some (va_rf (oA A (up B (m + 1) i)))] 0 0 (BQ ω σ (fun v M9 => (∃ b9 : Bool, v = some (.int (bI b9)) ∧ (b9 = true ↔ ∃ q, up B (q + 1) i = t + 1)) ∧ M9 = M) 0 0) 5 [] := by
    refine loop_dn _ (fun N ih => ?_)
    intro m h1 h2
    rcases hc : up B (m + 1) i with _ | y
    · refine v_aload_n F dX1_comesBehind_5 rfl rfl ?_
      refine v_ifnull_n F 24 dX1_comesBehind_6 (by decide) ?_
      refine v_iconst (v := nI 0) F dX1_comesBehind_24 (by decide) ?_
      exact v_zret F hr dX1_comesBehind_25 rfl (Nat.le_of_ble_eq_true rfl) (Nat.le_of_ble_eq_true rfl) ⟨⟨false, rfl, by simp; intro q hq; by_cases hqm : q < m; exact h1 q hqm hq; rw [up_z hc (q + 1) (by omega)] at hq; omega⟩, rfl⟩
    · have hyn := (h2 y hc).1
      refine v_aload_n F dX1_comesBehind_5 rfl rfl ?_
      refine v_ifnull_r F dX1_comesBehind_6 ?_
      refine v_aload_n F dX1_comesBehind_9 rfl rfl ?_
      refine v_aload_n F dX1_comesBehind_10 rfl rfl ?_
      refine v_acmp_ne F (some _) (some _) 16 dX1_comesBehind_11 (by decide) (fun c11 => ?_) (fun c11 => ?_)
      · refine v_aload_n F dX1_comesBehind_16 rfl rfl ?_
        refine v_get_o (o := oA A (B y 6)) F 1 8 fo_X1_comesBehind_15 dX1_comesBehind_17 (hX _ hyn) rfl (fun h17 => ?_) (fun a17 h17 => ?_)
        · refine v_astore_n F dX1_comesBehind_20 rfl (Nat.le_of_ble_eq_true rfl) (ok2_d rfl) ?_
          have hne : ∀ q, q < m + 1 → up B (q + 1) i ≠ t + 1 := by
            intro q hq
            by_cases hqm : q < m
            · exact h1 q hqm
            · rw [show q = m by omega, hc]
              intro he
              exact c11 (by rw [show y = t by omega])
          have hlt := (h2 y hc).2
          refine v_goto F 5 dX1_comesBehind_21 (by decide) ?_
          have hgo := ih (ρ y) hlt (m + 1) hne (fun z hz => ⟨hin y z hyn (by rw [← up_s hc]; exact hz), hρ y z hyn (by rw [← up_s hc]; exact hz)⟩)
          rw [up_s hc, show oA A (B y 6) = _ from h17] at hgo
          exact hgo
        · refine v_astore_n F dX1_comesBehind_20 rfl (Nat.le_of_ble_eq_true rfl) (ok2_d rfl) ?_
          have hne : ∀ q, q < m + 1 → up B (q + 1) i ≠ t + 1 := by
            intro q hq
            by_cases hqm : q < m
            · exact h1 q hqm
            · rw [show q = m by omega, hc]
              intro he
              exact c11 (by rw [show y = t by omega])
          have hlt := (h2 y hc).2
          refine v_goto F 5 dX1_comesBehind_21 (by decide) ?_
          have hgo := ih (ρ y) hlt (m + 1) hne (fun z hz => ⟨hin y z hyn (by rw [← up_s hc]; exact hz), hρ y z hyn (by rw [← up_s hc]; exact hz)⟩)
          rw [up_s hc, show oA A (B y 6) = _ from h17] at hgo
          exact hgo
      · refine v_iconst (v := nI 1) F dX1_comesBehind_14 (by decide) ?_
        exact v_zret F hr dX1_comesBehind_15 rfl (Nat.le_of_ble_eq_true rfl) (Nat.le_of_ble_eq_true rfl) ⟨⟨true, rfl, by simp only [true_iff]; exact ⟨m, by rw [hc, hinj _ _ hyn ht (Option.some.inj c11)]⟩⟩, rfl⟩
  refine v_aload_n F dX1_comesBehind_0 rfl rfl ?_
  refine v_get_o (o := oA A (B i 6)) F 1 8 fo_X1_comesBehind_15 dX1_comesBehind_1 (hX _ hi) rfl (fun h1 => ?_) (fun a1 h1 => ?_)
  · refine v_astore_n F dX1_comesBehind_4 rfl (Nat.le_of_ble_eq_true rfl) (ok2_d rfl) ?_
    have hgo := lp (ρ i) 0 (fun q hq => absurd hq (Nat.not_lt_zero _)) (fun z hz => ⟨hin i z hi hz, hρ i z hi hz⟩)
    rw [show up B (0 + 1) i = B i 6 from rfl, show oA A (B i 6) = _ from h1] at hgo
    exact hgo
  · refine v_astore_n F dX1_comesBehind_4 rfl (Nat.le_of_ble_eq_true rfl) (ok2_d rfl) ?_
    have hgo := lp (ρ i) 0 (fun q hq => absurd hq (Nat.not_lt_zero _)) (fun z hz => ⟨hin i z hi hz, hρ i z hi hz⟩)
    rw [show up B (0 + 1) i = B i 6 from rfl, show oA A (B i 6) = _ from h1] at hgo
    exact hgo
def rmX1_loosenFromLeader : Room := { frames := 0, cells := 0, slots := 0, locals := 0 }
theorem hd_X1_loosenFromLeader : yX1_loosenFromLeader.cls = (RX1, TX1, 10).1 ∧ yX1_loosenFromLeader.cls ≠ "java/lang/invoke/MethodHandle" ∧ yX1_loosenFromLeader.cls ≠ "java/lang/invoke/VarHandle" ∧ (parseMethodDescriptor yX1_loosenFromLeader.desc).map (fun d => d.parameters.length) = some 0 := by decide +kernel
theorem fo_X1_loosenFromLeader_15 : FO wsX1_loosenFromLeader RX1 15 1 8 := ⟨_, _, _, rfl, by decide, by decide +kernel, by decide +kernel⟩
set_option maxHeartbeats 4000000 in
set_option maxRecDepth 100000 in
theorem c_X1_loosenFromLeader_0 {l : Launch} {ω : Om} {M : MM} {i : Nat} {A B : FF} (hb : M (A 1 i) = some (.inr (1, bxF A B i))) (h0 : B i 6 = 0) : Ct l ω yX1_loosenFromLeader wsX1_loosenFromLeader rmX1_loosenFromLeader [.ref (A 1 i)] M (fun v M9 => v = none ∧ M9 = M) 0 0 := by
  refine Ct.ofV (cc := cX1_loosenFromLeader) (maxL := 1) (ret := none) [some (.ref (A 1 i))] (by decide) rfl (Nat.le_of_ble_eq_true rfl) rfl (Lc.av (av := [.ref (A 1 i)]) (k := 0) rfl) ?_
  intro σ F hl hr hname
  have F : Fx ω σ cX1_loosenFromLeader 1 wsX1_loosenFromLeader RX1 rmX1_loosenFromLeader := F
  refine v_aload_n F dX1_loosenFromLeader_0 rfl rfl ?_
  refine v_get F 1 8 fo_X1_loosenFromLeader_15 dX1_loosenFromLeader_1 (hb.trans (by rw [show bxF A B i = (bxF A B i).set 8 .null by simp [bxF, h0, oA, va_rf]])) rfl ?_
  refine v_ifnull_n F 20 dX1_loosenFromLeader_4 (by decide) ?_
  exact v_vret F hr dX1_loosenFromLeader_20 (Nat.le_of_ble_eq_true rfl) (Nat.le_of_ble_eq_true rfl) ⟨rfl, rfl⟩
theorem fp_X1_loosenFromLeader_15 : FP wsX1_loosenFromLeader RX1 15 1 8 (.object "Readingorder$Box") := ⟨_, _, _, tyX1, rfl, by decide, by decide +kernel, by decide +kernel, tyX1_ok, nmX1, rfl, by decide +kernel⟩
theorem fp_X1_loosenFromLeader_19 : FP wsX1_loosenFromLeader RX1 19 1 9 (.object "Readingorder$Box") := ⟨_, _, _, tyX1, rfl, by decide, by decide +kernel, by decide +kernel, tyX1_ok, nmX1, rfl, by decide +kernel⟩
set_option maxHeartbeats 4000000 in
set_option maxRecDepth 100000 in
theorem c_X1_loosenFromLeader_1 {l : Launch} {ω : Om} {M : MM} {i : Nat} {A B : FF} (hb : M (A 1 i) = some (.inr (1, bxF A B i))) {j : Nat} (hb2 : M (A 1 j) = some (.inr (1, bxF A B j))) (hne : A 1 i ≠ A 1 j) (h1 : B i 6 = j + 1) : Ct l ω yX1_loosenFromLeader wsX1_loosenFromLeader rmX1_loosenFromLeader [.ref (A 1 i)] M (fun v M9 => v = none ∧ M9 = mup (mup M (A 1 j) (.inr (1, (bxF A B j).set 9 .null))) (A 1 i) (.inr (1, (bxF A B i).set 8 .null))) 0 0 := by
  refine Ct.ofV (cc := cX1_loosenFromLeader) (maxL := 1) (ret := none) [some (.ref (A 1 i))] (by decide) rfl (Nat.le_of_ble_eq_true rfl) rfl (Lc.av (av := [.ref (A 1 i)]) (k := 0) rfl) ?_
  intro σ F hl hr hname
  have F : Fx ω σ cX1_loosenFromLeader 1 wsX1_loosenFromLeader RX1 rmX1_loosenFromLeader := F
  have hb1 : M (A 1 i) = some (.inr (1, (bxF A B i).set 8 (.ref (A 1 j)))) := hb.trans (by rw [show (bxF A B i).set 8 (.ref (A 1 j)) = bxF A B i by simp [bxF, h1, oA, va_rf]])
  refine v_aload_n F dX1_loosenFromLeader_0 rfl rfl ?_
  refine v_get F 1 8 fo_X1_loosenFromLeader_15 dX1_loosenFromLeader_1 hb1 rfl ?_
  refine v_ifnull_r F dX1_loosenFromLeader_4 ?_
  refine v_aload_n F dX1_loosenFromLeader_7 rfl rfl ?_
  refine v_get F 1 8 fo_X1_loosenFromLeader_15 dX1_loosenFromLeader_8 hb1 rfl ?_
  refine v_null F dX1_loosenFromLeader_11 ?_
  refine v_put F 1 9 fp_X1_loosenFromLeader_19 dX1_loosenFromLeader_12 hb2 rfl rfl (Nat.le_of_ble_eq_true rfl) ?_
  refine v_aload_n F dX1_loosenFromLeader_15 rfl rfl ?_
  refine v_null F dX1_loosenFromLeader_16 ?_
  refine v_put F 1 8 fp_X1_loosenFromLeader_15 dX1_loosenFromLeader_17 ((mup_n hne).trans hb) rfl rfl (Nat.le_of_ble_eq_true rfl) ?_
  exact v_vret F hr dX1_loosenFromLeader_20 (Nat.le_of_ble_eq_true rfl) (Nat.le_of_ble_eq_true rfl) ⟨rfl, rfl⟩
def rmX1_loosenFromFollower : Room := { frames := 0, cells := 0, slots := 0, locals := 0 }
theorem hd_X1_loosenFromFollower : yX1_loosenFromFollower.cls = (RX1, TX1, 10).1 ∧ yX1_loosenFromFollower.cls ≠ "java/lang/invoke/MethodHandle" ∧ yX1_loosenFromFollower.cls ≠ "java/lang/invoke/VarHandle" ∧ (parseMethodDescriptor yX1_loosenFromFollower.desc).map (fun d => d.parameters.length) = some 0 := by decide +kernel
theorem fo_X1_loosenFromFollower_19 : FO wsX1_loosenFromFollower RX1 19 1 9 := ⟨_, _, _, rfl, by decide, by decide +kernel, by decide +kernel⟩
set_option maxHeartbeats 4000000 in
set_option maxRecDepth 100000 in
theorem c_X1_loosenFromFollower_0 {l : Launch} {ω : Om} {M : MM} {i : Nat} {A B : FF} (hb : M (A 1 i) = some (.inr (1, bxF A B i))) (h0 : B i 7 = 0) : Ct l ω yX1_loosenFromFollower wsX1_loosenFromFollower rmX1_loosenFromFollower [.ref (A 1 i)] M (fun v M9 => v = none ∧ M9 = M) 0 0 := by
  refine Ct.ofV (cc := cX1_loosenFromFollower) (maxL := 1) (ret := none) [some (.ref (A 1 i))] (by decide) rfl (Nat.le_of_ble_eq_true rfl) rfl (Lc.av (av := [.ref (A 1 i)]) (k := 0) rfl) ?_
  intro σ F hl hr hname
  have F : Fx ω σ cX1_loosenFromFollower 1 wsX1_loosenFromFollower RX1 rmX1_loosenFromFollower := F
  refine v_aload_n F dX1_loosenFromFollower_0 rfl rfl ?_
  refine v_get F 1 9 fo_X1_loosenFromFollower_19 dX1_loosenFromFollower_1 (hb.trans (by rw [show bxF A B i = (bxF A B i).set 9 .null by simp [bxF, h0, oA, va_rf]])) rfl ?_
  refine v_ifnull_n F 20 dX1_loosenFromFollower_4 (by decide) ?_
  exact v_vret F hr dX1_loosenFromFollower_20 (Nat.le_of_ble_eq_true rfl) (Nat.le_of_ble_eq_true rfl) ⟨rfl, rfl⟩
theorem fp_X1_loosenFromFollower_15 : FP wsX1_loosenFromFollower RX1 15 1 8 (.object "Readingorder$Box") := ⟨_, _, _, tyX1, rfl, by decide, by decide +kernel, by decide +kernel, tyX1_ok, nmX1, rfl, by decide +kernel⟩
theorem fp_X1_loosenFromFollower_19 : FP wsX1_loosenFromFollower RX1 19 1 9 (.object "Readingorder$Box") := ⟨_, _, _, tyX1, rfl, by decide, by decide +kernel, by decide +kernel, tyX1_ok, nmX1, rfl, by decide +kernel⟩
set_option maxHeartbeats 4000000 in
set_option maxRecDepth 100000 in
theorem c_X1_loosenFromFollower_1 {l : Launch} {ω : Om} {M : MM} {i : Nat} {A B : FF} (hb : M (A 1 i) = some (.inr (1, bxF A B i))) {j : Nat} (hb2 : M (A 1 j) = some (.inr (1, bxF A B j))) (hne : A 1 i ≠ A 1 j) (h1 : B i 7 = j + 1) : Ct l ω yX1_loosenFromFollower wsX1_loosenFromFollower rmX1_loosenFromFollower [.ref (A 1 i)] M (fun v M9 => v = none ∧ M9 = mup (mup M (A 1 j) (.inr (1, (bxF A B j).set 8 .null))) (A 1 i) (.inr (1, (bxF A B i).set 9 .null))) 0 0 := by
  refine Ct.ofV (cc := cX1_loosenFromFollower) (maxL := 1) (ret := none) [some (.ref (A 1 i))] (by decide) rfl (Nat.le_of_ble_eq_true rfl) rfl (Lc.av (av := [.ref (A 1 i)]) (k := 0) rfl) ?_
  intro σ F hl hr hname
  have F : Fx ω σ cX1_loosenFromFollower 1 wsX1_loosenFromFollower RX1 rmX1_loosenFromFollower := F
  have hb1 : M (A 1 i) = some (.inr (1, (bxF A B i).set 9 (.ref (A 1 j)))) := hb.trans (by rw [show (bxF A B i).set 9 (.ref (A 1 j)) = bxF A B i by simp [bxF, h1, oA, va_rf]])
  refine v_aload_n F dX1_loosenFromFollower_0 rfl rfl ?_
  refine v_get F 1 9 fo_X1_loosenFromFollower_19 dX1_loosenFromFollower_1 hb1 rfl ?_
  refine v_ifnull_r F dX1_loosenFromFollower_4 ?_
  refine v_aload_n F dX1_loosenFromFollower_7 rfl rfl ?_
  refine v_get F 1 9 fo_X1_loosenFromFollower_19 dX1_loosenFromFollower_8 hb1 rfl ?_
  refine v_null F dX1_loosenFromFollower_11 ?_
  refine v_put F 1 8 fp_X1_loosenFromFollower_15 dX1_loosenFromFollower_12 hb2 rfl rfl (Nat.le_of_ble_eq_true rfl) ?_
  refine v_aload_n F dX1_loosenFromFollower_15 rfl rfl ?_
  refine v_null F dX1_loosenFromFollower_16 ?_
  refine v_put F 1 9 fp_X1_loosenFromFollower_19 dX1_loosenFromFollower_17 ((mup_n hne).trans hb) rfl rfl (Nat.le_of_ble_eq_true rfl) ?_
  exact v_vret F hr dX1_loosenFromFollower_20 (Nat.le_of_ble_eq_true rfl) (Nat.le_of_ble_eq_true rfl) ⟨rfl, rfl⟩
def rdE (ci rn len : Nat) : va_E := .inr (ci, [.ref rn, .int (nI len)])
def rowE (ω : Om) (g : Nat → Int32) : va_E := .inl (ω.2.2 0, 24, .inl g)
def setR (ω : Om) (ci : Nat) (M : MM) (r rn : Nat) (g : Nat → Int32) (len : Nat) : MM := mup (mup M r (rdE ci rn len)) rn (rowE ω g)
theorem rd_ne {M : MM} {r rn ci len : Nat} {ω : Om} {g : Nat → Int32} (h1 : M r = some (rdE ci rn len)) (h2 : M rn = some (rowE ω g)) : r ≠ rn := by
  intro h
  rw [h, h2] at h1
  cases h1
theorem setR_1 {ω : Om} {ci : Nat} {M : MM} {r rn : Nat} {g : Nat → Int32} {len : Nat} (h : r ≠ rn) : setR ω ci M r rn g len r = some (rdE ci rn len) := by
  unfold setR; rw [mup_n h, mup_s]
theorem setR_2 {ω : Om} {ci : Nat} {M : MM} {r rn : Nat} {g : Nat → Int32} {len : Nat} : setR ω ci M r rn g len rn = some (rowE ω g) := mup_s
theorem setR_n {ω : Om} {ci : Nat} {M : MM} {r rn q : Nat} {g : Nat → Int32} {len : Nat} (h1 : q ≠ r) (h2 : q ≠ rn) : setR ω ci M r rn g len q = M q := by
  unfold setR; rw [mup_n h2, mup_n h1]
theorem setR_set {ω : Om} {ci : Nat} {M : MM} {r rn : Nat} {g g' : Nat → Int32} {len len' : Nat} (h : r ≠ rn) : setR ω ci (setR ω ci M r rn g len) r rn g' len' = setR ω ci M r rn g' len' := by
  unfold setR
  rw [mup_comm (M := mup M r (rdE ci rn len)) (Ne.symm h), mup_mup, mup_mup]
theorem setR_id {ω : Om} {ci : Nat} {M : MM} {r rn : Nat} {g : Nat → Int32} {len : Nat} (h1 : M r = some (rdE ci rn len)) (h2 : M rn = some (rowE ω g)) : setR ω ci M r rn g len = M := by
  unfold setR
  rw [mup_id h1, mup_id h2]
theorem setR_len {ω : Om} {ci : Nat} {M : MM} {r rn : Nat} {g : Nat → Int32} {len len' : Nat} (h1 : M r = some (rdE ci rn len)) (h2 : M rn = some (rowE ω g)) : mup M r (rdE ci rn len') = setR ω ci M r rn g len' := by
  unfold setR
  rw [mup_id ((mup_n (Ne.symm (rd_ne h1 h2))).trans h2)]
def rmX2_put : Room := { frames := 0, cells := 0, slots := 0, locals := 0 }
theorem hd_X2_put : yX2_put.cls = (RX2, TX2, 2).1 ∧ yX2_put.cls ≠ "java/lang/invoke/MethodHandle" ∧ yX2_put.cls ≠ "java/lang/invoke/VarHandle" ∧ (parseMethodDescriptor yX2_put.desc).map (fun d => d.parameters.length) = some 1 := by decide +kernel
theorem fo_X2_put_9 : FO wsX2_put RX2 9 2 0 := ⟨_, _, _, rfl, by decide, by decide +kernel, by decide +kernel⟩
theorem fo_X2_put_15 : FO wsX2_put RX2 15 2 1 := ⟨_, _, _, rfl, by decide, by decide +kernel, by decide +kernel⟩
theorem fp_X2_put_15 : FP wsX2_put RX2 15 2 1 .int := ⟨_, _, _, tyX2, rfl, by decide, by decide +kernel, by decide +kernel, tyX2_ok, nmX2, rfl, by decide +kernel⟩
set_option maxHeartbeats 4000000 in
set_option maxRecDepth 100000 in
theorem c_X2_put {l : Launch} {ω : Om} {M : MM} {r rn len : Nat} {g : Nat → Int32} {x : Int32} (h1 : M r = some (rdE 2 rn len)) (h2 : M rn = some (rowE ω g)) (hlen : len < 24) : Ct l ω yX2_put wsX2_put rmX2_put [.ref r, .int x] M (fun v M9 => v = none ∧ M9 = setR ω 2 M r rn (upd g len x) (len + 1)) 0 0 := by
  refine Ct.ofV (cc := cX2_put) (maxL := 2) (ret := none) [some (.ref r), some (.int x)] (by decide) rfl (Nat.le_of_ble_eq_true rfl) rfl (Lc.av (av := [.ref r, .int x]) (k := 0) rfl) ?_
  intro σ F hl hr hname
  have F : Fx ω σ cX2_put 2 wsX2_put RX2 rmX2_put := F
  refine v_aload_n F dX2_put_0 rfl rfl ?_
  refine v_get F 2 1 fo_X2_put_15 dX2_put_1 h1 rfl ?_
  refine v_if_lt_n F 39 dX2_put_4 (by decide) (by first | omega | exact Nat.lt_trans (hW _ _) (by decide)) ?_
  refine v_aload_n F dX2_put_7 rfl rfl ?_
  refine v_get F 2 1 fo_X2_put_15 dX2_put_8 h1 rfl ?_
  refine v_aload_n F dX2_put_11 rfl rfl ?_
  refine v_get F 2 0 fo_X2_put_9 dX2_put_12 h1 rfl ?_
  refine v_alen F 0 dX2_put_15 h2 rfl ?_
  refine v_icmp_ge_n F 39 dX2_put_16 (by decide) (by first | omega | exact Nat.lt_trans (hW _ _) (by decide)) (by first | omega | exact Nat.lt_trans (hW _ _) (by decide)) (fun c16 => ?_) (fun c16 => ?_)
  · exact absurd c16 (by omega)
  · refine v_aload_n F dX2_put_19 rfl rfl ?_
    refine v_get F 2 0 fo_X2_put_9 dX2_put_20 h1 rfl ?_
    refine v_aload_n F dX2_put_23 rfl rfl ?_
    refine v_get F 2 1 fo_X2_put_15 dX2_put_24 h1 rfl ?_
    refine v_iload_n F dX2_put_27 rfl ?_
    refine v_iast_n F dX2_put_28 h2 (by first | omega | exact Nat.lt_trans (hW _ _) (by decide)) (by decide) ?_
    have h1a : mup M rn (.inl (ω.2.2 0, 24, .inl (upd g len x))) r = some (rdE 2 rn len) := (mup_n (rd_ne h1 h2)).trans h1
    refine v_aload_n F dX2_put_29 rfl rfl ?_
    refine v_dup F dX2_put_30 rfl ?_
    refine v_get F 2 1 fo_X2_put_15 dX2_put_31 h1a rfl ?_
    refine v_iconst (v := nI 1) F dX2_put_34 (by decide) ?_
    refine v_iadd_n F dX2_put_35 ?_
    refine v_put F 2 1 fp_X2_put_15 dX2_put_36 h1a rfl rfl (Nat.le_of_ble_eq_true rfl) ?_
    exact v_vret F hr dX2_put_39 (Nat.le_of_ble_eq_true rfl) (Nat.le_of_ble_eq_true rfl) ⟨rfl, mup_comm (Ne.symm (rd_ne h1 h2))⟩
def rmX3_add : Room := { frames := 0, cells := 0, slots := 0, locals := 0 }
theorem hd_X3_add : yX3_add.cls = (RX3, TX3, 2).1 ∧ yX3_add.cls ≠ "java/lang/invoke/MethodHandle" ∧ yX3_add.cls ≠ "java/lang/invoke/VarHandle" ∧ (parseMethodDescriptor yX3_add.desc).map (fun d => d.parameters.length) = some 1 := by decide +kernel
theorem fo_X3_add_9 : FO wsX3_add RX3 9 3 0 := ⟨_, _, _, rfl, by decide, by decide +kernel, by decide +kernel⟩
theorem fo_X3_add_15 : FO wsX3_add RX3 15 3 1 := ⟨_, _, _, rfl, by decide, by decide +kernel, by decide +kernel⟩
theorem fp_X3_add_15 : FP wsX3_add RX3 15 3 1 .int := ⟨_, _, _, tyX3, rfl, by decide, by decide +kernel, by decide +kernel, tyX3_ok, nmX3, rfl, by decide +kernel⟩
set_option maxHeartbeats 4000000 in
set_option maxRecDepth 100000 in
theorem c_X3_add {l : Launch} {ω : Om} {M : MM} {r rn len : Nat} {g : Nat → Int32} {x : Int32} (h1 : M r = some (rdE 3 rn len)) (h2 : M rn = some (rowE ω g)) (hlen : len < 24) : Ct l ω yX3_add wsX3_add rmX3_add [.ref r, .int x] M (fun v M9 => v = none ∧ M9 = setR ω 3 M r rn (upd g len x) (len + 1)) 0 0 := by
  refine Ct.ofV (cc := cX3_add) (maxL := 2) (ret := none) [some (.ref r), some (.int x)] (by decide) rfl (Nat.le_of_ble_eq_true rfl) rfl (Lc.av (av := [.ref r, .int x]) (k := 0) rfl) ?_
  intro σ F hl hr hname
  have F : Fx ω σ cX3_add 2 wsX3_add RX3 rmX3_add := F
  refine v_aload_n F dX3_add_0 rfl rfl ?_
  refine v_get F 3 1 fo_X3_add_15 dX3_add_1 h1 rfl ?_
  refine v_if_lt_n F 39 dX3_add_4 (by decide) (by first | omega | exact Nat.lt_trans (hW _ _) (by decide)) ?_
  refine v_aload_n F dX3_add_7 rfl rfl ?_
  refine v_get F 3 1 fo_X3_add_15 dX3_add_8 h1 rfl ?_
  refine v_aload_n F dX3_add_11 rfl rfl ?_
  refine v_get F 3 0 fo_X3_add_9 dX3_add_12 h1 rfl ?_
  refine v_alen F 0 dX3_add_15 h2 rfl ?_
  refine v_icmp_ge_n F 39 dX3_add_16 (by decide) (by first | omega | exact Nat.lt_trans (hW _ _) (by decide)) (by first | omega | exact Nat.lt_trans (hW _ _) (by decide)) (fun c16 => ?_) (fun c16 => ?_)
  · exact absurd c16 (by omega)
  · refine v_aload_n F dX3_add_19 rfl rfl ?_
    refine v_get F 3 0 fo_X3_add_9 dX3_add_20 h1 rfl ?_
    refine v_aload_n F dX3_add_23 rfl rfl ?_
    refine v_get F 3 1 fo_X3_add_15 dX3_add_24 h1 rfl ?_
    refine v_iload_n F dX3_add_27 rfl ?_
    refine v_iast_n F dX3_add_28 h2 (by first | omega | exact Nat.lt_trans (hW _ _) (by decide)) (by decide) ?_
    have h1a : mup M rn (.inl (ω.2.2 0, 24, .inl (upd g len x))) r = some (rdE 3 rn len) := (mup_n (rd_ne h1 h2)).trans h1
    refine v_aload_n F dX3_add_29 rfl rfl ?_
    refine v_dup F dX3_add_30 rfl ?_
    refine v_get F 3 1 fo_X3_add_15 dX3_add_31 h1a rfl ?_
    refine v_iconst (v := nI 1) F dX3_add_34 (by decide) ?_
    refine v_iadd_n F dX3_add_35 ?_
    refine v_put F 3 1 fp_X3_add_15 dX3_add_36 h1a rfl rfl (Nat.le_of_ble_eq_true rfl) ?_
    exact v_vret F hr dX3_add_39 (Nat.le_of_ble_eq_true rfl) (Nat.le_of_ble_eq_true rfl) ⟨rfl, mup_comm (Ne.symm (rd_ne h1 h2))⟩
def rmX2_take : Room := { frames := 0, cells := 0, slots := 0, locals := 0 }
theorem hd_X2_take : yX2_take.cls = (RX2, TX2, 2).1 ∧ yX2_take.cls ≠ "java/lang/invoke/MethodHandle" ∧ yX2_take.cls ≠ "java/lang/invoke/VarHandle" ∧ (parseMethodDescriptor yX2_take.desc).map (fun d => d.parameters.length) = some 0 := by decide +kernel
theorem fo_X2_take_9 : FO wsX2_take RX2 9 2 0 := ⟨_, _, _, rfl, by decide, by decide +kernel, by decide +kernel⟩
theorem fo_X2_take_15 : FO wsX2_take RX2 15 2 1 := ⟨_, _, _, rfl, by decide, by decide +kernel, by decide +kernel⟩
theorem fp_X2_take_15 : FP wsX2_take RX2 15 2 1 .int := ⟨_, _, _, tyX2, rfl, by decide, by decide +kernel, by decide +kernel, tyX2_ok, nmX2, rfl, by decide +kernel⟩
set_option maxHeartbeats 4000000 in
set_option maxRecDepth 100000 in
theorem c_X2_take {l : Launch} {ω : Om} {M : MM} {r rn len : Nat} {g : Nat → Int32} (h1 : M r = some (rdE 2 rn (len + 1))) (h2 : M rn = some (rowE ω g)) (hlen : len < 24) : Ct l ω yX2_take wsX2_take rmX2_take [.ref r] M (fun v M9 => v = some (.int (g len)) ∧ M9 = mup M r (rdE 2 rn len)) 0 0 := by
  refine Ct.ofV (cc := cX2_take) (maxL := 2) (ret := (some .int)) [some (.ref r), none] (by decide) rfl (Nat.le_of_ble_eq_true rfl) rfl (Lc.av (av := [.ref r]) (k := 1) rfl) ?_
  intro σ F hl hr hname
  have F : Fx ω σ cX2_take 2 wsX2_take RX2 rmX2_take := F
  refine v_aload_n F dX2_take_0 rfl rfl ?_
  refine v_get F 2 1 fo_X2_take_15 dX2_take_1 h1 rfl ?_
  refine v_iconst (v := nI 1) F dX2_take_4 (by decide) ?_
  refine v_isub_n F dX2_take_5 (by omega) ?_
  refine V.toI ((by rw [Nat.add_sub_cancel])) ?_
  refine v_istore_n F dX2_take_6 (Nat.le_of_ble_eq_true rfl) (ok2_d rfl) ?_
  refine v_iload_n F dX2_take_7 rfl ?_
  refine v_if_lt_n F 20 dX2_take_8 (by decide) (by first | omega | exact Nat.lt_trans (hW _ _) (by decide)) ?_
  refine v_iload_n F dX2_take_11 rfl ?_
  refine v_aload_n F dX2_take_12 rfl rfl ?_
  refine v_get F 2 0 fo_X2_take_9 dX2_take_13 h1 rfl ?_
  refine v_alen F 0 dX2_take_16 h2 rfl ?_
  refine v_icmp_lt_n F 22 dX2_take_17 (by decide) (by first | omega | exact Nat.lt_trans (hW _ _) (by decide)) (by first | omega | exact Nat.lt_trans (hW _ _) (by decide)) (fun c17 => ?_) (fun c17 => ?_)
  · refine v_aload_n F dX2_take_22 rfl rfl ?_
    refine v_iload_n F dX2_take_23 rfl ?_
    refine v_put F 2 1 fp_X2_take_15 dX2_take_24 h1 rfl rfl (Nat.le_of_ble_eq_true rfl) ?_
    refine v_aload_n F dX2_take_27 rfl rfl ?_
    refine v_get F 2 0 fo_X2_take_9 dX2_take_28 mup_s rfl ?_
    refine v_iload_n F dX2_take_31 rfl ?_
    refine v_iald_n F dX2_take_32 ((mup_n (Ne.symm (rd_ne h1 h2))).trans h2) (by first | omega | exact Nat.lt_trans (hW _ _) (by decide)) (by decide) ?_
    exact v_iret F hr dX2_take_33 (Nat.le_of_ble_eq_true rfl) (Nat.le_of_ble_eq_true rfl) ⟨rfl, rfl⟩
  · exact absurd hlen c17
def rmX3_at : Room := { frames := 0, cells := 0, slots := 0, locals := 0 }
theorem hd_X3_at : yX3_at.cls = (RX3, TX3, 2).1 ∧ yX3_at.cls ≠ "java/lang/invoke/MethodHandle" ∧ yX3_at.cls ≠ "java/lang/invoke/VarHandle" ∧ (parseMethodDescriptor yX3_at.desc).map (fun d => d.parameters.length) = some 1 := by decide +kernel
theorem fo_X3_at_9 : FO wsX3_at RX3 9 3 0 := ⟨_, _, _, rfl, by decide, by decide +kernel, by decide +kernel⟩
theorem fo_X3_at_15 : FO wsX3_at RX3 15 3 1 := ⟨_, _, _, rfl, by decide, by decide +kernel, by decide +kernel⟩
set_option maxHeartbeats 4000000 in
set_option maxRecDepth 100000 in
theorem c_X3_at_in {l : Launch} {ω : Om} {M : MM} {r rn len j : Nat} {g : Nat → Int32} (h1 : M r = some (rdE 3 rn len)) (h2 : M rn = some (rowE ω g)) (hlen : len ≤ 24) (hj : j < len) : Ct l ω yX3_at wsX3_at rmX3_at [.ref r, .int (nI j)] M (fun v M9 => v = some (.int (g j)) ∧ M9 = M) 0 0 := by
  refine Ct.ofV (cc := cX3_at) (maxL := 2) (ret := (some .int)) [some (.ref r), some (.int (nI j))] (by decide) rfl (Nat.le_of_ble_eq_true rfl) rfl (Lc.av (av := [.ref r, .int (nI j)]) (k := 0) rfl) ?_
  intro σ F hl hr hname
  have F : Fx ω σ cX3_at 2 wsX3_at RX3 rmX3_at := F
  refine v_iload_n F dX3_at_0 rfl ?_
  refine v_if_lt_n F 30 dX3_at_1 (by decide) (by first | omega | exact Nat.lt_trans (hW _ _) (by decide)) ?_
  refine v_iload_n F dX3_at_4 rfl ?_
  refine v_aload_n F dX3_at_5 rfl rfl ?_
  refine v_get F 3 1 fo_X3_at_15 dX3_at_6 h1 rfl ?_
  refine v_icmp_ge_n F 30 dX3_at_9 (by decide) (by first | omega | exact Nat.lt_trans (hW _ _) (by decide)) (by first | omega | exact Nat.lt_trans (hW _ _) (by decide)) (fun c9 => ?_) (fun c9 => ?_)
  · exact absurd c9 (by omega)
  · refine v_iload_n F dX3_at_12 rfl ?_
    refine v_aload_n F dX3_at_13 rfl rfl ?_
    refine v_get F 3 0 fo_X3_at_9 dX3_at_14 h1 rfl ?_
    refine v_alen F 0 dX3_at_17 h2 rfl ?_
    refine v_icmp_ge_n F 30 dX3_at_18 (by decide) (by first | omega | exact Nat.lt_trans (hW _ _) (by decide)) (by first | omega | exact Nat.lt_trans (hW _ _) (by decide)) (fun c18 => ?_) (fun c18 => ?_)
    · exact absurd c18 (by omega)
    · refine v_aload_n F dX3_at_21 rfl rfl ?_
      refine v_get F 3 0 fo_X3_at_9 dX3_at_22 h1 rfl ?_
      refine v_iload_n F dX3_at_25 rfl ?_
      refine v_iald_n F dX3_at_26 h2 (by first | omega | exact Nat.lt_trans (hW _ _) (by decide)) (by decide) ?_
      refine v_goto F 31 dX3_at_27 (by decide) ?_
      exact v_iret F hr dX3_at_31 (Nat.le_of_ble_eq_true rfl) (Nat.le_of_ble_eq_true rfl) ⟨rfl, rfl⟩
set_option maxHeartbeats 4000000 in
set_option maxRecDepth 100000 in
theorem c_X3_at_out {l : Launch} {ω : Om} {M : MM} {r rn len : Nat} {x : Int32} {g : Nat → Int32} (h1 : M r = some (rdE 3 rn len)) (h2 : M rn = some (rowE ω g)) (hx : x < 0 ∨ nI len ≤ x) : Ct l ω yX3_at wsX3_at rmX3_at [.ref r, .int x] M (fun v M9 => v = some (.int (-1)) ∧ M9 = M) 0 0 := by
  refine Ct.ofV (cc := cX3_at) (maxL := 2) (ret := (some .int)) [some (.ref r), some (.int x)] (by decide) rfl (Nat.le_of_ble_eq_true rfl) rfl (Lc.av (av := [.ref r, .int x]) (k := 0) rfl) ?_
  intro σ F hl hr hname
  have F : Fx ω σ cX3_at 2 wsX3_at RX3 rmX3_at := F
  refine v_iload_n F dX3_at_0 rfl ?_
  refine v_if_lt F 30 dX3_at_1 (by decide) (fun c1 => ?_) (fun c1 => ?_)
  · refine v_iconst (v := (-1)) F dX3_at_30 (by decide) ?_
    exact v_iret F hr dX3_at_31 (Nat.le_of_ble_eq_true rfl) (Nat.le_of_ble_eq_true rfl) ⟨rfl, rfl⟩
  · refine v_iload_n F dX3_at_4 rfl ?_
    refine v_aload_n F dX3_at_5 rfl rfl ?_
    refine v_get F 3 1 fo_X3_at_15 dX3_at_6 h1 rfl ?_
    refine v_icmp_ge F 30 dX3_at_9 (by decide) (fun c9 => ?_) (fun c9 => ?_)
    · refine v_iconst (v := (-1)) F dX3_at_30 (by decide) ?_
      exact v_iret F hr dX3_at_31 (Nat.le_of_ble_eq_true rfl) (Nat.le_of_ble_eq_true rfl) ⟨rfl, rfl⟩
    · exact absurd hx (by rintro (h | h); exact c1 h; exact c9 h)
def rmX3_placeFor : Room := { frames := 1, cells := 0, slots := 0, locals := 21 }
theorem hd_X3_placeFor : yX3_placeFor.cls = (RX3, TX3, 2).1 ∧ yX3_placeFor.cls ≠ "java/lang/invoke/MethodHandle" ∧ yX3_placeFor.cls ≠ "java/lang/invoke/VarHandle" ∧ (parseMethodDescriptor yX3_placeFor.desc).map (fun d => d.parameters.length) = some 1 := by decide +kernel
theorem fo_X3_placeFor_15 : FO wsX3_placeFor RX3 15 3 1 := ⟨_, _, _, rfl, by decide, by decide +kernel, by decide +kernel⟩
set_option maxHeartbeats 4000000 in
set_option maxRecDepth 100000 in
theorem c_X3_placeFor {l : Launch} {ω : Om} {M : MM} {r rn len x : Nat} {g : Nat → Int32} {o : Nat → Nat} (h1 : M r = some (rdE 3 rn len)) (h2 : M rn = some (rowE ω g)) (hlen : len ≤ 24) (hg : ∀ i, i < len → g i = nI (o i)) (ho : ∀ i, i < len → o i < 128) (hx : x < 128) : Ct l ω yX3_placeFor wsX3_placeFor rmX3_placeFor [.ref r, .int (nI x)] M (fun v M9 => ((∃ j, j < len ∧ o j = x ∧ (∀ i, i < j → o i ≠ x) ∧ v = some (.int (nI j))) ∨ ((∀ i, i < len → o i ≠ x) ∧ v = some (.int (-1)))) ∧ M9 = M) 0 0 := by
  refine Ct.ofV (cc := cX3_placeFor) (maxL := 3) (ret := (some .int)) [some (.ref r), some (.int (nI x)), none] (by decide) rfl (Nat.le_of_ble_eq_true rfl) rfl (Lc.av (av := [.ref r, .int (nI x)]) (k := 1) rfl) ?_
  intro σ F hl hr hname
  have F : Fx ω σ cX3_placeFor 3 wsX3_placeFor RX3 rmX3_placeFor := F
  refine v_iconst (v := nI 0) F dX3_placeFor_0 (by decide) ?_
  refine v_istore_n F dX3_placeFor_1 (Nat.le_of_ble_eq_true rfl) (ok2_d rfl) ?_
  have lp : ∀ i, i ≤ len → (∀ q, q < i → o q ≠ x) → V ω σ M [some (.ref r), some (.int (nI x)), some (.int (nI i))] 0 0 (BQ ω σ (fun v M9 => ((∃ j, j < len ∧ o j = x ∧ (∀ i, i < j → o i ≠ x) ∧ v = some (.int (nI j))) ∨ ((∀ i, i < len → o i ≠ x) ∧ v = some (.int (-1)))) ∧ M9 = M) 0 0) 2 [] := by
    refine loop_up len _ (fun i hi ih => ?_)
    intro hq
    refine v_iload_n F dX3_placeFor_2 rfl ?_
    refine v_aload_n F dX3_placeFor_3 rfl rfl ?_
    refine v_get F 3 1 fo_X3_placeFor_15 dX3_placeFor_4 h1 rfl ?_
    refine v_icmp_ge_n F 27 dX3_placeFor_7 (by decide) (by first | omega | exact Nat.lt_trans (ho _ (by omega)) (by decide)) (by first | omega | exact Nat.lt_trans (ho _ (by omega)) (by decide)) (fun c7 => ?_) (fun c7 => ?_)
    · refine v_iconst (v := (-1)) F dX3_placeFor_27 (by decide) ?_
      exact v_iret F hr dX3_placeFor_28 (Nat.le_of_ble_eq_true rfl) (Nat.le_of_ble_eq_true rfl) ⟨Or.inr ⟨fun q hq2 => hq q (by omega), rfl⟩, rfl⟩
    · refine v_aload_n F dX3_placeFor_10 rfl rfl ?_
      refine v_iload_n F dX3_placeFor_11 rfl ?_
      refine v_callV F 1 [_] rfl rfl rfl (c_X3_at_in h1 h2 hlen (by omega)) gX3_placeFor_X3_at rfl hd_X3_at ⟨⟨rfl, rfl⟩, ⟨(Nat.le_of_ble_eq_true rfl), (Nat.le_of_ble_eq_true rfl)⟩, ⟨(Nat.le_of_ble_eq_true rfl), (Nat.le_of_ble_eq_true rfl)⟩, (Nat.le_of_ble_eq_true rfl)⟩ h1 rfl dX3_placeFor_12 (fun v12 M12 q12 => ?_)
      obtain ⟨rfl, rfl⟩ := q12
      refine V.toI (hg i (by omega)) ?_
      refine v_iload_n F dX3_placeFor_15 rfl ?_
      refine v_icmp_ne_n F 21 dX3_placeFor_16 (by decide) (by first | omega | exact Nat.lt_trans (ho _ (by omega)) (by decide)) (by first | omega | exact Nat.lt_trans (ho _ (by omega)) (by decide)) (fun c16 => ?_) (fun c16 => ?_)
      · refine v_iinc1 F dX3_placeFor_21 rfl (ok2_d rfl) ?_
        refine v_goto F 2 dX3_placeFor_24 (by decide) ?_
        exact ih (by omega) (fun q hq2 => by rcases Nat.lt_or_ge q i with h | h; exact hq q h; rw [show q = i by omega]; exact c16)
      · refine v_iload_n F dX3_placeFor_19 rfl ?_
        exact v_iret F hr dX3_placeFor_20 (Nat.le_of_ble_eq_true rfl) (Nat.le_of_ble_eq_true rfl) ⟨Or.inl ⟨i, by omega, c16, hq, rfl⟩, rfl⟩
  exact lp 0 (Nat.zero_le _) (fun q h => absurd h (Nat.not_lt_zero _))
def rmX3_isSameAs : Room := { frames := 1, cells := 0, slots := 0, locals := 21 }
theorem hd_X3_isSameAs : yX3_isSameAs.cls = (RX3, TX3, 2).1 ∧ yX3_isSameAs.cls ≠ "java/lang/invoke/MethodHandle" ∧ yX3_isSameAs.cls ≠ "java/lang/invoke/VarHandle" ∧ (parseMethodDescriptor yX3_isSameAs.desc).map (fun d => d.parameters.length) = some 1 := by decide +kernel
theorem fo_X3_isSameAs_15 : FO wsX3_isSameAs RX3 15 3 1 := ⟨_, _, _, rfl, by decide, by decide +kernel, by decide +kernel⟩
set_option maxHeartbeats 4000000 in
set_option maxRecDepth 100000 in
theorem c_X3_isSameAs {l : Launch} {ω : Om} {M : MM} {r rn len r2 rn2 len2 : Nat} {g g2 : Nat → Int32} {o o2 : Nat → Nat} (h1 : M r = some (rdE 3 rn len)) (h2 : M rn = some (rowE ω g)) (hlen : len ≤ 24) (k1 : M r2 = some (rdE 3 rn2 len2)) (k2 : M rn2 = some (rowE ω g2)) (klen : len2 ≤ 24) (hg : ∀ i, i < len → g i = nI (o i)) (ho : ∀ i, i < len → o i < 128) (kg : ∀ i, i < len2 → g2 i = nI (o2 i)) (ko : ∀ i, i < len2 → o2 i < 128) : Ct l ω yX3_isSameAs wsX3_isSameAs rmX3_isSameAs [.ref r, .ref r2] M (fun v M9 => (∃ b9 : Bool, v = some (.int (bI b9)) ∧ (b9 = true ↔ len = len2 ∧ ∀ i, i < len → o i = o2 i)) ∧ M9 = M) 0 0 := by
  refine Ct.ofV (cc := cX3_isSameAs) (maxL := 3) (ret := (some .boolean)) [some (.ref r), some (.ref r2), none] (by decide) rfl (Nat.le_of_ble_eq_true rfl) rfl (Lc.av (av := [.ref r, .ref r2]) (k := 1) rfl) ?_
  intro σ F hl hr hname
  have F : Fx ω σ cX3_isSameAs 3 wsX3_isSameAs RX3 rmX3_isSameAs := F
  refine v_aload_n F dX3_isSameAs_0 rfl rfl ?_
  refine v_get F 3 1 fo_X3_isSameAs_15 dX3_isSameAs_1 h1 rfl ?_
  refine v_aload_n F dX3_isSameAs_4 rfl rfl ?_
  refine v_get F 3 1 fo_X3_isSameAs_15 dX3_isSameAs_5 k1 rfl ?_
  refine v_icmp_eq_n F 13 dX3_isSameAs_8 (by decide) (by first | omega | exact Nat.lt_trans (ho _ (by omega)) (by decide) | exact Nat.lt_trans (ko _ (by omega)) (by decide)) (by first | omega | exact Nat.lt_trans (ho _ (by omega)) (by decide) | exact Nat.lt_trans (ko _ (by omega)) (by decide)) (fun c8 => ?_) (fun c8 => ?_)
  · refine v_iconst (v := nI 0) F dX3_isSameAs_13 (by decide) ?_
    refine v_istore_n F dX3_isSameAs_14 (Nat.le_of_ble_eq_true rfl) (ok2_d rfl) ?_
    have lp : ∀ i, i ≤ len → (∀ q, q < i → o q = o2 q) → V ω σ M [some (.ref r), some (.ref r2), some (.int (nI i))] 0 0 (BQ ω σ (fun v M9 => (∃ b9 : Bool, v = some (.int (bI b9)) ∧ (b9 = true ↔ len = len2 ∧ ∀ i, i < len → o i = o2 i)) ∧ M9 = M) 0 0) 15 [] := by
      refine loop_up len _ (fun i hi ih => ?_)
      intro hq
      refine v_iload_n F dX3_isSameAs_15 rfl ?_
      refine v_aload_n F dX3_isSameAs_16 rfl rfl ?_
      refine v_get F 3 1 fo_X3_isSameAs_15 dX3_isSameAs_17 h1 rfl ?_
      refine v_icmp_ge_n F 44 dX3_isSameAs_20 (by decide) (by first | omega | exact Nat.lt_trans (ho _ (by omega)) (by decide) | exact Nat.lt_trans (ko _ (by omega)) (by decide)) (by first | omega | exact Nat.lt_trans (ho _ (by omega)) (by decide) | exact Nat.lt_trans (ko _ (by omega)) (by decide)) (fun c20 => ?_) (fun c20 => ?_)
      · refine v_iconst (v := nI 1) F dX3_isSameAs_44 (by decide) ?_
        exact v_zret F hr dX3_isSameAs_45 rfl (Nat.le_of_ble_eq_true rfl) (Nat.le_of_ble_eq_true rfl) ⟨⟨true, rfl, by simp only [true_iff]; exact ⟨c8, fun q hq2 => hq q (by omega)⟩⟩, rfl⟩
      · refine v_aload_n F dX3_isSameAs_23 rfl rfl ?_
        refine v_iload_n F dX3_isSameAs_24 rfl ?_
        refine v_callV F 1 [_] rfl rfl rfl (c_X3_at_in h1 h2 hlen (by omega)) gX3_isSameAs_X3_at rfl hd_X3_at ⟨⟨rfl, rfl⟩, ⟨(Nat.le_of_ble_eq_true rfl), (Nat.le_of_ble_eq_true rfl)⟩, ⟨(Nat.le_of_ble_eq_true rfl), (Nat.le_of_ble_eq_true rfl)⟩, (Nat.le_of_ble_eq_true rfl)⟩ h1 rfl dX3_isSameAs_25 (fun v25 M25 q25 => ?_)
        obtain ⟨rfl, rfl⟩ := q25
        refine V.toI (hg i (by omega)) ?_
        refine v_aload_n F dX3_isSameAs_28 rfl rfl ?_
        refine v_iload_n F dX3_isSameAs_29 rfl ?_
        refine v_callV F 1 [_] rfl rfl rfl (c_X3_at_in k1 k2 klen (by omega)) gX3_isSameAs_X3_at rfl hd_X3_at ⟨⟨rfl, rfl⟩, ⟨(Nat.le_of_ble_eq_true rfl), (Nat.le_of_ble_eq_true rfl)⟩, ⟨(Nat.le_of_ble_eq_true rfl), (Nat.le_of_ble_eq_true rfl)⟩, (Nat.le_of_ble_eq_true rfl)⟩ k1 rfl dX3_isSameAs_30 (fun v30 M30 q30 => ?_)
        obtain ⟨rfl, rfl⟩ := q30
        refine V.toI (kg i (by omega)) ?_
        refine v_icmp_eq_n F 38 dX3_isSameAs_33 (by decide) (by first | omega | exact Nat.lt_trans (ho _ (by omega)) (by decide) | exact Nat.lt_trans (ko _ (by omega)) (by decide)) (by first | omega | exact Nat.lt_trans (ho _ (by omega)) (by decide) | exact Nat.lt_trans (ko _ (by omega)) (by decide)) (fun c33 => ?_) (fun c33 => ?_)
        · refine v_iinc1 F dX3_isSameAs_38 rfl (ok2_d rfl) ?_
          refine v_goto F 15 dX3_isSameAs_41 (by decide) ?_
          exact ih (by omega) (fun q hq2 => by rcases Nat.lt_or_ge q i with h | h; exact hq q h; rw [show q = i by omega]; exact c33)
        · refine v_iconst (v := nI 0) F dX3_isSameAs_36 (by decide) ?_
          exact v_zret F hr dX3_isSameAs_37 rfl (Nat.le_of_ble_eq_true rfl) (Nat.le_of_ble_eq_true rfl) ⟨⟨false, rfl, by simp only [Bool.false_eq_true, false_iff]; exact fun h => c33 (h.2 i (by omega))⟩, rfl⟩
    exact lp 0 (Nat.zero_le _) (fun q h => absurd h (Nat.not_lt_zero _))
  · refine v_iconst (v := nI 0) F dX3_isSameAs_11 (by decide) ?_
    exact v_zret F hr dX3_isSameAs_12 rfl (Nat.le_of_ble_eq_true rfl) (Nat.le_of_ble_eq_true rfl) ⟨⟨false, rfl, by simp only [Bool.false_eq_true, false_iff]; exact fun h => c8 h.1⟩, rfl⟩
def rmX3_become : Room := { frames := 1, cells := 0, slots := 0, locals := 21 }
theorem hd_X3_become : yX3_become.cls = (RX3, TX3, 2).1 ∧ yX3_become.cls ≠ "java/lang/invoke/MethodHandle" ∧ yX3_become.cls ≠ "java/lang/invoke/VarHandle" ∧ (parseMethodDescriptor yX3_become.desc).map (fun d => d.parameters.length) = some 1 := by decide +kernel
theorem fo_X3_become_15 : FO wsX3_become RX3 15 3 1 := ⟨_, _, _, rfl, by decide, by decide +kernel, by decide +kernel⟩
theorem fp_X3_become_15 : FP wsX3_become RX3 15 3 1 .int := ⟨_, _, _, tyX3, rfl, by decide, by decide +kernel, by decide +kernel, tyX3_ok, nmX3, rfl, by decide +kernel⟩
set_option maxHeartbeats 4000000 in
set_option maxRecDepth 100000 in
theorem c_X3_become {l : Launch} {ω : Om} {M : MM} {r rn len r2 rn2 len2 : Nat} {g g2 : Nat → Int32} (h1 : M r = some (rdE 3 rn len)) (h2 : M rn = some (rowE ω g)) (k1 : M r2 = some (rdE 3 rn2 len2)) (k2 : M rn2 = some (rowE ω g2)) (klen : len2 ≤ 24) (hne : r2 ≠ r) (hne2 : rn2 ≠ rn) : Ct l ω yX3_become wsX3_become rmX3_become [.ref r, .ref r2] M (fun v M9 => v = none ∧ ∃ g9, M9 = setR ω 3 M r rn g9 len2 ∧ ∀ i, i < len2 → g9 i = g2 i) 0 0 := by
  refine Ct.ofV (cc := cX3_become) (maxL := 3) (ret := none) [some (.ref r), some (.ref r2), none] (by decide) rfl (Nat.le_of_ble_eq_true rfl) rfl (Lc.av (av := [.ref r, .ref r2]) (k := 1) rfl) ?_
  intro σ F hl hr hname
  have F : Fx ω σ cX3_become 3 wsX3_become RX3 rmX3_become := F
  have hx := rd_ne h1 h2
  have ex : r2 ≠ rn := fun h => by rw [h, h2] at k1; cases k1
  have ey : rn2 ≠ r := fun h => by rw [h, h1] at k2; cases k2
  refine v_aload_n F dX3_become_0 rfl rfl ?_
  refine v_iconst (v := nI 0) F dX3_become_1 (by decide) ?_
  refine v_put F 3 1 fp_X3_become_15 dX3_become_2 h1 rfl rfl (Nat.le_of_ble_eq_true rfl) ?_
  rw [show mup M r (.inr (3, [Value.ref rn, Value.int (nI len)].set 1 (Value.int (nI 0)))) = setR ω 3 M r rn g 0 from setR_len h1 h2]
  refine v_iconst (v := nI 0) F dX3_become_5 (by decide) ?_
  refine v_istore_n F dX3_become_6 (Nat.le_of_ble_eq_true rfl) (ok2_d rfl) ?_
  have lp : ∀ i, i ≤ len2 → ∀ g1, (∀ q, q < i → g1 q = g2 q) → V ω σ (setR ω 3 M r rn g1 i) [some (.ref r), some (.ref r2), some (.int (nI i))] 0 0 (BQ ω σ (fun v M9 => v = none ∧ ∃ g9, M9 = setR ω 3 M r rn g9 len2 ∧ ∀ i, i < len2 → g9 i = g2 i) 0 0) 7 [] := by
    refine loop_up len2 _ (fun i hi ih => ?_)
    intro g1 hq
    have s1 : setR ω 3 M r rn g1 i r2 = some (rdE 3 rn2 len2) := (setR_n hne ex).trans k1
    have s2 : setR ω 3 M r rn g1 i rn2 = some (rowE ω g2) := (setR_n ey hne2).trans k2
    refine v_iload_n F dX3_become_7 rfl ?_
    refine v_aload_n F dX3_become_8 rfl rfl ?_
    refine v_get F 3 1 fo_X3_become_15 dX3_become_9 s1 rfl ?_
    refine v_icmp_ge_n F 30 dX3_become_12 (by decide) (by first | omega | exact Nat.lt_trans (hW _ _) (by decide)) (by first | omega | exact Nat.lt_trans (hW _ _) (by decide)) (fun c12 => ?_) (fun c12 => ?_)
    · exact v_vret F hr dX3_become_30 (Nat.le_of_ble_eq_true rfl) (Nat.le_of_ble_eq_true rfl) ⟨rfl, g1, by rw [show len2 = i by omega], fun q hq2 => hq q (by omega)⟩
    · refine v_aload_n F dX3_become_15 rfl rfl ?_
      refine v_aload_n F dX3_become_16 rfl rfl ?_
      refine v_iload_n F dX3_become_17 rfl ?_
      refine v_callV F 1 [_] rfl rfl rfl (c_X3_at_in s1 s2 klen (by omega)) gX3_become_X3_at rfl hd_X3_at ⟨⟨rfl, rfl⟩, ⟨(Nat.le_of_ble_eq_true rfl), (Nat.le_of_ble_eq_true rfl)⟩, ⟨(Nat.le_of_ble_eq_true rfl), (Nat.le_of_ble_eq_true rfl)⟩, (Nat.le_of_ble_eq_true rfl)⟩ s1 rfl dX3_become_18 (fun v18 M18 q18 => ?_)
      obtain ⟨rfl, rfl⟩ := q18
      refine v_callV F 1 [_] rfl rfl rfl (c_X3_add (setR_1 hx) setR_2 (by omega)) gX3_become_X3_add rfl hd_X3_add ⟨⟨rfl, rfl⟩, ⟨(Nat.le_of_ble_eq_true rfl), (Nat.le_of_ble_eq_true rfl)⟩, ⟨(Nat.le_of_ble_eq_true rfl), (Nat.le_of_ble_eq_true rfl)⟩, (Nat.le_of_ble_eq_true rfl)⟩ (setR_1 hx) rfl dX3_become_21 (fun v21 M21 q21 => ?_)
      obtain ⟨rfl, rfl⟩ := q21
      rw [setR_set hx]
      refine v_iinc1 F dX3_become_24 rfl (ok2_d rfl) ?_
      refine v_goto F 7 dX3_become_27 (by decide) ?_
      exact ih (by omega) _ (fun q hq2 => by rcases Nat.lt_or_ge q i with h | h; rw [pk_un (by omega)]; exact hq q h; rw [show q = i by omega, pk_us])
  exact lp 0 (Nat.zero_le _) _ (fun q h => absurd h (Nat.not_lt_zero _))
end
section
theorem dX4_init_0 : decode cX4_init 0 = .ok (.aload_n 0, 1) := by decide +kernel
theorem dX4_init_1 : decode cX4_init 1 = .ok (.invokespecial 1, 3) := by decide +kernel
theorem dX4_init_4 : decode cX4_init 4 = .ok (.aload_n 0, 1) := by decide +kernel
theorem dX4_init_5 : decode cX4_init 5 = .ok (.bipush 24, 2) := by decide +kernel
theorem dX4_init_7 : decode cX4_init 7 = .ok (.anewarray 9, 3) := by decide +kernel
theorem dX4_init_10 : decode cX4_init 10 = .ok (.putfield 11, 3) := by decide +kernel
theorem dX4_init_13 : decode cX4_init 13 = .ok (.aload_n 0, 1) := by decide +kernel
theorem dX4_init_14 : decode cX4_init 14 = .ok (.iconst 0, 1) := by decide +kernel
theorem dX4_init_15 : decode cX4_init 15 = .ok (.putfield 15, 3) := by decide +kernel
theorem dX4_init_18 : decode cX4_init 18 = .ok (.aload_n 0, 1) := by decide +kernel
theorem dX4_init_19 : decode cX4_init 19 = .ok (.iconst 5, 1) := by decide +kernel
theorem dX4_init_20 : decode cX4_init 20 = .ok (.anewarray 19, 3) := by decide +kernel
theorem dX4_init_23 : decode cX4_init 23 = .ok (.putfield 21, 3) := by decide +kernel
theorem dX4_init_26 : decode cX4_init 26 = .ok (.aload_n 0, 1) := by decide +kernel
theorem dX4_init_27 : decode cX4_init 27 = .ok (.new 19, 3) := by decide +kernel
theorem dX4_init_30 : decode cX4_init 30 = .ok (.dup, 1) := by decide +kernel
theorem dX4_init_31 : decode cX4_init 31 = .ok (.invokespecial 25, 3) := by decide +kernel
theorem dX4_init_34 : decode cX4_init 34 = .ok (.putfield 26, 3) := by decide +kernel
theorem dX4_init_37 : decode cX4_init 37 = .ok (.aload_n 0, 1) := by decide +kernel
theorem dX4_init_38 : decode cX4_init 38 = .ok (.new 30, 3) := by decide +kernel
theorem dX4_init_41 : decode cX4_init 41 = .ok (.dup, 1) := by decide +kernel
theorem dX4_init_42 : decode cX4_init 42 = .ok (.invokespecial 32, 3) := by decide +kernel
theorem dX4_init_45 : decode cX4_init 45 = .ok (.putfield 33, 3) := by decide +kernel
theorem dX4_init_48 : decode cX4_init 48 = .ok (.aload_n 0, 1) := by decide +kernel
theorem dX4_init_49 : decode cX4_init 49 = .ok (.bipush 20, 2) := by decide +kernel
theorem dX4_init_51 : decode cX4_init 51 = .ok (.anewarray 37, 3) := by decide +kernel
theorem dX4_init_54 : decode cX4_init 54 = .ok (.putfield 39, 3) := by decide +kernel
theorem dX4_init_57 : decode cX4_init 57 = .ok (.aload_n 0, 1) := by decide +kernel
theorem dX4_init_58 : decode cX4_init 58 = .ok (.iconst 0, 1) := by decide +kernel
theorem dX4_init_59 : decode cX4_init 59 = .ok (.putfield 43, 3) := by decide +kernel
theorem dX4_init_62 : decode cX4_init 62 = .ok (.iconst 0, 1) := by decide +kernel
theorem dX4_init_63 : decode cX4_init 63 = .ok (.istore_n 1, 1) := by decide +kernel
theorem dX4_init_64 : decode cX4_init 64 = .ok (.iload_n 1, 1) := by decide +kernel
theorem dX4_init_65 : decode cX4_init 65 = .ok (.aload_n 0, 1) := by decide +kernel
theorem dX4_init_66 : decode cX4_init 66 = .ok (.getfield 21, 3) := by decide +kernel
theorem dX4_init_69 : decode cX4_init 69 = .ok (.arraylength, 1) := by decide +kernel
theorem dX4_init_70 : decode cX4_init 70 = .ok (.if_icmp .ge 22, 3) := by decide +kernel
theorem dX4_init_73 : decode cX4_init 73 = .ok (.aload_n 0, 1) := by decide +kernel
theorem dX4_init_74 : decode cX4_init 74 = .ok (.getfield 21, 3) := by decide +kernel
theorem dX4_init_77 : decode cX4_init 77 = .ok (.iload_n 1, 1) := by decide +kernel
theorem dX4_init_78 : decode cX4_init 78 = .ok (.new 19, 3) := by decide +kernel
theorem dX4_init_81 : decode cX4_init 81 = .ok (.dup, 1) := by decide +kernel
theorem dX4_init_82 : decode cX4_init 82 = .ok (.invokespecial 25, 3) := by decide +kernel
theorem dX4_init_85 : decode cX4_init 85 = .ok (.aastore, 1) := by decide +kernel
theorem dX4_init_86 : decode cX4_init 86 = .ok (.iinc 1 1, 3) := by decide +kernel
theorem dX4_init_89 : decode cX4_init 89 = .ok (.goto (-25), 3) := by decide +kernel
theorem dX4_init_92 : decode cX4_init 92 = .ok (.return_, 1) := by decide +kernel
set_option maxRecDepth 20000 in
theorem ggX4_box_X4_readingOf : GoodIn wsX4_box wsX4_readingOf := goodIn_ca (goodIn_r _ [14, 15, 16, 17, 141, 142, 143, 144, 145, 146, 147] (by decide +kernel) (by decide +kernel)) (goodIn_sub (fun _ h => List.mem_cons_of_mem _ (List.mem_append_right _ h)) (by decide +kernel))
set_option maxRecDepth 20000 in
theorem gX4_box_X4_readingOf : GoodIn wsX4_box (wsV RX4 46 RX4 yX4_readingOf wsX4_readingOf) := goodIn_app (goodIn_of _ (by decide +kernel)) ggX4_box_X4_readingOf
set_option maxRecDepth 20000 in
theorem ggX4_box_X4_checkWithinPage : GoodIn wsX4_box wsX4_checkWithinPage := goodIn_ca (goodIn_r _ [20, 1, 2] (by decide +kernel) (by decide +kernel)) (goodIn_sub (fun _ h => List.mem_cons_of_mem _ (List.mem_append_left _ (List.mem_append_left _ (List.mem_append_right _ h)))) (by decide +kernel))
set_option maxRecDepth 20000 in
theorem gX4_box_X4_checkWithinPage : GoodIn wsX4_box (va_wsS RX4 57 yX4_checkWithinPage wsX4_checkWithinPage) := goodIn_app (goodIn_of _ (by decide +kernel)) ggX4_box_X4_checkWithinPage
set_option maxRecDepth 20000 in
theorem ggX4_box_X1_init : GoodIn wsX4_box wsX1_init := goodIn_r _ [23, 24, 25, 26, 27, 28, 29, 30, 31, 32, 33, 34, 35, 36, 148, 149, 150, 151, 152, 153, 154, 155, 156, 157] (by decide +kernel) (by decide +kernel)
set_option maxRecDepth 20000 in
theorem gX4_box_X1_init : GoodIn wsX4_box (wsX1_init) := ggX4_box_X1_init
set_option maxRecDepth 20000 in
theorem ggX4_box_X4_readAgain : GoodIn wsX4_box wsX4_readAgain := goodIn_ca (goodIn_r _ [40, 41, 10, 11, 12, 13, 14, 15, 16, 17, 42, 43, 44, 45, 46, 47, 48, 49, 50, 5, 51, 52, 53, 54, 55, 56, 57, 6, 58, 59, 60, 61, 62, 63, 64, 65, 66, 67, 68, 69, 70, 71, 72, 73, 74, 75, 76, 77, 78, 79, 80, 9, 81, 33, 35, 32, 34, 82, 83, 84, 85, 86, 87, 88, 89, 90, 91, 92, 93, 94, 95, 96, 97, 98, 99, 100, 101, 102, 103, 30, 104, 105, 106, 107, 108, 109, 110, 111, 112, 113, 114, 115, 116, 117, 118, 119, 120, 121, 122, 123, 124, 125, 126, 127, 128, 129, 130, 131, 132, 133, 134, 135, 136, 137, 138, 139, 140, 141, 142, 143, 144, 145, 146, 147, 158, 159, 148, 149, 150, 151, 152, 153, 154, 155, 156, 157, 160, 161, 162] (by decide +kernel) (by decide +kernel)) (goodIn_sub (fun _ h => List.mem_cons_of_mem _ (List.mem_append_right _ h)) (by decide +kernel))
set_option maxRecDepth 20000 in
theorem gX4_box_X4_readAgain : GoodIn wsX4_box (wsV RX4 69 RX4 yX4_readAgain wsX4_readAgain) := goodIn_app (goodIn_of _ (by decide +kernel)) ggX4_box_X4_readAgain
theorem dX4_box_0 : decode cX4_box 0 = .ok (.aload_n 0, 1) := by decide +kernel
theorem dX4_box_1 : decode cX4_box 1 = .ok (.iload_n 1, 1) := by decide +kernel
theorem dX4_box_2 : decode cX4_box 2 = .ok (.invokevirtual 46, 3) := by decide +kernel
theorem dX4_box_5 : decode cX4_box 5 = .ok (.pop, 1) := by decide +kernel
theorem dX4_box_6 : decode cX4_box 6 = .ok (.iload 6, 2) := by decide +kernel
theorem dX4_box_8 : decode cX4_box 8 = .ok (.ifCond .lt 10, 3) := by decide +kernel
theorem dX4_box_11 : decode cX4_box 11 = .ok (.iload 6, 2) := by decide +kernel
theorem dX4_box_13 : decode cX4_box 13 = .ok (.bipush 6, 2) := by decide +kernel
theorem dX4_box_15 : decode cX4_box 15 = .ok (.if_icmp .le 13, 3) := by decide +kernel
theorem dX4_box_18 : decode cX4_box 18 = .ok (.new 50, 3) := by decide +kernel
theorem dX4_box_21 : decode cX4_box 21 = .ok (.dup, 1) := by decide +kernel
theorem dX4_box_22 : decode cX4_box 22 = .ok (.ldc 52, 2) := by decide +kernel
theorem dX4_box_24 : decode cX4_box 24 = .ok (.invokespecial 54, 3) := by decide +kernel
theorem dX4_box_27 : decode cX4_box 27 = .ok (.athrow, 1) := by decide +kernel
theorem dX4_box_28 : decode cX4_box 28 = .ok (.iload_n 2, 1) := by decide +kernel
theorem dX4_box_29 : decode cX4_box 29 = .ok (.iload_n 3, 1) := by decide +kernel
theorem dX4_box_30 : decode cX4_box 30 = .ok (.iload 4, 2) := by decide +kernel
theorem dX4_box_32 : decode cX4_box 32 = .ok (.iload 5, 2) := by decide +kernel
theorem dX4_box_34 : decode cX4_box 34 = .ok (.invokestatic 57, 3) := by decide +kernel
theorem dX4_box_37 : decode cX4_box 37 = .ok (.aload_n 0, 1) := by decide +kernel
theorem dX4_box_38 : decode cX4_box 38 = .ok (.getfield 15, 3) := by decide +kernel
theorem dX4_box_41 : decode cX4_box 41 = .ok (.istore 7, 2) := by decide +kernel
theorem dX4_box_43 : decode cX4_box 43 = .ok (.iload 7, 2) := by decide +kernel
theorem dX4_box_45 : decode cX4_box 45 = .ok (.ifCond .lt 13, 3) := by decide +kernel
theorem dX4_box_48 : decode cX4_box 48 = .ok (.iload 7, 2) := by decide +kernel
theorem dX4_box_50 : decode cX4_box 50 = .ok (.aload_n 0, 1) := by decide +kernel
theorem dX4_box_51 : decode cX4_box 51 = .ok (.getfield 11, 3) := by decide +kernel
theorem dX4_box_54 : decode cX4_box 54 = .ok (.arraylength, 1) := by decide +kernel
theorem dX4_box_55 : decode cX4_box 55 = .ok (.if_icmp .lt 13, 3) := by decide +kernel
theorem dX4_box_58 : decode cX4_box 58 = .ok (.new 61, 3) := by decide +kernel
theorem dX4_box_61 : decode cX4_box 61 = .ok (.dup, 1) := by decide +kernel
theorem dX4_box_62 : decode cX4_box 62 = .ok (.ldc 63, 2) := by decide +kernel
theorem dX4_box_64 : decode cX4_box 64 = .ok (.invokespecial 65, 3) := by decide +kernel
theorem dX4_box_67 : decode cX4_box 67 = .ok (.athrow, 1) := by decide +kernel
theorem dX4_box_68 : decode cX4_box 68 = .ok (.aload_n 0, 1) := by decide +kernel
theorem dX4_box_69 : decode cX4_box 69 = .ok (.getfield 11, 3) := by decide +kernel
theorem dX4_box_72 : decode cX4_box 72 = .ok (.iload 7, 2) := by decide +kernel
theorem dX4_box_74 : decode cX4_box 74 = .ok (.new 9, 3) := by decide +kernel
theorem dX4_box_77 : decode cX4_box 77 = .ok (.dup, 1) := by decide +kernel
theorem dX4_box_78 : decode cX4_box 78 = .ok (.iload 7, 2) := by decide +kernel
theorem dX4_box_80 : decode cX4_box 80 = .ok (.iload_n 1, 1) := by decide +kernel
theorem dX4_box_81 : decode cX4_box 81 = .ok (.iload_n 2, 1) := by decide +kernel
theorem dX4_box_82 : decode cX4_box 82 = .ok (.iload_n 3, 1) := by decide +kernel
theorem dX4_box_83 : decode cX4_box 83 = .ok (.iload 4, 2) := by decide +kernel
theorem dX4_box_85 : decode cX4_box 85 = .ok (.iload 5, 2) := by decide +kernel
theorem dX4_box_87 : decode cX4_box 87 = .ok (.iload 6, 2) := by decide +kernel
theorem dX4_box_89 : decode cX4_box 89 = .ok (.invokespecial 66, 3) := by decide +kernel
theorem dX4_box_92 : decode cX4_box 92 = .ok (.aastore, 1) := by decide +kernel
theorem dX4_box_93 : decode cX4_box 93 = .ok (.aload_n 0, 1) := by decide +kernel
theorem dX4_box_94 : decode cX4_box 94 = .ok (.iload 7, 2) := by decide +kernel
theorem dX4_box_96 : decode cX4_box 96 = .ok (.iconst 1, 1) := by decide +kernel
theorem dX4_box_97 : decode cX4_box 97 = .ok (.iadd, 1) := by decide +kernel
theorem dX4_box_98 : decode cX4_box 98 = .ok (.putfield 15, 3) := by decide +kernel
theorem dX4_box_101 : decode cX4_box 101 = .ok (.aload_n 0, 1) := by decide +kernel
theorem dX4_box_102 : decode cX4_box 102 = .ok (.iload_n 1, 1) := by decide +kernel
theorem dX4_box_103 : decode cX4_box 103 = .ok (.invokevirtual 69, 3) := by decide +kernel
theorem dX4_box_106 : decode cX4_box 106 = .ok (.pop, 1) := by decide +kernel
theorem dX4_box_107 : decode cX4_box 107 = .ok (.iload 7, 2) := by decide +kernel
theorem dX4_box_109 : decode cX4_box 109 = .ok (.ireturn, 1) := by decide +kernel
set_option maxRecDepth 20000 in
theorem ggX4_move_X4_presentBox : GoodIn wsX4_move wsX4_presentBox := goodIn_ca (goodIn_r _ [10, 11, 12, 13, 14, 15, 16, 9, 17, 18, 134, 135, 136, 137, 138, 139, 140, 141, 142, 143, 144, 145, 146, 147, 148, 149, 150] (by decide +kernel) (by decide +kernel)) (goodIn_sub (fun _ h => List.mem_cons_of_mem _ (List.mem_append_left _ (List.mem_append_right _ h))) (by decide +kernel))
set_option maxRecDepth 20000 in
theorem gX4_move_X4_presentBox : GoodIn wsX4_move (wsV RX4 73 RX4 yX4_presentBox wsX4_presentBox) := goodIn_app (goodIn_of _ (by decide +kernel)) ggX4_move_X4_presentBox
set_option maxRecDepth 20000 in
theorem ggX4_move_X4_checkWithinPage : GoodIn wsX4_move wsX4_checkWithinPage := goodIn_ca (goodIn_r _ [21, 22, 23] (by decide +kernel) (by decide +kernel)) (goodIn_sub (fun _ h => List.mem_cons_of_mem _ (List.mem_append_right _ h)) (by decide +kernel))
set_option maxRecDepth 20000 in
theorem gX4_move_X4_checkWithinPage : GoodIn wsX4_move (va_wsS RX4 57 yX4_checkWithinPage wsX4_checkWithinPage) := goodIn_app (goodIn_of _ (by decide +kernel)) ggX4_move_X4_checkWithinPage
set_option maxRecDepth 20000 in
theorem ggX4_move_X4_readAgain : GoodIn wsX4_move wsX4_readAgain := goodIn_ca (goodIn_r _ [27, 28, 29, 30, 31, 9, 32, 11, 12, 33, 34, 35, 36, 37, 38, 39, 40, 41, 42, 43, 13, 5, 44, 14, 15, 16, 17, 18, 45, 46, 47, 48, 49, 50, 51, 52, 53, 54, 55, 56, 57, 58, 59, 60, 61, 62, 63, 64, 65, 66, 67, 68, 69, 70, 71, 72, 73, 74, 75, 76, 77, 78, 79, 80, 81, 82, 83, 84, 85, 86, 87, 88, 89, 90, 91, 92, 93, 94, 95, 96, 97, 98, 99, 100, 101, 102, 103, 104, 105, 106, 107, 108, 109, 110, 111, 112, 113, 114, 115, 116, 117, 118, 119, 120, 121, 122, 123, 124, 125, 126, 127, 128, 129, 130, 131, 132, 133, 144, 145, 146, 147, 148, 149, 150, 151, 152, 134, 135, 136, 137, 138, 139, 140, 141, 142, 143, 153, 154, 155] (by decide +kernel) (by decide +kernel)) (goodIn_sub (fun _ h => List.mem_cons_of_mem _ (List.mem_append_left _ (List.mem_append_right _ h))) (by decide +kernel))
set_option maxRecDepth 20000 in
theorem gX4_move_X4_readAgain : GoodIn wsX4_move (wsV RX4 69 RX4 yX4_readAgain wsX4_readAgain) := goodIn_app (goodIn_of _ (by decide +kernel)) ggX4_move_X4_readAgain
theorem dX4_move_0 : decode cX4_move 0 = .ok (.aload_n 0, 1) := by decide +kernel
theorem dX4_move_1 : decode cX4_move 1 = .ok (.iload_n 1, 1) := by decide +kernel
theorem dX4_move_2 : decode cX4_move 2 = .ok (.invokevirtual 73, 3) := by decide +kernel
theorem dX4_move_5 : decode cX4_move 5 = .ok (.astore 4, 2) := by decide +kernel
theorem dX4_move_7 : decode cX4_move 7 = .ok (.iload_n 2, 1) := by decide +kernel
theorem dX4_move_8 : decode cX4_move 8 = .ok (.iload_n 3, 1) := by decide +kernel
theorem dX4_move_9 : decode cX4_move 9 = .ok (.aload 4, 2) := by decide +kernel
theorem dX4_move_11 : decode cX4_move 11 = .ok (.getfield 77, 3) := by decide +kernel
theorem dX4_move_14 : decode cX4_move 14 = .ok (.aload 4, 2) := by decide +kernel
theorem dX4_move_16 : decode cX4_move 16 = .ok (.getfield 80, 3) := by decide +kernel
theorem dX4_move_19 : decode cX4_move 19 = .ok (.invokestatic 57, 3) := by decide +kernel
theorem dX4_move_22 : decode cX4_move 22 = .ok (.aload 4, 2) := by decide +kernel
theorem dX4_move_24 : decode cX4_move 24 = .ok (.iload_n 2, 1) := by decide +kernel
theorem dX4_move_25 : decode cX4_move 25 = .ok (.putfield 83, 3) := by decide +kernel
theorem dX4_move_28 : decode cX4_move 28 = .ok (.aload 4, 2) := by decide +kernel
theorem dX4_move_30 : decode cX4_move 30 = .ok (.iload_n 3, 1) := by decide +kernel
theorem dX4_move_31 : decode cX4_move 31 = .ok (.putfield 86, 3) := by decide +kernel
theorem dX4_move_34 : decode cX4_move 34 = .ok (.aload_n 0, 1) := by decide +kernel
theorem dX4_move_35 : decode cX4_move 35 = .ok (.aload 4, 2) := by decide +kernel
theorem dX4_move_37 : decode cX4_move 37 = .ok (.getfield 89, 3) := by decide +kernel
theorem dX4_move_40 : decode cX4_move 40 = .ok (.invokevirtual 69, 3) := by decide +kernel
theorem dX4_move_43 : decode cX4_move 43 = .ok (.ireturn, 1) := by decide +kernel
set_option maxRecDepth 20000 in
theorem ggX4_resize_X4_presentBox : GoodIn wsX4_resize wsX4_presentBox := goodIn_ca (goodIn_r _ [10, 11, 12, 13, 14, 15, 16, 9, 17, 18, 134, 135, 136, 137, 138, 139, 140, 141, 142, 143, 144, 145, 146, 147, 148, 149, 150] (by decide +kernel) (by decide +kernel)) (goodIn_sub (fun _ h => List.mem_cons_of_mem _ (List.mem_append_left _ (List.mem_append_right _ h))) (by decide +kernel))
set_option maxRecDepth 20000 in
theorem gX4_resize_X4_presentBox : GoodIn wsX4_resize (wsV RX4 73 RX4 yX4_presentBox wsX4_presentBox) := goodIn_app (goodIn_of _ (by decide +kernel)) ggX4_resize_X4_presentBox
set_option maxRecDepth 20000 in
theorem ggX4_resize_X4_checkWithinPage : GoodIn wsX4_resize wsX4_checkWithinPage := goodIn_ca (goodIn_r _ [21, 22, 23] (by decide +kernel) (by decide +kernel)) (goodIn_sub (fun _ h => List.mem_cons_of_mem _ (List.mem_append_right _ h)) (by decide +kernel))
set_option maxRecDepth 20000 in
theorem gX4_resize_X4_checkWithinPage : GoodIn wsX4_resize (va_wsS RX4 57 yX4_checkWithinPage wsX4_checkWithinPage) := goodIn_app (goodIn_of _ (by decide +kernel)) ggX4_resize_X4_checkWithinPage
set_option maxRecDepth 20000 in
theorem ggX4_resize_X4_readAgain : GoodIn wsX4_resize wsX4_readAgain := goodIn_ca (goodIn_r _ [27, 28, 29, 30, 31, 9, 32, 11, 12, 33, 34, 35, 36, 37, 38, 39, 40, 41, 42, 43, 13, 5, 44, 14, 15, 16, 17, 18, 45, 46, 47, 48, 49, 50, 51, 52, 53, 54, 55, 56, 57, 58, 59, 60, 61, 62, 63, 64, 65, 66, 67, 68, 69, 70, 71, 72, 73, 74, 75, 76, 77, 78, 79, 80, 81, 82, 83, 84, 85, 86, 87, 88, 89, 90, 91, 92, 93, 94, 95, 96, 97, 98, 99, 100, 101, 102, 103, 104, 105, 106, 107, 108, 109, 110, 111, 112, 113, 114, 115, 116, 117, 118, 119, 120, 121, 122, 123, 124, 125, 126, 127, 128, 129, 130, 131, 132, 133, 144, 145, 146, 147, 148, 149, 150, 151, 152, 134, 135, 136, 137, 138, 139, 140, 141, 142, 143, 153, 154, 155] (by decide +kernel) (by decide +kernel)) (goodIn_sub (fun _ h => List.mem_cons_of_mem _ (List.mem_append_left _ (List.mem_append_right _ h))) (by decide +kernel))
set_option maxRecDepth 20000 in
theorem gX4_resize_X4_readAgain : GoodIn wsX4_resize (wsV RX4 69 RX4 yX4_readAgain wsX4_readAgain) := goodIn_app (goodIn_of _ (by decide +kernel)) ggX4_resize_X4_readAgain
theorem dX4_resize_0 : decode cX4_resize 0 = .ok (.aload_n 0, 1) := by decide +kernel
theorem dX4_resize_1 : decode cX4_resize 1 = .ok (.iload_n 1, 1) := by decide +kernel
theorem dX4_resize_2 : decode cX4_resize 2 = .ok (.invokevirtual 73, 3) := by decide +kernel
theorem dX4_resize_5 : decode cX4_resize 5 = .ok (.astore 4, 2) := by decide +kernel
theorem dX4_resize_7 : decode cX4_resize 7 = .ok (.aload 4, 2) := by decide +kernel
theorem dX4_resize_9 : decode cX4_resize 9 = .ok (.getfield 83, 3) := by decide +kernel
theorem dX4_resize_12 : decode cX4_resize 12 = .ok (.aload 4, 2) := by decide +kernel
theorem dX4_resize_14 : decode cX4_resize 14 = .ok (.getfield 86, 3) := by decide +kernel
theorem dX4_resize_17 : decode cX4_resize 17 = .ok (.iload_n 2, 1) := by decide +kernel
theorem dX4_resize_18 : decode cX4_resize 18 = .ok (.iload_n 3, 1) := by decide +kernel
theorem dX4_resize_19 : decode cX4_resize 19 = .ok (.invokestatic 57, 3) := by decide +kernel
theorem dX4_resize_22 : decode cX4_resize 22 = .ok (.aload 4, 2) := by decide +kernel
theorem dX4_resize_24 : decode cX4_resize 24 = .ok (.iload_n 2, 1) := by decide +kernel
theorem dX4_resize_25 : decode cX4_resize 25 = .ok (.putfield 77, 3) := by decide +kernel
theorem dX4_resize_28 : decode cX4_resize 28 = .ok (.aload 4, 2) := by decide +kernel
theorem dX4_resize_30 : decode cX4_resize 30 = .ok (.iload_n 3, 1) := by decide +kernel
theorem dX4_resize_31 : decode cX4_resize 31 = .ok (.putfield 80, 3) := by decide +kernel
theorem dX4_resize_34 : decode cX4_resize 34 = .ok (.aload_n 0, 1) := by decide +kernel
theorem dX4_resize_35 : decode cX4_resize 35 = .ok (.aload 4, 2) := by decide +kernel
theorem dX4_resize_37 : decode cX4_resize 37 = .ok (.getfield 89, 3) := by decide +kernel
theorem dX4_resize_40 : decode cX4_resize 40 = .ok (.invokevirtual 69, 3) := by decide +kernel
theorem dX4_resize_43 : decode cX4_resize 43 = .ok (.ireturn, 1) := by decide +kernel
set_option maxRecDepth 20000 in
theorem ggX4_remove_X4_presentBox : GoodIn wsX4_remove wsX4_presentBox := goodIn_ca (goodIn_r _ [7, 8, 9, 1, 10, 11, 12, 6, 13, 14, 135, 136, 137, 138, 139, 140, 141, 142, 143, 144, 145, 146, 147, 148, 149, 150, 151] (by decide +kernel) (by decide +kernel)) (goodIn_sub (fun _ h => List.mem_cons_of_mem _ (List.mem_append_right _ h)) (by decide +kernel))
set_option maxRecDepth 20000 in
theorem gX4_remove_X4_presentBox : GoodIn wsX4_remove (wsV RX4 73 RX4 yX4_presentBox wsX4_presentBox) := goodIn_app (goodIn_of _ (by decide +kernel)) ggX4_remove_X4_presentBox
set_option maxRecDepth 20000 in
theorem ggX4_remove_X1_loosenFromLeader : GoodIn wsX4_remove wsX1_loosenFromLeader := goodIn_r _ [19, 20, 21, 135, 136, 137, 138, 139, 140, 141, 142, 143, 144] (by decide +kernel) (by decide +kernel)
set_option maxRecDepth 20000 in
theorem gX4_remove_X1_loosenFromLeader : GoodIn wsX4_remove (wsV RX4 92 RX1 yX1_loosenFromLeader wsX1_loosenFromLeader) := goodIn_app (goodIn_of _ (by decide +kernel)) ggX4_remove_X1_loosenFromLeader
set_option maxRecDepth 20000 in
theorem ggX4_remove_X1_loosenFromFollower : GoodIn wsX4_remove wsX1_loosenFromFollower := goodIn_r _ [25, 21, 20, 135, 136, 137, 138, 139, 140, 141, 142, 143, 144] (by decide +kernel) (by decide +kernel)
set_option maxRecDepth 20000 in
theorem gX4_remove_X1_loosenFromFollower : GoodIn wsX4_remove (wsV RX4 95 RX1 yX1_loosenFromFollower wsX1_loosenFromFollower) := goodIn_app (goodIn_of _ (by decide +kernel)) ggX4_remove_X1_loosenFromFollower
set_option maxRecDepth 20000 in
theorem ggX4_remove_X4_readAgain : GoodIn wsX4_remove wsX4_readAgain := goodIn_ca (goodIn_r _ [29, 30, 31, 32, 33, 6, 34, 8, 9, 35, 36, 37, 38, 39, 40, 41, 42, 43, 44, 45, 1, 2, 46, 10, 11, 12, 13, 14, 47, 48, 49, 50, 51, 52, 53, 54, 55, 56, 57, 58, 59, 60, 61, 62, 63, 64, 65, 66, 67, 68, 69, 18, 70, 71, 72, 73, 74, 75, 76, 77, 78, 79, 80, 81, 82, 83, 84, 85, 86, 87, 88, 89, 90, 91, 92, 93, 94, 95, 96, 97, 98, 99, 100, 101, 102, 103, 104, 105, 106, 107, 108, 109, 110, 111, 112, 113, 114, 115, 116, 117, 118, 119, 120, 121, 122, 123, 124, 125, 126, 127, 128, 129, 130, 131, 132, 133, 134, 145, 146, 147, 148, 149, 150, 151, 152, 153, 135, 136, 137, 138, 139, 140, 141, 142, 143, 144, 154, 155, 156] (by decide +kernel) (by decide +kernel)) (goodIn_sub (fun _ h => List.mem_cons_of_mem _ (List.mem_append_right _ h)) (by decide +kernel))
set_option maxRecDepth 20000 in
theorem gX4_remove_X4_readAgain : GoodIn wsX4_remove (wsV RX4 69 RX4 yX4_readAgain wsX4_readAgain) := goodIn_app (goodIn_of _ (by decide +kernel)) ggX4_remove_X4_readAgain
theorem dX4_remove_0 : decode cX4_remove 0 = .ok (.aload_n 0, 1) := by decide +kernel
theorem dX4_remove_1 : decode cX4_remove 1 = .ok (.iload_n 1, 1) := by decide +kernel
theorem dX4_remove_2 : decode cX4_remove 2 = .ok (.invokevirtual 73, 3) := by decide +kernel
theorem dX4_remove_5 : decode cX4_remove 5 = .ok (.astore_n 2, 1) := by decide +kernel
theorem dX4_remove_6 : decode cX4_remove 6 = .ok (.aload_n 2, 1) := by decide +kernel
theorem dX4_remove_7 : decode cX4_remove 7 = .ok (.invokevirtual 92, 3) := by decide +kernel
theorem dX4_remove_10 : decode cX4_remove 10 = .ok (.aload_n 2, 1) := by decide +kernel
theorem dX4_remove_11 : decode cX4_remove 11 = .ok (.invokevirtual 95, 3) := by decide +kernel
theorem dX4_remove_14 : decode cX4_remove 14 = .ok (.aload_n 2, 1) := by decide +kernel
theorem dX4_remove_15 : decode cX4_remove 15 = .ok (.iconst 1, 1) := by decide +kernel
theorem dX4_remove_16 : decode cX4_remove 16 = .ok (.putfield 98, 3) := by decide +kernel
theorem dX4_remove_19 : decode cX4_remove 19 = .ok (.aload_n 0, 1) := by decide +kernel
theorem dX4_remove_20 : decode cX4_remove 20 = .ok (.aload_n 2, 1) := by decide +kernel
theorem dX4_remove_21 : decode cX4_remove 21 = .ok (.getfield 89, 3) := by decide +kernel
theorem dX4_remove_24 : decode cX4_remove 24 = .ok (.invokevirtual 69, 3) := by decide +kernel
theorem dX4_remove_27 : decode cX4_remove 27 = .ok (.ireturn, 1) := by decide +kernel
set_option maxRecDepth 20000 in
theorem ggX4_tie_X4_presentBox : GoodIn wsX4_tie wsX4_presentBox := goodIn_ca (goodIn_r _ [12, 13, 14, 15, 16, 17, 18, 11, 19, 20, 134, 135, 136, 137, 138, 139, 140, 141, 142, 143, 144, 145, 146, 147, 148, 149, 150] (by decide +kernel) (by decide +kernel)) (goodIn_sub (fun _ h => List.mem_cons_of_mem _ (List.mem_append_right _ h)) (by decide +kernel))
set_option maxRecDepth 20000 in
theorem gX4_tie_X4_presentBox : GoodIn wsX4_tie (wsV RX4 73 RX4 yX4_presentBox wsX4_presentBox) := goodIn_app (goodIn_of _ (by decide +kernel)) ggX4_tie_X4_presentBox
set_option maxRecDepth 20000 in
theorem ggX4_tie_X1_comesBehind : GoodIn wsX4_tie wsX1_comesBehind := goodIn_r _ [25, 26, 134, 135, 136, 137, 138, 139, 140, 141, 142, 143] (by decide +kernel) (by decide +kernel)
set_option maxRecDepth 20000 in
theorem gX4_tie_X1_comesBehind : GoodIn wsX4_tie (wsV RX4 111 RX1 yX1_comesBehind wsX1_comesBehind) := goodIn_app (goodIn_of _ (by decide +kernel)) ggX4_tie_X1_comesBehind
set_option maxRecDepth 20000 in
theorem ggX4_tie_X4_readAgain : GoodIn wsX4_tie wsX4_readAgain := goodIn_ca (goodIn_r _ [30, 31, 32, 33, 34, 11, 35, 13, 14, 36, 37, 38, 39, 40, 41, 42, 43, 44, 45, 46, 15, 5, 7, 16, 17, 18, 19, 20, 47, 48, 49, 50, 51, 52, 53, 54, 55, 56, 57, 58, 59, 60, 61, 62, 63, 64, 65, 66, 67, 68, 69, 24, 70, 71, 72, 73, 74, 75, 76, 77, 78, 79, 80, 81, 82, 83, 84, 85, 86, 87, 6, 88, 89, 90, 91, 92, 93, 94, 95, 96, 97, 98, 99, 100, 101, 102, 103, 104, 105, 106, 107, 108, 109, 110, 111, 112, 113, 114, 115, 116, 117, 118, 119, 120, 121, 122, 123, 124, 125, 126, 127, 128, 129, 130, 131, 132, 133, 144, 145, 146, 147, 148, 149, 150, 151, 152, 134, 135, 136, 137, 138, 139, 140, 141, 142, 143, 153, 154, 155] (by decide +kernel) (by decide +kernel)) (goodIn_sub (fun _ h => List.mem_cons_of_mem _ (List.mem_append_right _ h)) (by decide +kernel))
set_option maxRecDepth 20000 in
theorem gX4_tie_X4_readAgain : GoodIn wsX4_tie (wsV RX4 69 RX4 yX4_readAgain wsX4_readAgain) := goodIn_app (goodIn_of _ (by decide +kernel)) ggX4_tie_X4_readAgain
theorem dX4_tie_0 : decode cX4_tie 0 = .ok (.aload_n 0, 1) := by decide +kernel
theorem dX4_tie_1 : decode cX4_tie 1 = .ok (.iload_n 1, 1) := by decide +kernel
theorem dX4_tie_2 : decode cX4_tie 2 = .ok (.invokevirtual 73, 3) := by decide +kernel
theorem dX4_tie_5 : decode cX4_tie 5 = .ok (.astore_n 3, 1) := by decide +kernel
theorem dX4_tie_6 : decode cX4_tie 6 = .ok (.aload_n 0, 1) := by decide +kernel
theorem dX4_tie_7 : decode cX4_tie 7 = .ok (.iload_n 2, 1) := by decide +kernel
theorem dX4_tie_8 : decode cX4_tie 8 = .ok (.invokevirtual 73, 3) := by decide +kernel
theorem dX4_tie_11 : decode cX4_tie 11 = .ok (.astore 4, 2) := by decide +kernel
theorem dX4_tie_13 : decode cX4_tie 13 = .ok (.aload_n 3, 1) := by decide +kernel
theorem dX4_tie_14 : decode cX4_tie 14 = .ok (.getfield 89, 3) := by decide +kernel
theorem dX4_tie_17 : decode cX4_tie 17 = .ok (.aload 4, 2) := by decide +kernel
theorem dX4_tie_19 : decode cX4_tie 19 = .ok (.getfield 89, 3) := by decide +kernel
theorem dX4_tie_22 : decode cX4_tie 22 = .ok (.if_icmp .ne 9, 3) := by decide +kernel
theorem dX4_tie_25 : decode cX4_tie 25 = .ok (.aload_n 3, 1) := by decide +kernel
theorem dX4_tie_26 : decode cX4_tie 26 = .ok (.aload 4, 2) := by decide +kernel
theorem dX4_tie_28 : decode cX4_tie 28 = .ok (.if_acmp .ne 13, 3) := by decide +kernel
theorem dX4_tie_31 : decode cX4_tie 31 = .ok (.new 50, 3) := by decide +kernel
theorem dX4_tie_34 : decode cX4_tie 34 = .ok (.dup, 1) := by decide +kernel
theorem dX4_tie_35 : decode cX4_tie 35 = .ok (.ldc 102, 2) := by decide +kernel
theorem dX4_tie_37 : decode cX4_tie 37 = .ok (.invokespecial 54, 3) := by decide +kernel
theorem dX4_tie_40 : decode cX4_tie 40 = .ok (.athrow, 1) := by decide +kernel
theorem dX4_tie_41 : decode cX4_tie 41 = .ok (.aload_n 3, 1) := by decide +kernel
theorem dX4_tie_42 : decode cX4_tie 42 = .ok (.getfield 104, 3) := by decide +kernel
theorem dX4_tie_45 : decode cX4_tie 45 = .ok (.ifnonnull 20, 3) := by decide +kernel
theorem dX4_tie_48 : decode cX4_tie 48 = .ok (.aload 4, 2) := by decide +kernel
theorem dX4_tie_50 : decode cX4_tie 50 = .ok (.getfield 108, 3) := by decide +kernel
theorem dX4_tie_53 : decode cX4_tie 53 = .ok (.ifnonnull 12, 3) := by decide +kernel
theorem dX4_tie_56 : decode cX4_tie 56 = .ok (.aload_n 3, 1) := by decide +kernel
theorem dX4_tie_57 : decode cX4_tie 57 = .ok (.aload 4, 2) := by decide +kernel
theorem dX4_tie_59 : decode cX4_tie 59 = .ok (.invokevirtual 111, 3) := by decide +kernel
theorem dX4_tie_62 : decode cX4_tie 62 = .ok (.ifCond .eq 13, 3) := by decide +kernel
theorem dX4_tie_65 : decode cX4_tie 65 = .ok (.new 61, 3) := by decide +kernel
theorem dX4_tie_68 : decode cX4_tie 68 = .ok (.dup, 1) := by decide +kernel
theorem dX4_tie_69 : decode cX4_tie 69 = .ok (.ldc 115, 2) := by decide +kernel
theorem dX4_tie_71 : decode cX4_tie 71 = .ok (.invokespecial 65, 3) := by decide +kernel
theorem dX4_tie_74 : decode cX4_tie 74 = .ok (.athrow, 1) := by decide +kernel
theorem dX4_tie_75 : decode cX4_tie 75 = .ok (.aload_n 3, 1) := by decide +kernel
theorem dX4_tie_76 : decode cX4_tie 76 = .ok (.aload 4, 2) := by decide +kernel
theorem dX4_tie_78 : decode cX4_tie 78 = .ok (.putfield 104, 3) := by decide +kernel
theorem dX4_tie_81 : decode cX4_tie 81 = .ok (.aload 4, 2) := by decide +kernel
theorem dX4_tie_83 : decode cX4_tie 83 = .ok (.aload_n 3, 1) := by decide +kernel
theorem dX4_tie_84 : decode cX4_tie 84 = .ok (.putfield 108, 3) := by decide +kernel
theorem dX4_tie_87 : decode cX4_tie 87 = .ok (.aload_n 0, 1) := by decide +kernel
theorem dX4_tie_88 : decode cX4_tie 88 = .ok (.aload_n 3, 1) := by decide +kernel
theorem dX4_tie_89 : decode cX4_tie 89 = .ok (.getfield 89, 3) := by decide +kernel
theorem dX4_tie_92 : decode cX4_tie 92 = .ok (.invokevirtual 69, 3) := by decide +kernel
theorem dX4_tie_95 : decode cX4_tie 95 = .ok (.ireturn, 1) := by decide +kernel
set_option maxRecDepth 20000 in
theorem ggX4_untie_X4_presentBox : GoodIn wsX4_untie wsX4_presentBox := goodIn_ca (goodIn_r _ [9, 10, 11, 12, 13, 14, 15, 8, 16, 17, 133, 134, 135, 136, 137, 138, 139, 140, 141, 142, 143, 144, 145, 146, 147, 148, 149] (by decide +kernel) (by decide +kernel)) (goodIn_sub (fun _ h => List.mem_cons_of_mem _ (List.mem_append_right _ h)) (by decide +kernel))
set_option maxRecDepth 20000 in
theorem gX4_untie_X4_presentBox : GoodIn wsX4_untie (wsV RX4 73 RX4 yX4_presentBox wsX4_presentBox) := goodIn_app (goodIn_of _ (by decide +kernel)) ggX4_untie_X4_presentBox
set_option maxRecDepth 20000 in
theorem ggX4_untie_X1_loosenFromLeader : GoodIn wsX4_untie wsX1_loosenFromLeader := goodIn_r _ [22, 23, 24, 133, 134, 135, 136, 137, 138, 139, 140, 141, 142] (by decide +kernel) (by decide +kernel)
set_option maxRecDepth 20000 in
theorem gX4_untie_X1_loosenFromLeader : GoodIn wsX4_untie (wsV RX4 92 RX1 yX1_loosenFromLeader wsX1_loosenFromLeader) := goodIn_app (goodIn_of _ (by decide +kernel)) ggX4_untie_X1_loosenFromLeader
set_option maxRecDepth 20000 in
theorem ggX4_untie_X4_readAgain : GoodIn wsX4_untie wsX4_readAgain := goodIn_ca (goodIn_r _ [28, 29, 30, 31, 32, 8, 33, 10, 11, 34, 35, 36, 37, 38, 39, 40, 41, 42, 43, 44, 12, 4, 3, 13, 14, 15, 16, 17, 45, 46, 47, 48, 49, 50, 51, 52, 53, 54, 55, 56, 57, 58, 59, 60, 61, 62, 63, 64, 65, 66, 67, 21, 68, 69, 70, 71, 72, 73, 74, 75, 76, 77, 78, 79, 80, 81, 82, 83, 84, 85, 86, 87, 88, 89, 90, 91, 92, 93, 94, 95, 96, 97, 98, 99, 100, 101, 102, 103, 104, 105, 106, 107, 108, 109, 110, 111, 112, 113, 114, 115, 116, 117, 118, 119, 120, 121, 122, 123, 124, 125, 126, 127, 128, 129, 130, 131, 132, 143, 144, 145, 146, 147, 148, 149, 150, 151, 133, 134, 135, 136, 137, 138, 139, 140, 141, 142, 152, 153, 154] (by decide +kernel) (by decide +kernel)) (goodIn_sub (fun _ h => List.mem_cons_of_mem _ (List.mem_append_right _ h)) (by decide +kernel))
set_option maxRecDepth 20000 in
theorem gX4_untie_X4_readAgain : GoodIn wsX4_untie (wsV RX4 69 RX4 yX4_readAgain wsX4_readAgain) := goodIn_app (goodIn_of _ (by decide +kernel)) ggX4_untie_X4_readAgain
theorem dX4_untie_0 : decode cX4_untie 0 = .ok (.aload_n 0, 1) := by decide +kernel
theorem dX4_untie_1 : decode cX4_untie 1 = .ok (.iload_n 1, 1) := by decide +kernel
theorem dX4_untie_2 : decode cX4_untie 2 = .ok (.invokevirtual 73, 3) := by decide +kernel
theorem dX4_untie_5 : decode cX4_untie 5 = .ok (.astore_n 2, 1) := by decide +kernel
theorem dX4_untie_6 : decode cX4_untie 6 = .ok (.aload_n 2, 1) := by decide +kernel
theorem dX4_untie_7 : decode cX4_untie 7 = .ok (.getfield 108, 3) := by decide +kernel
theorem dX4_untie_10 : decode cX4_untie 10 = .ok (.ifnonnull 13, 3) := by decide +kernel
theorem dX4_untie_13 : decode cX4_untie 13 = .ok (.new 61, 3) := by decide +kernel
theorem dX4_untie_16 : decode cX4_untie 16 = .ok (.dup, 1) := by decide +kernel
theorem dX4_untie_17 : decode cX4_untie 17 = .ok (.ldc 117, 2) := by decide +kernel
theorem dX4_untie_19 : decode cX4_untie 19 = .ok (.invokespecial 65, 3) := by decide +kernel
theorem dX4_untie_22 : decode cX4_untie 22 = .ok (.athrow, 1) := by decide +kernel
theorem dX4_untie_23 : decode cX4_untie 23 = .ok (.aload_n 2, 1) := by decide +kernel
theorem dX4_untie_24 : decode cX4_untie 24 = .ok (.invokevirtual 92, 3) := by decide +kernel
theorem dX4_untie_27 : decode cX4_untie 27 = .ok (.aload_n 0, 1) := by decide +kernel
theorem dX4_untie_28 : decode cX4_untie 28 = .ok (.aload_n 2, 1) := by decide +kernel
theorem dX4_untie_29 : decode cX4_untie 29 = .ok (.getfield 89, 3) := by decide +kernel
theorem dX4_untie_32 : decode cX4_untie 32 = .ok (.invokevirtual 69, 3) := by decide +kernel
theorem dX4_untie_35 : decode cX4_untie 35 = .ok (.ireturn, 1) := by decide +kernel
set_option maxRecDepth 20000 in
theorem ggX4_order_X4_readingOf : GoodIn wsX4_order wsX4_readingOf := goodIn_ca (goodIn_r _ [5, 6, 7, 8, 19, 20, 21, 22, 23, 24, 25] (by decide +kernel) (by decide +kernel)) (goodIn_sub (fun _ h => List.mem_cons_of_mem _ (List.mem_append_right _ h)) (by decide +kernel))
set_option maxRecDepth 20000 in
theorem gX4_order_X4_readingOf : GoodIn wsX4_order (wsV RX4 46 RX4 yX4_readingOf wsX4_readingOf) := goodIn_app (goodIn_of _ (by decide +kernel)) ggX4_order_X4_readingOf
set_option maxRecDepth 20000 in
theorem ggX4_order_X4_checkPlace : GoodIn wsX4_order wsX4_checkPlace := goodIn_ca (goodIn_r _ [11, 6, 7] (by decide +kernel) (by decide +kernel)) (goodIn_sub (fun _ h => List.mem_cons_of_mem _ (List.mem_append_right _ h)) (by decide +kernel))
set_option maxRecDepth 20000 in
theorem gX4_order_X4_checkPlace : GoodIn wsX4_order (va_wsS RX4 119 yX4_checkPlace wsX4_checkPlace) := goodIn_app (goodIn_of _ (by decide +kernel)) ggX4_order_X4_checkPlace
set_option maxRecDepth 20000 in
theorem ggX4_order_X3_at : GoodIn wsX4_order wsX3_at := goodIn_r _ [16, 17, 18, 26, 27] (by decide +kernel) (by decide +kernel)
set_option maxRecDepth 20000 in
theorem gX4_order_X3_at : GoodIn wsX4_order (wsV RX4 123 RX3 yX3_at wsX3_at) := goodIn_app (goodIn_of _ (by decide +kernel)) ggX4_order_X3_at
theorem dX4_order_0 : decode cX4_order 0 = .ok (.aload_n 0, 1) := by decide +kernel
theorem dX4_order_1 : decode cX4_order 1 = .ok (.iload_n 1, 1) := by decide +kernel
theorem dX4_order_2 : decode cX4_order 2 = .ok (.invokevirtual 46, 3) := by decide +kernel
theorem dX4_order_5 : decode cX4_order 5 = .ok (.astore_n 3, 1) := by decide +kernel
theorem dX4_order_6 : decode cX4_order 6 = .ok (.iload_n 2, 1) := by decide +kernel
theorem dX4_order_7 : decode cX4_order 7 = .ok (.invokestatic 119, 3) := by decide +kernel
theorem dX4_order_10 : decode cX4_order 10 = .ok (.aload_n 3, 1) := by decide +kernel
theorem dX4_order_11 : decode cX4_order 11 = .ok (.iload_n 2, 1) := by decide +kernel
theorem dX4_order_12 : decode cX4_order 12 = .ok (.invokevirtual 123, 3) := by decide +kernel
theorem dX4_order_15 : decode cX4_order 15 = .ok (.ireturn, 1) := by decide +kernel
set_option maxRecDepth 20000 in
theorem ggX4_orderAnew_X4_readingOf : GoodIn wsX4_orderAnew wsX4_readingOf := goodIn_ca (goodIn_r _ [6, 7, 8, 9, 103, 104, 105, 106, 107, 108, 109] (by decide +kernel) (by decide +kernel)) (goodIn_sub (fun _ h => List.mem_cons_of_mem _ (List.mem_append_right _ h)) (by decide +kernel))
set_option maxRecDepth 20000 in
theorem gX4_orderAnew_X4_readingOf : GoodIn wsX4_orderAnew (wsV RX4 46 RX4 yX4_readingOf wsX4_readingOf) := goodIn_app (goodIn_of _ (by decide +kernel)) ggX4_orderAnew_X4_readingOf
set_option maxRecDepth 20000 in
theorem ggX4_orderAnew_X4_checkPlace : GoodIn wsX4_orderAnew wsX4_checkPlace := goodIn_ca (goodIn_r _ [12, 7, 8] (by decide +kernel) (by decide +kernel)) (goodIn_sub (fun _ h => List.mem_cons_of_mem _ (List.mem_append_right _ h)) (by decide +kernel))
set_option maxRecDepth 20000 in
theorem gX4_orderAnew_X4_checkPlace : GoodIn wsX4_orderAnew (va_wsS RX4 119 yX4_checkPlace wsX4_checkPlace) := goodIn_app (goodIn_of _ (by decide +kernel)) ggX4_orderAnew_X4_checkPlace
set_option maxRecDepth 20000 in
theorem ggX4_orderAnew_X4_readWithSetsAside : GoodIn wsX4_orderAnew wsX4_readWithSetsAside := goodIn_r _ [16, 17, 18, 19, 20, 21, 22, 5, 23, 24, 25, 26, 27, 28, 29, 30, 31, 32, 33, 34, 35, 36, 37, 38, 39, 40, 41, 42, 43, 44, 45, 46, 47, 48, 49, 50, 51, 52, 53, 54, 55, 56, 57, 58, 59, 60, 61, 62, 63, 64, 65, 66, 67, 68, 69, 70, 71, 72, 73, 74, 75, 76, 77, 78, 79, 80, 81, 82, 83, 84, 85, 86, 87, 88, 89, 90, 91, 92, 93, 94, 95, 96, 97, 98, 110, 111, 103, 104, 105, 106, 107, 108, 109, 112, 113, 114, 115, 116, 117, 118, 119, 120, 121, 122, 123] (by decide +kernel) (by decide +kernel)
set_option maxRecDepth 20000 in
theorem gX4_orderAnew_X4_readWithSetsAside : GoodIn wsX4_orderAnew (wsV RX4 126 RX4 yX4_readWithSetsAside wsX4_readWithSetsAside) := goodIn_app (goodIn_of _ (by decide +kernel)) ggX4_orderAnew_X4_readWithSetsAside
set_option maxRecDepth 20000 in
theorem ggX4_orderAnew_X3_at : GoodIn wsX4_orderAnew wsX3_at := goodIn_r _ [102, 97, 98, 110, 111] (by decide +kernel) (by decide +kernel)
set_option maxRecDepth 20000 in
theorem gX4_orderAnew_X3_at : GoodIn wsX4_orderAnew (wsV RX4 123 RX3 yX3_at wsX3_at) := goodIn_app (goodIn_of _ (by decide +kernel)) ggX4_orderAnew_X3_at
theorem dX4_orderAnew_0 : decode cX4_orderAnew 0 = .ok (.aload_n 0, 1) := by decide +kernel
theorem dX4_orderAnew_1 : decode cX4_orderAnew 1 = .ok (.iload_n 1, 1) := by decide +kernel
theorem dX4_orderAnew_2 : decode cX4_orderAnew 2 = .ok (.invokevirtual 46, 3) := by decide +kernel
theorem dX4_orderAnew_5 : decode cX4_orderAnew 5 = .ok (.pop, 1) := by decide +kernel
theorem dX4_orderAnew_6 : decode cX4_orderAnew 6 = .ok (.iload_n 2, 1) := by decide +kernel
theorem dX4_orderAnew_7 : decode cX4_orderAnew 7 = .ok (.invokestatic 119, 3) := by decide +kernel
theorem dX4_orderAnew_10 : decode cX4_orderAnew 10 = .ok (.aload_n 0, 1) := by decide +kernel
theorem dX4_orderAnew_11 : decode cX4_orderAnew 11 = .ok (.iload_n 1, 1) := by decide +kernel
theorem dX4_orderAnew_12 : decode cX4_orderAnew 12 = .ok (.aload_n 0, 1) := by decide +kernel
theorem dX4_orderAnew_13 : decode cX4_orderAnew 13 = .ok (.getfield 26, 3) := by decide +kernel
theorem dX4_orderAnew_16 : decode cX4_orderAnew 16 = .ok (.invokevirtual 126, 3) := by decide +kernel
theorem dX4_orderAnew_19 : decode cX4_orderAnew 19 = .ok (.aload_n 0, 1) := by decide +kernel
theorem dX4_orderAnew_20 : decode cX4_orderAnew 20 = .ok (.getfield 26, 3) := by decide +kernel
theorem dX4_orderAnew_23 : decode cX4_orderAnew 23 = .ok (.iload_n 2, 1) := by decide +kernel
theorem dX4_orderAnew_24 : decode cX4_orderAnew 24 = .ok (.invokevirtual 123, 3) := by decide +kernel
theorem dX4_orderAnew_27 : decode cX4_orderAnew 27 = .ok (.ireturn, 1) := by decide +kernel
set_option maxRecDepth 20000 in
theorem ggX4_placeOf_X4_presentBox : GoodIn wsX4_placeOf wsX4_presentBox := goodIn_ca (goodIn_r _ [7, 8, 9, 10, 11, 12, 13, 6, 14, 15, 32, 33, 34, 35, 36, 37, 38, 39, 40, 41, 42, 43, 44, 45, 46, 47, 48] (by decide +kernel) (by decide +kernel)) (goodIn_sub (fun _ h => List.mem_cons_of_mem _ (List.mem_append_right _ h)) (by decide +kernel))
set_option maxRecDepth 20000 in
theorem gX4_placeOf_X4_presentBox : GoodIn wsX4_placeOf (wsV RX4 73 RX4 yX4_presentBox wsX4_presentBox) := goodIn_app (goodIn_of _ (by decide +kernel)) ggX4_placeOf_X4_presentBox
set_option maxRecDepth 20000 in
theorem ggX4_placeOf_X4_readingOf : GoodIn wsX4_placeOf wsX4_readingOf := goodIn_ca (goodIn_r _ [19, 8, 9, 20, 42, 43, 44, 45, 46, 47, 48] (by decide +kernel) (by decide +kernel)) (goodIn_sub (fun _ h => List.mem_cons_of_mem _ (List.mem_append_right _ h)) (by decide +kernel))
set_option maxRecDepth 20000 in
theorem gX4_placeOf_X4_readingOf : GoodIn wsX4_placeOf (wsV RX4 46 RX4 yX4_readingOf wsX4_readingOf) := goodIn_app (goodIn_of _ (by decide +kernel)) ggX4_placeOf_X4_readingOf
set_option maxRecDepth 20000 in
theorem ggX4_placeOf_X3_placeFor : GoodIn wsX4_placeOf wsX3_placeFor := goodIn_r _ [25, 26, 27, 28, 29, 24, 30, 31, 49, 50] (by decide +kernel) (by decide +kernel)
set_option maxRecDepth 20000 in
theorem gX4_placeOf_X3_placeFor : GoodIn wsX4_placeOf (wsV RX4 133 RX3 yX3_placeFor wsX3_placeFor) := goodIn_app (goodIn_of _ (by decide +kernel)) ggX4_placeOf_X3_placeFor
theorem dX4_placeOf_0 : decode cX4_placeOf 0 = .ok (.aload_n 0, 1) := by decide +kernel
theorem dX4_placeOf_1 : decode cX4_placeOf 1 = .ok (.iload_n 1, 1) := by decide +kernel
theorem dX4_placeOf_2 : decode cX4_placeOf 2 = .ok (.invokevirtual 73, 3) := by decide +kernel
theorem dX4_placeOf_5 : decode cX4_placeOf 5 = .ok (.astore_n 2, 1) := by decide +kernel
theorem dX4_placeOf_6 : decode cX4_placeOf 6 = .ok (.aload_n 0, 1) := by decide +kernel
theorem dX4_placeOf_7 : decode cX4_placeOf 7 = .ok (.aload_n 2, 1) := by decide +kernel
theorem dX4_placeOf_8 : decode cX4_placeOf 8 = .ok (.getfield 89, 3) := by decide +kernel
theorem dX4_placeOf_11 : decode cX4_placeOf 11 = .ok (.invokevirtual 46, 3) := by decide +kernel
theorem dX4_placeOf_14 : decode cX4_placeOf 14 = .ok (.aload_n 2, 1) := by decide +kernel
theorem dX4_placeOf_15 : decode cX4_placeOf 15 = .ok (.getfield 130, 3) := by decide +kernel
theorem dX4_placeOf_18 : decode cX4_placeOf 18 = .ok (.invokevirtual 133, 3) := by decide +kernel
theorem dX4_placeOf_21 : decode cX4_placeOf 21 = .ok (.ireturn, 1) := by decide +kernel
set_option maxRecDepth 20000 in
theorem ggX4_boxes_X4_readingOf : GoodIn wsX4_boxes wsX4_readingOf := goodIn_ca (goodIn_r _ [6, 7, 8, 9, 12, 13, 14, 15, 16, 17, 18] (by decide +kernel) (by decide +kernel)) (goodIn_sub (fun _ h => List.mem_cons_of_mem _ (List.mem_append_right _ h)) (by decide +kernel))
set_option maxRecDepth 20000 in
theorem gX4_boxes_X4_readingOf : GoodIn wsX4_boxes (wsV RX4 46 RX4 yX4_readingOf wsX4_readingOf) := goodIn_app (goodIn_of _ (by decide +kernel)) ggX4_boxes_X4_readingOf
theorem dX4_boxes_0 : decode cX4_boxes 0 = .ok (.aload_n 0, 1) := by decide +kernel
theorem dX4_boxes_1 : decode cX4_boxes 1 = .ok (.iload_n 1, 1) := by decide +kernel
theorem dX4_boxes_2 : decode cX4_boxes 2 = .ok (.invokevirtual 46, 3) := by decide +kernel
theorem dX4_boxes_5 : decode cX4_boxes 5 = .ok (.getfield 136, 3) := by decide +kernel
theorem dX4_boxes_8 : decode cX4_boxes 8 = .ok (.ireturn, 1) := by decide +kernel
set_option maxRecDepth 20000 in
theorem ggX4_about_X4_madeBox : GoodIn wsX4_about wsX4_madeBox := goodIn_r _ [18, 19, 34, 35, 36, 37, 38, 39, 40] (by decide +kernel) (by decide +kernel)
set_option maxRecDepth 20000 in
theorem gX4_about_X4_madeBox : GoodIn wsX4_about (wsV RX4 139 RX4 yX4_madeBox wsX4_madeBox) := goodIn_app (goodIn_of _ (by decide +kernel)) ggX4_about_X4_madeBox
set_option maxRecDepth 20000 in
theorem ggX4_about_X4_numberOf : GoodIn wsX4_about wsX4_numberOf := goodIn_r _ [22, 23, 24, 25, 26, 27, 28, 29, 30, 31, 32, 33] (by decide +kernel) (by decide +kernel)
set_option maxRecDepth 20000 in
theorem gX4_about_X4_numberOf : GoodIn wsX4_about (va_wsS RX4 150 yX4_numberOf wsX4_numberOf) := goodIn_app (goodIn_of _ (by decide +kernel)) ggX4_about_X4_numberOf
theorem dX4_about_0 : decode cX4_about 0 = .ok (.aload_n 0, 1) := by decide +kernel
theorem dX4_about_1 : decode cX4_about 1 = .ok (.iload_n 1, 1) := by decide +kernel
theorem dX4_about_2 : decode cX4_about 2 = .ok (.invokevirtual 139, 3) := by decide +kernel
theorem dX4_about_5 : decode cX4_about 5 = .ok (.astore_n 3, 1) := by decide +kernel
theorem dX4_about_6 : decode cX4_about 6 = .ok (.aload_n 3, 1) := by decide +kernel
theorem dX4_about_7 : decode cX4_about 7 = .ok (.ifnonnull 13, 3) := by decide +kernel
theorem dX4_about_10 : decode cX4_about 10 = .ok (.new 142, 3) := by decide +kernel
theorem dX4_about_13 : decode cX4_about 13 = .ok (.dup, 1) := by decide +kernel
theorem dX4_about_14 : decode cX4_about 14 = .ok (.ldc 144, 2) := by decide +kernel
theorem dX4_about_16 : decode cX4_about 16 = .ok (.invokespecial 146, 3) := by decide +kernel
theorem dX4_about_19 : decode cX4_about 19 = .ok (.athrow, 1) := by decide +kernel
theorem dX4_about_20 : decode cX4_about 20 = .ok (.iload_n 2, 1) := by decide +kernel
theorem dX4_about_21 : decode cX4_about 21 = .ok (.tableswitch 110 0 8 #[51, 56, 61, 66, 71, 76, 81, 89, 97], 51) := by decide +kernel
theorem dX4_about_72 : decode cX4_about 72 = .ok (.aload_n 3, 1) := by decide +kernel
theorem dX4_about_73 : decode cX4_about 73 = .ok (.getfield 89, 3) := by decide +kernel
theorem dX4_about_76 : decode cX4_about 76 = .ok (.ireturn, 1) := by decide +kernel
theorem dX4_about_77 : decode cX4_about 77 = .ok (.aload_n 3, 1) := by decide +kernel
theorem dX4_about_78 : decode cX4_about 78 = .ok (.getfield 83, 3) := by decide +kernel
theorem dX4_about_81 : decode cX4_about 81 = .ok (.ireturn, 1) := by decide +kernel
theorem dX4_about_82 : decode cX4_about 82 = .ok (.aload_n 3, 1) := by decide +kernel
theorem dX4_about_83 : decode cX4_about 83 = .ok (.getfield 86, 3) := by decide +kernel
theorem dX4_about_86 : decode cX4_about 86 = .ok (.ireturn, 1) := by decide +kernel
theorem dX4_about_87 : decode cX4_about 87 = .ok (.aload_n 3, 1) := by decide +kernel
theorem dX4_about_88 : decode cX4_about 88 = .ok (.getfield 77, 3) := by decide +kernel
theorem dX4_about_91 : decode cX4_about 91 = .ok (.ireturn, 1) := by decide +kernel
theorem dX4_about_92 : decode cX4_about 92 = .ok (.aload_n 3, 1) := by decide +kernel
theorem dX4_about_93 : decode cX4_about 93 = .ok (.getfield 80, 3) := by decide +kernel
theorem dX4_about_96 : decode cX4_about 96 = .ok (.ireturn, 1) := by decide +kernel
theorem dX4_about_97 : decode cX4_about 97 = .ok (.aload_n 3, 1) := by decide +kernel
theorem dX4_about_98 : decode cX4_about 98 = .ok (.getfield 147, 3) := by decide +kernel
theorem dX4_about_101 : decode cX4_about 101 = .ok (.ireturn, 1) := by decide +kernel
theorem dX4_about_102 : decode cX4_about 102 = .ok (.aload_n 3, 1) := by decide +kernel
theorem dX4_about_103 : decode cX4_about 103 = .ok (.getfield 108, 3) := by decide +kernel
theorem dX4_about_106 : decode cX4_about 106 = .ok (.invokestatic 150, 3) := by decide +kernel
theorem dX4_about_109 : decode cX4_about 109 = .ok (.ireturn, 1) := by decide +kernel
theorem dX4_about_110 : decode cX4_about 110 = .ok (.aload_n 3, 1) := by decide +kernel
theorem dX4_about_111 : decode cX4_about 111 = .ok (.getfield 104, 3) := by decide +kernel
theorem dX4_about_114 : decode cX4_about 114 = .ok (.invokestatic 150, 3) := by decide +kernel
theorem dX4_about_117 : decode cX4_about 117 = .ok (.ireturn, 1) := by decide +kernel
theorem dX4_about_118 : decode cX4_about 118 = .ok (.aload_n 3, 1) := by decide +kernel
theorem dX4_about_119 : decode cX4_about 119 = .ok (.getfield 98, 3) := by decide +kernel
theorem dX4_about_122 : decode cX4_about 122 = .ok (.ifCond .eq 7, 3) := by decide +kernel
theorem dX4_about_125 : decode cX4_about 125 = .ok (.iconst 1, 1) := by decide +kernel
theorem dX4_about_126 : decode cX4_about 126 = .ok (.goto 4, 3) := by decide +kernel
theorem dX4_about_129 : decode cX4_about 129 = .ok (.iconst 0, 1) := by decide +kernel
theorem dX4_about_130 : decode cX4_about 130 = .ok (.ireturn, 1) := by decide +kernel
theorem dX4_about_131 : decode cX4_about 131 = .ok (.new 50, 3) := by decide +kernel
theorem dX4_about_134 : decode cX4_about 134 = .ok (.dup, 1) := by decide +kernel
theorem dX4_about_135 : decode cX4_about 135 = .ok (.ldc 154, 2) := by decide +kernel
theorem dX4_about_137 : decode cX4_about 137 = .ok (.invokespecial 54, 3) := by decide +kernel
theorem dX4_about_140 : decode cX4_about 140 = .ok (.athrow, 1) := by decide +kernel
set_option maxRecDepth 20000 in
theorem ggX4_way_X4_readingOf : GoodIn wsX4_way wsX4_readingOf := goodIn_ca (goodIn_r _ [10, 11, 12, 13, 41, 42, 43, 44, 45, 46, 47] (by decide +kernel) (by decide +kernel)) (goodIn_sub (fun _ h => List.mem_cons_of_mem _ (List.mem_append_right _ h)) (by decide +kernel))
set_option maxRecDepth 20000 in
theorem gX4_way_X4_readingOf : GoodIn wsX4_way (wsV RX4 46 RX4 yX4_readingOf wsX4_readingOf) := goodIn_app (goodIn_of _ (by decide +kernel)) ggX4_way_X4_readingOf
set_option maxRecDepth 20000 in
theorem ggX4_way_X3_at : GoodIn wsX4_way wsX3_at := goodIn_r _ [18, 19, 20, 39, 40] (by decide +kernel) (by decide +kernel)
set_option maxRecDepth 20000 in
theorem gX4_way_X3_at : GoodIn wsX4_way (wsV RX4 123 RX3 yX3_at wsX3_at) := goodIn_app (goodIn_of _ (by decide +kernel)) ggX4_way_X3_at
set_option maxRecDepth 20000 in
theorem ggX4_way_X4_madeBox : GoodIn wsX4_way wsX4_madeBox := goodIn_r _ [24, 25, 41, 42, 43, 44, 45, 46, 47] (by decide +kernel) (by decide +kernel)
set_option maxRecDepth 20000 in
theorem gX4_way_X4_madeBox : GoodIn wsX4_way (wsV RX4 139 RX4 yX4_madeBox wsX4_madeBox) := goodIn_app (goodIn_of _ (by decide +kernel)) ggX4_way_X4_madeBox
set_option maxRecDepth 20000 in
theorem ggX4_way_X1_middleAcross : GoodIn wsX4_way wsX1_middleAcross := goodIn_r _ [30, 31, 32, 48, 49, 50, 51, 52, 53, 54, 55, 56, 57] (by decide +kernel) (by decide +kernel)
set_option maxRecDepth 20000 in
theorem gX4_way_X1_middleAcross : GoodIn wsX4_way (wsV RX4 156 RX1 yX1_middleAcross wsX1_middleAcross) := goodIn_app (goodIn_of _ (by decide +kernel)) ggX4_way_X1_middleAcross
set_option maxRecDepth 20000 in
theorem ggX4_way_X1_middleDown : GoodIn wsX4_way wsX1_middleDown := goodIn_r _ [36, 37, 38, 48, 49, 50, 51, 52, 53, 54, 55, 56, 57] (by decide +kernel) (by decide +kernel)
set_option maxRecDepth 20000 in
theorem gX4_way_X1_middleDown : GoodIn wsX4_way (wsV RX4 165 RX1 yX1_middleDown wsX1_middleDown) := goodIn_app (goodIn_of _ (by decide +kernel)) ggX4_way_X1_middleDown
theorem dX4_way_0 : decode cX4_way 0 = .ok (.aload_n 0, 1) := by decide +kernel
theorem dX4_way_1 : decode cX4_way 1 = .ok (.iload_n 1, 1) := by decide +kernel
theorem dX4_way_2 : decode cX4_way 2 = .ok (.invokevirtual 46, 3) := by decide +kernel
theorem dX4_way_5 : decode cX4_way 5 = .ok (.astore_n 2, 1) := by decide +kernel
theorem dX4_way_6 : decode cX4_way 6 = .ok (.iconst 0, 1) := by decide +kernel
theorem dX4_way_7 : decode cX4_way 7 = .ok (.istore_n 3, 1) := by decide +kernel
theorem dX4_way_8 : decode cX4_way 8 = .ok (.iconst 1, 1) := by decide +kernel
theorem dX4_way_9 : decode cX4_way 9 = .ok (.istore 4, 2) := by decide +kernel
theorem dX4_way_11 : decode cX4_way 11 = .ok (.iload 4, 2) := by decide +kernel
theorem dX4_way_13 : decode cX4_way 13 = .ok (.aload_n 2, 1) := by decide +kernel
theorem dX4_way_14 : decode cX4_way 14 = .ok (.getfield 136, 3) := by decide +kernel
theorem dX4_way_17 : decode cX4_way 17 = .ok (.if_icmp .ge 79, 3) := by decide +kernel
theorem dX4_way_20 : decode cX4_way 20 = .ok (.aload_n 0, 1) := by decide +kernel
theorem dX4_way_21 : decode cX4_way 21 = .ok (.aload_n 2, 1) := by decide +kernel
theorem dX4_way_22 : decode cX4_way 22 = .ok (.iload 4, 2) := by decide +kernel
theorem dX4_way_24 : decode cX4_way 24 = .ok (.iconst 1, 1) := by decide +kernel
theorem dX4_way_25 : decode cX4_way 25 = .ok (.isub, 1) := by decide +kernel
theorem dX4_way_26 : decode cX4_way 26 = .ok (.invokevirtual 123, 3) := by decide +kernel
theorem dX4_way_29 : decode cX4_way 29 = .ok (.invokevirtual 139, 3) := by decide +kernel
theorem dX4_way_32 : decode cX4_way 32 = .ok (.astore 5, 2) := by decide +kernel
theorem dX4_way_34 : decode cX4_way 34 = .ok (.aload_n 0, 1) := by decide +kernel
theorem dX4_way_35 : decode cX4_way 35 = .ok (.aload_n 2, 1) := by decide +kernel
theorem dX4_way_36 : decode cX4_way 36 = .ok (.iload 4, 2) := by decide +kernel
theorem dX4_way_38 : decode cX4_way 38 = .ok (.invokevirtual 123, 3) := by decide +kernel
theorem dX4_way_41 : decode cX4_way 41 = .ok (.invokevirtual 139, 3) := by decide +kernel
theorem dX4_way_44 : decode cX4_way 44 = .ok (.astore 6, 2) := by decide +kernel
theorem dX4_way_46 : decode cX4_way 46 = .ok (.aload 5, 2) := by decide +kernel
theorem dX4_way_48 : decode cX4_way 48 = .ok (.ifnull 42, 3) := by decide +kernel
theorem dX4_way_51 : decode cX4_way 51 = .ok (.aload 6, 2) := by decide +kernel
theorem dX4_way_53 : decode cX4_way 53 = .ok (.ifnull 37, 3) := by decide +kernel
theorem dX4_way_56 : decode cX4_way 56 = .ok (.iload_n 3, 1) := by decide +kernel
theorem dX4_way_57 : decode cX4_way 57 = .ok (.aload 6, 2) := by decide +kernel
theorem dX4_way_59 : decode cX4_way 59 = .ok (.invokevirtual 156, 3) := by decide +kernel
theorem dX4_way_62 : decode cX4_way 62 = .ok (.aload 5, 2) := by decide +kernel
theorem dX4_way_64 : decode cX4_way 64 = .ok (.invokevirtual 156, 3) := by decide +kernel
theorem dX4_way_67 : decode cX4_way 67 = .ok (.isub, 1) := by decide +kernel
theorem dX4_way_68 : decode cX4_way 68 = .ok (.invokestatic 160, 3) := by decide +kernel
theorem dX4_way_71 : decode cX4_way 71 = .ok (.iadd, 1) := by decide +kernel
theorem dX4_way_72 : decode cX4_way 72 = .ok (.istore_n 3, 1) := by decide +kernel
theorem dX4_way_73 : decode cX4_way 73 = .ok (.iload_n 3, 1) := by decide +kernel
theorem dX4_way_74 : decode cX4_way 74 = .ok (.aload 6, 2) := by decide +kernel
theorem dX4_way_76 : decode cX4_way 76 = .ok (.invokevirtual 165, 3) := by decide +kernel
theorem dX4_way_79 : decode cX4_way 79 = .ok (.aload 5, 2) := by decide +kernel
theorem dX4_way_81 : decode cX4_way 81 = .ok (.invokevirtual 165, 3) := by decide +kernel
theorem dX4_way_84 : decode cX4_way 84 = .ok (.isub, 1) := by decide +kernel
theorem dX4_way_85 : decode cX4_way 85 = .ok (.invokestatic 160, 3) := by decide +kernel
theorem dX4_way_88 : decode cX4_way 88 = .ok (.iadd, 1) := by decide +kernel
theorem dX4_way_89 : decode cX4_way 89 = .ok (.istore_n 3, 1) := by decide +kernel
theorem dX4_way_90 : decode cX4_way 90 = .ok (.iinc 4 1, 3) := by decide +kernel
theorem dX4_way_93 : decode cX4_way 93 = .ok (.goto (-82), 3) := by decide +kernel
theorem dX4_way_96 : decode cX4_way 96 = .ok (.iload_n 3, 1) := by decide +kernel
theorem dX4_way_97 : decode cX4_way 97 = .ok (.ireturn, 1) := by decide +kernel
set_option maxRecDepth 20000 in
theorem ggX4_faults_X4_presentBox : GoodIn wsX4_faults wsX4_presentBox := goodIn_ca (goodIn_r _ [7, 8, 9, 10, 11, 12, 13, 6, 14, 15, 74, 75, 76, 77, 78, 79, 80, 81, 82, 83, 84, 85, 86, 87, 88, 89, 90] (by decide +kernel) (by decide +kernel)) (goodIn_sub (fun _ h => List.mem_cons_of_mem _ (List.mem_append_right _ h)) (by decide +kernel))
set_option maxRecDepth 20000 in
theorem gX4_faults_X4_presentBox : GoodIn wsX4_faults (wsV RX4 73 RX4 yX4_presentBox wsX4_presentBox) := goodIn_app (goodIn_of _ (by decide +kernel)) ggX4_faults_X4_presentBox
set_option maxRecDepth 20000 in
theorem ggX4_faults_X4_readingOf : GoodIn wsX4_faults wsX4_readingOf := goodIn_ca (goodIn_r _ [19, 8, 9, 20, 84, 85, 86, 87, 88, 89, 90] (by decide +kernel) (by decide +kernel)) (goodIn_sub (fun _ h => List.mem_cons_of_mem _ (List.mem_append_right _ h)) (by decide +kernel))
set_option maxRecDepth 20000 in
theorem gX4_faults_X4_readingOf : GoodIn wsX4_faults (wsV RX4 46 RX4 yX4_readingOf wsX4_readingOf) := goodIn_app (goodIn_of _ (by decide +kernel)) ggX4_faults_X4_readingOf
set_option maxRecDepth 20000 in
theorem ggX4_faults_X3_placeFor : GoodIn wsX4_faults wsX3_placeFor := goodIn_r _ [25, 26, 27, 28, 29, 24, 30, 31, 91, 92] (by decide +kernel) (by decide +kernel)
set_option maxRecDepth 20000 in
theorem gX4_faults_X3_placeFor : GoodIn wsX4_faults (wsV RX4 133 RX3 yX3_placeFor wsX3_placeFor) := goodIn_app (goodIn_of _ (by decide +kernel)) ggX4_faults_X3_placeFor
set_option maxRecDepth 20000 in
theorem ggX4_faults_X4_faultsAt : GoodIn wsX4_faults wsX4_faultsAt := goodIn_r _ [35, 36, 37, 38, 28, 29, 24, 30, 26, 31, 11, 12, 13, 6, 14, 15, 39, 40, 41, 42, 43, 44, 45, 46, 47, 48, 49, 50, 51, 52, 53, 54, 55, 56, 57, 58, 59, 60, 61, 62, 63, 64, 65, 66, 67, 68, 69, 70, 71, 72, 73, 74, 75, 76, 77, 78, 79, 80, 81, 82, 83, 91, 92, 84, 85, 86, 87, 88, 89, 90] (by decide +kernel) (by decide +kernel)
set_option maxRecDepth 20000 in
theorem gX4_faults_X4_faultsAt : GoodIn wsX4_faults (wsV RX4 168 RX4 yX4_faultsAt wsX4_faultsAt) := goodIn_app (goodIn_of _ (by decide +kernel)) ggX4_faults_X4_faultsAt
theorem dX4_faults_0 : decode cX4_faults 0 = .ok (.aload_n 0, 1) := by decide +kernel
theorem dX4_faults_1 : decode cX4_faults 1 = .ok (.iload_n 1, 1) := by decide +kernel
theorem dX4_faults_2 : decode cX4_faults 2 = .ok (.invokevirtual 73, 3) := by decide +kernel
theorem dX4_faults_5 : decode cX4_faults 5 = .ok (.astore_n 2, 1) := by decide +kernel
theorem dX4_faults_6 : decode cX4_faults 6 = .ok (.aload_n 0, 1) := by decide +kernel
theorem dX4_faults_7 : decode cX4_faults 7 = .ok (.aload_n 2, 1) := by decide +kernel
theorem dX4_faults_8 : decode cX4_faults 8 = .ok (.getfield 89, 3) := by decide +kernel
theorem dX4_faults_11 : decode cX4_faults 11 = .ok (.invokevirtual 46, 3) := by decide +kernel
theorem dX4_faults_14 : decode cX4_faults 14 = .ok (.astore_n 3, 1) := by decide +kernel
theorem dX4_faults_15 : decode cX4_faults 15 = .ok (.aload_n 0, 1) := by decide +kernel
theorem dX4_faults_16 : decode cX4_faults 16 = .ok (.aload_n 3, 1) := by decide +kernel
theorem dX4_faults_17 : decode cX4_faults 17 = .ok (.aload_n 3, 1) := by decide +kernel
theorem dX4_faults_18 : decode cX4_faults 18 = .ok (.aload_n 2, 1) := by decide +kernel
theorem dX4_faults_19 : decode cX4_faults 19 = .ok (.getfield 130, 3) := by decide +kernel
theorem dX4_faults_22 : decode cX4_faults 22 = .ok (.invokevirtual 133, 3) := by decide +kernel
theorem dX4_faults_25 : decode cX4_faults 25 = .ok (.invokevirtual 168, 3) := by decide +kernel
theorem dX4_faults_28 : decode cX4_faults 28 = .ok (.ireturn, 1) := by decide +kernel
set_option maxRecDepth 20000 in
theorem ggX4_faulty_X4_readingOf : GoodIn wsX4_faulty wsX4_readingOf := goodIn_ca (goodIn_r _ [6, 7, 8, 9, 64, 65, 66, 67, 68, 69, 70] (by decide +kernel) (by decide +kernel)) (goodIn_sub (fun _ h => List.mem_cons_of_mem _ (List.mem_append_right _ h)) (by decide +kernel))
set_option maxRecDepth 20000 in
theorem gX4_faulty_X4_readingOf : GoodIn wsX4_faulty (wsV RX4 46 RX4 yX4_readingOf wsX4_readingOf) := goodIn_app (goodIn_of _ (by decide +kernel)) ggX4_faulty_X4_readingOf
set_option maxRecDepth 20000 in
theorem ggX4_faulty_X4_faultsAt : GoodIn wsX4_faulty wsX4_faultsAt := goodIn_r _ [13, 14, 15, 16, 17, 18, 19, 20, 21, 22, 23, 24, 25, 5, 26, 27, 28, 29, 30, 31, 32, 33, 34, 35, 36, 37, 38, 39, 40, 41, 42, 43, 44, 45, 46, 47, 48, 1, 49, 50, 51, 52, 53, 54, 55, 56, 57, 58, 59, 60, 61, 71, 72, 73, 74, 75, 76, 77, 78, 79, 80, 62, 63, 64, 65, 66, 67, 68, 69, 70] (by decide +kernel) (by decide +kernel)
set_option maxRecDepth 20000 in
theorem gX4_faulty_X4_faultsAt : GoodIn wsX4_faulty (wsV RX4 168 RX4 yX4_faultsAt wsX4_faultsAt) := goodIn_app (goodIn_of _ (by decide +kernel)) ggX4_faulty_X4_faultsAt
theorem dX4_faulty_0 : decode cX4_faulty 0 = .ok (.aload_n 0, 1) := by decide +kernel
theorem dX4_faulty_1 : decode cX4_faulty 1 = .ok (.iload_n 1, 1) := by decide +kernel
theorem dX4_faulty_2 : decode cX4_faulty 2 = .ok (.invokevirtual 46, 3) := by decide +kernel
theorem dX4_faulty_5 : decode cX4_faulty 5 = .ok (.astore_n 2, 1) := by decide +kernel
theorem dX4_faulty_6 : decode cX4_faulty 6 = .ok (.iconst 0, 1) := by decide +kernel
theorem dX4_faulty_7 : decode cX4_faulty 7 = .ok (.istore_n 3, 1) := by decide +kernel
theorem dX4_faulty_8 : decode cX4_faulty 8 = .ok (.iconst 0, 1) := by decide +kernel
theorem dX4_faulty_9 : decode cX4_faulty 9 = .ok (.istore 4, 2) := by decide +kernel
theorem dX4_faulty_11 : decode cX4_faulty 11 = .ok (.iload 4, 2) := by decide +kernel
theorem dX4_faulty_13 : decode cX4_faulty 13 = .ok (.aload_n 2, 1) := by decide +kernel
theorem dX4_faulty_14 : decode cX4_faulty 14 = .ok (.getfield 136, 3) := by decide +kernel
theorem dX4_faulty_17 : decode cX4_faulty 17 = .ok (.if_icmp .ge 22, 3) := by decide +kernel
theorem dX4_faulty_20 : decode cX4_faulty 20 = .ok (.aload_n 0, 1) := by decide +kernel
theorem dX4_faulty_21 : decode cX4_faulty 21 = .ok (.aload_n 2, 1) := by decide +kernel
theorem dX4_faulty_22 : decode cX4_faulty 22 = .ok (.iload 4, 2) := by decide +kernel
theorem dX4_faulty_24 : decode cX4_faulty 24 = .ok (.invokevirtual 168, 3) := by decide +kernel
theorem dX4_faulty_27 : decode cX4_faulty 27 = .ok (.ifCond .eq 6, 3) := by decide +kernel
theorem dX4_faulty_30 : decode cX4_faulty 30 = .ok (.iinc 3 1, 3) := by decide +kernel
theorem dX4_faulty_33 : decode cX4_faulty 33 = .ok (.iinc 4 1, 3) := by decide +kernel
theorem dX4_faulty_36 : decode cX4_faulty 36 = .ok (.goto (-25), 3) := by decide +kernel
theorem dX4_faulty_39 : decode cX4_faulty 39 = .ok (.iload_n 3, 1) := by decide +kernel
theorem dX4_faulty_40 : decode cX4_faulty 40 = .ok (.ireturn, 1) := by decide +kernel
set_option maxRecDepth 20000 in
theorem ggX4_approve_X4_readingOf : GoodIn wsX4_approve wsX4_readingOf := goodIn_ca (goodIn_r _ [15, 1, 2, 16, 26, 27, 28, 29, 30, 31, 32] (by decide +kernel) (by decide +kernel)) (goodIn_sub (fun _ h => List.mem_cons_of_mem _ (List.mem_append_left _ (List.mem_append_right _ h))) (by decide +kernel))
set_option maxRecDepth 20000 in
theorem gX4_approve_X4_readingOf : GoodIn wsX4_approve (wsV RX4 46 RX4 yX4_readingOf wsX4_readingOf) := goodIn_app (goodIn_of _ (by decide +kernel)) ggX4_approve_X4_readingOf
set_option maxRecDepth 20000 in
theorem ggX4_approve_X0_init : GoodIn wsX4_approve wsX0_init := goodIn_r _ [19, 20, 21, 22, 23, 24, 25, 35, 36, 37] (by decide +kernel) (by decide +kernel)
set_option maxRecDepth 20000 in
theorem gX4_approve_X0_init : GoodIn wsX4_approve (wsX0_init) := ggX4_approve_X0_init
theorem dX4_approve_0 : decode cX4_approve 0 = .ok (.iload_n 1, 1) := by decide +kernel
theorem dX4_approve_1 : decode cX4_approve 1 = .ok (.ifCond .lt 9, 3) := by decide +kernel
theorem dX4_approve_4 : decode cX4_approve 4 = .ok (.iload_n 1, 1) := by decide +kernel
theorem dX4_approve_5 : decode cX4_approve 5 = .ok (.bipush 6, 2) := by decide +kernel
theorem dX4_approve_7 : decode cX4_approve 7 = .ok (.if_icmp .lt 13, 3) := by decide +kernel
theorem dX4_approve_10 : decode cX4_approve 10 = .ok (.new 142, 3) := by decide +kernel
theorem dX4_approve_13 : decode cX4_approve 13 = .ok (.dup, 1) := by decide +kernel
theorem dX4_approve_14 : decode cX4_approve 14 = .ok (.ldc 172, 2) := by decide +kernel
theorem dX4_approve_16 : decode cX4_approve 16 = .ok (.invokespecial 146, 3) := by decide +kernel
theorem dX4_approve_19 : decode cX4_approve 19 = .ok (.athrow, 1) := by decide +kernel
theorem dX4_approve_20 : decode cX4_approve 20 = .ok (.aload_n 0, 1) := by decide +kernel
theorem dX4_approve_21 : decode cX4_approve 21 = .ok (.iload_n 2, 1) := by decide +kernel
theorem dX4_approve_22 : decode cX4_approve 22 = .ok (.invokevirtual 46, 3) := by decide +kernel
theorem dX4_approve_25 : decode cX4_approve 25 = .ok (.astore_n 3, 1) := by decide +kernel
theorem dX4_approve_26 : decode cX4_approve 26 = .ok (.aload_n 0, 1) := by decide +kernel
theorem dX4_approve_27 : decode cX4_approve 27 = .ok (.getfield 43, 3) := by decide +kernel
theorem dX4_approve_30 : decode cX4_approve 30 = .ok (.istore 4, 2) := by decide +kernel
theorem dX4_approve_32 : decode cX4_approve 32 = .ok (.aload_n 3, 1) := by decide +kernel
theorem dX4_approve_33 : decode cX4_approve 33 = .ok (.getfield 136, 3) := by decide +kernel
theorem dX4_approve_36 : decode cX4_approve 36 = .ok (.ifCond .eq 18, 3) := by decide +kernel
theorem dX4_approve_39 : decode cX4_approve 39 = .ok (.iload 4, 2) := by decide +kernel
theorem dX4_approve_41 : decode cX4_approve 41 = .ok (.ifCond .lt 13, 3) := by decide +kernel
theorem dX4_approve_44 : decode cX4_approve 44 = .ok (.iload 4, 2) := by decide +kernel
theorem dX4_approve_46 : decode cX4_approve 46 = .ok (.aload_n 0, 1) := by decide +kernel
theorem dX4_approve_47 : decode cX4_approve 47 = .ok (.getfield 39, 3) := by decide +kernel
theorem dX4_approve_50 : decode cX4_approve 50 = .ok (.arraylength, 1) := by decide +kernel
theorem dX4_approve_51 : decode cX4_approve 51 = .ok (.if_icmp .lt 13, 3) := by decide +kernel
theorem dX4_approve_54 : decode cX4_approve 54 = .ok (.new 61, 3) := by decide +kernel
theorem dX4_approve_57 : decode cX4_approve 57 = .ok (.dup, 1) := by decide +kernel
theorem dX4_approve_58 : decode cX4_approve 58 = .ok (.ldc 174, 2) := by decide +kernel
theorem dX4_approve_60 : decode cX4_approve 60 = .ok (.invokespecial 65, 3) := by decide +kernel
theorem dX4_approve_63 : decode cX4_approve 63 = .ok (.athrow, 1) := by decide +kernel
theorem dX4_approve_64 : decode cX4_approve 64 = .ok (.aload_n 0, 1) := by decide +kernel
theorem dX4_approve_65 : decode cX4_approve 65 = .ok (.getfield 39, 3) := by decide +kernel
theorem dX4_approve_68 : decode cX4_approve 68 = .ok (.iload 4, 2) := by decide +kernel
theorem dX4_approve_70 : decode cX4_approve 70 = .ok (.new 37, 3) := by decide +kernel
theorem dX4_approve_73 : decode cX4_approve 73 = .ok (.dup, 1) := by decide +kernel
theorem dX4_approve_74 : decode cX4_approve 74 = .ok (.iload_n 1, 1) := by decide +kernel
theorem dX4_approve_75 : decode cX4_approve 75 = .ok (.iload_n 2, 1) := by decide +kernel
theorem dX4_approve_76 : decode cX4_approve 76 = .ok (.invokespecial 176, 3) := by decide +kernel
theorem dX4_approve_79 : decode cX4_approve 79 = .ok (.aastore, 1) := by decide +kernel
theorem dX4_approve_80 : decode cX4_approve 80 = .ok (.aload_n 0, 1) := by decide +kernel
theorem dX4_approve_81 : decode cX4_approve 81 = .ok (.iload 4, 2) := by decide +kernel
theorem dX4_approve_83 : decode cX4_approve 83 = .ok (.iconst 1, 1) := by decide +kernel
theorem dX4_approve_84 : decode cX4_approve 84 = .ok (.iadd, 1) := by decide +kernel
theorem dX4_approve_85 : decode cX4_approve 85 = .ok (.putfield 43, 3) := by decide +kernel
theorem dX4_approve_88 : decode cX4_approve 88 = .ok (.iload 4, 2) := by decide +kernel
theorem dX4_approve_90 : decode cX4_approve 90 = .ok (.ireturn, 1) := by decide +kernel
theorem dX4_stands_0 : decode cX4_stands 0 = .ok (.iload_n 1, 1) := by decide +kernel
theorem dX4_stands_1 : decode cX4_stands 1 = .ok (.ifCond .lt 21, 3) := by decide +kernel
theorem dX4_stands_4 : decode cX4_stands 4 = .ok (.iload_n 1, 1) := by decide +kernel
theorem dX4_stands_5 : decode cX4_stands 5 = .ok (.aload_n 0, 1) := by decide +kernel
theorem dX4_stands_6 : decode cX4_stands 6 = .ok (.getfield 39, 3) := by decide +kernel
theorem dX4_stands_9 : decode cX4_stands 9 = .ok (.arraylength, 1) := by decide +kernel
theorem dX4_stands_10 : decode cX4_stands 10 = .ok (.if_icmp .ge 12, 3) := by decide +kernel
theorem dX4_stands_13 : decode cX4_stands 13 = .ok (.aload_n 0, 1) := by decide +kernel
theorem dX4_stands_14 : decode cX4_stands 14 = .ok (.getfield 39, 3) := by decide +kernel
theorem dX4_stands_17 : decode cX4_stands 17 = .ok (.iload_n 1, 1) := by decide +kernel
theorem dX4_stands_18 : decode cX4_stands 18 = .ok (.aaload, 1) := by decide +kernel
theorem dX4_stands_19 : decode cX4_stands 19 = .ok (.goto 4, 3) := by decide +kernel
theorem dX4_stands_22 : decode cX4_stands 22 = .ok (.aconst_null, 1) := by decide +kernel
theorem dX4_stands_23 : decode cX4_stands 23 = .ok (.astore_n 2, 1) := by decide +kernel
theorem dX4_stands_24 : decode cX4_stands 24 = .ok (.aload_n 2, 1) := by decide +kernel
theorem dX4_stands_25 : decode cX4_stands 25 = .ok (.ifnonnull 13, 3) := by decide +kernel
theorem dX4_stands_28 : decode cX4_stands 28 = .ok (.new 142, 3) := by decide +kernel
theorem dX4_stands_31 : decode cX4_stands 31 = .ok (.dup, 1) := by decide +kernel
theorem dX4_stands_32 : decode cX4_stands 32 = .ok (.ldc 179, 2) := by decide +kernel
theorem dX4_stands_34 : decode cX4_stands 34 = .ok (.invokespecial 146, 3) := by decide +kernel
theorem dX4_stands_37 : decode cX4_stands 37 = .ok (.athrow, 1) := by decide +kernel
theorem dX4_stands_38 : decode cX4_stands 38 = .ok (.aload_n 2, 1) := by decide +kernel
theorem dX4_stands_39 : decode cX4_stands 39 = .ok (.getfield 181, 3) := by decide +kernel
theorem dX4_stands_42 : decode cX4_stands 42 = .ok (.ireturn, 1) := by decide +kernel
set_option maxRecDepth 20000 in
theorem ggX4_approvers_X4_readingOf : GoodIn wsX4_approvers wsX4_readingOf := goodIn_ca (goodIn_r _ [7, 8, 9, 10, 18, 19, 20, 21, 22, 23, 24] (by decide +kernel) (by decide +kernel)) (goodIn_sub (fun _ h => List.mem_cons_of_mem _ (List.mem_append_right _ h)) (by decide +kernel))
set_option maxRecDepth 20000 in
theorem gX4_approvers_X4_readingOf : GoodIn wsX4_approvers (wsV RX4 46 RX4 yX4_readingOf wsX4_readingOf) := goodIn_app (goodIn_of _ (by decide +kernel)) ggX4_approvers_X4_readingOf
set_option maxRecDepth 20000 in
theorem ggX4_approvers_X0_holdsFor : GoodIn wsX4_approvers wsX0_holdsFor := goodIn_r _ [15, 16, 17, 25, 26, 27] (by decide +kernel) (by decide +kernel)
set_option maxRecDepth 20000 in
theorem gX4_approvers_X0_holdsFor : GoodIn wsX4_approvers (wsV RX4 184 RX0 yX0_holdsFor wsX0_holdsFor) := goodIn_app (goodIn_of _ (by decide +kernel)) ggX4_approvers_X0_holdsFor
theorem dX4_approvers_0 : decode cX4_approvers 0 = .ok (.aload_n 0, 1) := by decide +kernel
theorem dX4_approvers_1 : decode cX4_approvers 1 = .ok (.iload_n 1, 1) := by decide +kernel
theorem dX4_approvers_2 : decode cX4_approvers 2 = .ok (.invokevirtual 46, 3) := by decide +kernel
theorem dX4_approvers_5 : decode cX4_approvers 5 = .ok (.pop, 1) := by decide +kernel
theorem dX4_approvers_6 : decode cX4_approvers 6 = .ok (.iconst 0, 1) := by decide +kernel
theorem dX4_approvers_7 : decode cX4_approvers 7 = .ok (.istore_n 2, 1) := by decide +kernel
theorem dX4_approvers_8 : decode cX4_approvers 8 = .ok (.iconst 0, 1) := by decide +kernel
theorem dX4_approvers_9 : decode cX4_approvers 9 = .ok (.istore_n 3, 1) := by decide +kernel
theorem dX4_approvers_10 : decode cX4_approvers 10 = .ok (.iload_n 3, 1) := by decide +kernel
theorem dX4_approvers_11 : decode cX4_approvers 11 = .ok (.aload_n 0, 1) := by decide +kernel
theorem dX4_approvers_12 : decode cX4_approvers 12 = .ok (.getfield 39, 3) := by decide +kernel
theorem dX4_approvers_15 : decode cX4_approvers 15 = .ok (.arraylength, 1) := by decide +kernel
theorem dX4_approvers_16 : decode cX4_approvers 16 = .ok (.if_icmp .ge 41, 3) := by decide +kernel
theorem dX4_approvers_19 : decode cX4_approvers 19 = .ok (.aload_n 0, 1) := by decide +kernel
theorem dX4_approvers_20 : decode cX4_approvers 20 = .ok (.getfield 39, 3) := by decide +kernel
theorem dX4_approvers_23 : decode cX4_approvers 23 = .ok (.iload_n 3, 1) := by decide +kernel
theorem dX4_approvers_24 : decode cX4_approvers 24 = .ok (.aaload, 1) := by decide +kernel
theorem dX4_approvers_25 : decode cX4_approvers 25 = .ok (.astore 4, 2) := by decide +kernel
theorem dX4_approvers_27 : decode cX4_approvers 27 = .ok (.aload 4, 2) := by decide +kernel
theorem dX4_approvers_29 : decode cX4_approvers 29 = .ok (.ifnull 22, 3) := by decide +kernel
theorem dX4_approvers_32 : decode cX4_approvers 32 = .ok (.aload 4, 2) := by decide +kernel
theorem dX4_approvers_34 : decode cX4_approvers 34 = .ok (.iload_n 1, 1) := by decide +kernel
theorem dX4_approvers_35 : decode cX4_approvers 35 = .ok (.invokevirtual 184, 3) := by decide +kernel
theorem dX4_approvers_38 : decode cX4_approvers 38 = .ok (.ifCond .eq 13, 3) := by decide +kernel
theorem dX4_approvers_41 : decode cX4_approvers 41 = .ok (.iload_n 2, 1) := by decide +kernel
theorem dX4_approvers_42 : decode cX4_approvers 42 = .ok (.iconst 1, 1) := by decide +kernel
theorem dX4_approvers_43 : decode cX4_approvers 43 = .ok (.aload 4, 2) := by decide +kernel
theorem dX4_approvers_45 : decode cX4_approvers 45 = .ok (.getfield 188, 3) := by decide +kernel
theorem dX4_approvers_48 : decode cX4_approvers 48 = .ok (.ishl, 1) := by decide +kernel
theorem dX4_approvers_49 : decode cX4_approvers 49 = .ok (.ior, 1) := by decide +kernel
theorem dX4_approvers_50 : decode cX4_approvers 50 = .ok (.istore_n 2, 1) := by decide +kernel
theorem dX4_approvers_51 : decode cX4_approvers 51 = .ok (.iinc 3 1, 3) := by decide +kernel
theorem dX4_approvers_54 : decode cX4_approvers 54 = .ok (.goto (-44), 3) := by decide +kernel
theorem dX4_approvers_57 : decode cX4_approvers 57 = .ok (.iload_n 2, 1) := by decide +kernel
theorem dX4_approvers_58 : decode cX4_approvers 58 = .ok (.ireturn, 1) := by decide +kernel
set_option maxRecDepth 20000 in
theorem ggX4_breaks_X4_presentBox : GoodIn wsX4_breaks wsX4_presentBox := goodIn_ca (goodIn_r _ [11, 12, 13, 14, 15, 16, 17, 10, 18, 19, 124, 125, 126, 127, 128, 129, 130, 131, 132, 133, 134, 135, 136, 137, 138, 139, 140] (by decide +kernel) (by decide +kernel)) (goodIn_sub (fun _ h => List.mem_cons_of_mem _ (List.mem_append_left _ (List.mem_append_right _ h))) (by decide +kernel))
set_option maxRecDepth 20000 in
theorem gX4_breaks_X4_presentBox : GoodIn wsX4_breaks (wsV RX4 73 RX4 yX4_presentBox wsX4_presentBox) := goodIn_app (goodIn_of _ (by decide +kernel)) ggX4_breaks_X4_presentBox
set_option maxRecDepth 20000 in
theorem ggX4_breaks_X4_checkWithinPage : GoodIn wsX4_breaks wsX4_checkWithinPage := goodIn_ca (goodIn_r _ [22, 23, 24] (by decide +kernel) (by decide +kernel)) (goodIn_sub (fun _ h => List.mem_cons_of_mem _ (List.mem_append_right _ h)) (by decide +kernel))
set_option maxRecDepth 20000 in
theorem gX4_breaks_X4_checkWithinPage : GoodIn wsX4_breaks (va_wsS RX4 57 yX4_checkWithinPage wsX4_checkWithinPage) := goodIn_app (goodIn_of _ (by decide +kernel)) ggX4_breaks_X4_checkWithinPage
set_option maxRecDepth 20000 in
theorem ggX4_breaks_X4_readByCuts : GoodIn wsX4_breaks wsX4_readByCuts := goodIn_r _ [28, 29, 30, 31, 32, 10, 33, 34, 14, 5, 35, 15, 16, 17, 18, 19, 36, 37, 38, 39, 40, 41, 42, 43, 44, 45, 46, 47, 48, 49, 50, 51, 52, 53, 54, 55, 56, 57, 58, 59, 60, 61, 62, 63, 64, 65, 66, 67, 68, 69, 70, 71, 72, 73, 74, 75, 76, 77, 78, 79, 80, 81, 82, 83, 84, 85, 86, 87, 88, 89, 90, 91, 92, 93, 94, 95, 96, 97, 98, 141, 142, 134, 135, 136, 137, 138, 139, 140, 124, 125, 126, 127, 128, 129, 130, 131, 132, 133] (by decide +kernel) (by decide +kernel)
set_option maxRecDepth 20000 in
theorem gX4_breaks_X4_readByCuts : GoodIn wsX4_breaks (wsV RX4 191 RX4 yX4_readByCuts wsX4_readByCuts) := goodIn_app (goodIn_of _ (by decide +kernel)) ggX4_breaks_X4_readByCuts
set_option maxRecDepth 20000 in
theorem ggX4_breaks_X4_readingOf : GoodIn wsX4_breaks wsX4_readingOf := goodIn_ca (goodIn_r _ [102, 12, 13, 103, 134, 135, 136, 137, 138, 139, 140] (by decide +kernel) (by decide +kernel)) (goodIn_sub (fun _ h => List.mem_cons_of_mem _ (List.mem_append_left _ (List.mem_append_right _ h))) (by decide +kernel))
set_option maxRecDepth 20000 in
theorem gX4_breaks_X4_readingOf : GoodIn wsX4_breaks (wsV RX4 46 RX4 yX4_readingOf wsX4_readingOf) := goodIn_app (goodIn_of _ (by decide +kernel)) ggX4_breaks_X4_readingOf
set_option maxRecDepth 20000 in
theorem ggX4_breaks_X3_isSameAs : GoodIn wsX4_breaks wsX3_isSameAs := goodIn_r _ [107, 93, 108, 109, 110, 91, 111, 94, 141, 142] (by decide +kernel) (by decide +kernel)
set_option maxRecDepth 20000 in
theorem gX4_breaks_X3_isSameAs : GoodIn wsX4_breaks (wsV RX4 194 RX3 yX3_isSameAs wsX3_isSameAs) := goodIn_app (goodIn_of _ (by decide +kernel)) ggX4_breaks_X3_isSameAs
set_option maxRecDepth 20000 in
theorem ggX4_breaks_X4_countHolding : GoodIn wsX4_breaks wsX4_countHolding := goodIn_r _ [115, 116, 117, 118, 119, 120, 121, 122, 123, 134, 135, 136, 137, 138, 139, 140, 143, 144, 145] (by decide +kernel) (by decide +kernel)
set_option maxRecDepth 20000 in
theorem gX4_breaks_X4_countHolding : GoodIn wsX4_breaks (wsV RX4 198 RX4 yX4_countHolding wsX4_countHolding) := goodIn_app (goodIn_of _ (by decide +kernel)) ggX4_breaks_X4_countHolding
theorem dX4_breaks_0 : decode cX4_breaks 0 = .ok (.aload_n 0, 1) := by decide +kernel
theorem dX4_breaks_1 : decode cX4_breaks 1 = .ok (.iload_n 1, 1) := by decide +kernel
theorem dX4_breaks_2 : decode cX4_breaks 2 = .ok (.invokevirtual 73, 3) := by decide +kernel
theorem dX4_breaks_5 : decode cX4_breaks 5 = .ok (.astore 4, 2) := by decide +kernel
theorem dX4_breaks_7 : decode cX4_breaks 7 = .ok (.iload_n 2, 1) := by decide +kernel
theorem dX4_breaks_8 : decode cX4_breaks 8 = .ok (.iload_n 3, 1) := by decide +kernel
theorem dX4_breaks_9 : decode cX4_breaks 9 = .ok (.aload 4, 2) := by decide +kernel
theorem dX4_breaks_11 : decode cX4_breaks 11 = .ok (.getfield 77, 3) := by decide +kernel
theorem dX4_breaks_14 : decode cX4_breaks 14 = .ok (.aload 4, 2) := by decide +kernel
theorem dX4_breaks_16 : decode cX4_breaks 16 = .ok (.getfield 80, 3) := by decide +kernel
theorem dX4_breaks_19 : decode cX4_breaks 19 = .ok (.invokestatic 57, 3) := by decide +kernel
theorem dX4_breaks_22 : decode cX4_breaks 22 = .ok (.aload 4, 2) := by decide +kernel
theorem dX4_breaks_24 : decode cX4_breaks 24 = .ok (.getfield 83, 3) := by decide +kernel
theorem dX4_breaks_27 : decode cX4_breaks 27 = .ok (.istore 5, 2) := by decide +kernel
theorem dX4_breaks_29 : decode cX4_breaks 29 = .ok (.aload 4, 2) := by decide +kernel
theorem dX4_breaks_31 : decode cX4_breaks 31 = .ok (.getfield 86, 3) := by decide +kernel
theorem dX4_breaks_34 : decode cX4_breaks 34 = .ok (.istore 6, 2) := by decide +kernel
theorem dX4_breaks_36 : decode cX4_breaks 36 = .ok (.aload 4, 2) := by decide +kernel
theorem dX4_breaks_38 : decode cX4_breaks 38 = .ok (.iload_n 2, 1) := by decide +kernel
theorem dX4_breaks_39 : decode cX4_breaks 39 = .ok (.putfield 83, 3) := by decide +kernel
theorem dX4_breaks_42 : decode cX4_breaks 42 = .ok (.aload 4, 2) := by decide +kernel
theorem dX4_breaks_44 : decode cX4_breaks 44 = .ok (.iload_n 3, 1) := by decide +kernel
theorem dX4_breaks_45 : decode cX4_breaks 45 = .ok (.putfield 86, 3) := by decide +kernel
theorem dX4_breaks_48 : decode cX4_breaks 48 = .ok (.aload_n 0, 1) := by decide +kernel
theorem dX4_breaks_49 : decode cX4_breaks 49 = .ok (.aload 4, 2) := by decide +kernel
theorem dX4_breaks_51 : decode cX4_breaks 51 = .ok (.getfield 89, 3) := by decide +kernel
theorem dX4_breaks_54 : decode cX4_breaks 54 = .ok (.aload_n 0, 1) := by decide +kernel
theorem dX4_breaks_55 : decode cX4_breaks 55 = .ok (.getfield 26, 3) := by decide +kernel
theorem dX4_breaks_58 : decode cX4_breaks 58 = .ok (.invokevirtual 191, 3) := by decide +kernel
theorem dX4_breaks_61 : decode cX4_breaks 61 = .ok (.aload 4, 2) := by decide +kernel
theorem dX4_breaks_63 : decode cX4_breaks 63 = .ok (.iload 5, 2) := by decide +kernel
theorem dX4_breaks_65 : decode cX4_breaks 65 = .ok (.putfield 83, 3) := by decide +kernel
theorem dX4_breaks_68 : decode cX4_breaks 68 = .ok (.aload 4, 2) := by decide +kernel
theorem dX4_breaks_70 : decode cX4_breaks 70 = .ok (.iload 6, 2) := by decide +kernel
theorem dX4_breaks_72 : decode cX4_breaks 72 = .ok (.putfield 86, 3) := by decide +kernel
theorem dX4_breaks_75 : decode cX4_breaks 75 = .ok (.aload_n 0, 1) := by decide +kernel
theorem dX4_breaks_76 : decode cX4_breaks 76 = .ok (.getfield 26, 3) := by decide +kernel
theorem dX4_breaks_79 : decode cX4_breaks 79 = .ok (.aload_n 0, 1) := by decide +kernel
theorem dX4_breaks_80 : decode cX4_breaks 80 = .ok (.aload 4, 2) := by decide +kernel
theorem dX4_breaks_82 : decode cX4_breaks 82 = .ok (.getfield 89, 3) := by decide +kernel
theorem dX4_breaks_85 : decode cX4_breaks 85 = .ok (.invokevirtual 46, 3) := by decide +kernel
theorem dX4_breaks_88 : decode cX4_breaks 88 = .ok (.invokevirtual 194, 3) := by decide +kernel
theorem dX4_breaks_91 : decode cX4_breaks 91 = .ok (.ifCond .eq 7, 3) := by decide +kernel
theorem dX4_breaks_94 : decode cX4_breaks 94 = .ok (.iconst 0, 1) := by decide +kernel
theorem dX4_breaks_95 : decode cX4_breaks 95 = .ok (.goto 12, 3) := by decide +kernel
theorem dX4_breaks_98 : decode cX4_breaks 98 = .ok (.aload_n 0, 1) := by decide +kernel
theorem dX4_breaks_99 : decode cX4_breaks 99 = .ok (.aload 4, 2) := by decide +kernel
theorem dX4_breaks_101 : decode cX4_breaks 101 = .ok (.getfield 89, 3) := by decide +kernel
theorem dX4_breaks_104 : decode cX4_breaks 104 = .ok (.invokevirtual 198, 3) := by decide +kernel
theorem dX4_breaks_107 : decode cX4_breaks 107 = .ok (.ireturn, 1) := by decide +kernel
theorem dX4_readingOf_0 : decode cX4_readingOf 0 = .ok (.iload_n 1, 1) := by decide +kernel
theorem dX4_readingOf_1 : decode cX4_readingOf 1 = .ok (.ifCond .lt 21, 3) := by decide +kernel
theorem dX4_readingOf_4 : decode cX4_readingOf 4 = .ok (.iload_n 1, 1) := by decide +kernel
theorem dX4_readingOf_5 : decode cX4_readingOf 5 = .ok (.aload_n 0, 1) := by decide +kernel
theorem dX4_readingOf_6 : decode cX4_readingOf 6 = .ok (.getfield 21, 3) := by decide +kernel
theorem dX4_readingOf_9 : decode cX4_readingOf 9 = .ok (.arraylength, 1) := by decide +kernel
theorem dX4_readingOf_10 : decode cX4_readingOf 10 = .ok (.if_icmp .ge 12, 3) := by decide +kernel
theorem dX4_readingOf_13 : decode cX4_readingOf 13 = .ok (.aload_n 0, 1) := by decide +kernel
theorem dX4_readingOf_14 : decode cX4_readingOf 14 = .ok (.getfield 21, 3) := by decide +kernel
theorem dX4_readingOf_17 : decode cX4_readingOf 17 = .ok (.iload_n 1, 1) := by decide +kernel
theorem dX4_readingOf_18 : decode cX4_readingOf 18 = .ok (.aaload, 1) := by decide +kernel
theorem dX4_readingOf_19 : decode cX4_readingOf 19 = .ok (.goto 4, 3) := by decide +kernel
theorem dX4_readingOf_22 : decode cX4_readingOf 22 = .ok (.aconst_null, 1) := by decide +kernel
theorem dX4_readingOf_23 : decode cX4_readingOf 23 = .ok (.astore_n 2, 1) := by decide +kernel
theorem dX4_readingOf_24 : decode cX4_readingOf 24 = .ok (.aload_n 2, 1) := by decide +kernel
theorem dX4_readingOf_25 : decode cX4_readingOf 25 = .ok (.ifnonnull 13, 3) := by decide +kernel
theorem dX4_readingOf_28 : decode cX4_readingOf 28 = .ok (.new 142, 3) := by decide +kernel
theorem dX4_readingOf_31 : decode cX4_readingOf 31 = .ok (.dup, 1) := by decide +kernel
theorem dX4_readingOf_32 : decode cX4_readingOf 32 = .ok (.ldc 201, 2) := by decide +kernel
theorem dX4_readingOf_34 : decode cX4_readingOf 34 = .ok (.invokespecial 146, 3) := by decide +kernel
theorem dX4_readingOf_37 : decode cX4_readingOf 37 = .ok (.athrow, 1) := by decide +kernel
theorem dX4_readingOf_38 : decode cX4_readingOf 38 = .ok (.aload_n 2, 1) := by decide +kernel
theorem dX4_readingOf_39 : decode cX4_readingOf 39 = .ok (.areturn, 1) := by decide +kernel
set_option maxRecDepth 20000 in
theorem ggX4_presentBox_X4_madeBox : GoodIn wsX4_presentBox wsX4_madeBox := goodIn_r _ [8, 9, 20, 21, 22, 23, 24, 25, 26] (by decide +kernel) (by decide +kernel)
set_option maxRecDepth 20000 in
theorem gX4_presentBox_X4_madeBox : GoodIn wsX4_presentBox (wsV RX4 139 RX4 yX4_madeBox wsX4_madeBox) := goodIn_app (goodIn_of _ (by decide +kernel)) ggX4_presentBox_X4_madeBox
theorem dX4_presentBox_0 : decode cX4_presentBox 0 = .ok (.aload_n 0, 1) := by decide +kernel
theorem dX4_presentBox_1 : decode cX4_presentBox 1 = .ok (.iload_n 1, 1) := by decide +kernel
theorem dX4_presentBox_2 : decode cX4_presentBox 2 = .ok (.invokevirtual 139, 3) := by decide +kernel
theorem dX4_presentBox_5 : decode cX4_presentBox 5 = .ok (.astore_n 2, 1) := by decide +kernel
theorem dX4_presentBox_6 : decode cX4_presentBox 6 = .ok (.aload_n 2, 1) := by decide +kernel
theorem dX4_presentBox_7 : decode cX4_presentBox 7 = .ok (.ifnull 10, 3) := by decide +kernel
theorem dX4_presentBox_10 : decode cX4_presentBox 10 = .ok (.aload_n 2, 1) := by decide +kernel
theorem dX4_presentBox_11 : decode cX4_presentBox 11 = .ok (.getfield 98, 3) := by decide +kernel
theorem dX4_presentBox_14 : decode cX4_presentBox 14 = .ok (.ifCond .eq 13, 3) := by decide +kernel
theorem dX4_presentBox_17 : decode cX4_presentBox 17 = .ok (.new 142, 3) := by decide +kernel
theorem dX4_presentBox_20 : decode cX4_presentBox 20 = .ok (.dup, 1) := by decide +kernel
theorem dX4_presentBox_21 : decode cX4_presentBox 21 = .ok (.ldc 203, 2) := by decide +kernel
theorem dX4_presentBox_23 : decode cX4_presentBox 23 = .ok (.invokespecial 146, 3) := by decide +kernel
theorem dX4_presentBox_26 : decode cX4_presentBox 26 = .ok (.athrow, 1) := by decide +kernel
theorem dX4_presentBox_27 : decode cX4_presentBox 27 = .ok (.aload_n 2, 1) := by decide +kernel
theorem dX4_presentBox_28 : decode cX4_presentBox 28 = .ok (.areturn, 1) := by decide +kernel
theorem dX4_checkPlace_0 : decode cX4_checkPlace 0 = .ok (.iload_n 0, 1) := by decide +kernel
theorem dX4_checkPlace_1 : decode cX4_checkPlace 1 = .ok (.ifCond .ge 13, 3) := by decide +kernel
theorem dX4_checkPlace_4 : decode cX4_checkPlace 4 = .ok (.new 142, 3) := by decide +kernel
theorem dX4_checkPlace_7 : decode cX4_checkPlace 7 = .ok (.dup, 1) := by decide +kernel
theorem dX4_checkPlace_8 : decode cX4_checkPlace 8 = .ok (.ldc 205, 2) := by decide +kernel
theorem dX4_checkPlace_10 : decode cX4_checkPlace 10 = .ok (.invokespecial 146, 3) := by decide +kernel
theorem dX4_checkPlace_13 : decode cX4_checkPlace 13 = .ok (.athrow, 1) := by decide +kernel
theorem dX4_checkPlace_14 : decode cX4_checkPlace 14 = .ok (.return_, 1) := by decide +kernel
theorem dX4_checkWithinPage_0 : decode cX4_checkWithinPage 0 = .ok (.iload_n 0, 1) := by decide +kernel
theorem dX4_checkWithinPage_1 : decode cX4_checkWithinPage 1 = .ok (.ifCond .lt 45, 3) := by decide +kernel
theorem dX4_checkWithinPage_4 : decode cX4_checkWithinPage 4 = .ok (.iload_n 1, 1) := by decide +kernel
theorem dX4_checkWithinPage_5 : decode cX4_checkWithinPage 5 = .ok (.ifCond .lt 41, 3) := by decide +kernel
theorem dX4_checkWithinPage_8 : decode cX4_checkWithinPage 8 = .ok (.iload_n 2, 1) := by decide +kernel
theorem dX4_checkWithinPage_9 : decode cX4_checkWithinPage 9 = .ok (.iconst 1, 1) := by decide +kernel
theorem dX4_checkWithinPage_10 : decode cX4_checkWithinPage 10 = .ok (.if_icmp .lt 36, 3) := by decide +kernel
theorem dX4_checkWithinPage_13 : decode cX4_checkWithinPage 13 = .ok (.iload_n 3, 1) := by decide +kernel
theorem dX4_checkWithinPage_14 : decode cX4_checkWithinPage 14 = .ok (.iconst 1, 1) := by decide +kernel
theorem dX4_checkWithinPage_15 : decode cX4_checkWithinPage 15 = .ok (.if_icmp .lt 31, 3) := by decide +kernel
theorem dX4_checkWithinPage_18 : decode cX4_checkWithinPage 18 = .ok (.iload_n 0, 1) := by decide +kernel
theorem dX4_checkWithinPage_19 : decode cX4_checkWithinPage 19 = .ok (.bipush 60, 2) := by decide +kernel
theorem dX4_checkWithinPage_21 : decode cX4_checkWithinPage 21 = .ok (.if_icmp .gt 25, 3) := by decide +kernel
theorem dX4_checkWithinPage_24 : decode cX4_checkWithinPage 24 = .ok (.iload_n 2, 1) := by decide +kernel
theorem dX4_checkWithinPage_25 : decode cX4_checkWithinPage 25 = .ok (.bipush 60, 2) := by decide +kernel
theorem dX4_checkWithinPage_27 : decode cX4_checkWithinPage 27 = .ok (.iload_n 0, 1) := by decide +kernel
theorem dX4_checkWithinPage_28 : decode cX4_checkWithinPage 28 = .ok (.isub, 1) := by decide +kernel
theorem dX4_checkWithinPage_29 : decode cX4_checkWithinPage 29 = .ok (.if_icmp .gt 17, 3) := by decide +kernel
theorem dX4_checkWithinPage_32 : decode cX4_checkWithinPage 32 = .ok (.iload_n 1, 1) := by decide +kernel
theorem dX4_checkWithinPage_33 : decode cX4_checkWithinPage 33 = .ok (.bipush 80, 2) := by decide +kernel
theorem dX4_checkWithinPage_35 : decode cX4_checkWithinPage 35 = .ok (.if_icmp .gt 11, 3) := by decide +kernel
theorem dX4_checkWithinPage_38 : decode cX4_checkWithinPage 38 = .ok (.iload_n 3, 1) := by decide +kernel
theorem dX4_checkWithinPage_39 : decode cX4_checkWithinPage 39 = .ok (.bipush 80, 2) := by decide +kernel
theorem dX4_checkWithinPage_41 : decode cX4_checkWithinPage 41 = .ok (.iload_n 1, 1) := by decide +kernel
theorem dX4_checkWithinPage_42 : decode cX4_checkWithinPage 42 = .ok (.isub, 1) := by decide +kernel
theorem dX4_checkWithinPage_43 : decode cX4_checkWithinPage 43 = .ok (.if_icmp .le 13, 3) := by decide +kernel
theorem dX4_checkWithinPage_46 : decode cX4_checkWithinPage 46 = .ok (.new 50, 3) := by decide +kernel
theorem dX4_checkWithinPage_49 : decode cX4_checkWithinPage 49 = .ok (.dup, 1) := by decide +kernel
theorem dX4_checkWithinPage_50 : decode cX4_checkWithinPage 50 = .ok (.ldc 207, 2) := by decide +kernel
theorem dX4_checkWithinPage_52 : decode cX4_checkWithinPage 52 = .ok (.invokespecial 54, 3) := by decide +kernel
theorem dX4_checkWithinPage_55 : decode cX4_checkWithinPage 55 = .ok (.athrow, 1) := by decide +kernel
theorem dX4_checkWithinPage_56 : decode cX4_checkWithinPage 56 = .ok (.return_, 1) := by decide +kernel
theorem dX4_madeBox_0 : decode cX4_madeBox 0 = .ok (.iload_n 1, 1) := by decide +kernel
theorem dX4_madeBox_1 : decode cX4_madeBox 1 = .ok (.ifCond .lt 21, 3) := by decide +kernel
theorem dX4_madeBox_4 : decode cX4_madeBox 4 = .ok (.iload_n 1, 1) := by decide +kernel
theorem dX4_madeBox_5 : decode cX4_madeBox 5 = .ok (.aload_n 0, 1) := by decide +kernel
theorem dX4_madeBox_6 : decode cX4_madeBox 6 = .ok (.getfield 11, 3) := by decide +kernel
theorem dX4_madeBox_9 : decode cX4_madeBox 9 = .ok (.arraylength, 1) := by decide +kernel
theorem dX4_madeBox_10 : decode cX4_madeBox 10 = .ok (.if_icmp .ge 12, 3) := by decide +kernel
theorem dX4_madeBox_13 : decode cX4_madeBox 13 = .ok (.aload_n 0, 1) := by decide +kernel
theorem dX4_madeBox_14 : decode cX4_madeBox 14 = .ok (.getfield 11, 3) := by decide +kernel
theorem dX4_madeBox_17 : decode cX4_madeBox 17 = .ok (.iload_n 1, 1) := by decide +kernel
theorem dX4_madeBox_18 : decode cX4_madeBox 18 = .ok (.aaload, 1) := by decide +kernel
theorem dX4_madeBox_19 : decode cX4_madeBox 19 = .ok (.goto 4, 3) := by decide +kernel
theorem dX4_madeBox_22 : decode cX4_madeBox 22 = .ok (.aconst_null, 1) := by decide +kernel
theorem dX4_madeBox_23 : decode cX4_madeBox 23 = .ok (.areturn, 1) := by decide +kernel
theorem dX4_numberOf_0 : decode cX4_numberOf 0 = .ok (.aload_n 0, 1) := by decide +kernel
theorem dX4_numberOf_1 : decode cX4_numberOf 1 = .ok (.ifnonnull 7, 3) := by decide +kernel
theorem dX4_numberOf_4 : decode cX4_numberOf 4 = .ok (.iconst (-1), 1) := by decide +kernel
theorem dX4_numberOf_5 : decode cX4_numberOf 5 = .ok (.goto 7, 3) := by decide +kernel
theorem dX4_numberOf_8 : decode cX4_numberOf 8 = .ok (.aload_n 0, 1) := by decide +kernel
theorem dX4_numberOf_9 : decode cX4_numberOf 9 = .ok (.getfield 130, 3) := by decide +kernel
theorem dX4_numberOf_12 : decode cX4_numberOf 12 = .ok (.ireturn, 1) := by decide +kernel
set_option maxRecDepth 20000 in
theorem ggX4_readAgain_X4_readingOf : GoodIn wsX4_readAgain wsX4_readingOf := goodIn_ca (goodIn_r _ [6, 7, 8, 9, 117, 118, 119, 120, 121, 122, 123] (by decide +kernel) (by decide +kernel)) (goodIn_sub (fun _ h => List.mem_cons_of_mem _ (List.mem_append_right _ h)) (by decide +kernel))
set_option maxRecDepth 20000 in
theorem gX4_readAgain_X4_readingOf : GoodIn wsX4_readAgain (wsV RX4 46 RX4 yX4_readingOf wsX4_readingOf) := goodIn_app (goodIn_of _ (by decide +kernel)) ggX4_readAgain_X4_readingOf
set_option maxRecDepth 20000 in
theorem ggX4_readAgain_X4_readByCuts : GoodIn wsX4_readAgain wsX4_readByCuts := goodIn_r _ [13, 14, 15, 16, 17, 5, 18, 19, 20, 21, 22, 23, 24, 25, 26, 27, 28, 29, 30, 31, 32, 33, 34, 35, 36, 37, 38, 39, 40, 41, 42, 43, 44, 45, 46, 47, 48, 49, 50, 51, 52, 53, 54, 55, 56, 57, 58, 59, 60, 61, 62, 63, 64, 65, 66, 67, 68, 69, 70, 71, 72, 73, 74, 75, 76, 77, 78, 79, 80, 81, 82, 83, 84, 85, 86, 87, 88, 89, 90, 124, 125, 117, 118, 119, 120, 121, 122, 123, 126, 127, 128, 129, 130, 131, 132, 133, 134, 135] (by decide +kernel) (by decide +kernel)
set_option maxRecDepth 20000 in
theorem gX4_readAgain_X4_readByCuts : GoodIn wsX4_readAgain (wsV RX4 191 RX4 yX4_readByCuts wsX4_readByCuts) := goodIn_app (goodIn_of _ (by decide +kernel)) ggX4_readAgain_X4_readByCuts
set_option maxRecDepth 20000 in
theorem ggX4_readAgain_X3_isSameAs : GoodIn wsX4_readAgain wsX3_isSameAs := goodIn_r _ [94, 85, 95, 96, 97, 83, 98, 86, 124, 125] (by decide +kernel) (by decide +kernel)
set_option maxRecDepth 20000 in
theorem gX4_readAgain_X3_isSameAs : GoodIn wsX4_readAgain (wsV RX4 194 RX3 yX3_isSameAs wsX3_isSameAs) := goodIn_app (goodIn_of _ (by decide +kernel)) ggX4_readAgain_X3_isSameAs
set_option maxRecDepth 20000 in
theorem ggX4_readAgain_X3_become : GoodIn wsX4_readAgain wsX3_become := goodIn_r _ [102, 85, 95, 96, 97, 83, 98, 86, 103, 81, 82, 84, 124, 125] (by decide +kernel) (by decide +kernel)
set_option maxRecDepth 20000 in
theorem gX4_readAgain_X3_become : GoodIn wsX4_readAgain (wsV RX4 209 RX3 yX3_become wsX3_become) := goodIn_app (goodIn_of _ (by decide +kernel)) ggX4_readAgain_X3_become
set_option maxRecDepth 20000 in
theorem ggX4_readAgain_X4_letFall : GoodIn wsX4_readAgain wsX4_letFall := goodIn_r _ [107, 108, 109, 110, 111, 112, 113, 114, 115, 116, 117, 118, 119, 120, 121, 122, 123, 136, 137, 138] (by decide +kernel) (by decide +kernel)
set_option maxRecDepth 20000 in
theorem gX4_readAgain_X4_letFall : GoodIn wsX4_readAgain (wsV RX4 213 RX4 yX4_letFall wsX4_letFall) := goodIn_app (goodIn_of _ (by decide +kernel)) ggX4_readAgain_X4_letFall
theorem dX4_readAgain_0 : decode cX4_readAgain 0 = .ok (.aload_n 0, 1) := by decide +kernel
theorem dX4_readAgain_1 : decode cX4_readAgain 1 = .ok (.iload_n 1, 1) := by decide +kernel
theorem dX4_readAgain_2 : decode cX4_readAgain 2 = .ok (.invokevirtual 46, 3) := by decide +kernel
theorem dX4_readAgain_5 : decode cX4_readAgain 5 = .ok (.astore_n 2, 1) := by decide +kernel
theorem dX4_readAgain_6 : decode cX4_readAgain 6 = .ok (.aload_n 0, 1) := by decide +kernel
theorem dX4_readAgain_7 : decode cX4_readAgain 7 = .ok (.iload_n 1, 1) := by decide +kernel
theorem dX4_readAgain_8 : decode cX4_readAgain 8 = .ok (.aload_n 0, 1) := by decide +kernel
theorem dX4_readAgain_9 : decode cX4_readAgain 9 = .ok (.getfield 26, 3) := by decide +kernel
theorem dX4_readAgain_12 : decode cX4_readAgain 12 = .ok (.invokevirtual 191, 3) := by decide +kernel
theorem dX4_readAgain_15 : decode cX4_readAgain 15 = .ok (.aload_n 0, 1) := by decide +kernel
theorem dX4_readAgain_16 : decode cX4_readAgain 16 = .ok (.getfield 26, 3) := by decide +kernel
theorem dX4_readAgain_19 : decode cX4_readAgain 19 = .ok (.aload_n 2, 1) := by decide +kernel
theorem dX4_readAgain_20 : decode cX4_readAgain 20 = .ok (.invokevirtual 194, 3) := by decide +kernel
theorem dX4_readAgain_23 : decode cX4_readAgain 23 = .ok (.ifCond .eq 5, 3) := by decide +kernel
theorem dX4_readAgain_26 : decode cX4_readAgain 26 = .ok (.iconst 0, 1) := by decide +kernel
theorem dX4_readAgain_27 : decode cX4_readAgain 27 = .ok (.ireturn, 1) := by decide +kernel
theorem dX4_readAgain_28 : decode cX4_readAgain 28 = .ok (.aload_n 2, 1) := by decide +kernel
theorem dX4_readAgain_29 : decode cX4_readAgain 29 = .ok (.aload_n 0, 1) := by decide +kernel
theorem dX4_readAgain_30 : decode cX4_readAgain 30 = .ok (.getfield 26, 3) := by decide +kernel
theorem dX4_readAgain_33 : decode cX4_readAgain 33 = .ok (.invokevirtual 209, 3) := by decide +kernel
theorem dX4_readAgain_36 : decode cX4_readAgain 36 = .ok (.aload_n 0, 1) := by decide +kernel
theorem dX4_readAgain_37 : decode cX4_readAgain 37 = .ok (.iload_n 1, 1) := by decide +kernel
theorem dX4_readAgain_38 : decode cX4_readAgain 38 = .ok (.invokevirtual 213, 3) := by decide +kernel
theorem dX4_readAgain_41 : decode cX4_readAgain 41 = .ok (.ireturn, 1) := by decide +kernel
set_option maxRecDepth 20000 in
theorem ggX4_readByCuts_X4_boxesThatFollowNone : GoodIn wsX4_readByCuts wsX4_boxesThatFollowNone := goodIn_r _ [6, 7, 8, 9, 10, 11, 12, 13, 5, 14, 15, 81, 82, 83, 84, 85, 86, 87, 88, 89, 90, 91, 92, 93, 94, 95, 96, 97] (by decide +kernel) (by decide +kernel)
set_option maxRecDepth 20000 in
theorem gX4_readByCuts_X4_boxesThatFollowNone : GoodIn wsX4_readByCuts (wsV RX4 216 RX4 yX4_boxesThatFollowNone wsX4_boxesThatFollowNone) := goodIn_app (goodIn_of _ (by decide +kernel)) ggX4_readByCuts_X4_boxesThatFollowNone
set_option maxRecDepth 20000 in
theorem ggX4_readByCuts_X4_readSet : GoodIn wsX4_readByCuts wsX4_readSet := goodIn_r _ [19, 20, 21, 22, 5, 23, 24, 25, 26, 27, 7, 28, 29, 30, 31, 32, 33, 34, 35, 15, 36, 37, 38, 39, 40, 41, 42, 43, 44, 45, 46, 47, 48, 49, 50, 51, 52, 53, 54, 55, 56, 57, 58, 59, 60, 61, 62, 63, 64, 65, 66, 67, 68, 69, 70, 71, 72, 73, 74, 75, 76, 77, 78, 16, 17, 18, 81, 82, 83, 84, 85, 86, 87, 88, 89, 90, 91, 92, 93, 94, 95, 96, 97, 79, 80] (by decide +kernel) (by decide +kernel)
set_option maxRecDepth 20000 in
theorem gX4_readByCuts_X4_readSet : GoodIn wsX4_readByCuts (wsV RX4 219 RX4 yX4_readSet wsX4_readSet) := goodIn_app (goodIn_of _ (by decide +kernel)) ggX4_readByCuts_X4_readSet
theorem dX4_readByCuts_0 : decode cX4_readByCuts 0 = .ok (.aload_n 2, 1) := by decide +kernel
theorem dX4_readByCuts_1 : decode cX4_readByCuts 1 = .ok (.iconst 0, 1) := by decide +kernel
theorem dX4_readByCuts_2 : decode cX4_readByCuts 2 = .ok (.putfield 136, 3) := by decide +kernel
theorem dX4_readByCuts_5 : decode cX4_readByCuts 5 = .ok (.aload_n 0, 1) := by decide +kernel
theorem dX4_readByCuts_6 : decode cX4_readByCuts 6 = .ok (.aload_n 0, 1) := by decide +kernel
theorem dX4_readByCuts_7 : decode cX4_readByCuts 7 = .ok (.iload_n 1, 1) := by decide +kernel
theorem dX4_readByCuts_8 : decode cX4_readByCuts 8 = .ok (.invokevirtual 216, 3) := by decide +kernel
theorem dX4_readByCuts_11 : decode cX4_readByCuts 11 = .ok (.aload_n 2, 1) := by decide +kernel
theorem dX4_readByCuts_12 : decode cX4_readByCuts 12 = .ok (.iconst 0, 1) := by decide +kernel
theorem dX4_readByCuts_13 : decode cX4_readByCuts 13 = .ok (.invokevirtual 219, 3) := by decide +kernel
theorem dX4_readByCuts_16 : decode cX4_readByCuts 16 = .ok (.return_, 1) := by decide +kernel
set_option maxRecDepth 20000 in
theorem ggX4_readSet_X4_cutOff : GoodIn wsX4_readSet wsX4_cutOff := goodIn_r _ [5, 6, 7, 8, 4, 9, 10, 11, 12, 13, 14, 15, 16, 17, 18, 19, 20, 21, 22, 23, 24, 25, 26, 27, 28, 29, 30, 31, 32, 33, 34, 35, 36, 66, 67, 68, 69, 70, 71, 72, 73, 74, 75, 76, 77, 78, 79, 80, 81, 82] (by decide +kernel) (by decide +kernel)
set_option maxRecDepth 20000 in
theorem gX4_readSet_X4_cutOff : GoodIn wsX4_readSet (wsV RX4 223 RX4 yX4_cutOff wsX4_cutOff) := goodIn_app (goodIn_of _ (by decide +kernel)) ggX4_readSet_X4_cutOff
set_option maxRecDepth 20000 in
theorem ggX4_readSet_X4_readUncut : GoodIn wsX4_readSet wsX4_readUncut := goodIn_r _ [40, 41, 42, 43, 44, 45, 4, 46, 10, 15, 16, 17, 18, 19, 47, 48, 49, 23, 50, 25, 27, 51, 52, 53, 54, 55, 56, 57, 58, 73, 74, 75, 76, 77, 78, 79, 80, 81, 82, 66, 67, 68, 69, 70, 71, 72, 83, 84] (by decide +kernel) (by decide +kernel)
set_option maxRecDepth 20000 in
theorem gX4_readSet_X4_readUncut : GoodIn wsX4_readSet (wsV RX4 226 RX4 yX4_readUncut wsX4_readUncut) := goodIn_app (goodIn_of _ (by decide +kernel)) ggX4_readSet_X4_readUncut
set_option maxRecDepth 20000 in
theorem ggX4_readSet_X4_readParts : GoodIn wsX4_readSet wsX4_readParts := goodIn_r _ [62, 63, 64, 65, 4, 0, 1, 2, 3, 5, 6, 7, 8, 9, 10, 11, 12, 13, 14, 15, 16, 17, 18, 19, 20, 21, 22, 23, 24, 25, 26, 27, 28, 29, 30, 31, 32, 33, 34, 35, 36, 37, 38, 39, 40, 41, 42, 43, 44, 45, 46, 47, 48, 49, 50, 51, 52, 53, 54, 55, 56, 57, 58, 59, 60, 61, 66, 67, 68, 69, 70, 71, 72, 73, 74, 75, 76, 77, 78, 79, 80, 81, 82, 83, 84] (by decide +kernel) (by decide +kernel)
set_option maxRecDepth 20000 in
theorem gX4_readSet_X4_readParts : GoodIn wsX4_readSet (wsV RX4 229 RX4 yX4_readParts wsX4_readParts) := goodIn_app (goodIn_of _ (by decide +kernel)) ggX4_readSet_X4_readParts
theorem dX4_readSet_0 : decode cX4_readSet 0 = .ok (.iload_n 3, 1) := by decide +kernel
theorem dX4_readSet_1 : decode cX4_readSet 1 = .ok (.bipush 24, 2) := by decide +kernel
theorem dX4_readSet_3 : decode cX4_readSet 3 = .ok (.if_icmp .ge 11, 3) := by decide +kernel
theorem dX4_readSet_6 : decode cX4_readSet 6 = .ok (.aload_n 0, 1) := by decide +kernel
theorem dX4_readSet_7 : decode cX4_readSet 7 = .ok (.iload_n 1, 1) := by decide +kernel
theorem dX4_readSet_8 : decode cX4_readSet 8 = .ok (.invokevirtual 223, 3) := by decide +kernel
theorem dX4_readSet_11 : decode cX4_readSet 11 = .ok (.goto 4, 3) := by decide +kernel
theorem dX4_readSet_14 : decode cX4_readSet 14 = .ok (.iconst 0, 1) := by decide +kernel
theorem dX4_readSet_15 : decode cX4_readSet 15 = .ok (.istore 4, 2) := by decide +kernel
theorem dX4_readSet_17 : decode cX4_readSet 17 = .ok (.iload 4, 2) := by decide +kernel
theorem dX4_readSet_19 : decode cX4_readSet 19 = .ok (.ifCond .ne 12, 3) := by decide +kernel
theorem dX4_readSet_22 : decode cX4_readSet 22 = .ok (.aload_n 0, 1) := by decide +kernel
theorem dX4_readSet_23 : decode cX4_readSet 23 = .ok (.iload_n 1, 1) := by decide +kernel
theorem dX4_readSet_24 : decode cX4_readSet 24 = .ok (.aload_n 2, 1) := by decide +kernel
theorem dX4_readSet_25 : decode cX4_readSet 25 = .ok (.invokevirtual 226, 3) := by decide +kernel
theorem dX4_readSet_28 : decode cX4_readSet 28 = .ok (.goto 19, 3) := by decide +kernel
theorem dX4_readSet_31 : decode cX4_readSet 31 = .ok (.aload_n 0, 1) := by decide +kernel
theorem dX4_readSet_32 : decode cX4_readSet 32 = .ok (.iload 4, 2) := by decide +kernel
theorem dX4_readSet_34 : decode cX4_readSet 34 = .ok (.iload_n 1, 1) := by decide +kernel
theorem dX4_readSet_35 : decode cX4_readSet 35 = .ok (.iload 4, 2) := by decide +kernel
theorem dX4_readSet_37 : decode cX4_readSet 37 = .ok (.iconst (-1), 1) := by decide +kernel
theorem dX4_readSet_38 : decode cX4_readSet 38 = .ok (.ixor, 1) := by decide +kernel
theorem dX4_readSet_39 : decode cX4_readSet 39 = .ok (.iand, 1) := by decide +kernel
theorem dX4_readSet_40 : decode cX4_readSet 40 = .ok (.aload_n 2, 1) := by decide +kernel
theorem dX4_readSet_41 : decode cX4_readSet 41 = .ok (.iload_n 3, 1) := by decide +kernel
theorem dX4_readSet_42 : decode cX4_readSet 42 = .ok (.iconst 1, 1) := by decide +kernel
theorem dX4_readSet_43 : decode cX4_readSet 43 = .ok (.iadd, 1) := by decide +kernel
theorem dX4_readSet_44 : decode cX4_readSet 44 = .ok (.invokevirtual 229, 3) := by decide +kernel
theorem dX4_readSet_47 : decode cX4_readSet 47 = .ok (.return_, 1) := by decide +kernel
set_option maxRecDepth 20000 in
theorem ggX4_readParts_X4_readSet : GoodIn wsX4_readParts wsX4_readSet := goodIn_r _ [5, 6, 7, 8, 4, 9, 10, 11, 12, 13, 14, 15, 16, 17, 18, 19, 20, 21, 22, 23, 24, 25, 26, 27, 28, 29, 30, 31, 32, 33, 34, 35, 36, 37, 38, 39, 40, 41, 42, 43, 44, 45, 46, 47, 48, 49, 50, 51, 52, 53, 54, 55, 56, 57, 58, 59, 60, 61, 62, 63, 64, 65, 0, 1, 2, 3, 66, 67, 68, 69, 70, 71, 72, 73, 74, 75, 76, 77, 78, 79, 80, 81, 82, 83, 84] (by decide +kernel) (by decide +kernel)
set_option maxRecDepth 20000 in
theorem gX4_readParts_X4_readSet : GoodIn wsX4_readParts (wsV RX4 219 RX4 yX4_readSet wsX4_readSet) := goodIn_app (goodIn_of _ (by decide +kernel)) ggX4_readParts_X4_readSet
theorem dX4_readParts_0 : decode cX4_readParts 0 = .ok (.aload_n 0, 1) := by decide +kernel
theorem dX4_readParts_1 : decode cX4_readParts 1 = .ok (.iload_n 1, 1) := by decide +kernel
theorem dX4_readParts_2 : decode cX4_readParts 2 = .ok (.aload_n 3, 1) := by decide +kernel
theorem dX4_readParts_3 : decode cX4_readParts 3 = .ok (.iload 4, 2) := by decide +kernel
theorem dX4_readParts_5 : decode cX4_readParts 5 = .ok (.invokevirtual 219, 3) := by decide +kernel
theorem dX4_readParts_8 : decode cX4_readParts 8 = .ok (.aload_n 0, 1) := by decide +kernel
theorem dX4_readParts_9 : decode cX4_readParts 9 = .ok (.iload_n 2, 1) := by decide +kernel
theorem dX4_readParts_10 : decode cX4_readParts 10 = .ok (.aload_n 3, 1) := by decide +kernel
theorem dX4_readParts_11 : decode cX4_readParts 11 = .ok (.iload 4, 2) := by decide +kernel
theorem dX4_readParts_13 : decode cX4_readParts 13 = .ok (.invokevirtual 219, 3) := by decide +kernel
theorem dX4_readParts_16 : decode cX4_readParts 16 = .ok (.return_, 1) := by decide +kernel
set_option maxRecDepth 20000 in
theorem ggX4_readWithSetsAside_X4_boxesThatFollowNone : GoodIn wsX4_readWithSetsAside wsX4_boxesThatFollowNone := goodIn_r _ [8, 9, 10, 11, 12, 13, 14, 15, 7, 16, 17, 86, 87, 88, 89, 90, 91, 92, 95, 96, 97, 98, 99, 100, 101, 102, 103, 104] (by decide +kernel) (by decide +kernel)
set_option maxRecDepth 20000 in
theorem gX4_readWithSetsAside_X4_boxesThatFollowNone : GoodIn wsX4_readWithSetsAside (wsV RX4 216 RX4 yX4_boxesThatFollowNone wsX4_boxesThatFollowNone) := goodIn_app (goodIn_of _ (by decide +kernel)) ggX4_readWithSetsAside_X4_boxesThatFollowNone
set_option maxRecDepth 20000 in
theorem ggX4_readWithSetsAside_X2_put : GoodIn wsX4_readWithSetsAside wsX2_put := goodIn_r _ [22, 23, 24, 93, 94] (by decide +kernel) (by decide +kernel)
set_option maxRecDepth 20000 in
theorem gX4_readWithSetsAside_X2_put : GoodIn wsX4_readWithSetsAside (wsV RX4 234 RX2 yX2_put wsX2_put) := goodIn_app (goodIn_of _ (by decide +kernel)) ggX4_readWithSetsAside_X2_put
set_option maxRecDepth 20000 in
theorem ggX4_readWithSetsAside_X2_take : GoodIn wsX4_readWithSetsAside wsX2_take := goodIn_r _ [28, 23, 24, 93, 94] (by decide +kernel) (by decide +kernel)
set_option maxRecDepth 20000 in
theorem gX4_readWithSetsAside_X2_take : GoodIn wsX4_readWithSetsAside (wsV RX4 237 RX2 yX2_take wsX2_take) := goodIn_app (goodIn_of _ (by decide +kernel)) ggX4_readWithSetsAside_X2_take
set_option maxRecDepth 20000 in
theorem ggX4_readWithSetsAside_X4_cutOff : GoodIn wsX4_readWithSetsAside wsX4_cutOff := goodIn_r _ [32, 33, 34, 35, 7, 36, 9, 37, 38, 39, 40, 41, 42, 43, 44, 17, 45, 46, 47, 48, 49, 50, 51, 52, 53, 54, 55, 56, 57, 58, 59, 60, 61, 86, 87, 88, 89, 90, 91, 92, 95, 96, 97, 98, 99, 100, 101, 102, 103, 104] (by decide +kernel) (by decide +kernel)
set_option maxRecDepth 20000 in
theorem gX4_readWithSetsAside_X4_cutOff : GoodIn wsX4_readWithSetsAside (wsV RX4 223 RX4 yX4_cutOff wsX4_cutOff) := goodIn_app (goodIn_of _ (by decide +kernel)) ggX4_readWithSetsAside_X4_cutOff
set_option maxRecDepth 20000 in
theorem ggX4_readWithSetsAside_X4_readUncut : GoodIn wsX4_readWithSetsAside wsX4_readUncut := goodIn_r _ [65, 66, 67, 68, 69, 70, 7, 71, 9, 41, 42, 43, 44, 17, 72, 73, 74, 48, 75, 50, 52, 76, 77, 78, 79, 80, 81, 82, 83, 95, 96, 97, 98, 99, 100, 101, 102, 103, 104, 86, 87, 88, 89, 90, 91, 92, 84, 85] (by decide +kernel) (by decide +kernel)
set_option maxRecDepth 20000 in
theorem gX4_readWithSetsAside_X4_readUncut : GoodIn wsX4_readWithSetsAside (wsV RX4 226 RX4 yX4_readUncut wsX4_readUncut) := goodIn_app (goodIn_of _ (by decide +kernel)) ggX4_readWithSetsAside_X4_readUncut
theorem dX4_readWithSetsAside_0 : decode cX4_readWithSetsAside 0 = .ok (.aload_n 2, 1) := by decide +kernel
theorem dX4_readWithSetsAside_1 : decode cX4_readWithSetsAside 1 = .ok (.iconst 0, 1) := by decide +kernel
theorem dX4_readWithSetsAside_2 : decode cX4_readWithSetsAside 2 = .ok (.putfield 136, 3) := by decide +kernel
theorem dX4_readWithSetsAside_5 : decode cX4_readWithSetsAside 5 = .ok (.aload_n 0, 1) := by decide +kernel
theorem dX4_readWithSetsAside_6 : decode cX4_readWithSetsAside 6 = .ok (.getfield 33, 3) := by decide +kernel
theorem dX4_readWithSetsAside_9 : decode cX4_readWithSetsAside 9 = .ok (.iconst 0, 1) := by decide +kernel
theorem dX4_readWithSetsAside_10 : decode cX4_readWithSetsAside 10 = .ok (.putfield 233, 3) := by decide +kernel
theorem dX4_readWithSetsAside_13 : decode cX4_readWithSetsAside 13 = .ok (.aload_n 0, 1) := by decide +kernel
theorem dX4_readWithSetsAside_14 : decode cX4_readWithSetsAside 14 = .ok (.getfield 33, 3) := by decide +kernel
theorem dX4_readWithSetsAside_17 : decode cX4_readWithSetsAside 17 = .ok (.aload_n 0, 1) := by decide +kernel
theorem dX4_readWithSetsAside_18 : decode cX4_readWithSetsAside 18 = .ok (.iload_n 1, 1) := by decide +kernel
theorem dX4_readWithSetsAside_19 : decode cX4_readWithSetsAside 19 = .ok (.invokevirtual 216, 3) := by decide +kernel
theorem dX4_readWithSetsAside_22 : decode cX4_readWithSetsAside 22 = .ok (.invokevirtual 234, 3) := by decide +kernel
theorem dX4_readWithSetsAside_25 : decode cX4_readWithSetsAside 25 = .ok (.iconst 0, 1) := by decide +kernel
theorem dX4_readWithSetsAside_26 : decode cX4_readWithSetsAside 26 = .ok (.istore_n 3, 1) := by decide +kernel
theorem dX4_readWithSetsAside_27 : decode cX4_readWithSetsAside 27 = .ok (.iload_n 3, 1) := by decide +kernel
theorem dX4_readWithSetsAside_28 : decode cX4_readWithSetsAside 28 = .ok (.bipush 48, 2) := by decide +kernel
theorem dX4_readWithSetsAside_30 : decode cX4_readWithSetsAside 30 = .ok (.if_icmp .ge 74, 3) := by decide +kernel
theorem dX4_readWithSetsAside_33 : decode cX4_readWithSetsAside 33 = .ok (.aload_n 0, 1) := by decide +kernel
theorem dX4_readWithSetsAside_34 : decode cX4_readWithSetsAside 34 = .ok (.getfield 33, 3) := by decide +kernel
theorem dX4_readWithSetsAside_37 : decode cX4_readWithSetsAside 37 = .ok (.getfield 233, 3) := by decide +kernel
theorem dX4_readWithSetsAside_40 : decode cX4_readWithSetsAside 40 = .ok (.ifCond .le 64, 3) := by decide +kernel
theorem dX4_readWithSetsAside_43 : decode cX4_readWithSetsAside 43 = .ok (.aload_n 0, 1) := by decide +kernel
theorem dX4_readWithSetsAside_44 : decode cX4_readWithSetsAside 44 = .ok (.getfield 33, 3) := by decide +kernel
theorem dX4_readWithSetsAside_47 : decode cX4_readWithSetsAside 47 = .ok (.invokevirtual 237, 3) := by decide +kernel
theorem dX4_readWithSetsAside_50 : decode cX4_readWithSetsAside 50 = .ok (.istore 4, 2) := by decide +kernel
theorem dX4_readWithSetsAside_52 : decode cX4_readWithSetsAside 52 = .ok (.aload_n 0, 1) := by decide +kernel
theorem dX4_readWithSetsAside_53 : decode cX4_readWithSetsAside 53 = .ok (.iload 4, 2) := by decide +kernel
theorem dX4_readWithSetsAside_55 : decode cX4_readWithSetsAside 55 = .ok (.invokevirtual 223, 3) := by decide +kernel
theorem dX4_readWithSetsAside_58 : decode cX4_readWithSetsAside 58 = .ok (.istore 5, 2) := by decide +kernel
theorem dX4_readWithSetsAside_60 : decode cX4_readWithSetsAside 60 = .ok (.iload 5, 2) := by decide +kernel
theorem dX4_readWithSetsAside_62 : decode cX4_readWithSetsAside 62 = .ok (.ifCond .ne 13, 3) := by decide +kernel
theorem dX4_readWithSetsAside_65 : decode cX4_readWithSetsAside 65 = .ok (.aload_n 0, 1) := by decide +kernel
theorem dX4_readWithSetsAside_66 : decode cX4_readWithSetsAside 66 = .ok (.iload 4, 2) := by decide +kernel
theorem dX4_readWithSetsAside_68 : decode cX4_readWithSetsAside 68 = .ok (.aload_n 2, 1) := by decide +kernel
theorem dX4_readWithSetsAside_69 : decode cX4_readWithSetsAside 69 = .ok (.invokevirtual 226, 3) := by decide +kernel
theorem dX4_readWithSetsAside_72 : decode cX4_readWithSetsAside 72 = .ok (.goto 26, 3) := by decide +kernel
theorem dX4_readWithSetsAside_75 : decode cX4_readWithSetsAside 75 = .ok (.aload_n 0, 1) := by decide +kernel
theorem dX4_readWithSetsAside_76 : decode cX4_readWithSetsAside 76 = .ok (.getfield 33, 3) := by decide +kernel
theorem dX4_readWithSetsAside_79 : decode cX4_readWithSetsAside 79 = .ok (.iload 4, 2) := by decide +kernel
theorem dX4_readWithSetsAside_81 : decode cX4_readWithSetsAside 81 = .ok (.iload 5, 2) := by decide +kernel
theorem dX4_readWithSetsAside_83 : decode cX4_readWithSetsAside 83 = .ok (.iconst (-1), 1) := by decide +kernel
theorem dX4_readWithSetsAside_84 : decode cX4_readWithSetsAside 84 = .ok (.ixor, 1) := by decide +kernel
theorem dX4_readWithSetsAside_85 : decode cX4_readWithSetsAside 85 = .ok (.iand, 1) := by decide +kernel
theorem dX4_readWithSetsAside_86 : decode cX4_readWithSetsAside 86 = .ok (.invokevirtual 234, 3) := by decide +kernel
theorem dX4_readWithSetsAside_89 : decode cX4_readWithSetsAside 89 = .ok (.aload_n 0, 1) := by decide +kernel
theorem dX4_readWithSetsAside_90 : decode cX4_readWithSetsAside 90 = .ok (.getfield 33, 3) := by decide +kernel
theorem dX4_readWithSetsAside_93 : decode cX4_readWithSetsAside 93 = .ok (.iload 5, 2) := by decide +kernel
theorem dX4_readWithSetsAside_95 : decode cX4_readWithSetsAside 95 = .ok (.invokevirtual 234, 3) := by decide +kernel
theorem dX4_readWithSetsAside_98 : decode cX4_readWithSetsAside 98 = .ok (.iinc 3 1, 3) := by decide +kernel
theorem dX4_readWithSetsAside_101 : decode cX4_readWithSetsAside 101 = .ok (.goto (-74), 3) := by decide +kernel
theorem dX4_readWithSetsAside_104 : decode cX4_readWithSetsAside 104 = .ok (.return_, 1) := by decide +kernel
set_option maxRecDepth 20000 in
theorem ggX4_boxesThatFollowNone_X4_madeBox : GoodIn wsX4_boxesThatFollowNone wsX4_madeBox := goodIn_r _ [9, 10, 11, 12, 13, 14, 15, 16, 17] (by decide +kernel) (by decide +kernel)
set_option maxRecDepth 20000 in
theorem gX4_boxesThatFollowNone_X4_madeBox : GoodIn wsX4_boxesThatFollowNone (wsV RX4 139 RX4 yX4_madeBox wsX4_madeBox) := goodIn_app (goodIn_of _ (by decide +kernel)) ggX4_boxesThatFollowNone_X4_madeBox
theorem dX4_boxesThatFollowNone_0 : decode cX4_boxesThatFollowNone 0 = .ok (.iconst 0, 1) := by decide +kernel
theorem dX4_boxesThatFollowNone_1 : decode cX4_boxesThatFollowNone 1 = .ok (.istore_n 2, 1) := by decide +kernel
theorem dX4_boxesThatFollowNone_2 : decode cX4_boxesThatFollowNone 2 = .ok (.iconst 0, 1) := by decide +kernel
theorem dX4_boxesThatFollowNone_3 : decode cX4_boxesThatFollowNone 3 = .ok (.istore_n 3, 1) := by decide +kernel
theorem dX4_boxesThatFollowNone_4 : decode cX4_boxesThatFollowNone 4 = .ok (.iload_n 3, 1) := by decide +kernel
theorem dX4_boxesThatFollowNone_5 : decode cX4_boxesThatFollowNone 5 = .ok (.aload_n 0, 1) := by decide +kernel
theorem dX4_boxesThatFollowNone_6 : decode cX4_boxesThatFollowNone 6 = .ok (.getfield 15, 3) := by decide +kernel
theorem dX4_boxesThatFollowNone_9 : decode cX4_boxesThatFollowNone 9 = .ok (.if_icmp .ge 52, 3) := by decide +kernel
theorem dX4_boxesThatFollowNone_12 : decode cX4_boxesThatFollowNone 12 = .ok (.aload_n 0, 1) := by decide +kernel
theorem dX4_boxesThatFollowNone_13 : decode cX4_boxesThatFollowNone 13 = .ok (.iload_n 3, 1) := by decide +kernel
theorem dX4_boxesThatFollowNone_14 : decode cX4_boxesThatFollowNone 14 = .ok (.invokevirtual 139, 3) := by decide +kernel
theorem dX4_boxesThatFollowNone_17 : decode cX4_boxesThatFollowNone 17 = .ok (.astore 4, 2) := by decide +kernel
theorem dX4_boxesThatFollowNone_19 : decode cX4_boxesThatFollowNone 19 = .ok (.aload 4, 2) := by decide +kernel
theorem dX4_boxesThatFollowNone_21 : decode cX4_boxesThatFollowNone 21 = .ok (.ifnull 34, 3) := by decide +kernel
theorem dX4_boxesThatFollowNone_24 : decode cX4_boxesThatFollowNone 24 = .ok (.aload 4, 2) := by decide +kernel
theorem dX4_boxesThatFollowNone_26 : decode cX4_boxesThatFollowNone 26 = .ok (.getfield 98, 3) := by decide +kernel
theorem dX4_boxesThatFollowNone_29 : decode cX4_boxesThatFollowNone 29 = .ok (.ifCond .ne 26, 3) := by decide +kernel
theorem dX4_boxesThatFollowNone_32 : decode cX4_boxesThatFollowNone 32 = .ok (.aload 4, 2) := by decide +kernel
theorem dX4_boxesThatFollowNone_34 : decode cX4_boxesThatFollowNone 34 = .ok (.getfield 89, 3) := by decide +kernel
theorem dX4_boxesThatFollowNone_37 : decode cX4_boxesThatFollowNone 37 = .ok (.iload_n 1, 1) := by decide +kernel
theorem dX4_boxesThatFollowNone_38 : decode cX4_boxesThatFollowNone 38 = .ok (.if_icmp .ne 17, 3) := by decide +kernel
theorem dX4_boxesThatFollowNone_41 : decode cX4_boxesThatFollowNone 41 = .ok (.aload 4, 2) := by decide +kernel
theorem dX4_boxesThatFollowNone_43 : decode cX4_boxesThatFollowNone 43 = .ok (.getfield 108, 3) := by decide +kernel
theorem dX4_boxesThatFollowNone_46 : decode cX4_boxesThatFollowNone 46 = .ok (.ifnonnull 9, 3) := by decide +kernel
theorem dX4_boxesThatFollowNone_49 : decode cX4_boxesThatFollowNone 49 = .ok (.iload_n 2, 1) := by decide +kernel
theorem dX4_boxesThatFollowNone_50 : decode cX4_boxesThatFollowNone 50 = .ok (.iconst 1, 1) := by decide +kernel
theorem dX4_boxesThatFollowNone_51 : decode cX4_boxesThatFollowNone 51 = .ok (.iload_n 3, 1) := by decide +kernel
theorem dX4_boxesThatFollowNone_52 : decode cX4_boxesThatFollowNone 52 = .ok (.ishl, 1) := by decide +kernel
theorem dX4_boxesThatFollowNone_53 : decode cX4_boxesThatFollowNone 53 = .ok (.ior, 1) := by decide +kernel
theorem dX4_boxesThatFollowNone_54 : decode cX4_boxesThatFollowNone 54 = .ok (.istore_n 2, 1) := by decide +kernel
theorem dX4_boxesThatFollowNone_55 : decode cX4_boxesThatFollowNone 55 = .ok (.iinc 3 1, 3) := by decide +kernel
theorem dX4_boxesThatFollowNone_58 : decode cX4_boxesThatFollowNone 58 = .ok (.goto (-54), 3) := by decide +kernel
theorem dX4_boxesThatFollowNone_61 : decode cX4_boxesThatFollowNone 61 = .ok (.iload_n 2, 1) := by decide +kernel
theorem dX4_boxesThatFollowNone_62 : decode cX4_boxesThatFollowNone 62 = .ok (.ireturn, 1) := by decide +kernel
set_option maxRecDepth 20000 in
theorem ggX4_cutOff_X4_leastCut : GoodIn wsX4_cutOff wsX4_leastCut := goodIn_r _ [5, 6, 7, 8, 9, 10, 11, 12, 13, 4, 14, 15, 16, 17, 18, 19, 20, 21, 22, 23, 24, 25, 26, 27, 28, 33, 34, 35, 36, 37, 38, 39, 40, 41, 42, 43, 44, 45, 46, 47, 48, 49] (by decide +kernel) (by decide +kernel)
set_option maxRecDepth 20000 in
theorem gX4_cutOff_X4_leastCut : GoodIn wsX4_cutOff (wsV RX4 240 RX4 yX4_leastCut wsX4_leastCut) := goodIn_app (goodIn_of _ (by decide +kernel)) ggX4_cutOff_X4_leastCut
set_option maxRecDepth 20000 in
theorem ggX4_cutOff_X4_endedBy : GoodIn wsX4_cutOff wsX4_endedBy := goodIn_r _ [32, 6, 11, 12, 13, 4, 14, 15, 16, 17, 18, 19, 20, 21, 22, 23, 24, 33, 34, 35, 36, 37, 38, 39, 40, 41, 42, 43, 44, 45, 46, 47, 48, 49] (by decide +kernel) (by decide +kernel)
set_option maxRecDepth 20000 in
theorem gX4_cutOff_X4_endedBy : GoodIn wsX4_cutOff (wsV RX4 244 RX4 yX4_endedBy wsX4_endedBy) := goodIn_app (goodIn_of _ (by decide +kernel)) ggX4_cutOff_X4_endedBy
theorem dX4_cutOff_0 : decode cX4_cutOff 0 = .ok (.aload_n 0, 1) := by decide +kernel
theorem dX4_cutOff_1 : decode cX4_cutOff 1 = .ok (.aload_n 0, 1) := by decide +kernel
theorem dX4_cutOff_2 : decode cX4_cutOff 2 = .ok (.iload_n 1, 1) := by decide +kernel
theorem dX4_cutOff_3 : decode cX4_cutOff 3 = .ok (.iconst 1, 1) := by decide +kernel
theorem dX4_cutOff_4 : decode cX4_cutOff 4 = .ok (.invokevirtual 240, 3) := by decide +kernel
theorem dX4_cutOff_7 : decode cX4_cutOff 7 = .ok (.iload_n 1, 1) := by decide +kernel
theorem dX4_cutOff_8 : decode cX4_cutOff 8 = .ok (.iconst 1, 1) := by decide +kernel
theorem dX4_cutOff_9 : decode cX4_cutOff 9 = .ok (.invokevirtual 244, 3) := by decide +kernel
theorem dX4_cutOff_12 : decode cX4_cutOff 12 = .ok (.istore_n 2, 1) := by decide +kernel
theorem dX4_cutOff_13 : decode cX4_cutOff 13 = .ok (.iload_n 2, 1) := by decide +kernel
theorem dX4_cutOff_14 : decode cX4_cutOff 14 = .ok (.iload_n 1, 1) := by decide +kernel
theorem dX4_cutOff_15 : decode cX4_cutOff 15 = .ok (.if_icmp .eq 5, 3) := by decide +kernel
theorem dX4_cutOff_18 : decode cX4_cutOff 18 = .ok (.iload_n 2, 1) := by decide +kernel
theorem dX4_cutOff_19 : decode cX4_cutOff 19 = .ok (.ireturn, 1) := by decide +kernel
theorem dX4_cutOff_20 : decode cX4_cutOff 20 = .ok (.aload_n 0, 1) := by decide +kernel
theorem dX4_cutOff_21 : decode cX4_cutOff 21 = .ok (.aload_n 0, 1) := by decide +kernel
theorem dX4_cutOff_22 : decode cX4_cutOff 22 = .ok (.iload_n 1, 1) := by decide +kernel
theorem dX4_cutOff_23 : decode cX4_cutOff 23 = .ok (.iconst 0, 1) := by decide +kernel
theorem dX4_cutOff_24 : decode cX4_cutOff 24 = .ok (.invokevirtual 240, 3) := by decide +kernel
theorem dX4_cutOff_27 : decode cX4_cutOff 27 = .ok (.iload_n 1, 1) := by decide +kernel
theorem dX4_cutOff_28 : decode cX4_cutOff 28 = .ok (.iconst 0, 1) := by decide +kernel
theorem dX4_cutOff_29 : decode cX4_cutOff 29 = .ok (.invokevirtual 244, 3) := by decide +kernel
theorem dX4_cutOff_32 : decode cX4_cutOff 32 = .ok (.istore_n 3, 1) := by decide +kernel
theorem dX4_cutOff_33 : decode cX4_cutOff 33 = .ok (.iload_n 3, 1) := by decide +kernel
theorem dX4_cutOff_34 : decode cX4_cutOff 34 = .ok (.iload_n 1, 1) := by decide +kernel
theorem dX4_cutOff_35 : decode cX4_cutOff 35 = .ok (.if_icmp .eq 7, 3) := by decide +kernel
theorem dX4_cutOff_38 : decode cX4_cutOff 38 = .ok (.iload_n 3, 1) := by decide +kernel
theorem dX4_cutOff_39 : decode cX4_cutOff 39 = .ok (.goto 4, 3) := by decide +kernel
theorem dX4_cutOff_42 : decode cX4_cutOff 42 = .ok (.iconst 0, 1) := by decide +kernel
theorem dX4_cutOff_43 : decode cX4_cutOff 43 = .ok (.ireturn, 1) := by decide +kernel
set_option maxRecDepth 20000 in
theorem ggX4_leastCut_X4_boxOfSet : GoodIn wsX4_leastCut wsX4_boxOfSet := goodIn_r _ [10, 11, 25, 26, 27, 28, 29, 30, 31] (by decide +kernel) (by decide +kernel)
set_option maxRecDepth 20000 in
theorem gX4_leastCut_X4_boxOfSet : GoodIn wsX4_leastCut (wsV RX4 248 RX4 yX4_boxOfSet wsX4_boxOfSet) := goodIn_app (goodIn_of _ (by decide +kernel)) ggX4_leastCut_X4_boxOfSet
set_option maxRecDepth 20000 in
theorem ggX4_leastCut_X1_end : GoodIn wsX4_leastCut wsX1_end := goodIn_r _ [16, 17, 18, 19, 20, 32, 33, 34, 35, 36, 37, 38, 39, 40, 41] (by decide +kernel) (by decide +kernel)
set_option maxRecDepth 20000 in
theorem gX4_leastCut_X1_end : GoodIn wsX4_leastCut (wsV RX4 252 RX1 yX1_end wsX1_end) := goodIn_app (goodIn_of _ (by decide +kernel)) ggX4_leastCut_X1_end
set_option maxRecDepth 20000 in
theorem ggX4_leastCut_X1_begin : GoodIn wsX4_leastCut wsX1_begin := goodIn_r _ [24, 17, 19, 32, 33, 34, 35, 36, 37, 38, 39, 40, 41] (by decide +kernel) (by decide +kernel)
set_option maxRecDepth 20000 in
theorem gX4_leastCut_X1_begin : GoodIn wsX4_leastCut (wsV RX4 260 RX1 yX1_begin wsX1_begin) := goodIn_app (goodIn_of _ (by decide +kernel)) ggX4_leastCut_X1_begin
theorem dX4_leastCut_0 : decode cX4_leastCut 0 = .ok (.iload_n 2, 1) := by decide +kernel
theorem dX4_leastCut_1 : decode cX4_leastCut 1 = .ok (.ifCond .eq 8, 3) := by decide +kernel
theorem dX4_leastCut_4 : decode cX4_leastCut 4 = .ok (.bipush 80, 2) := by decide +kernel
theorem dX4_leastCut_6 : decode cX4_leastCut 6 = .ok (.goto 5, 3) := by decide +kernel
theorem dX4_leastCut_9 : decode cX4_leastCut 9 = .ok (.bipush 60, 2) := by decide +kernel
theorem dX4_leastCut_11 : decode cX4_leastCut 11 = .ok (.istore_n 3, 1) := by decide +kernel
theorem dX4_leastCut_12 : decode cX4_leastCut 12 = .ok (.iconst 0, 1) := by decide +kernel
theorem dX4_leastCut_13 : decode cX4_leastCut 13 = .ok (.istore 4, 2) := by decide +kernel
theorem dX4_leastCut_15 : decode cX4_leastCut 15 = .ok (.iload 4, 2) := by decide +kernel
theorem dX4_leastCut_17 : decode cX4_leastCut 17 = .ok (.aload_n 0, 1) := by decide +kernel
theorem dX4_leastCut_18 : decode cX4_leastCut 18 = .ok (.getfield 15, 3) := by decide +kernel
theorem dX4_leastCut_21 : decode cX4_leastCut 21 = .ok (.if_icmp .ge 38, 3) := by decide +kernel
theorem dX4_leastCut_24 : decode cX4_leastCut 24 = .ok (.aload_n 0, 1) := by decide +kernel
theorem dX4_leastCut_25 : decode cX4_leastCut 25 = .ok (.iload_n 1, 1) := by decide +kernel
theorem dX4_leastCut_26 : decode cX4_leastCut 26 = .ok (.iload 4, 2) := by decide +kernel
theorem dX4_leastCut_28 : decode cX4_leastCut 28 = .ok (.invokevirtual 248, 3) := by decide +kernel
theorem dX4_leastCut_31 : decode cX4_leastCut 31 = .ok (.astore 5, 2) := by decide +kernel
theorem dX4_leastCut_33 : decode cX4_leastCut 33 = .ok (.aload 5, 2) := by decide +kernel
theorem dX4_leastCut_35 : decode cX4_leastCut 35 = .ok (.ifnull 16, 3) := by decide +kernel
theorem dX4_leastCut_38 : decode cX4_leastCut 38 = .ok (.iload_n 3, 1) := by decide +kernel
theorem dX4_leastCut_39 : decode cX4_leastCut 39 = .ok (.aload 5, 2) := by decide +kernel
theorem dX4_leastCut_41 : decode cX4_leastCut 41 = .ok (.iload_n 2, 1) := by decide +kernel
theorem dX4_leastCut_42 : decode cX4_leastCut 42 = .ok (.invokevirtual 252, 3) := by decide +kernel
theorem dX4_leastCut_45 : decode cX4_leastCut 45 = .ok (.invokestatic 256, 3) := by decide +kernel
theorem dX4_leastCut_48 : decode cX4_leastCut 48 = .ok (.goto 4, 3) := by decide +kernel
theorem dX4_leastCut_51 : decode cX4_leastCut 51 = .ok (.iload_n 3, 1) := by decide +kernel
theorem dX4_leastCut_52 : decode cX4_leastCut 52 = .ok (.istore_n 3, 1) := by decide +kernel
theorem dX4_leastCut_53 : decode cX4_leastCut 53 = .ok (.iinc 4 1, 3) := by decide +kernel
theorem dX4_leastCut_56 : decode cX4_leastCut 56 = .ok (.goto (-41), 3) := by decide +kernel
theorem dX4_leastCut_59 : decode cX4_leastCut 59 = .ok (.iconst 1, 1) := by decide +kernel
theorem dX4_leastCut_60 : decode cX4_leastCut 60 = .ok (.istore 4, 2) := by decide +kernel
theorem dX4_leastCut_62 : decode cX4_leastCut 62 = .ok (.iconst 0, 1) := by decide +kernel
theorem dX4_leastCut_63 : decode cX4_leastCut 63 = .ok (.istore 5, 2) := by decide +kernel
theorem dX4_leastCut_65 : decode cX4_leastCut 65 = .ok (.iload 5, 2) := by decide +kernel
theorem dX4_leastCut_67 : decode cX4_leastCut 67 = .ok (.bipush 24, 2) := by decide +kernel
theorem dX4_leastCut_69 : decode cX4_leastCut 69 = .ok (.if_icmp .ge 79, 3) := by decide +kernel
theorem dX4_leastCut_72 : decode cX4_leastCut 72 = .ok (.iload 4, 2) := by decide +kernel
theorem dX4_leastCut_74 : decode cX4_leastCut 74 = .ok (.ifCond .eq 74, 3) := by decide +kernel
theorem dX4_leastCut_77 : decode cX4_leastCut 77 = .ok (.iconst 0, 1) := by decide +kernel
theorem dX4_leastCut_78 : decode cX4_leastCut 78 = .ok (.istore 4, 2) := by decide +kernel
theorem dX4_leastCut_80 : decode cX4_leastCut 80 = .ok (.iconst 0, 1) := by decide +kernel
theorem dX4_leastCut_81 : decode cX4_leastCut 81 = .ok (.istore 6, 2) := by decide +kernel
theorem dX4_leastCut_83 : decode cX4_leastCut 83 = .ok (.iload 6, 2) := by decide +kernel
theorem dX4_leastCut_85 : decode cX4_leastCut 85 = .ok (.aload_n 0, 1) := by decide +kernel
theorem dX4_leastCut_86 : decode cX4_leastCut 86 = .ok (.getfield 15, 3) := by decide +kernel
theorem dX4_leastCut_89 : decode cX4_leastCut 89 = .ok (.if_icmp .ge 53, 3) := by decide +kernel
theorem dX4_leastCut_92 : decode cX4_leastCut 92 = .ok (.aload_n 0, 1) := by decide +kernel
theorem dX4_leastCut_93 : decode cX4_leastCut 93 = .ok (.iload_n 1, 1) := by decide +kernel
theorem dX4_leastCut_94 : decode cX4_leastCut 94 = .ok (.iload 6, 2) := by decide +kernel
theorem dX4_leastCut_96 : decode cX4_leastCut 96 = .ok (.invokevirtual 248, 3) := by decide +kernel
theorem dX4_leastCut_99 : decode cX4_leastCut 99 = .ok (.astore 7, 2) := by decide +kernel
theorem dX4_leastCut_101 : decode cX4_leastCut 101 = .ok (.aload 7, 2) := by decide +kernel
theorem dX4_leastCut_103 : decode cX4_leastCut 103 = .ok (.ifnull 33, 3) := by decide +kernel
theorem dX4_leastCut_106 : decode cX4_leastCut 106 = .ok (.aload 7, 2) := by decide +kernel
theorem dX4_leastCut_108 : decode cX4_leastCut 108 = .ok (.iload_n 2, 1) := by decide +kernel
theorem dX4_leastCut_109 : decode cX4_leastCut 109 = .ok (.invokevirtual 260, 3) := by decide +kernel
theorem dX4_leastCut_112 : decode cX4_leastCut 112 = .ok (.iload_n 3, 1) := by decide +kernel
theorem dX4_leastCut_113 : decode cX4_leastCut 113 = .ok (.if_icmp .ge 23, 3) := by decide +kernel
theorem dX4_leastCut_116 : decode cX4_leastCut 116 = .ok (.aload 7, 2) := by decide +kernel
theorem dX4_leastCut_118 : decode cX4_leastCut 118 = .ok (.iload_n 2, 1) := by decide +kernel
theorem dX4_leastCut_119 : decode cX4_leastCut 119 = .ok (.invokevirtual 252, 3) := by decide +kernel
theorem dX4_leastCut_122 : decode cX4_leastCut 122 = .ok (.iload_n 3, 1) := by decide +kernel
theorem dX4_leastCut_123 : decode cX4_leastCut 123 = .ok (.if_icmp .le 13, 3) := by decide +kernel
theorem dX4_leastCut_126 : decode cX4_leastCut 126 = .ok (.aload 7, 2) := by decide +kernel
theorem dX4_leastCut_128 : decode cX4_leastCut 128 = .ok (.iload_n 2, 1) := by decide +kernel
theorem dX4_leastCut_129 : decode cX4_leastCut 129 = .ok (.invokevirtual 252, 3) := by decide +kernel
theorem dX4_leastCut_132 : decode cX4_leastCut 132 = .ok (.istore_n 3, 1) := by decide +kernel
theorem dX4_leastCut_133 : decode cX4_leastCut 133 = .ok (.iconst 1, 1) := by decide +kernel
theorem dX4_leastCut_134 : decode cX4_leastCut 134 = .ok (.istore 4, 2) := by decide +kernel
theorem dX4_leastCut_136 : decode cX4_leastCut 136 = .ok (.iinc 6 1, 3) := by decide +kernel
theorem dX4_leastCut_139 : decode cX4_leastCut 139 = .ok (.goto (-56), 3) := by decide +kernel
theorem dX4_leastCut_142 : decode cX4_leastCut 142 = .ok (.iinc 5 1, 3) := by decide +kernel
theorem dX4_leastCut_145 : decode cX4_leastCut 145 = .ok (.goto (-80), 3) := by decide +kernel
theorem dX4_leastCut_148 : decode cX4_leastCut 148 = .ok (.iload_n 3, 1) := by decide +kernel
theorem dX4_leastCut_149 : decode cX4_leastCut 149 = .ok (.ireturn, 1) := by decide +kernel
set_option maxRecDepth 20000 in
theorem ggX4_endedBy_X4_boxOfSet : GoodIn wsX4_endedBy wsX4_boxOfSet := goodIn_r _ [6, 7, 17, 18, 19, 20, 21, 22, 23] (by decide +kernel) (by decide +kernel)
set_option maxRecDepth 20000 in
theorem gX4_endedBy_X4_boxOfSet : GoodIn wsX4_endedBy (wsV RX4 248 RX4 yX4_boxOfSet wsX4_boxOfSet) := goodIn_app (goodIn_of _ (by decide +kernel)) ggX4_endedBy_X4_boxOfSet
set_option maxRecDepth 20000 in
theorem ggX4_endedBy_X1_end : GoodIn wsX4_endedBy wsX1_end := goodIn_r _ [12, 13, 14, 15, 16, 24, 25, 26, 27, 28, 29, 30, 31, 32, 33] (by decide +kernel) (by decide +kernel)
set_option maxRecDepth 20000 in
theorem gX4_endedBy_X1_end : GoodIn wsX4_endedBy (wsV RX4 252 RX1 yX1_end wsX1_end) := goodIn_app (goodIn_of _ (by decide +kernel)) ggX4_endedBy_X1_end
theorem dX4_endedBy_0 : decode cX4_endedBy 0 = .ok (.iconst 0, 1) := by decide +kernel
theorem dX4_endedBy_1 : decode cX4_endedBy 1 = .ok (.istore 4, 2) := by decide +kernel
theorem dX4_endedBy_3 : decode cX4_endedBy 3 = .ok (.iconst 0, 1) := by decide +kernel
theorem dX4_endedBy_4 : decode cX4_endedBy 4 = .ok (.istore 5, 2) := by decide +kernel
theorem dX4_endedBy_6 : decode cX4_endedBy 6 = .ok (.iload 5, 2) := by decide +kernel
theorem dX4_endedBy_8 : decode cX4_endedBy 8 = .ok (.aload_n 0, 1) := by decide +kernel
theorem dX4_endedBy_9 : decode cX4_endedBy 9 = .ok (.getfield 15, 3) := by decide +kernel
theorem dX4_endedBy_12 : decode cX4_endedBy 12 = .ok (.if_icmp .ge 42, 3) := by decide +kernel
theorem dX4_endedBy_15 : decode cX4_endedBy 15 = .ok (.aload_n 0, 1) := by decide +kernel
theorem dX4_endedBy_16 : decode cX4_endedBy 16 = .ok (.iload_n 2, 1) := by decide +kernel
theorem dX4_endedBy_17 : decode cX4_endedBy 17 = .ok (.iload 5, 2) := by decide +kernel
theorem dX4_endedBy_19 : decode cX4_endedBy 19 = .ok (.invokevirtual 248, 3) := by decide +kernel
theorem dX4_endedBy_22 : decode cX4_endedBy 22 = .ok (.astore 6, 2) := by decide +kernel
theorem dX4_endedBy_24 : decode cX4_endedBy 24 = .ok (.aload 6, 2) := by decide +kernel
theorem dX4_endedBy_26 : decode cX4_endedBy 26 = .ok (.ifnull 22, 3) := by decide +kernel
theorem dX4_endedBy_29 : decode cX4_endedBy 29 = .ok (.aload 6, 2) := by decide +kernel
theorem dX4_endedBy_31 : decode cX4_endedBy 31 = .ok (.iload_n 3, 1) := by decide +kernel
theorem dX4_endedBy_32 : decode cX4_endedBy 32 = .ok (.invokevirtual 252, 3) := by decide +kernel
theorem dX4_endedBy_35 : decode cX4_endedBy 35 = .ok (.iload_n 1, 1) := by decide +kernel
theorem dX4_endedBy_36 : decode cX4_endedBy 36 = .ok (.if_icmp .gt 12, 3) := by decide +kernel
theorem dX4_endedBy_39 : decode cX4_endedBy 39 = .ok (.iload 4, 2) := by decide +kernel
theorem dX4_endedBy_41 : decode cX4_endedBy 41 = .ok (.iconst 1, 1) := by decide +kernel
theorem dX4_endedBy_42 : decode cX4_endedBy 42 = .ok (.iload 5, 2) := by decide +kernel
theorem dX4_endedBy_44 : decode cX4_endedBy 44 = .ok (.ishl, 1) := by decide +kernel
theorem dX4_endedBy_45 : decode cX4_endedBy 45 = .ok (.ior, 1) := by decide +kernel
theorem dX4_endedBy_46 : decode cX4_endedBy 46 = .ok (.istore 4, 2) := by decide +kernel
theorem dX4_endedBy_48 : decode cX4_endedBy 48 = .ok (.iinc 5 1, 3) := by decide +kernel
theorem dX4_endedBy_51 : decode cX4_endedBy 51 = .ok (.goto (-45), 3) := by decide +kernel
theorem dX4_endedBy_54 : decode cX4_endedBy 54 = .ok (.iload 4, 2) := by decide +kernel
theorem dX4_endedBy_56 : decode cX4_endedBy 56 = .ok (.ireturn, 1) := by decide +kernel
set_option maxRecDepth 20000 in
theorem ggX4_readUncut_X4_firstByEdges : GoodIn wsX4_readUncut wsX4_firstByEdges := goodIn_r _ [7, 8, 9, 10, 11, 6, 12, 13, 14, 15, 16, 17, 18, 19, 20, 21, 39, 40, 41, 42, 43, 44, 45, 29, 30, 31, 32, 33, 34, 35, 36, 37, 38] (by decide +kernel) (by decide +kernel)
set_option maxRecDepth 20000 in
theorem gX4_readUncut_X4_firstByEdges : GoodIn wsX4_readUncut (wsV RX4 263 RX4 yX4_firstByEdges wsX4_firstByEdges) := goodIn_app (goodIn_of _ (by decide +kernel)) ggX4_readUncut_X4_firstByEdges
set_option maxRecDepth 20000 in
theorem ggX4_readUncut_X3_add : GoodIn wsX4_readUncut wsX3_add := goodIn_r _ [26, 27, 28, 46, 47] (by decide +kernel) (by decide +kernel)
set_option maxRecDepth 20000 in
theorem gX4_readUncut_X3_add : GoodIn wsX4_readUncut (wsV RX4 266 RX3 yX3_add wsX3_add) := goodIn_app (goodIn_of _ (by decide +kernel)) ggX4_readUncut_X3_add
theorem dX4_readUncut_0 : decode cX4_readUncut 0 = .ok (.iload_n 1, 1) := by decide +kernel
theorem dX4_readUncut_1 : decode cX4_readUncut 1 = .ok (.istore_n 3, 1) := by decide +kernel
theorem dX4_readUncut_2 : decode cX4_readUncut 2 = .ok (.iconst 0, 1) := by decide +kernel
theorem dX4_readUncut_3 : decode cX4_readUncut 3 = .ok (.istore 4, 2) := by decide +kernel
theorem dX4_readUncut_5 : decode cX4_readUncut 5 = .ok (.iload 4, 2) := by decide +kernel
theorem dX4_readUncut_7 : decode cX4_readUncut 7 = .ok (.bipush 24, 2) := by decide +kernel
theorem dX4_readUncut_9 : decode cX4_readUncut 9 = .ok (.if_icmp .ge 66, 3) := by decide +kernel
theorem dX4_readUncut_12 : decode cX4_readUncut 12 = .ok (.iload_n 3, 1) := by decide +kernel
theorem dX4_readUncut_13 : decode cX4_readUncut 13 = .ok (.ifCond .eq 62, 3) := by decide +kernel
theorem dX4_readUncut_16 : decode cX4_readUncut 16 = .ok (.aload_n 0, 1) := by decide +kernel
theorem dX4_readUncut_17 : decode cX4_readUncut 17 = .ok (.iload_n 3, 1) := by decide +kernel
theorem dX4_readUncut_18 : decode cX4_readUncut 18 = .ok (.invokevirtual 263, 3) := by decide +kernel
theorem dX4_readUncut_21 : decode cX4_readUncut 21 = .ok (.astore 5, 2) := by decide +kernel
theorem dX4_readUncut_23 : decode cX4_readUncut 23 = .ok (.aload 5, 2) := by decide +kernel
theorem dX4_readUncut_25 : decode cX4_readUncut 25 = .ok (.ifnonnull 4, 3) := by decide +kernel
theorem dX4_readUncut_28 : decode cX4_readUncut 28 = .ok (.return_, 1) := by decide +kernel
theorem dX4_readUncut_29 : decode cX4_readUncut 29 = .ok (.iload_n 3, 1) := by decide +kernel
theorem dX4_readUncut_30 : decode cX4_readUncut 30 = .ok (.iconst 1, 1) := by decide +kernel
theorem dX4_readUncut_31 : decode cX4_readUncut 31 = .ok (.aload 5, 2) := by decide +kernel
theorem dX4_readUncut_33 : decode cX4_readUncut 33 = .ok (.getfield 130, 3) := by decide +kernel
theorem dX4_readUncut_36 : decode cX4_readUncut 36 = .ok (.ishl, 1) := by decide +kernel
theorem dX4_readUncut_37 : decode cX4_readUncut 37 = .ok (.iconst (-1), 1) := by decide +kernel
theorem dX4_readUncut_38 : decode cX4_readUncut 38 = .ok (.ixor, 1) := by decide +kernel
theorem dX4_readUncut_39 : decode cX4_readUncut 39 = .ok (.iand, 1) := by decide +kernel
theorem dX4_readUncut_40 : decode cX4_readUncut 40 = .ok (.istore_n 3, 1) := by decide +kernel
theorem dX4_readUncut_41 : decode cX4_readUncut 41 = .ok (.aload 5, 2) := by decide +kernel
theorem dX4_readUncut_43 : decode cX4_readUncut 43 = .ok (.astore 6, 2) := by decide +kernel
theorem dX4_readUncut_45 : decode cX4_readUncut 45 = .ok (.aload 6, 2) := by decide +kernel
theorem dX4_readUncut_47 : decode cX4_readUncut 47 = .ok (.ifnull 22, 3) := by decide +kernel
theorem dX4_readUncut_50 : decode cX4_readUncut 50 = .ok (.aload_n 2, 1) := by decide +kernel
theorem dX4_readUncut_51 : decode cX4_readUncut 51 = .ok (.aload 6, 2) := by decide +kernel
theorem dX4_readUncut_53 : decode cX4_readUncut 53 = .ok (.getfield 130, 3) := by decide +kernel
theorem dX4_readUncut_56 : decode cX4_readUncut 56 = .ok (.invokevirtual 266, 3) := by decide +kernel
theorem dX4_readUncut_59 : decode cX4_readUncut 59 = .ok (.aload 6, 2) := by decide +kernel
theorem dX4_readUncut_61 : decode cX4_readUncut 61 = .ok (.getfield 104, 3) := by decide +kernel
theorem dX4_readUncut_64 : decode cX4_readUncut 64 = .ok (.astore 6, 2) := by decide +kernel
theorem dX4_readUncut_66 : decode cX4_readUncut 66 = .ok (.goto (-21), 3) := by decide +kernel
theorem dX4_readUncut_69 : decode cX4_readUncut 69 = .ok (.iinc 4 1, 3) := by decide +kernel
theorem dX4_readUncut_72 : decode cX4_readUncut 72 = .ok (.goto (-67), 3) := by decide +kernel
theorem dX4_readUncut_75 : decode cX4_readUncut 75 = .ok (.return_, 1) := by decide +kernel
set_option maxRecDepth 20000 in
theorem ggX4_firstByEdges_X4_boxOfSet : GoodIn wsX4_firstByEdges wsX4_boxOfSet := goodIn_r _ [6, 7, 16, 17, 18, 19, 20, 21, 22] (by decide +kernel) (by decide +kernel)
set_option maxRecDepth 20000 in
theorem gX4_firstByEdges_X4_boxOfSet : GoodIn wsX4_firstByEdges (wsV RX4 248 RX4 yX4_boxOfSet wsX4_boxOfSet) := goodIn_app (goodIn_of _ (by decide +kernel)) ggX4_firstByEdges_X4_boxOfSet
set_option maxRecDepth 20000 in
theorem ggX4_firstByEdges_X1_isAheadByEdges : GoodIn wsX4_firstByEdges wsX1_isAheadByEdges := goodIn_r _ [12, 13, 14, 15, 23, 24, 25, 26, 27, 28, 29, 30, 31, 32] (by decide +kernel) (by decide +kernel)
set_option maxRecDepth 20000 in
theorem gX4_firstByEdges_X1_isAheadByEdges : GoodIn wsX4_firstByEdges (wsV RX4 269 RX1 yX1_isAheadByEdges wsX1_isAheadByEdges) := goodIn_app (goodIn_of _ (by decide +kernel)) ggX4_firstByEdges_X1_isAheadByEdges
theorem dX4_firstByEdges_0 : decode cX4_firstByEdges 0 = .ok (.aconst_null, 1) := by decide +kernel
theorem dX4_firstByEdges_1 : decode cX4_firstByEdges 1 = .ok (.astore_n 2, 1) := by decide +kernel
theorem dX4_firstByEdges_2 : decode cX4_firstByEdges 2 = .ok (.iconst 0, 1) := by decide +kernel
theorem dX4_firstByEdges_3 : decode cX4_firstByEdges 3 = .ok (.istore_n 3, 1) := by decide +kernel
theorem dX4_firstByEdges_4 : decode cX4_firstByEdges 4 = .ok (.iload_n 3, 1) := by decide +kernel
theorem dX4_firstByEdges_5 : decode cX4_firstByEdges 5 = .ok (.aload_n 0, 1) := by decide +kernel
theorem dX4_firstByEdges_6 : decode cX4_firstByEdges 6 = .ok (.getfield 15, 3) := by decide +kernel
theorem dX4_firstByEdges_9 : decode cX4_firstByEdges 9 = .ok (.if_icmp .ge 38, 3) := by decide +kernel
theorem dX4_firstByEdges_12 : decode cX4_firstByEdges 12 = .ok (.aload_n 0, 1) := by decide +kernel
theorem dX4_firstByEdges_13 : decode cX4_firstByEdges 13 = .ok (.iload_n 1, 1) := by decide +kernel
theorem dX4_firstByEdges_14 : decode cX4_firstByEdges 14 = .ok (.iload_n 3, 1) := by decide +kernel
theorem dX4_firstByEdges_15 : decode cX4_firstByEdges 15 = .ok (.invokevirtual 248, 3) := by decide +kernel
theorem dX4_firstByEdges_18 : decode cX4_firstByEdges 18 = .ok (.astore 4, 2) := by decide +kernel
theorem dX4_firstByEdges_20 : decode cX4_firstByEdges 20 = .ok (.aload 4, 2) := by decide +kernel
theorem dX4_firstByEdges_22 : decode cX4_firstByEdges 22 = .ok (.ifnull 19, 3) := by decide +kernel
theorem dX4_firstByEdges_25 : decode cX4_firstByEdges 25 = .ok (.aload_n 2, 1) := by decide +kernel
theorem dX4_firstByEdges_26 : decode cX4_firstByEdges 26 = .ok (.ifnull 12, 3) := by decide +kernel
theorem dX4_firstByEdges_29 : decode cX4_firstByEdges 29 = .ok (.aload 4, 2) := by decide +kernel
theorem dX4_firstByEdges_31 : decode cX4_firstByEdges 31 = .ok (.aload_n 2, 1) := by decide +kernel
theorem dX4_firstByEdges_32 : decode cX4_firstByEdges 32 = .ok (.invokevirtual 269, 3) := by decide +kernel
theorem dX4_firstByEdges_35 : decode cX4_firstByEdges 35 = .ok (.ifCond .eq 6, 3) := by decide +kernel
theorem dX4_firstByEdges_38 : decode cX4_firstByEdges 38 = .ok (.aload 4, 2) := by decide +kernel
theorem dX4_firstByEdges_40 : decode cX4_firstByEdges 40 = .ok (.astore_n 2, 1) := by decide +kernel
theorem dX4_firstByEdges_41 : decode cX4_firstByEdges 41 = .ok (.iinc 3 1, 3) := by decide +kernel
theorem dX4_firstByEdges_44 : decode cX4_firstByEdges 44 = .ok (.goto (-40), 3) := by decide +kernel
theorem dX4_firstByEdges_47 : decode cX4_firstByEdges 47 = .ok (.aload_n 2, 1) := by decide +kernel
theorem dX4_firstByEdges_48 : decode cX4_firstByEdges 48 = .ok (.areturn, 1) := by decide +kernel
theorem dX4_boxOfSet_0 : decode cX4_boxOfSet 0 = .ok (.iload_n 2, 1) := by decide +kernel
theorem dX4_boxOfSet_1 : decode cX4_boxOfSet 1 = .ok (.ifCond .lt 24, 3) := by decide +kernel
theorem dX4_boxOfSet_4 : decode cX4_boxOfSet 4 = .ok (.iload_n 2, 1) := by decide +kernel
theorem dX4_boxOfSet_5 : decode cX4_boxOfSet 5 = .ok (.aload_n 0, 1) := by decide +kernel
theorem dX4_boxOfSet_6 : decode cX4_boxOfSet 6 = .ok (.getfield 11, 3) := by decide +kernel
theorem dX4_boxOfSet_9 : decode cX4_boxOfSet 9 = .ok (.arraylength, 1) := by decide +kernel
theorem dX4_boxOfSet_10 : decode cX4_boxOfSet 10 = .ok (.if_icmp .ge 15, 3) := by decide +kernel
theorem dX4_boxOfSet_13 : decode cX4_boxOfSet 13 = .ok (.iload_n 1, 1) := by decide +kernel
theorem dX4_boxOfSet_14 : decode cX4_boxOfSet 14 = .ok (.iload_n 2, 1) := by decide +kernel
theorem dX4_boxOfSet_15 : decode cX4_boxOfSet 15 = .ok (.ishr, 1) := by decide +kernel
theorem dX4_boxOfSet_16 : decode cX4_boxOfSet 16 = .ok (.iconst 1, 1) := by decide +kernel
theorem dX4_boxOfSet_17 : decode cX4_boxOfSet 17 = .ok (.iand, 1) := by decide +kernel
theorem dX4_boxOfSet_18 : decode cX4_boxOfSet 18 = .ok (.ifCond .eq 7, 3) := by decide +kernel
theorem dX4_boxOfSet_21 : decode cX4_boxOfSet 21 = .ok (.iconst 1, 1) := by decide +kernel
theorem dX4_boxOfSet_22 : decode cX4_boxOfSet 22 = .ok (.goto 4, 3) := by decide +kernel
theorem dX4_boxOfSet_25 : decode cX4_boxOfSet 25 = .ok (.iconst 0, 1) := by decide +kernel
theorem dX4_boxOfSet_26 : decode cX4_boxOfSet 26 = .ok (.istore_n 3, 1) := by decide +kernel
theorem dX4_boxOfSet_27 : decode cX4_boxOfSet 27 = .ok (.iload_n 3, 1) := by decide +kernel
theorem dX4_boxOfSet_28 : decode cX4_boxOfSet 28 = .ok (.ifCond .eq 12, 3) := by decide +kernel
theorem dX4_boxOfSet_31 : decode cX4_boxOfSet 31 = .ok (.aload_n 0, 1) := by decide +kernel
theorem dX4_boxOfSet_32 : decode cX4_boxOfSet 32 = .ok (.getfield 11, 3) := by decide +kernel
theorem dX4_boxOfSet_35 : decode cX4_boxOfSet 35 = .ok (.iload_n 2, 1) := by decide +kernel
theorem dX4_boxOfSet_36 : decode cX4_boxOfSet 36 = .ok (.aaload, 1) := by decide +kernel
theorem dX4_boxOfSet_37 : decode cX4_boxOfSet 37 = .ok (.goto 4, 3) := by decide +kernel
theorem dX4_boxOfSet_40 : decode cX4_boxOfSet 40 = .ok (.aconst_null, 1) := by decide +kernel
theorem dX4_boxOfSet_41 : decode cX4_boxOfSet 41 = .ok (.areturn, 1) := by decide +kernel
set_option maxRecDepth 20000 in
theorem ggX4_faultsAt_X3_at : GoodIn wsX4_faultsAt wsX3_at := goodIn_r _ [7, 8, 9, 61, 62] (by decide +kernel) (by decide +kernel)
set_option maxRecDepth 20000 in
theorem gX4_faultsAt_X3_at : GoodIn wsX4_faultsAt (wsV RX4 123 RX3 yX3_at wsX3_at) := goodIn_app (goodIn_of _ (by decide +kernel)) ggX4_faultsAt_X3_at
set_option maxRecDepth 20000 in
theorem ggX4_faultsAt_X4_madeBox : GoodIn wsX4_faultsAt wsX4_madeBox := goodIn_r _ [14, 15, 63, 64, 65, 66, 67, 68, 69] (by decide +kernel) (by decide +kernel)
set_option maxRecDepth 20000 in
theorem gX4_faultsAt_X4_madeBox : GoodIn wsX4_faultsAt (wsV RX4 139 RX4 yX4_madeBox wsX4_madeBox) := goodIn_app (goodIn_of _ (by decide +kernel)) ggX4_faultsAt_X4_madeBox
set_option maxRecDepth 20000 in
theorem ggX4_faultsAt_X1_isHead : GoodIn wsX4_faultsAt wsX1_isHead := goodIn_r _ [20, 21, 51, 52, 53, 54, 55, 56, 57, 58, 59, 60] (by decide +kernel) (by decide +kernel)
set_option maxRecDepth 20000 in
theorem gX4_faultsAt_X1_isHead : GoodIn wsX4_faultsAt (wsV RX4 272 RX1 yX1_isHead wsX1_isHead) := goodIn_app (goodIn_of _ (by decide +kernel)) ggX4_faultsAt_X1_isHead
set_option maxRecDepth 20000 in
theorem ggX4_faultsAt_X1_level : GoodIn wsX4_faultsAt wsX1_level := goodIn_r _ [25, 21, 51, 52, 53, 54, 55, 56, 57, 58, 59, 60] (by decide +kernel) (by decide +kernel)
set_option maxRecDepth 20000 in
theorem gX4_faultsAt_X1_level : GoodIn wsX4_faultsAt (wsV RX4 276 RX1 yX1_level wsX1_level) := goodIn_app (goodIn_of _ (by decide +kernel)) ggX4_faultsAt_X1_level
set_option maxRecDepth 20000 in
theorem ggX4_faultsAt_X4_levelAhead : GoodIn wsX4_faultsAt wsX4_levelAhead := goodIn_r _ [29, 3, 4, 5, 6, 7, 8, 9, 10, 11, 12, 13, 14, 15, 16, 17, 18, 19, 20, 21, 22, 23, 24, 25, 61, 62, 63, 64, 65, 66, 67, 68, 69, 51, 52, 53, 54, 55, 56, 57, 58, 59, 60] (by decide +kernel) (by decide +kernel)
set_option maxRecDepth 20000 in
theorem gX4_faultsAt_X4_levelAhead : GoodIn wsX4_faultsAt (wsV RX4 279 RX4 yX4_levelAhead wsX4_levelAhead) := goodIn_app (goodIn_of _ (by decide +kernel)) ggX4_faultsAt_X4_levelAhead
set_option maxRecDepth 20000 in
theorem ggX4_faultsAt_X4_isOfKind : GoodIn wsX4_faultsAt wsX4_isOfKind := goodIn_r _ [32, 1, 51, 52, 53, 54, 55, 56, 57, 58, 59, 60] (by decide +kernel) (by decide +kernel)
set_option maxRecDepth 20000 in
theorem gX4_faultsAt_X4_isOfKind : GoodIn wsX4_faultsAt (va_wsS RX4 282 yX4_isOfKind wsX4_isOfKind) := goodIn_app (goodIn_of _ (by decide +kernel)) ggX4_faultsAt_X4_isOfKind
set_option maxRecDepth 20000 in
theorem ggX4_faultsAt_X4_overlapsAny : GoodIn wsX4_faultsAt wsX4_overlapsAny := goodIn_r _ [36, 37, 3, 4, 5, 6, 7, 8, 9, 10, 11, 12, 13, 14, 15, 38, 39, 40, 19, 41, 42, 43, 44, 45, 46, 47, 48, 49, 61, 62, 63, 64, 65, 66, 67, 68, 69, 51, 52, 53, 54, 55, 56, 57, 58, 59, 60] (by decide +kernel) (by decide +kernel)
set_option maxRecDepth 20000 in
theorem gX4_faultsAt_X4_overlapsAny : GoodIn wsX4_faultsAt (wsV RX4 286 RX4 yX4_overlapsAny wsX4_overlapsAny) := goodIn_app (goodIn_of _ (by decide +kernel)) ggX4_faultsAt_X4_overlapsAny
set_option maxRecDepth 20000 in
theorem ggX4_faultsAt_X1_bottom : GoodIn wsX4_faultsAt wsX1_bottom := goodIn_r _ [48, 44, 49, 51, 52, 53, 54, 55, 56, 57, 58, 59, 60] (by decide +kernel) (by decide +kernel)
set_option maxRecDepth 20000 in
theorem gX4_faultsAt_X1_bottom : GoodIn wsX4_faultsAt (wsV RX4 290 RX1 yX1_bottom wsX1_bottom) := goodIn_app (goodIn_of _ (by decide +kernel)) ggX4_faultsAt_X1_bottom
theorem dX4_faultsAt_0 : decode cX4_faultsAt 0 = .ok (.aload_n 0, 1) := by decide +kernel
theorem dX4_faultsAt_1 : decode cX4_faultsAt 1 = .ok (.aload_n 1, 1) := by decide +kernel
theorem dX4_faultsAt_2 : decode cX4_faultsAt 2 = .ok (.iload_n 2, 1) := by decide +kernel
theorem dX4_faultsAt_3 : decode cX4_faultsAt 3 = .ok (.invokevirtual 123, 3) := by decide +kernel
theorem dX4_faultsAt_6 : decode cX4_faultsAt 6 = .ok (.invokevirtual 139, 3) := by decide +kernel
theorem dX4_faultsAt_9 : decode cX4_faultsAt 9 = .ok (.astore_n 3, 1) := by decide +kernel
theorem dX4_faultsAt_10 : decode cX4_faultsAt 10 = .ok (.aload_n 3, 1) := by decide +kernel
theorem dX4_faultsAt_11 : decode cX4_faultsAt 11 = .ok (.ifnonnull 5, 3) := by decide +kernel
theorem dX4_faultsAt_14 : decode cX4_faultsAt 14 = .ok (.iconst 0, 1) := by decide +kernel
theorem dX4_faultsAt_15 : decode cX4_faultsAt 15 = .ok (.ireturn, 1) := by decide +kernel
theorem dX4_faultsAt_16 : decode cX4_faultsAt 16 = .ok (.aload_n 0, 1) := by decide +kernel
theorem dX4_faultsAt_17 : decode cX4_faultsAt 17 = .ok (.aload_n 1, 1) := by decide +kernel
theorem dX4_faultsAt_18 : decode cX4_faultsAt 18 = .ok (.iload_n 2, 1) := by decide +kernel
theorem dX4_faultsAt_19 : decode cX4_faultsAt 19 = .ok (.iconst 1, 1) := by decide +kernel
theorem dX4_faultsAt_20 : decode cX4_faultsAt 20 = .ok (.isub, 1) := by decide +kernel
theorem dX4_faultsAt_21 : decode cX4_faultsAt 21 = .ok (.invokevirtual 123, 3) := by decide +kernel
theorem dX4_faultsAt_24 : decode cX4_faultsAt 24 = .ok (.invokevirtual 139, 3) := by decide +kernel
theorem dX4_faultsAt_27 : decode cX4_faultsAt 27 = .ok (.astore 4, 2) := by decide +kernel
theorem dX4_faultsAt_29 : decode cX4_faultsAt 29 = .ok (.aload_n 0, 1) := by decide +kernel
theorem dX4_faultsAt_30 : decode cX4_faultsAt 30 = .ok (.aload_n 1, 1) := by decide +kernel
theorem dX4_faultsAt_31 : decode cX4_faultsAt 31 = .ok (.iload_n 2, 1) := by decide +kernel
theorem dX4_faultsAt_32 : decode cX4_faultsAt 32 = .ok (.iconst 1, 1) := by decide +kernel
theorem dX4_faultsAt_33 : decode cX4_faultsAt 33 = .ok (.iadd, 1) := by decide +kernel
theorem dX4_faultsAt_34 : decode cX4_faultsAt 34 = .ok (.invokevirtual 123, 3) := by decide +kernel
theorem dX4_faultsAt_37 : decode cX4_faultsAt 37 = .ok (.invokevirtual 139, 3) := by decide +kernel
theorem dX4_faultsAt_40 : decode cX4_faultsAt 40 = .ok (.astore 5, 2) := by decide +kernel
theorem dX4_faultsAt_42 : decode cX4_faultsAt 42 = .ok (.iconst 0, 1) := by decide +kernel
theorem dX4_faultsAt_43 : decode cX4_faultsAt 43 = .ok (.istore 6, 2) := by decide +kernel
theorem dX4_faultsAt_45 : decode cX4_faultsAt 45 = .ok (.aload_n 3, 1) := by decide +kernel
theorem dX4_faultsAt_46 : decode cX4_faultsAt 46 = .ok (.invokevirtual 272, 3) := by decide +kernel
theorem dX4_faultsAt_49 : decode cX4_faultsAt 49 = .ok (.ifCond .eq 24, 3) := by decide +kernel
theorem dX4_faultsAt_52 : decode cX4_faultsAt 52 = .ok (.aload_n 3, 1) := by decide +kernel
theorem dX4_faultsAt_53 : decode cX4_faultsAt 53 = .ok (.invokevirtual 276, 3) := by decide +kernel
theorem dX4_faultsAt_56 : decode cX4_faultsAt 56 = .ok (.aload_n 0, 1) := by decide +kernel
theorem dX4_faultsAt_57 : decode cX4_faultsAt 57 = .ok (.aload_n 1, 1) := by decide +kernel
theorem dX4_faultsAt_58 : decode cX4_faultsAt 58 = .ok (.iload_n 2, 1) := by decide +kernel
theorem dX4_faultsAt_59 : decode cX4_faultsAt 59 = .ok (.invokevirtual 279, 3) := by decide +kernel
theorem dX4_faultsAt_62 : decode cX4_faultsAt 62 = .ok (.iconst 1, 1) := by decide +kernel
theorem dX4_faultsAt_63 : decode cX4_faultsAt 63 = .ok (.iadd, 1) := by decide +kernel
theorem dX4_faultsAt_64 : decode cX4_faultsAt 64 = .ok (.if_icmp .le 9, 3) := by decide +kernel
theorem dX4_faultsAt_67 : decode cX4_faultsAt 67 = .ok (.iload 6, 2) := by decide +kernel
theorem dX4_faultsAt_69 : decode cX4_faultsAt 69 = .ok (.iconst 1, 1) := by decide +kernel
theorem dX4_faultsAt_70 : decode cX4_faultsAt 70 = .ok (.ior, 1) := by decide +kernel
theorem dX4_faultsAt_71 : decode cX4_faultsAt 71 = .ok (.istore 6, 2) := by decide +kernel
theorem dX4_faultsAt_73 : decode cX4_faultsAt 73 = .ok (.aload_n 3, 1) := by decide +kernel
theorem dX4_faultsAt_74 : decode cX4_faultsAt 74 = .ok (.getfield 147, 3) := by decide +kernel
theorem dX4_faultsAt_77 : decode cX4_faultsAt 77 = .ok (.iconst 1, 1) := by decide +kernel
theorem dX4_faultsAt_78 : decode cX4_faultsAt 78 = .ok (.if_icmp .ne 27, 3) := by decide +kernel
theorem dX4_faultsAt_81 : decode cX4_faultsAt 81 = .ok (.aload 4, 2) := by decide +kernel
theorem dX4_faultsAt_83 : decode cX4_faultsAt 83 = .ok (.iconst 1, 1) := by decide +kernel
theorem dX4_faultsAt_84 : decode cX4_faultsAt 84 = .ok (.invokestatic 282, 3) := by decide +kernel
theorem dX4_faultsAt_87 : decode cX4_faultsAt 87 = .ok (.ifCond .ne 18, 3) := by decide +kernel
theorem dX4_faultsAt_90 : decode cX4_faultsAt 90 = .ok (.aload 5, 2) := by decide +kernel
theorem dX4_faultsAt_92 : decode cX4_faultsAt 92 = .ok (.iconst 1, 1) := by decide +kernel
theorem dX4_faultsAt_93 : decode cX4_faultsAt 93 = .ok (.invokestatic 282, 3) := by decide +kernel
theorem dX4_faultsAt_96 : decode cX4_faultsAt 96 = .ok (.ifCond .ne 9, 3) := by decide +kernel
theorem dX4_faultsAt_99 : decode cX4_faultsAt 99 = .ok (.iload 6, 2) := by decide +kernel
theorem dX4_faultsAt_101 : decode cX4_faultsAt 101 = .ok (.iconst 2, 1) := by decide +kernel
theorem dX4_faultsAt_102 : decode cX4_faultsAt 102 = .ok (.ior, 1) := by decide +kernel
theorem dX4_faultsAt_103 : decode cX4_faultsAt 103 = .ok (.istore 6, 2) := by decide +kernel
theorem dX4_faultsAt_105 : decode cX4_faultsAt 105 = .ok (.aload_n 3, 1) := by decide +kernel
theorem dX4_faultsAt_106 : decode cX4_faultsAt 106 = .ok (.getfield 147, 3) := by decide +kernel
theorem dX4_faultsAt_109 : decode cX4_faultsAt 109 = .ok (.iconst 3, 1) := by decide +kernel
theorem dX4_faultsAt_110 : decode cX4_faultsAt 110 = .ok (.if_icmp .ne 18, 3) := by decide +kernel
theorem dX4_faultsAt_113 : decode cX4_faultsAt 113 = .ok (.aload 4, 2) := by decide +kernel
theorem dX4_faultsAt_115 : decode cX4_faultsAt 115 = .ok (.iconst 2, 1) := by decide +kernel
theorem dX4_faultsAt_116 : decode cX4_faultsAt 116 = .ok (.invokestatic 282, 3) := by decide +kernel
theorem dX4_faultsAt_119 : decode cX4_faultsAt 119 = .ok (.ifCond .ne 9, 3) := by decide +kernel
theorem dX4_faultsAt_122 : decode cX4_faultsAt 122 = .ok (.iload 6, 2) := by decide +kernel
theorem dX4_faultsAt_124 : decode cX4_faultsAt 124 = .ok (.iconst 4, 1) := by decide +kernel
theorem dX4_faultsAt_125 : decode cX4_faultsAt 125 = .ok (.ior, 1) := by decide +kernel
theorem dX4_faultsAt_126 : decode cX4_faultsAt 126 = .ok (.istore 6, 2) := by decide +kernel
theorem dX4_faultsAt_128 : decode cX4_faultsAt 128 = .ok (.aload_n 0, 1) := by decide +kernel
theorem dX4_faultsAt_129 : decode cX4_faultsAt 129 = .ok (.aload_n 3, 1) := by decide +kernel
theorem dX4_faultsAt_130 : decode cX4_faultsAt 130 = .ok (.aload_n 1, 1) := by decide +kernel
theorem dX4_faultsAt_131 : decode cX4_faultsAt 131 = .ok (.invokevirtual 286, 3) := by decide +kernel
theorem dX4_faultsAt_134 : decode cX4_faultsAt 134 = .ok (.ifCond .eq 10, 3) := by decide +kernel
theorem dX4_faultsAt_137 : decode cX4_faultsAt 137 = .ok (.iload 6, 2) := by decide +kernel
theorem dX4_faultsAt_139 : decode cX4_faultsAt 139 = .ok (.bipush 8, 2) := by decide +kernel
theorem dX4_faultsAt_141 : decode cX4_faultsAt 141 = .ok (.ior, 1) := by decide +kernel
theorem dX4_faultsAt_142 : decode cX4_faultsAt 142 = .ok (.istore 6, 2) := by decide +kernel
theorem dX4_faultsAt_144 : decode cX4_faultsAt 144 = .ok (.aload 4, 2) := by decide +kernel
theorem dX4_faultsAt_146 : decode cX4_faultsAt 146 = .ok (.ifnull 25, 3) := by decide +kernel
theorem dX4_faultsAt_149 : decode cX4_faultsAt 149 = .ok (.aload_n 3, 1) := by decide +kernel
theorem dX4_faultsAt_150 : decode cX4_faultsAt 150 = .ok (.getfield 86, 3) := by decide +kernel
theorem dX4_faultsAt_153 : decode cX4_faultsAt 153 = .ok (.aload 4, 2) := by decide +kernel
theorem dX4_faultsAt_155 : decode cX4_faultsAt 155 = .ok (.invokevirtual 290, 3) := by decide +kernel
theorem dX4_faultsAt_158 : decode cX4_faultsAt 158 = .ok (.bipush 20, 2) := by decide +kernel
theorem dX4_faultsAt_160 : decode cX4_faultsAt 160 = .ok (.iadd, 1) := by decide +kernel
theorem dX4_faultsAt_161 : decode cX4_faultsAt 161 = .ok (.if_icmp .le 10, 3) := by decide +kernel
theorem dX4_faultsAt_164 : decode cX4_faultsAt 164 = .ok (.iload 6, 2) := by decide +kernel
theorem dX4_faultsAt_166 : decode cX4_faultsAt 166 = .ok (.bipush 16, 2) := by decide +kernel
theorem dX4_faultsAt_168 : decode cX4_faultsAt 168 = .ok (.ior, 1) := by decide +kernel
theorem dX4_faultsAt_169 : decode cX4_faultsAt 169 = .ok (.istore 6, 2) := by decide +kernel
theorem dX4_faultsAt_171 : decode cX4_faultsAt 171 = .ok (.iload 6, 2) := by decide +kernel
theorem dX4_faultsAt_173 : decode cX4_faultsAt 173 = .ok (.ireturn, 1) := by decide +kernel
set_option maxRecDepth 20000 in
theorem ggX4_levelAhead_X3_at : GoodIn wsX4_levelAhead wsX3_at := goodIn_r _ [5, 6, 7, 24, 25] (by decide +kernel) (by decide +kernel)
set_option maxRecDepth 20000 in
theorem gX4_levelAhead_X3_at : GoodIn wsX4_levelAhead (wsV RX4 123 RX3 yX3_at wsX3_at) := goodIn_app (goodIn_of _ (by decide +kernel)) ggX4_levelAhead_X3_at
set_option maxRecDepth 20000 in
theorem ggX4_levelAhead_X4_madeBox : GoodIn wsX4_levelAhead wsX4_madeBox := goodIn_r _ [12, 13, 26, 27, 28, 29, 30, 31, 32] (by decide +kernel) (by decide +kernel)
set_option maxRecDepth 20000 in
theorem gX4_levelAhead_X4_madeBox : GoodIn wsX4_levelAhead (wsV RX4 139 RX4 yX4_madeBox wsX4_madeBox) := goodIn_app (goodIn_of _ (by decide +kernel)) ggX4_levelAhead_X4_madeBox
set_option maxRecDepth 20000 in
theorem ggX4_levelAhead_X1_isHead : GoodIn wsX4_levelAhead wsX1_isHead := goodIn_r _ [18, 19, 33, 34, 35, 36, 37, 38, 39, 40, 41, 42] (by decide +kernel) (by decide +kernel)
set_option maxRecDepth 20000 in
theorem gX4_levelAhead_X1_isHead : GoodIn wsX4_levelAhead (wsV RX4 272 RX1 yX1_isHead wsX1_isHead) := goodIn_app (goodIn_of _ (by decide +kernel)) ggX4_levelAhead_X1_isHead
set_option maxRecDepth 20000 in
theorem ggX4_levelAhead_X1_level : GoodIn wsX4_levelAhead wsX1_level := goodIn_r _ [23, 19, 33, 34, 35, 36, 37, 38, 39, 40, 41, 42] (by decide +kernel) (by decide +kernel)
set_option maxRecDepth 20000 in
theorem gX4_levelAhead_X1_level : GoodIn wsX4_levelAhead (wsV RX4 276 RX1 yX1_level wsX1_level) := goodIn_app (goodIn_of _ (by decide +kernel)) ggX4_levelAhead_X1_level
theorem dX4_levelAhead_0 : decode cX4_levelAhead 0 = .ok (.iload_n 2, 1) := by decide +kernel
theorem dX4_levelAhead_1 : decode cX4_levelAhead 1 = .ok (.iconst 1, 1) := by decide +kernel
theorem dX4_levelAhead_2 : decode cX4_levelAhead 2 = .ok (.isub, 1) := by decide +kernel
theorem dX4_levelAhead_3 : decode cX4_levelAhead 3 = .ok (.istore_n 3, 1) := by decide +kernel
theorem dX4_levelAhead_4 : decode cX4_levelAhead 4 = .ok (.iload_n 3, 1) := by decide +kernel
theorem dX4_levelAhead_5 : decode cX4_levelAhead 5 = .ok (.ifCond .lt 39, 3) := by decide +kernel
theorem dX4_levelAhead_8 : decode cX4_levelAhead 8 = .ok (.aload_n 0, 1) := by decide +kernel
theorem dX4_levelAhead_9 : decode cX4_levelAhead 9 = .ok (.aload_n 1, 1) := by decide +kernel
theorem dX4_levelAhead_10 : decode cX4_levelAhead 10 = .ok (.iload_n 3, 1) := by decide +kernel
theorem dX4_levelAhead_11 : decode cX4_levelAhead 11 = .ok (.invokevirtual 123, 3) := by decide +kernel
theorem dX4_levelAhead_14 : decode cX4_levelAhead 14 = .ok (.invokevirtual 139, 3) := by decide +kernel
theorem dX4_levelAhead_17 : decode cX4_levelAhead 17 = .ok (.astore 4, 2) := by decide +kernel
theorem dX4_levelAhead_19 : decode cX4_levelAhead 19 = .ok (.aload 4, 2) := by decide +kernel
theorem dX4_levelAhead_21 : decode cX4_levelAhead 21 = .ok (.ifnull 17, 3) := by decide +kernel
theorem dX4_levelAhead_24 : decode cX4_levelAhead 24 = .ok (.aload 4, 2) := by decide +kernel
theorem dX4_levelAhead_26 : decode cX4_levelAhead 26 = .ok (.invokevirtual 272, 3) := by decide +kernel
theorem dX4_levelAhead_29 : decode cX4_levelAhead 29 = .ok (.ifCond .eq 9, 3) := by decide +kernel
theorem dX4_levelAhead_32 : decode cX4_levelAhead 32 = .ok (.aload 4, 2) := by decide +kernel
theorem dX4_levelAhead_34 : decode cX4_levelAhead 34 = .ok (.invokevirtual 276, 3) := by decide +kernel
theorem dX4_levelAhead_37 : decode cX4_levelAhead 37 = .ok (.ireturn, 1) := by decide +kernel
theorem dX4_levelAhead_38 : decode cX4_levelAhead 38 = .ok (.iinc 3 (-1), 3) := by decide +kernel
theorem dX4_levelAhead_41 : decode cX4_levelAhead 41 = .ok (.goto (-37), 3) := by decide +kernel
theorem dX4_levelAhead_44 : decode cX4_levelAhead 44 = .ok (.iconst 0, 1) := by decide +kernel
theorem dX4_levelAhead_45 : decode cX4_levelAhead 45 = .ok (.ireturn, 1) := by decide +kernel
theorem dX4_isOfKind_0 : decode cX4_isOfKind 0 = .ok (.aload_n 0, 1) := by decide +kernel
theorem dX4_isOfKind_1 : decode cX4_isOfKind 1 = .ok (.ifnull 15, 3) := by decide +kernel
theorem dX4_isOfKind_4 : decode cX4_isOfKind 4 = .ok (.aload_n 0, 1) := by decide +kernel
theorem dX4_isOfKind_5 : decode cX4_isOfKind 5 = .ok (.getfield 147, 3) := by decide +kernel
theorem dX4_isOfKind_8 : decode cX4_isOfKind 8 = .ok (.iload_n 1, 1) := by decide +kernel
theorem dX4_isOfKind_9 : decode cX4_isOfKind 9 = .ok (.if_icmp .ne 7, 3) := by decide +kernel
theorem dX4_isOfKind_12 : decode cX4_isOfKind 12 = .ok (.iconst 1, 1) := by decide +kernel
theorem dX4_isOfKind_13 : decode cX4_isOfKind 13 = .ok (.goto 4, 3) := by decide +kernel
theorem dX4_isOfKind_16 : decode cX4_isOfKind 16 = .ok (.iconst 0, 1) := by decide +kernel
theorem dX4_isOfKind_17 : decode cX4_isOfKind 17 = .ok (.ireturn, 1) := by decide +kernel
set_option maxRecDepth 20000 in
theorem ggX4_overlapsAny_X3_at : GoodIn wsX4_overlapsAny wsX3_at := goodIn_r _ [6, 7, 8, 28, 29] (by decide +kernel) (by decide +kernel)
set_option maxRecDepth 20000 in
theorem gX4_overlapsAny_X3_at : GoodIn wsX4_overlapsAny (wsV RX4 123 RX3 yX3_at wsX3_at) := goodIn_app (goodIn_of _ (by decide +kernel)) ggX4_overlapsAny_X3_at
set_option maxRecDepth 20000 in
theorem ggX4_overlapsAny_X4_madeBox : GoodIn wsX4_overlapsAny wsX4_madeBox := goodIn_r _ [13, 14, 30, 31, 32, 33, 34, 35, 36] (by decide +kernel) (by decide +kernel)
set_option maxRecDepth 20000 in
theorem gX4_overlapsAny_X4_madeBox : GoodIn wsX4_overlapsAny (wsV RX4 139 RX4 yX4_madeBox wsX4_madeBox) := goodIn_app (goodIn_of _ (by decide +kernel)) ggX4_overlapsAny_X4_madeBox
set_option maxRecDepth 20000 in
theorem ggX4_overlapsAny_X1_overlaps : GoodIn wsX4_overlapsAny wsX1_overlaps := goodIn_r _ [19, 20, 21, 22, 23, 24, 25, 18, 26, 27, 37, 38, 39, 40, 41, 42, 43, 44, 45, 46] (by decide +kernel) (by decide +kernel)
set_option maxRecDepth 20000 in
theorem gX4_overlapsAny_X1_overlaps : GoodIn wsX4_overlapsAny (wsV RX4 293 RX1 yX1_overlaps wsX1_overlaps) := goodIn_app (goodIn_of _ (by decide +kernel)) ggX4_overlapsAny_X1_overlaps
theorem dX4_overlapsAny_0 : decode cX4_overlapsAny 0 = .ok (.iconst 0, 1) := by decide +kernel
theorem dX4_overlapsAny_1 : decode cX4_overlapsAny 1 = .ok (.istore_n 3, 1) := by decide +kernel
theorem dX4_overlapsAny_2 : decode cX4_overlapsAny 2 = .ok (.iload_n 3, 1) := by decide +kernel
theorem dX4_overlapsAny_3 : decode cX4_overlapsAny 3 = .ok (.aload_n 2, 1) := by decide +kernel
theorem dX4_overlapsAny_4 : decode cX4_overlapsAny 4 = .ok (.getfield 136, 3) := by decide +kernel
theorem dX4_overlapsAny_7 : decode cX4_overlapsAny 7 = .ok (.if_icmp .ge 42, 3) := by decide +kernel
theorem dX4_overlapsAny_10 : decode cX4_overlapsAny 10 = .ok (.aload_n 0, 1) := by decide +kernel
theorem dX4_overlapsAny_11 : decode cX4_overlapsAny 11 = .ok (.aload_n 2, 1) := by decide +kernel
theorem dX4_overlapsAny_12 : decode cX4_overlapsAny 12 = .ok (.iload_n 3, 1) := by decide +kernel
theorem dX4_overlapsAny_13 : decode cX4_overlapsAny 13 = .ok (.invokevirtual 123, 3) := by decide +kernel
theorem dX4_overlapsAny_16 : decode cX4_overlapsAny 16 = .ok (.invokevirtual 139, 3) := by decide +kernel
theorem dX4_overlapsAny_19 : decode cX4_overlapsAny 19 = .ok (.astore 4, 2) := by decide +kernel
theorem dX4_overlapsAny_21 : decode cX4_overlapsAny 21 = .ok (.aload 4, 2) := by decide +kernel
theorem dX4_overlapsAny_23 : decode cX4_overlapsAny 23 = .ok (.ifnull 20, 3) := by decide +kernel
theorem dX4_overlapsAny_26 : decode cX4_overlapsAny 26 = .ok (.aload 4, 2) := by decide +kernel
theorem dX4_overlapsAny_28 : decode cX4_overlapsAny 28 = .ok (.aload_n 1, 1) := by decide +kernel
theorem dX4_overlapsAny_29 : decode cX4_overlapsAny 29 = .ok (.if_acmp .eq 14, 3) := by decide +kernel
theorem dX4_overlapsAny_32 : decode cX4_overlapsAny 32 = .ok (.aload_n 1, 1) := by decide +kernel
theorem dX4_overlapsAny_33 : decode cX4_overlapsAny 33 = .ok (.aload 4, 2) := by decide +kernel
theorem dX4_overlapsAny_35 : decode cX4_overlapsAny 35 = .ok (.invokevirtual 293, 3) := by decide +kernel
theorem dX4_overlapsAny_38 : decode cX4_overlapsAny 38 = .ok (.ifCond .eq 5, 3) := by decide +kernel
theorem dX4_overlapsAny_41 : decode cX4_overlapsAny 41 = .ok (.iconst 1, 1) := by decide +kernel
theorem dX4_overlapsAny_42 : decode cX4_overlapsAny 42 = .ok (.ireturn, 1) := by decide +kernel
theorem dX4_overlapsAny_43 : decode cX4_overlapsAny 43 = .ok (.iinc 3 1, 3) := by decide +kernel
theorem dX4_overlapsAny_46 : decode cX4_overlapsAny 46 = .ok (.goto (-44), 3) := by decide +kernel
theorem dX4_overlapsAny_49 : decode cX4_overlapsAny 49 = .ok (.iconst 0, 1) := by decide +kernel
theorem dX4_overlapsAny_50 : decode cX4_overlapsAny 50 = .ok (.ireturn, 1) := by decide +kernel
set_option maxRecDepth 20000 in
theorem ggX4_letFall_X0_holdsFor : GoodIn wsX4_letFall wsX0_holdsFor := goodIn_r _ [7, 8, 9, 17, 18, 19] (by decide +kernel) (by decide +kernel)
set_option maxRecDepth 20000 in
theorem gX4_letFall_X0_holdsFor : GoodIn wsX4_letFall (wsV RX4 184 RX0 yX0_holdsFor wsX0_holdsFor) := goodIn_app (goodIn_of _ (by decide +kernel)) ggX4_letFall_X0_holdsFor
theorem dX4_letFall_0 : decode cX4_letFall 0 = .ok (.iconst 0, 1) := by decide +kernel
theorem dX4_letFall_1 : decode cX4_letFall 1 = .ok (.istore_n 2, 1) := by decide +kernel
theorem dX4_letFall_2 : decode cX4_letFall 2 = .ok (.iconst 0, 1) := by decide +kernel
theorem dX4_letFall_3 : decode cX4_letFall 3 = .ok (.istore_n 3, 1) := by decide +kernel
theorem dX4_letFall_4 : decode cX4_letFall 4 = .ok (.iload_n 3, 1) := by decide +kernel
theorem dX4_letFall_5 : decode cX4_letFall 5 = .ok (.aload_n 0, 1) := by decide +kernel
theorem dX4_letFall_6 : decode cX4_letFall 6 = .ok (.getfield 39, 3) := by decide +kernel
theorem dX4_letFall_9 : decode cX4_letFall 9 = .ok (.arraylength, 1) := by decide +kernel
theorem dX4_letFall_10 : decode cX4_letFall 10 = .ok (.if_icmp .ge 40, 3) := by decide +kernel
theorem dX4_letFall_13 : decode cX4_letFall 13 = .ok (.aload_n 0, 1) := by decide +kernel
theorem dX4_letFall_14 : decode cX4_letFall 14 = .ok (.getfield 39, 3) := by decide +kernel
theorem dX4_letFall_17 : decode cX4_letFall 17 = .ok (.iload_n 3, 1) := by decide +kernel
theorem dX4_letFall_18 : decode cX4_letFall 18 = .ok (.aaload, 1) := by decide +kernel
theorem dX4_letFall_19 : decode cX4_letFall 19 = .ok (.astore 4, 2) := by decide +kernel
theorem dX4_letFall_21 : decode cX4_letFall 21 = .ok (.aload 4, 2) := by decide +kernel
theorem dX4_letFall_23 : decode cX4_letFall 23 = .ok (.ifnull 21, 3) := by decide +kernel
theorem dX4_letFall_26 : decode cX4_letFall 26 = .ok (.aload 4, 2) := by decide +kernel
theorem dX4_letFall_28 : decode cX4_letFall 28 = .ok (.iload_n 1, 1) := by decide +kernel
theorem dX4_letFall_29 : decode cX4_letFall 29 = .ok (.invokevirtual 184, 3) := by decide +kernel
theorem dX4_letFall_32 : decode cX4_letFall 32 = .ok (.ifCond .eq 12, 3) := by decide +kernel
theorem dX4_letFall_35 : decode cX4_letFall 35 = .ok (.aload 4, 2) := by decide +kernel
theorem dX4_letFall_37 : decode cX4_letFall 37 = .ok (.iconst 0, 1) := by decide +kernel
theorem dX4_letFall_38 : decode cX4_letFall 38 = .ok (.putfield 181, 3) := by decide +kernel
theorem dX4_letFall_41 : decode cX4_letFall 41 = .ok (.iinc 2 1, 3) := by decide +kernel
theorem dX4_letFall_44 : decode cX4_letFall 44 = .ok (.iinc 3 1, 3) := by decide +kernel
theorem dX4_letFall_47 : decode cX4_letFall 47 = .ok (.goto (-43), 3) := by decide +kernel
theorem dX4_letFall_50 : decode cX4_letFall 50 = .ok (.iload_n 2, 1) := by decide +kernel
theorem dX4_letFall_51 : decode cX4_letFall 51 = .ok (.ireturn, 1) := by decide +kernel
set_option maxRecDepth 20000 in
theorem ggX4_countHolding_X0_holdsFor : GoodIn wsX4_countHolding wsX0_holdsFor := goodIn_r _ [6, 7, 8, 16, 17, 18] (by decide +kernel) (by decide +kernel)
set_option maxRecDepth 20000 in
theorem gX4_countHolding_X0_holdsFor : GoodIn wsX4_countHolding (wsV RX4 184 RX0 yX0_holdsFor wsX0_holdsFor) := goodIn_app (goodIn_of _ (by decide +kernel)) ggX4_countHolding_X0_holdsFor
theorem dX4_countHolding_0 : decode cX4_countHolding 0 = .ok (.iconst 0, 1) := by decide +kernel
theorem dX4_countHolding_1 : decode cX4_countHolding 1 = .ok (.istore_n 2, 1) := by decide +kernel
theorem dX4_countHolding_2 : decode cX4_countHolding 2 = .ok (.iconst 0, 1) := by decide +kernel
theorem dX4_countHolding_3 : decode cX4_countHolding 3 = .ok (.istore_n 3, 1) := by decide +kernel
theorem dX4_countHolding_4 : decode cX4_countHolding 4 = .ok (.iload_n 3, 1) := by decide +kernel
theorem dX4_countHolding_5 : decode cX4_countHolding 5 = .ok (.aload_n 0, 1) := by decide +kernel
theorem dX4_countHolding_6 : decode cX4_countHolding 6 = .ok (.getfield 39, 3) := by decide +kernel
theorem dX4_countHolding_9 : decode cX4_countHolding 9 = .ok (.arraylength, 1) := by decide +kernel
theorem dX4_countHolding_10 : decode cX4_countHolding 10 = .ok (.if_icmp .ge 34, 3) := by decide +kernel
theorem dX4_countHolding_13 : decode cX4_countHolding 13 = .ok (.aload_n 0, 1) := by decide +kernel
theorem dX4_countHolding_14 : decode cX4_countHolding 14 = .ok (.getfield 39, 3) := by decide +kernel
theorem dX4_countHolding_17 : decode cX4_countHolding 17 = .ok (.iload_n 3, 1) := by decide +kernel
theorem dX4_countHolding_18 : decode cX4_countHolding 18 = .ok (.aaload, 1) := by decide +kernel
theorem dX4_countHolding_19 : decode cX4_countHolding 19 = .ok (.astore 4, 2) := by decide +kernel
theorem dX4_countHolding_21 : decode cX4_countHolding 21 = .ok (.aload 4, 2) := by decide +kernel
theorem dX4_countHolding_23 : decode cX4_countHolding 23 = .ok (.ifnull 15, 3) := by decide +kernel
theorem dX4_countHolding_26 : decode cX4_countHolding 26 = .ok (.aload 4, 2) := by decide +kernel
theorem dX4_countHolding_28 : decode cX4_countHolding 28 = .ok (.iload_n 1, 1) := by decide +kernel
theorem dX4_countHolding_29 : decode cX4_countHolding 29 = .ok (.invokevirtual 184, 3) := by decide +kernel
theorem dX4_countHolding_32 : decode cX4_countHolding 32 = .ok (.ifCond .eq 6, 3) := by decide +kernel
theorem dX4_countHolding_35 : decode cX4_countHolding 35 = .ok (.iinc 2 1, 3) := by decide +kernel
theorem dX4_countHolding_38 : decode cX4_countHolding 38 = .ok (.iinc 3 1, 3) := by decide +kernel
theorem dX4_countHolding_41 : decode cX4_countHolding 41 = .ok (.goto (-37), 3) := by decide +kernel
theorem dX4_countHolding_44 : decode cX4_countHolding 44 = .ok (.iload_n 2, 1) := by decide +kernel
theorem dX4_countHolding_45 : decode cX4_countHolding 45 = .ok (.ireturn, 1) := by decide +kernel
end
section
/-! the class: what it asks first -/
def XI (ω : Om) (A B P : FF) (n k : Nat) (R : Nat → (Nat → Int32) × Nat) (M : MM) : Prop :=
  M (A 0 0) = some (.inr (4, [.ref (A 0 1), .int (nI n), .ref (A 0 2), .ref (A 2 5), .ref (A 2 6), .ref (A 0 3), .int (nI k)])) ∧
  M (A 0 1) = some (.inl (ω.2.2 3, 24, .inr (.inr (.inr (.inr (qa n (A 1))))))) ∧
  M (A 0 2) = some (.inl (ω.2.2 4, 5, .inr (.inr (.inr (.inr (qa 5 (A 2))))))) ∧
  M (A 0 3) = some (.inl (ω.2.2 5, 20, .inr (.inr (.inr (.inr (qa k (A 4))))))) ∧
  (∀ i, i < n → M (A 1 i) = some (.inr (1, bxF A B i))) ∧
  (∀ p, p < 7 → M (A 2 p) = some (rdE (if p = 6 then 2 else 3) (A 3 p) (R p).2) ∧ M (A 3 p) = some (rowE ω (R p).1)) ∧
  (∀ i, i < k → M (A 4 i) = some (.inr (0, apF P i)))
section
variable {ω : Om} {A B P : FF} {n k : Nat} {R : Nat → (Nat → Int32) × Nat} {M : MM}
theorem XI.x (h : XI ω A B P n k R M) : M (A 0 0) = some (.inr (4, [.ref (A 0 1), .int (nI n), .ref (A 0 2), .ref (A 2 5), .ref (A 2 6), .ref (A 0 3), .int (nI k)])) := h.1
theorem XI.made (h : XI ω A B P n k R M) : M (A 0 1) = some (.inl (ω.2.2 3, 24, .inr (.inr (.inr (.inr (qa n (A 1))))))) := h.2.1
theorem XI.rds (h : XI ω A B P n k R M) : M (A 0 2) = some (.inl (ω.2.2 4, 5, .inr (.inr (.inr (.inr (qa 5 (A 2))))))) := h.2.2.1
theorem XI.giv (h : XI ω A B P n k R M) : M (A 0 3) = some (.inl (ω.2.2 5, 20, .inr (.inr (.inr (.inr (qa k (A 4))))))) := h.2.2.2.1
theorem XI.box (h : XI ω A B P n k R M) {i : Nat} (hi : i < n) : M (A 1 i) = some (.inr (1, bxF A B i)) := h.2.2.2.2.1 i hi
theorem XI.rd (h : XI ω A B P n k R M) {p : Nat} (hp : p < 6) : M (A 2 p) = some (rdE 3 (A 3 p) (R p).2) := by
  have := (h.2.2.2.2.2.1 p (by omega)).1
  rwa [if_neg (by omega)] at this
theorem XI.row (h : XI ω A B P n k R M) {p : Nat} (hp : p < 7) : M (A 3 p) = some (rowE ω (R p).1) := (h.2.2.2.2.2.1 p hp).2
theorem XI.pile (h : XI ω A B P n k R M) : M (A 2 6) = some (rdE 2 (A 3 6) (R 6).2) := (h.2.2.2.2.2.1 6 (by omega)).1
theorem XI.app (h : XI ω A B P n k R M) {i : Nat} (hi : i < k) : M (A 4 i) = some (.inr (0, apF P i)) := h.2.2.2.2.2.2 i hi
theorem XI.inj (h : XI ω A B P n k R M) (hn : n ≤ 24) {i j : Nat} (hi : i < n) (hj : j < n) (e : A 1 i = A 1 j) : i = j := by
  have h1 := h.box hi
  rw [e, h.box hj] at h1
  have h2 : nI j = nI i := by
    simp [bxF] at h1
    exact h1.1
  exact ((nI_eq (by omega) (by omega)).mp h2).symm
end
def WB (B : FF) (n : Nat) : Prop := n ≤ 24 ∧ (∀ i j, B i j < 128) ∧ (∀ i y, i < n → B i 6 = y + 1 → y < n ∧ B y 7 = i + 1) ∧ (∀ i y, i < n → B i 7 = y + 1 → y < n ∧ B y 6 = i + 1)
def rmX4_madeBox : Room := { frames := 0, cells := 0, slots := 0, locals := 0 }
theorem hd_X4_madeBox : yX4_madeBox.cls = (RX4, TX4, 7).1 ∧ yX4_madeBox.cls ≠ "java/lang/invoke/MethodHandle" ∧ yX4_madeBox.cls ≠ "java/lang/invoke/VarHandle" ∧ (parseMethodDescriptor yX4_madeBox.desc).map (fun d => d.parameters.length) = some 1 := by decide +kernel
theorem fo_X4_madeBox_11 : FO wsX4_madeBox RX4 11 4 0 := ⟨_, _, _, rfl, by decide, by decide +kernel, by decide +kernel⟩
set_option maxHeartbeats 4000000 in
set_option maxRecDepth 100000 in
theorem c_madeBox_in {l : Launch} {ω : Om} {M : MM} {A B P : FF} {n k : Nat} {R : Nat → (Nat → Int32) × Nat} (hX : XI ω A B P n k R M) (hB : WB B n) {j : Nat} (hj : j < n) : Ct l ω yX4_madeBox wsX4_madeBox rmX4_madeBox [.ref (A 0 0), .int (nI j)] M (fun v M9 => v = some (.ref (A 1 j)) ∧ M9 = M) 0 0 := by
  refine Ct.ofV (cc := cX4_madeBox) (maxL := 2) (ret := (some (.object "Readingorder$Box"))) [some (.ref (A 0 0)), some (.int (nI j))] (by decide) rfl (Nat.le_of_ble_eq_true rfl) rfl (Lc.av (av := [.ref (A 0 0), .int (nI j)]) (k := 0) rfl) ?_
  intro σ F hl hr hname
  have F : Fx ω σ cX4_madeBox 2 wsX4_madeBox RX4 rmX4_madeBox := F
  have hn : n ≤ 24 := hB.1
  have hW : ∀ i j, B i j < 128 := hB.2.1
  refine v_iload_n F dX4_madeBox_0 rfl ?_
  refine v_if_lt_n F 22 dX4_madeBox_1 (by decide) (by first | omega | exact Nat.lt_trans (hW _ _) (by decide)) ?_
  refine v_iload_n F dX4_madeBox_4 rfl ?_
  refine v_aload_n F dX4_madeBox_5 rfl rfl ?_
  refine v_get F 4 0 fo_X4_madeBox_11 dX4_madeBox_6 hX.x rfl ?_
  refine v_alen F 3 dX4_madeBox_9 hX.made rfl ?_
  refine v_icmp_ge_n F 22 dX4_madeBox_10 (by decide) (by first | omega | exact Nat.lt_trans (hW _ _) (by decide)) (by first | omega | exact Nat.lt_trans (hW _ _) (by decide)) (fun c10 => ?_) (fun c10 => ?_)
  · exact absurd c10 (by omega)
  · refine v_aload_n F dX4_madeBox_13 rfl rfl ?_
    refine v_get F 4 0 fo_X4_madeBox_11 dX4_madeBox_14 hX.x rfl ?_
    refine v_iload_n F dX4_madeBox_17 rfl ?_
    refine v_aald_n F 3 dX4_madeBox_18 hX.made rfl (by first | omega | exact Nat.lt_trans (hW _ _) (by decide)) (by decide) (fun h18 => ?_) (fun a18 h18 => ?_)
    · exact absurd h18 (by rw [qa_in hj]; exact fun h => nomatch h)
    · refine v_goto F 23 dX4_madeBox_19 (by decide) ?_
      exact v_aret F hr dX4_madeBox_23 rfl (Nat.le_of_ble_eq_true rfl) (Nat.le_of_ble_eq_true rfl) ⟨by rw [qa_in hj] at h18; rw [Option.some.inj h18], rfl⟩
set_option maxHeartbeats 4000000 in
set_option maxRecDepth 100000 in
theorem c_madeBox_out {l : Launch} {ω : Om} {M : MM} {A B P : FF} {n k : Nat} {R : Nat → (Nat → Int32) × Nat} (hX : XI ω A B P n k R M) (hB : WB B n) {y : Int32} (hy : y < 0 ∨ nI n ≤ y) : Ct l ω yX4_madeBox wsX4_madeBox rmX4_madeBox [.ref (A 0 0), .int y] M (fun v M9 => v = some .null ∧ M9 = M) 0 0 := by
  refine Ct.ofV (cc := cX4_madeBox) (maxL := 2) (ret := (some (.object "Readingorder$Box"))) [some (.ref (A 0 0)), some (.int y)] (by decide) rfl (Nat.le_of_ble_eq_true rfl) rfl (Lc.av (av := [.ref (A 0 0), .int y]) (k := 0) rfl) ?_
  intro σ F hl hr hname
  have F : Fx ω σ cX4_madeBox 2 wsX4_madeBox RX4 rmX4_madeBox := F
  have hn : n ≤ 24 := hB.1
  have hW : ∀ i j, B i j < 128 := hB.2.1
  have hc : ¬ y < 0 → ¬ nI 24 ≤ y → ∃ j, y = nI j ∧ j < 24 ∧ ¬ j < n := by
    intro h1 h2
    rcases pk_ix y (n := 24) (by decide) with h | h | ⟨j, h, rfl⟩
    · exact absurd h h1
    · exact absurd h h2
    · refine ⟨j, rfl, h, fun h3 => ?_⟩
      rcases hy with h4 | h4
      · exact h1 h4
      · exact absurd ((nI_leI (by omega) (by omega)).mp h4) (by omega)
  refine v_iload_n F dX4_madeBox_0 rfl ?_
  refine v_if_lt F 22 dX4_madeBox_1 (by decide) (fun c1 => ?_) (fun c1 => ?_)
  · refine v_null F dX4_madeBox_22 ?_
    exact v_aret F hr dX4_madeBox_23 rfl (Nat.le_of_ble_eq_true rfl) (Nat.le_of_ble_eq_true rfl) ⟨rfl, rfl⟩
  · refine v_iload_n F dX4_madeBox_4 rfl ?_
    refine v_aload_n F dX4_madeBox_5 rfl rfl ?_
    refine v_get F 4 0 fo_X4_madeBox_11 dX4_madeBox_6 hX.x rfl ?_
    refine v_alen F 3 dX4_madeBox_9 hX.made rfl ?_
    refine v_icmp_ge F 22 dX4_madeBox_10 (by decide) (fun c10 => ?_) (fun c10 => ?_)
    · refine v_null F dX4_madeBox_22 ?_
      exact v_aret F hr dX4_madeBox_23 rfl (Nat.le_of_ble_eq_true rfl) (Nat.le_of_ble_eq_true rfl) ⟨rfl, rfl⟩
    · refine v_aload_n F dX4_madeBox_13 rfl rfl ?_
      refine v_get F 4 0 fo_X4_madeBox_11 dX4_madeBox_14 hX.x rfl ?_
      refine v_iload_n F dX4_madeBox_17 rfl ?_
      obtain ⟨j, rfl, hj, hjn⟩ := hc c1 c10
      refine v_aald_n F 3 dX4_madeBox_18 hX.made rfl (by first | omega | exact Nat.lt_trans (hW _ _) (by decide)) (by decide) (fun h18 => ?_) (fun a18 h18 => ?_)
      · refine v_goto F 23 dX4_madeBox_19 (by decide) ?_
        exact v_aret F hr dX4_madeBox_23 rfl (Nat.le_of_ble_eq_true rfl) (Nat.le_of_ble_eq_true rfl) ⟨rfl, rfl⟩
      · exact absurd h18 (by rw [qa_out hjn]; exact fun h => nomatch h)
def rmX4_boxOfSet : Room := { frames := 0, cells := 0, slots := 0, locals := 0 }
theorem hd_X4_boxOfSet : yX4_boxOfSet.cls = (RX4, TX4, 7).1 ∧ yX4_boxOfSet.cls ≠ "java/lang/invoke/MethodHandle" ∧ yX4_boxOfSet.cls ≠ "java/lang/invoke/VarHandle" ∧ (parseMethodDescriptor yX4_boxOfSet.desc).map (fun d => d.parameters.length) = some 2 := by decide +kernel
theorem fo_X4_boxOfSet_11 : FO wsX4_boxOfSet RX4 11 4 0 := ⟨_, _, _, rfl, by decide, by decide +kernel, by decide +kernel⟩
set_option maxHeartbeats 4000000 in
set_option maxRecDepth 100000 in
theorem c_boxOfSet_in {l : Launch} {ω : Om} {M : MM} {A B P : FF} {n k : Nat} {R : Nat → (Nat → Int32) × Nat} (hX : XI ω A B P n k R M) (hB : WB B n) {s j : Nat} (hs : s < 2 ^ 24) (hj : j < n) (hb : s.testBit j = true) : Ct l ω yX4_boxOfSet wsX4_boxOfSet rmX4_boxOfSet [.ref (A 0 0), .int (nI s), .int (nI j)] M (fun v M9 => v = some (.ref (A 1 j)) ∧ M9 = M) 0 0 := by
  refine Ct.ofV (cc := cX4_boxOfSet) (maxL := 4) (ret := (some (.object "Readingorder$Box"))) [some (.ref (A 0 0)), some (.int (nI s)), some (.int (nI j)), none] (by decide) rfl (Nat.le_of_ble_eq_true rfl) rfl (Lc.av (av := [.ref (A 0 0), .int (nI s), .int (nI j)]) (k := 1) rfl) ?_
  intro σ F hl hr hname
  have F : Fx ω σ cX4_boxOfSet 4 wsX4_boxOfSet RX4 rmX4_boxOfSet := F
  have hn : n ≤ 24 := hB.1
  have hW : ∀ i j, B i j < 128 := hB.2.1
  refine v_iload_n F dX4_boxOfSet_0 rfl ?_
  refine v_if_lt_n F 25 dX4_boxOfSet_1 (by decide) (by first | omega | exact Nat.lt_trans (hW _ _) (by decide)) ?_
  refine v_iload_n F dX4_boxOfSet_4 rfl ?_
  refine v_aload_n F dX4_boxOfSet_5 rfl rfl ?_
  refine v_get F 4 0 fo_X4_boxOfSet_11 dX4_boxOfSet_6 hX.x rfl ?_
  refine v_alen F 3 dX4_boxOfSet_9 hX.made rfl ?_
  refine v_icmp_ge_n F 25 dX4_boxOfSet_10 (by decide) (by first | omega | exact Nat.lt_trans (hW _ _) (by decide)) (by first | omega | exact Nat.lt_trans (hW _ _) (by decide)) (fun c10 => ?_) (fun c10 => ?_)
  · exact absurd c10 (by omega)
  · refine v_iload_n F dX4_boxOfSet_13 rfl ?_
    refine v_iload_n F dX4_boxOfSet_14 rfl ?_
    refine v_ishr_n F dX4_boxOfSet_15 (by first | omega | exact Nat.lt_trans (hW _ _) (by decide)) (by first | omega | exact Nat.lt_trans (hW _ _) (by decide)) ?_
    refine v_iconst (v := nI 1) F dX4_boxOfSet_16 (by decide) ?_
    refine v_iand_n F dX4_boxOfSet_17 ?_
    refine V.toI (show nI (s / 2 ^ j &&& 1) = nI (if s.testBit j then 1 else 0) by rw [tb_div]) ?_
    simp only [hb, ↓reduceIte, Bool.false_eq_true]
    refine v_if_eq_n F 25 dX4_boxOfSet_18 (by decide) (by first | omega | exact Nat.lt_trans (hW _ _) (by decide)) (fun c18 => ?_) (fun c18 => ?_)
    · exact absurd c18 (by simp)
    · refine v_iconst (v := nI 1) F dX4_boxOfSet_21 (by decide) ?_
      refine v_goto F 26 dX4_boxOfSet_22 (by decide) ?_
      refine v_istore_n F dX4_boxOfSet_26 (Nat.le_of_ble_eq_true rfl) (ok2_d rfl) ?_
      refine v_iload_n F dX4_boxOfSet_27 rfl ?_
      refine v_if_eq_n F 40 dX4_boxOfSet_28 (by decide) (by first | omega | exact Nat.lt_trans (hW _ _) (by decide)) (fun c28 => ?_) (fun c28 => ?_)
      · exact absurd c28 (by decide)
      · refine v_aload_n F dX4_boxOfSet_31 rfl rfl ?_
        refine v_get F 4 0 fo_X4_boxOfSet_11 dX4_boxOfSet_32 hX.x rfl ?_
        refine v_iload_n F dX4_boxOfSet_35 rfl ?_
        refine v_aald_n F 3 dX4_boxOfSet_36 hX.made rfl (by first | omega | exact Nat.lt_trans (hW _ _) (by decide)) (by decide) (fun h36 => ?_) (fun a36 h36 => ?_)
        · exact absurd h36 (by rw [qa_in hj]; exact fun h => nomatch h)
        · refine v_goto F 41 dX4_boxOfSet_37 (by decide) ?_
          exact v_aret F hr dX4_boxOfSet_41 rfl (Nat.le_of_ble_eq_true rfl) (Nat.le_of_ble_eq_true rfl) ⟨by rw [qa_in hj] at h36; rw [Option.some.inj h36], rfl⟩
set_option maxHeartbeats 4000000 in
set_option maxRecDepth 100000 in
theorem c_boxOfSet_out {l : Launch} {ω : Om} {M : MM} {A B P : FF} {n k : Nat} {R : Nat → (Nat → Int32) × Nat} (hX : XI ω A B P n k R M) (hB : WB B n) {s j : Nat} (hs : s < 2 ^ 24) (hj : j < n) (hb : s.testBit j = false) : Ct l ω yX4_boxOfSet wsX4_boxOfSet rmX4_boxOfSet [.ref (A 0 0), .int (nI s), .int (nI j)] M (fun v M9 => v = some .null ∧ M9 = M) 0 0 := by
  refine Ct.ofV (cc := cX4_boxOfSet) (maxL := 4) (ret := (some (.object "Readingorder$Box"))) [some (.ref (A 0 0)), some (.int (nI s)), some (.int (nI j)), none] (by decide) rfl (Nat.le_of_ble_eq_true rfl) rfl (Lc.av (av := [.ref (A 0 0), .int (nI s), .int (nI j)]) (k := 1) rfl) ?_
  intro σ F hl hr hname
  have F : Fx ω σ cX4_boxOfSet 4 wsX4_boxOfSet RX4 rmX4_boxOfSet := F
  have hn : n ≤ 24 := hB.1
  have hW : ∀ i j, B i j < 128 := hB.2.1
  refine v_iload_n F dX4_boxOfSet_0 rfl ?_
  refine v_if_lt_n F 25 dX4_boxOfSet_1 (by decide) (by first | omega | exact Nat.lt_trans (hW _ _) (by decide)) ?_
  refine v_iload_n F dX4_boxOfSet_4 rfl ?_
  refine v_aload_n F dX4_boxOfSet_5 rfl rfl ?_
  refine v_get F 4 0 fo_X4_boxOfSet_11 dX4_boxOfSet_6 hX.x rfl ?_
  refine v_alen F 3 dX4_boxOfSet_9 hX.made rfl ?_
  refine v_icmp_ge_n F 25 dX4_boxOfSet_10 (by decide) (by first | omega | exact Nat.lt_trans (hW _ _) (by decide)) (by first | omega | exact Nat.lt_trans (hW _ _) (by decide)) (fun c10 => ?_) (fun c10 => ?_)
  · exact absurd c10 (by omega)
  · refine v_iload_n F dX4_boxOfSet_13 rfl ?_
    refine v_iload_n F dX4_boxOfSet_14 rfl ?_
    refine v_ishr_n F dX4_boxOfSet_15 (by first | omega | exact Nat.lt_trans (hW _ _) (by decide)) (by first | omega | exact Nat.lt_trans (hW _ _) (by decide)) ?_
    refine v_iconst (v := nI 1) F dX4_boxOfSet_16 (by decide) ?_
    refine v_iand_n F dX4_boxOfSet_17 ?_
    refine V.toI (show nI (s / 2 ^ j &&& 1) = nI (if s.testBit j then 1 else 0) by rw [tb_div]) ?_
    simp only [hb, ↓reduceIte, Bool.false_eq_true]
    refine v_if_eq_n F 25 dX4_boxOfSet_18 (by decide) (by first | omega | exact Nat.lt_trans (hW _ _) (by decide)) (fun c18 => ?_) (fun c18 => ?_)
    · refine v_iconst (v := nI 0) F dX4_boxOfSet_25 (by decide) ?_
      refine v_istore_n F dX4_boxOfSet_26 (Nat.le_of_ble_eq_true rfl) (ok2_d rfl) ?_
      refine v_iload_n F dX4_boxOfSet_27 rfl ?_
      refine v_if_eq_n F 40 dX4_boxOfSet_28 (by decide) (by first | omega | exact Nat.lt_trans (hW _ _) (by decide)) (fun c28 => ?_) (fun c28 => ?_)
      · refine v_null F dX4_boxOfSet_40 ?_
        exact v_aret F hr dX4_boxOfSet_41 rfl (Nat.le_of_ble_eq_true rfl) (Nat.le_of_ble_eq_true rfl) ⟨rfl, rfl⟩
      · exact absurd rfl c28
    · exact absurd rfl c18
def rmX4_presentBox : Room := { frames := 6, cells := 1, slots := 6, locals := 90 }
theorem hd_X4_presentBox : yX4_presentBox.cls = (RX4, TX4, 7).1 ∧ yX4_presentBox.cls ≠ "java/lang/invoke/MethodHandle" ∧ yX4_presentBox.cls ≠ "java/lang/invoke/VarHandle" ∧ (parseMethodDescriptor yX4_presentBox.desc).map (fun d => d.parameters.length) = some 1 := by decide +kernel
theorem fo_X4_presentBox_98 : FO wsX4_presentBox RX4 98 1 7 := ⟨_, _, _, rfl, by decide, by decide +kernel, by decide +kernel⟩
set_option maxHeartbeats 4000000 in
set_option maxRecDepth 100000 in
theorem c_presentBox_ok {l : Launch} {ω : Om} {M : MM} (hl9 : l.stackTraces = false) {A B P : FF} {n k : Nat} {R : Nat → (Nat → Int32) × Nat} (hX : XI ω A B P n k R M) (hB : WB B n) {j : Nat} (hj : j < n) (hg : B j 8 = 0) : CtX l ω yX4_presentBox wsX4_presentBox rmX4_presentBox [.ref (A 0 0), .int (nI j)] M (fun v M9 => v = some (.ref (A 1 j)) ∧ M9 = M) (fun E => False) 1 6 := by
  refine CtX.ofV (cc := cX4_presentBox) (maxL := 3) (ret := (some (.object "Readingorder$Box"))) [some (.ref (A 0 0)), some (.int (nI j)), none] (by decide) rfl (Nat.le_of_ble_eq_true rfl) rfl (Lc.av (av := [.ref (A 0 0), .int (nI j)]) (k := 1) rfl) ?_
  intro σ F hl hr hnx
  have hl : σ.2.1.stackTraces = false := by rw [hl]; exact hl9
  have F : Fx ω σ cX4_presentBox 3 wsX4_presentBox RX4 rmX4_presentBox := F
  have hn : n ≤ 24 := hB.1
  have hW : ∀ i j, B i j < 128 := hB.2.1
  refine v_aload_n F dX4_presentBox_0 rfl rfl ?_
  refine v_iload_n F dX4_presentBox_1 rfl ?_
  refine v_callV F 1 [_] rfl rfl rfl (c_madeBox_in hX hB hj) gX4_presentBox_X4_madeBox rfl hd_X4_madeBox ⟨⟨rfl, rfl⟩, ⟨(Nat.le_of_ble_eq_true rfl), (Nat.le_of_ble_eq_true rfl)⟩, ⟨(Nat.le_of_ble_eq_true rfl), (Nat.le_of_ble_eq_true rfl)⟩, (Nat.le_of_ble_eq_true rfl)⟩ hX.x rfl dX4_presentBox_2 (fun v2 M2 q2 => ?_)
  obtain ⟨rfl, rfl⟩ := q2
  refine v_astore_n F dX4_presentBox_5 rfl (Nat.le_of_ble_eq_true rfl) (ok2_d rfl) ?_
  refine v_aload_n F dX4_presentBox_6 rfl rfl ?_
  refine v_ifnull_r F dX4_presentBox_7 ?_
  refine v_aload_n F dX4_presentBox_10 rfl rfl ?_
  refine v_get F 1 7 fo_X4_presentBox_98 dX4_presentBox_11 (hX.box hj) rfl ?_
  refine v_if_eq_n F 27 dX4_presentBox_14 (by decide) (by first | omega | exact Nat.lt_trans (hW _ _) (by decide)) (fun c14 => ?_) (fun c14 => ?_)
  · refine v_aload_n F dX4_presentBox_27 rfl rfl ?_
    exact v_x (v_aret F hr dX4_presentBox_28 rfl (Nat.le_of_ble_eq_true rfl) (Nat.le_of_ble_eq_true rfl) ⟨rfl, rfl⟩)
  · exact absurd hg c14
theorem hat_X4_presentBox_146 : ∀ w ∈ (vx_atS RX4 146 "java/lang/IndexOutOfBoundsException" nmE).filter goodWord, w ∈ wsX4_presentBox := by decide +kernel
set_option maxHeartbeats 4000000 in
set_option maxRecDepth 100000 in
theorem c_presentBox_gone {l : Launch} {ω : Om} {M : MM} (hl9 : l.stackTraces = false) {A B P : FF} {n k : Nat} {R : Nat → (Nat → Int32) × Nat} (hX : XI ω A B P n k R M) (hB : WB B n) {j : Nat} (hj : j < n) (hg : B j 8 ≠ 0) : CtX l ω yX4_presentBox wsX4_presentBox rmX4_presentBox [.ref (A 0 0), .int (nI j)] M (fun v M9 => False) (fun E => E = "java/lang/IndexOutOfBoundsException") 1 6 := by
  refine CtX.ofV (cc := cX4_presentBox) (maxL := 3) (ret := (some (.object "Readingorder$Box"))) [some (.ref (A 0 0)), some (.int (nI j)), none] (by decide) rfl (Nat.le_of_ble_eq_true rfl) rfl (Lc.av (av := [.ref (A 0 0), .int (nI j)]) (k := 1) rfl) ?_
  intro σ F hl hr hnx
  have hl : σ.2.1.stackTraces = false := by rw [hl]; exact hl9
  have F : Fx ω σ cX4_presentBox 3 wsX4_presentBox RX4 rmX4_presentBox := F
  have hn : n ≤ 24 := hB.1
  have hW : ∀ i j, B i j < 128 := hB.2.1
  refine v_aload_n F dX4_presentBox_0 rfl rfl ?_
  refine v_iload_n F dX4_presentBox_1 rfl ?_
  refine v_callV F 1 [_] rfl rfl rfl (c_madeBox_in hX hB hj) gX4_presentBox_X4_madeBox rfl hd_X4_madeBox ⟨⟨rfl, rfl⟩, ⟨(Nat.le_of_ble_eq_true rfl), (Nat.le_of_ble_eq_true rfl)⟩, ⟨(Nat.le_of_ble_eq_true rfl), (Nat.le_of_ble_eq_true rfl)⟩, (Nat.le_of_ble_eq_true rfl)⟩ hX.x rfl dX4_presentBox_2 (fun v2 M2 q2 => ?_)
  obtain ⟨rfl, rfl⟩ := q2
  refine v_astore_n F dX4_presentBox_5 rfl (Nat.le_of_ble_eq_true rfl) (ok2_d rfl) ?_
  refine v_aload_n F dX4_presentBox_6 rfl rfl ?_
  refine v_ifnull_r F dX4_presentBox_7 ?_
  refine v_aload_n F dX4_presentBox_10 rfl rfl ?_
  refine v_get F 1 7 fo_X4_presentBox_98 dX4_presentBox_11 (hX.box hj) rfl ?_
  refine v_if_eq_n F 27 dX4_presentBox_14 (by decide) (by first | omega | exact Nat.lt_trans (hW _ _) (by decide)) (fun c14 => ?_) (fun c14 => ?_)
  · exact absurd c14 hg
  · exact v_throw (cls := "java/lang/IndexOutOfBoundsException") (text := "there is no such box, or it is gone") F hl rfl hnx (by decide +kernel) (by decide +kernel) (by decide +kernel) (by decide +kernel) hat_X4_presentBox_146 hnw_146 hgd_142_146 dX4_presentBox_17 dX4_presentBox_20 dX4_presentBox_21 dX4_presentBox_23 dX4_presentBox_26 ⟨(Nat.le_of_ble_eq_true rfl), (Nat.le_of_ble_eq_true rfl), (Nat.le_of_ble_eq_true rfl), (Nat.le_of_ble_eq_true rfl)⟩ (Nat.le_of_ble_eq_true rfl) (Nat.le_of_ble_eq_true rfl) rfl
set_option maxHeartbeats 4000000 in
set_option maxRecDepth 100000 in
theorem c_presentBox_out {l : Launch} {ω : Om} {M : MM} (hl9 : l.stackTraces = false) {A B P : FF} {n k : Nat} {R : Nat → (Nat → Int32) × Nat} (hX : XI ω A B P n k R M) (hB : WB B n) {y : Int32} (hy : y < 0 ∨ nI n ≤ y) : CtX l ω yX4_presentBox wsX4_presentBox rmX4_presentBox [.ref (A 0 0), .int y] M (fun v M9 => False) (fun E => E = "java/lang/IndexOutOfBoundsException") 1 6 := by
  refine CtX.ofV (cc := cX4_presentBox) (maxL := 3) (ret := (some (.object "Readingorder$Box"))) [some (.ref (A 0 0)), some (.int y), none] (by decide) rfl (Nat.le_of_ble_eq_true rfl) rfl (Lc.av (av := [.ref (A 0 0), .int y]) (k := 1) rfl) ?_
  intro σ F hl hr hnx
  have hl : σ.2.1.stackTraces = false := by rw [hl]; exact hl9
  have F : Fx ω σ cX4_presentBox 3 wsX4_presentBox RX4 rmX4_presentBox := F
  have hn : n ≤ 24 := hB.1
  have hW : ∀ i j, B i j < 128 := hB.2.1
  refine v_aload_n F dX4_presentBox_0 rfl rfl ?_
  refine v_iload_n F dX4_presentBox_1 rfl ?_
  refine v_callV F 1 [_] rfl rfl rfl (c_madeBox_out hX hB hy) gX4_presentBox_X4_madeBox rfl hd_X4_madeBox ⟨⟨rfl, rfl⟩, ⟨(Nat.le_of_ble_eq_true rfl), (Nat.le_of_ble_eq_true rfl)⟩, ⟨(Nat.le_of_ble_eq_true rfl), (Nat.le_of_ble_eq_true rfl)⟩, (Nat.le_of_ble_eq_true rfl)⟩ hX.x rfl dX4_presentBox_2 (fun v2 M2 q2 => ?_)
  obtain ⟨rfl, rfl⟩ := q2
  refine v_astore_n F dX4_presentBox_5 rfl (Nat.le_of_ble_eq_true rfl) (ok2_d rfl) ?_
  refine v_aload_n F dX4_presentBox_6 rfl rfl ?_
  refine v_ifnull_n F 17 dX4_presentBox_7 (by decide) ?_
  exact v_throw (cls := "java/lang/IndexOutOfBoundsException") (text := "there is no such box, or it is gone") F hl rfl hnx (by decide +kernel) (by decide +kernel) (by decide +kernel) (by decide +kernel) hat_X4_presentBox_146 hnw_146 hgd_142_146 dX4_presentBox_17 dX4_presentBox_20 dX4_presentBox_21 dX4_presentBox_23 dX4_presentBox_26 ⟨(Nat.le_of_ble_eq_true rfl), (Nat.le_of_ble_eq_true rfl), (Nat.le_of_ble_eq_true rfl), (Nat.le_of_ble_eq_true rfl)⟩ (Nat.le_of_ble_eq_true rfl) (Nat.le_of_ble_eq_true rfl) rfl
def rmX4_readingOf : Room := { frames := 6, cells := 1, slots := 6, locals := 90 }
theorem hd_X4_readingOf : yX4_readingOf.cls = (RX4, TX4, 7).1 ∧ yX4_readingOf.cls ≠ "java/lang/invoke/MethodHandle" ∧ yX4_readingOf.cls ≠ "java/lang/invoke/VarHandle" ∧ (parseMethodDescriptor yX4_readingOf.desc).map (fun d => d.parameters.length) = some 1 := by decide +kernel
theorem fo_X4_readingOf_21 : FO wsX4_readingOf RX4 21 4 2 := ⟨_, _, _, rfl, by decide, by decide +kernel, by decide +kernel⟩
set_option maxHeartbeats 4000000 in
set_option maxRecDepth 100000 in
theorem c_readingOf_ok {l : Launch} {ω : Om} {M : MM} (hl9 : l.stackTraces = false) {A B P : FF} {n k : Nat} {R : Nat → (Nat → Int32) × Nat} (hX : XI ω A B P n k R M) (hB : WB B n) {p : Nat} (hp : p < 5) : CtX l ω yX4_readingOf wsX4_readingOf rmX4_readingOf [.ref (A 0 0), .int (nI p)] M (fun v M9 => v = some (.ref (A 2 p)) ∧ M9 = M) (fun E => False) 1 6 := by
  refine CtX.ofV (cc := cX4_readingOf) (maxL := 3) (ret := (some (.object "Readingorder$Reading"))) [some (.ref (A 0 0)), some (.int (nI p)), none] (by decide) rfl (Nat.le_of_ble_eq_true rfl) rfl (Lc.av (av := [.ref (A 0 0), .int (nI p)]) (k := 1) rfl) ?_
  intro σ F hl hr hnx
  have hl : σ.2.1.stackTraces = false := by rw [hl]; exact hl9
  have F : Fx ω σ cX4_readingOf 3 wsX4_readingOf RX4 rmX4_readingOf := F
  have hn : n ≤ 24 := hB.1
  have hW : ∀ i j, B i j < 128 := hB.2.1
  refine v_iload_n F dX4_readingOf_0 rfl ?_
  refine v_if_lt_n F 22 dX4_readingOf_1 (by decide) (by first | omega | exact Nat.lt_trans (hW _ _) (by decide)) ?_
  refine v_iload_n F dX4_readingOf_4 rfl ?_
  refine v_aload_n F dX4_readingOf_5 rfl rfl ?_
  refine v_get F 4 2 fo_X4_readingOf_21 dX4_readingOf_6 hX.x rfl ?_
  refine v_alen F 4 dX4_readingOf_9 hX.rds rfl ?_
  refine v_icmp_ge_n F 22 dX4_readingOf_10 (by decide) (by first | omega | exact Nat.lt_trans (hW _ _) (by decide)) (by first | omega | exact Nat.lt_trans (hW _ _) (by decide)) (fun c10 => ?_) (fun c10 => ?_)
  · exact absurd c10 (by omega)
  · refine v_aload_n F dX4_readingOf_13 rfl rfl ?_
    refine v_get F 4 2 fo_X4_readingOf_21 dX4_readingOf_14 hX.x rfl ?_
    refine v_iload_n F dX4_readingOf_17 rfl ?_
    refine v_aald_n F 4 dX4_readingOf_18 hX.rds rfl (by first | omega | exact Nat.lt_trans (hW _ _) (by decide)) (by decide) (fun h18 => ?_) (fun a18 h18 => ?_)
    · exact absurd h18 (by rw [qa_in hp]; exact fun h => nomatch h)
    · refine v_goto F 23 dX4_readingOf_19 (by decide) ?_
      refine v_astore_n F dX4_readingOf_23 rfl (Nat.le_of_ble_eq_true rfl) (ok2_d rfl) ?_
      refine v_aload_n F dX4_readingOf_24 rfl rfl ?_
      refine v_ifnonnull_r F 38 dX4_readingOf_25 (by decide) ?_
      refine v_aload_n F dX4_readingOf_38 rfl rfl ?_
      exact v_x (v_aret F hr dX4_readingOf_39 rfl (Nat.le_of_ble_eq_true rfl) (Nat.le_of_ble_eq_true rfl) ⟨by rw [qa_in hp] at h18; rw [Option.some.inj h18], rfl⟩)
theorem hat_X4_readingOf_146 : ∀ w ∈ (vx_atS RX4 146 "java/lang/IndexOutOfBoundsException" nmE).filter goodWord, w ∈ wsX4_readingOf := by decide +kernel
set_option maxHeartbeats 4000000 in
set_option maxRecDepth 100000 in
theorem c_readingOf_out {l : Launch} {ω : Om} {M : MM} (hl9 : l.stackTraces = false) {A B P : FF} {n k : Nat} {R : Nat → (Nat → Int32) × Nat} (hX : XI ω A B P n k R M) (hB : WB B n) {y : Int32} (hy : y < 0 ∨ nI 5 ≤ y) : CtX l ω yX4_readingOf wsX4_readingOf rmX4_readingOf [.ref (A 0 0), .int y] M (fun v M9 => False) (fun E => E = "java/lang/IndexOutOfBoundsException") 1 6 := by
  refine CtX.ofV (cc := cX4_readingOf) (maxL := 3) (ret := (some (.object "Readingorder$Reading"))) [some (.ref (A 0 0)), some (.int y), none] (by decide) rfl (Nat.le_of_ble_eq_true rfl) rfl (Lc.av (av := [.ref (A 0 0), .int y]) (k := 1) rfl) ?_
  intro σ F hl hr hnx
  have hl : σ.2.1.stackTraces = false := by rw [hl]; exact hl9
  have F : Fx ω σ cX4_readingOf 3 wsX4_readingOf RX4 rmX4_readingOf := F
  have hn : n ≤ 24 := hB.1
  have hW : ∀ i j, B i j < 128 := hB.2.1
  refine v_iload_n F dX4_readingOf_0 rfl ?_
  refine v_if_lt F 22 dX4_readingOf_1 (by decide) (fun c1 => ?_) (fun c1 => ?_)
  · refine v_null F dX4_readingOf_22 ?_
    refine v_astore_n F dX4_readingOf_23 rfl (Nat.le_of_ble_eq_true rfl) (ok2_d rfl) ?_
    refine v_aload_n F dX4_readingOf_24 rfl rfl ?_
    refine v_ifnonnull_n F dX4_readingOf_25 ?_
    exact v_throw (cls := "java/lang/IndexOutOfBoundsException") (text := "there is no such page") F hl rfl hnx (by decide +kernel) (by decide +kernel) (by decide +kernel) (by decide +kernel) hat_X4_readingOf_146 hnw_146 hgd_142_146 dX4_readingOf_28 dX4_readingOf_31 dX4_readingOf_32 dX4_readingOf_34 dX4_readingOf_37 ⟨(Nat.le_of_ble_eq_true rfl), (Nat.le_of_ble_eq_true rfl), (Nat.le_of_ble_eq_true rfl), (Nat.le_of_ble_eq_true rfl)⟩ (Nat.le_of_ble_eq_true rfl) (Nat.le_of_ble_eq_true rfl) rfl
  · refine v_iload_n F dX4_readingOf_4 rfl ?_
    refine v_aload_n F dX4_readingOf_5 rfl rfl ?_
    refine v_get F 4 2 fo_X4_readingOf_21 dX4_readingOf_6 hX.x rfl ?_
    refine v_alen F 4 dX4_readingOf_9 hX.rds rfl ?_
    refine v_icmp_ge F 22 dX4_readingOf_10 (by decide) (fun c10 => ?_) (fun c10 => ?_)
    · refine v_null F dX4_readingOf_22 ?_
      refine v_astore_n F dX4_readingOf_23 rfl (Nat.le_of_ble_eq_true rfl) (ok2_d rfl) ?_
      refine v_aload_n F dX4_readingOf_24 rfl rfl ?_
      refine v_ifnonnull_n F dX4_readingOf_25 ?_
      exact v_throw (cls := "java/lang/IndexOutOfBoundsException") (text := "there is no such page") F hl rfl hnx (by decide +kernel) (by decide +kernel) (by decide +kernel) (by decide +kernel) hat_X4_readingOf_146 hnw_146 hgd_142_146 dX4_readingOf_28 dX4_readingOf_31 dX4_readingOf_32 dX4_readingOf_34 dX4_readingOf_37 ⟨(Nat.le_of_ble_eq_true rfl), (Nat.le_of_ble_eq_true rfl), (Nat.le_of_ble_eq_true rfl), (Nat.le_of_ble_eq_true rfl)⟩ (Nat.le_of_ble_eq_true rfl) (Nat.le_of_ble_eq_true rfl) rfl
    · exact absurd hy (by rintro (h | h); exact c1 h; exact c10 h)
def rmX4_checkPlace : Room := { frames := 6, cells := 1, slots := 6, locals := 90 }
theorem hd_X4_checkPlace : yX4_checkPlace.cls ≠ "java/lang/invoke/MethodHandle" ∧ yX4_checkPlace.cls ≠ "java/lang/invoke/VarHandle" ∧ (parseMethodDescriptor yX4_checkPlace.desc).map (fun d => d.parameters.length) = some 1 := by decide +kernel
set_option maxHeartbeats 4000000 in
set_option maxRecDepth 100000 in
theorem c_checkPlace_ok {l : Launch} {ω : Om} {M : MM} (hl9 : l.stackTraces = false) {y : Int32} (hy : 0 ≤ y) : CtX l ω yX4_checkPlace wsX4_checkPlace rmX4_checkPlace [.int y] M (fun v M9 => v = none ∧ M9 = M) (fun E => False) 1 6 := by
  refine CtX.ofV (cc := cX4_checkPlace) (maxL := 1) (ret := none) [some (.int y)] (by decide) rfl (Nat.le_of_ble_eq_true rfl) rfl (Lc.av (av := [.int y]) (k := 0) rfl) ?_
  intro σ F hl hr hnx
  have hl : σ.2.1.stackTraces = false := by rw [hl]; exact hl9
  have F : Fx ω σ cX4_checkPlace 1 wsX4_checkPlace RX4 rmX4_checkPlace := F
  refine v_iload_n F dX4_checkPlace_0 rfl ?_
  refine v_if_ge F 14 dX4_checkPlace_1 (by decide) (fun c1 => ?_) (fun c1 => ?_)
  · exact v_x (v_vret F hr dX4_checkPlace_14 (Nat.le_of_ble_eq_true rfl) (Nat.le_of_ble_eq_true rfl) ⟨rfl, rfl⟩)
  · exact absurd hy c1
theorem hat_X4_checkPlace_146 : ∀ w ∈ (vx_atS RX4 146 "java/lang/IndexOutOfBoundsException" nmE).filter goodWord, w ∈ wsX4_checkPlace := by decide +kernel
set_option maxHeartbeats 4000000 in
set_option maxRecDepth 100000 in
theorem c_checkPlace_bad {l : Launch} {ω : Om} {M : MM} (hl9 : l.stackTraces = false) {y : Int32} (hy : ¬ 0 ≤ y) : CtX l ω yX4_checkPlace wsX4_checkPlace rmX4_checkPlace [.int y] M (fun v M9 => False) (fun E => E = "java/lang/IndexOutOfBoundsException") 1 6 := by
  refine CtX.ofV (cc := cX4_checkPlace) (maxL := 1) (ret := none) [some (.int y)] (by decide) rfl (Nat.le_of_ble_eq_true rfl) rfl (Lc.av (av := [.int y]) (k := 0) rfl) ?_
  intro σ F hl hr hnx
  have hl : σ.2.1.stackTraces = false := by rw [hl]; exact hl9
  have F : Fx ω σ cX4_checkPlace 1 wsX4_checkPlace RX4 rmX4_checkPlace := F
  refine v_iload_n F dX4_checkPlace_0 rfl ?_
  refine v_if_ge F 14 dX4_checkPlace_1 (by decide) (fun c1 => ?_) (fun c1 => ?_)
  · exact absurd c1 hy
  · exact v_throw (cls := "java/lang/IndexOutOfBoundsException") (text := "there is no such place") F hl rfl hnx (by decide +kernel) (by decide +kernel) (by decide +kernel) (by decide +kernel) hat_X4_checkPlace_146 hnw_146 hgd_142_146 dX4_checkPlace_4 dX4_checkPlace_7 dX4_checkPlace_8 dX4_checkPlace_10 dX4_checkPlace_13 ⟨(Nat.le_of_ble_eq_true rfl), (Nat.le_of_ble_eq_true rfl), (Nat.le_of_ble_eq_true rfl), (Nat.le_of_ble_eq_true rfl)⟩ (Nat.le_of_ble_eq_true rfl) (Nat.le_of_ble_eq_true rfl) rfl
def rmX4_checkWithinPage : Room := { frames := 6, cells := 1, slots := 6, locals := 90 }
theorem hd_X4_checkWithinPage : yX4_checkWithinPage.cls ≠ "java/lang/invoke/MethodHandle" ∧ yX4_checkWithinPage.cls ≠ "java/lang/invoke/VarHandle" ∧ (parseMethodDescriptor yX4_checkWithinPage.desc).map (fun d => d.parameters.length) = some 4 := by decide +kernel
set_option maxHeartbeats 4000000 in
set_option maxRecDepth 100000 in
theorem c_checkWithinPage_ok {l : Launch} {ω : Om} {M : MM} (hl9 : l.stackTraces = false) {x y w h : Nat} (h1 : 1 ≤ w) (h2 : 1 ≤ h) (h3 : x + w ≤ 60) (h4 : y + h ≤ 80) : CtX l ω yX4_checkWithinPage wsX4_checkWithinPage rmX4_checkWithinPage [.int (nI x), .int (nI y), .int (nI w), .int (nI h)] M (fun v M9 => v = none ∧ M9 = M) (fun E => False) 1 6 := by
  refine CtX.ofV (cc := cX4_checkWithinPage) (maxL := 4) (ret := none) [some (.int (nI x)), some (.int (nI y)), some (.int (nI w)), some (.int (nI h))] (by decide) rfl (Nat.le_of_ble_eq_true rfl) rfl (Lc.av (av := [.int (nI x), .int (nI y), .int (nI w), .int (nI h)]) (k := 0) rfl) ?_
  intro σ F hl hr hnx
  have hl : σ.2.1.stackTraces = false := by rw [hl]; exact hl9
  have F : Fx ω σ cX4_checkWithinPage 4 wsX4_checkWithinPage RX4 rmX4_checkWithinPage := F
  refine v_iload_n F dX4_checkWithinPage_0 rfl ?_
  refine v_if_lt_n F 46 dX4_checkWithinPage_1 (by decide) (by omega) ?_
  refine v_iload_n F dX4_checkWithinPage_4 rfl ?_
  refine v_if_lt_n F 46 dX4_checkWithinPage_5 (by decide) (by omega) ?_
  refine v_iload_n F dX4_checkWithinPage_8 rfl ?_
  refine v_iconst (v := nI 1) F dX4_checkWithinPage_9 (by decide) ?_
  refine v_icmp_lt_n F 46 dX4_checkWithinPage_10 (by decide) (by omega) (by omega) (fun c10 => ?_) (fun c10 => ?_)
  · exact absurd c10 (by omega)
  · refine v_iload_n F dX4_checkWithinPage_13 rfl ?_
    refine v_iconst (v := nI 1) F dX4_checkWithinPage_14 (by decide) ?_
    refine v_icmp_lt_n F 46 dX4_checkWithinPage_15 (by decide) (by omega) (by omega) (fun c15 => ?_) (fun c15 => ?_)
    · exact absurd c15 (by omega)
    · refine v_iload_n F dX4_checkWithinPage_18 rfl ?_
      refine v_bipush (v := nI 60) F dX4_checkWithinPage_19 (by decide) ?_
      refine v_icmp_gt_n F 46 dX4_checkWithinPage_21 (by decide) (by omega) (by omega) (fun c21 => ?_) (fun c21 => ?_)
      · exact absurd c21 (by omega)
      · refine v_iload_n F dX4_checkWithinPage_24 rfl ?_
        refine v_bipush (v := nI 60) F dX4_checkWithinPage_25 (by decide) ?_
        refine v_iload_n F dX4_checkWithinPage_27 rfl ?_
        refine v_isub_n F dX4_checkWithinPage_28 (by omega) ?_
        refine v_icmp_gt_n F 46 dX4_checkWithinPage_29 (by decide) (by omega) (by omega) (fun c29 => ?_) (fun c29 => ?_)
        · exact absurd c29 (by omega)
        · refine v_iload_n F dX4_checkWithinPage_32 rfl ?_
          refine v_bipush (v := nI 80) F dX4_checkWithinPage_33 (by decide) ?_
          refine v_icmp_gt_n F 46 dX4_checkWithinPage_35 (by decide) (by omega) (by omega) (fun c35 => ?_) (fun c35 => ?_)
          · exact absurd c35 (by omega)
          · refine v_iload_n F dX4_checkWithinPage_38 rfl ?_
            refine v_bipush (v := nI 80) F dX4_checkWithinPage_39 (by decide) ?_
            refine v_iload_n F dX4_checkWithinPage_41 rfl ?_
            refine v_isub_n F dX4_checkWithinPage_42 (by omega) ?_
            refine v_icmp_le_n F 56 dX4_checkWithinPage_43 (by decide) (by omega) (by omega) (fun c43 => ?_) (fun c43 => ?_)
            · exact v_x (v_vret F hr dX4_checkWithinPage_56 (Nat.le_of_ble_eq_true rfl) (Nat.le_of_ble_eq_true rfl) ⟨rfl, rfl⟩)
            · exact absurd c43 (by omega)
/-- whether a box lies within a page, as the class asks it -/
def inPg (x y w h : Int32) : Prop := ¬ x < 0 ∧ ¬ y < 0 ∧ ¬ w < nI 1 ∧ ¬ h < nI 1 ∧ ¬ nI 60 < x ∧ ¬ nI 60 - x < w ∧ ¬ nI 80 < y ∧ h ≤ nI 80 - y
theorem hat_X4_checkWithinPage_54 : ∀ w ∈ (vx_atS RX4 54 "java/lang/IllegalArgumentException" nmE).filter goodWord, w ∈ wsX4_checkWithinPage := by decide +kernel
set_option maxHeartbeats 4000000 in
set_option maxRecDepth 100000 in
theorem c_checkWithinPage_bad {l : Launch} {ω : Om} {M : MM} (hl9 : l.stackTraces = false) {x y w h : Int32} (hb : ¬ inPg x y w h) : CtX l ω yX4_checkWithinPage wsX4_checkWithinPage rmX4_checkWithinPage [.int x, .int y, .int w, .int h] M (fun v M9 => False) (fun E => E = "java/lang/IllegalArgumentException") 1 6 := by
  refine CtX.ofV (cc := cX4_checkWithinPage) (maxL := 4) (ret := none) [some (.int x), some (.int y), some (.int w), some (.int h)] (by decide) rfl (Nat.le_of_ble_eq_true rfl) rfl (Lc.av (av := [.int x, .int y, .int w, .int h]) (k := 0) rfl) ?_
  intro σ F hl hr hnx
  have hl : σ.2.1.stackTraces = false := by rw [hl]; exact hl9
  have F : Fx ω σ cX4_checkWithinPage 4 wsX4_checkWithinPage RX4 rmX4_checkWithinPage := F
  refine v_iload_n F dX4_checkWithinPage_0 rfl ?_
  refine v_if_lt F 46 dX4_checkWithinPage_1 (by decide) (fun c1 => ?_) (fun c1 => ?_)
  · exact v_throw (cls := "java/lang/IllegalArgumentException") (text := "the box is not within its page") F hl rfl hnx (by decide +kernel) (by decide +kernel) (by decide +kernel) (by decide +kernel) hat_X4_checkWithinPage_54 hnw_54 hgd_50_54 dX4_checkWithinPage_46 dX4_checkWithinPage_49 dX4_checkWithinPage_50 dX4_checkWithinPage_52 dX4_checkWithinPage_55 ⟨(Nat.le_of_ble_eq_true rfl), (Nat.le_of_ble_eq_true rfl), (Nat.le_of_ble_eq_true rfl), (Nat.le_of_ble_eq_true rfl)⟩ (Nat.le_of_ble_eq_true rfl) (Nat.le_of_ble_eq_true rfl) rfl
  · refine v_iload_n F dX4_checkWithinPage_4 rfl ?_
    refine v_if_lt F 46 dX4_checkWithinPage_5 (by decide) (fun c5 => ?_) (fun c5 => ?_)
    · exact v_throw (cls := "java/lang/IllegalArgumentException") (text := "the box is not within its page") F hl rfl hnx (by decide +kernel) (by decide +kernel) (by decide +kernel) (by decide +kernel) hat_X4_checkWithinPage_54 hnw_54 hgd_50_54 dX4_checkWithinPage_46 dX4_checkWithinPage_49 dX4_checkWithinPage_50 dX4_checkWithinPage_52 dX4_checkWithinPage_55 ⟨(Nat.le_of_ble_eq_true rfl), (Nat.le_of_ble_eq_true rfl), (Nat.le_of_ble_eq_true rfl), (Nat.le_of_ble_eq_true rfl)⟩ (Nat.le_of_ble_eq_true rfl) (Nat.le_of_ble_eq_true rfl) rfl
    · refine v_iload_n F dX4_checkWithinPage_8 rfl ?_
      refine v_iconst (v := nI 1) F dX4_checkWithinPage_9 (by decide) ?_
      refine v_icmp_lt F 46 dX4_checkWithinPage_10 (by decide) (fun c10 => ?_) (fun c10 => ?_)
      · exact v_throw (cls := "java/lang/IllegalArgumentException") (text := "the box is not within its page") F hl rfl hnx (by decide +kernel) (by decide +kernel) (by decide +kernel) (by decide +kernel) hat_X4_checkWithinPage_54 hnw_54 hgd_50_54 dX4_checkWithinPage_46 dX4_checkWithinPage_49 dX4_checkWithinPage_50 dX4_checkWithinPage_52 dX4_checkWithinPage_55 ⟨(Nat.le_of_ble_eq_true rfl), (Nat.le_of_ble_eq_true rfl), (Nat.le_of_ble_eq_true rfl), (Nat.le_of_ble_eq_true rfl)⟩ (Nat.le_of_ble_eq_true rfl) (Nat.le_of_ble_eq_true rfl) rfl
      · refine v_iload_n F dX4_checkWithinPage_13 rfl ?_
        refine v_iconst (v := nI 1) F dX4_checkWithinPage_14 (by decide) ?_
        refine v_icmp_lt F 46 dX4_checkWithinPage_15 (by decide) (fun c15 => ?_) (fun c15 => ?_)
        · exact v_throw (cls := "java/lang/IllegalArgumentException") (text := "the box is not within its page") F hl rfl hnx (by decide +kernel) (by decide +kernel) (by decide +kernel) (by decide +kernel) hat_X4_checkWithinPage_54 hnw_54 hgd_50_54 dX4_checkWithinPage_46 dX4_checkWithinPage_49 dX4_checkWithinPage_50 dX4_checkWithinPage_52 dX4_checkWithinPage_55 ⟨(Nat.le_of_ble_eq_true rfl), (Nat.le_of_ble_eq_true rfl), (Nat.le_of_ble_eq_true rfl), (Nat.le_of_ble_eq_true rfl)⟩ (Nat.le_of_ble_eq_true rfl) (Nat.le_of_ble_eq_true rfl) rfl
        · refine v_iload_n F dX4_checkWithinPage_18 rfl ?_
          refine v_bipush (v := nI 60) F dX4_checkWithinPage_19 (by decide) ?_
          refine v_icmp_gt F 46 dX4_checkWithinPage_21 (by decide) (fun c21 => ?_) (fun c21 => ?_)
          · exact v_throw (cls := "java/lang/IllegalArgumentException") (text := "the box is not within its page") F hl rfl hnx (by decide +kernel) (by decide +kernel) (by decide +kernel) (by decide +kernel) hat_X4_checkWithinPage_54 hnw_54 hgd_50_54 dX4_checkWithinPage_46 dX4_checkWithinPage_49 dX4_checkWithinPage_50 dX4_checkWithinPage_52 dX4_checkWithinPage_55 ⟨(Nat.le_of_ble_eq_true rfl), (Nat.le_of_ble_eq_true rfl), (Nat.le_of_ble_eq_true rfl), (Nat.le_of_ble_eq_true rfl)⟩ (Nat.le_of_ble_eq_true rfl) (Nat.le_of_ble_eq_true rfl) rfl
          · refine v_iload_n F dX4_checkWithinPage_24 rfl ?_
            refine v_bipush (v := nI 60) F dX4_checkWithinPage_25 (by decide) ?_
            refine v_iload_n F dX4_checkWithinPage_27 rfl ?_
            refine v_isub F dX4_checkWithinPage_28 ?_
            refine v_icmp_gt F 46 dX4_checkWithinPage_29 (by decide) (fun c29 => ?_) (fun c29 => ?_)
            · exact v_throw (cls := "java/lang/IllegalArgumentException") (text := "the box is not within its page") F hl rfl hnx (by decide +kernel) (by decide +kernel) (by decide +kernel) (by decide +kernel) hat_X4_checkWithinPage_54 hnw_54 hgd_50_54 dX4_checkWithinPage_46 dX4_checkWithinPage_49 dX4_checkWithinPage_50 dX4_checkWithinPage_52 dX4_checkWithinPage_55 ⟨(Nat.le_of_ble_eq_true rfl), (Nat.le_of_ble_eq_true rfl), (Nat.le_of_ble_eq_true rfl), (Nat.le_of_ble_eq_true rfl)⟩ (Nat.le_of_ble_eq_true rfl) (Nat.le_of_ble_eq_true rfl) rfl
            · refine v_iload_n F dX4_checkWithinPage_32 rfl ?_
              refine v_bipush (v := nI 80) F dX4_checkWithinPage_33 (by decide) ?_
              refine v_icmp_gt F 46 dX4_checkWithinPage_35 (by decide) (fun c35 => ?_) (fun c35 => ?_)
              · exact v_throw (cls := "java/lang/IllegalArgumentException") (text := "the box is not within its page") F hl rfl hnx (by decide +kernel) (by decide +kernel) (by decide +kernel) (by decide +kernel) hat_X4_checkWithinPage_54 hnw_54 hgd_50_54 dX4_checkWithinPage_46 dX4_checkWithinPage_49 dX4_checkWithinPage_50 dX4_checkWithinPage_52 dX4_checkWithinPage_55 ⟨(Nat.le_of_ble_eq_true rfl), (Nat.le_of_ble_eq_true rfl), (Nat.le_of_ble_eq_true rfl), (Nat.le_of_ble_eq_true rfl)⟩ (Nat.le_of_ble_eq_true rfl) (Nat.le_of_ble_eq_true rfl) rfl
              · refine v_iload_n F dX4_checkWithinPage_38 rfl ?_
                refine v_bipush (v := nI 80) F dX4_checkWithinPage_39 (by decide) ?_
                refine v_iload_n F dX4_checkWithinPage_41 rfl ?_
                refine v_isub F dX4_checkWithinPage_42 ?_
                refine v_icmp_le F 56 dX4_checkWithinPage_43 (by decide) (fun c43 => ?_) (fun c43 => ?_)
                · exact absurd ⟨c1, c5, c10, c15, c21, c29, c35, c43⟩ hb
                · exact v_throw (cls := "java/lang/IllegalArgumentException") (text := "the box is not within its page") F hl rfl hnx (by decide +kernel) (by decide +kernel) (by decide +kernel) (by decide +kernel) hat_X4_checkWithinPage_54 hnw_54 hgd_50_54 dX4_checkWithinPage_46 dX4_checkWithinPage_49 dX4_checkWithinPage_50 dX4_checkWithinPage_52 dX4_checkWithinPage_55 ⟨(Nat.le_of_ble_eq_true rfl), (Nat.le_of_ble_eq_true rfl), (Nat.le_of_ble_eq_true rfl), (Nat.le_of_ble_eq_true rfl)⟩ (Nat.le_of_ble_eq_true rfl) (Nat.le_of_ble_eq_true rfl) rfl
def rmX4_numberOf : Room := { frames := 0, cells := 0, slots := 0, locals := 0 }
theorem hd_X4_numberOf : yX4_numberOf.cls ≠ "java/lang/invoke/MethodHandle" ∧ yX4_numberOf.cls ≠ "java/lang/invoke/VarHandle" ∧ (parseMethodDescriptor yX4_numberOf.desc).map (fun d => d.parameters.length) = some 1 := by decide +kernel
set_option maxHeartbeats 4000000 in
set_option maxRecDepth 100000 in
theorem c_numberOf_0 {l : Launch} {ω : Om} {M : MM}  : Ct l ω yX4_numberOf wsX4_numberOf rmX4_numberOf [.null] M (fun v M9 => v = some (.int (-1)) ∧ M9 = M) 0 0 := by
  refine Ct.ofV (cc := cX4_numberOf) (maxL := 1) (ret := (some .int)) [some (.null)] (by decide) rfl (Nat.le_of_ble_eq_true rfl) rfl (Lc.av (av := [.null]) (k := 0) rfl) ?_
  intro σ F hl hr hname
  have F : Fx ω σ cX4_numberOf 1 wsX4_numberOf RX4 rmX4_numberOf := F
  refine v_aload_n F dX4_numberOf_0 rfl rfl ?_
  refine v_ifnonnull_n F dX4_numberOf_1 ?_
  refine v_iconst (v := (-1)) F dX4_numberOf_4 (by decide) ?_
  refine v_goto F 12 dX4_numberOf_5 (by decide) ?_
  exact v_iret F hr dX4_numberOf_12 (Nat.le_of_ble_eq_true rfl) (Nat.le_of_ble_eq_true rfl) ⟨rfl, rfl⟩
theorem fo_X4_numberOf_130 : FO wsX4_numberOf RX4 130 1 0 := ⟨_, _, _, rfl, by decide, by decide +kernel, by decide +kernel⟩
set_option maxHeartbeats 4000000 in
set_option maxRecDepth 100000 in
theorem c_numberOf_1 {l : Launch} {ω : Om} {M : MM} {j n : Nat} {A B : FF} (hb : M (A 1 j) = some (.inr (1, bxF A B j))) : Ct l ω yX4_numberOf wsX4_numberOf rmX4_numberOf [.ref (A 1 j)] M (fun v M9 => v = some (.int (nI j)) ∧ M9 = M) 0 0 := by
  refine Ct.ofV (cc := cX4_numberOf) (maxL := 1) (ret := (some .int)) [some (.ref (A 1 j))] (by decide) rfl (Nat.le_of_ble_eq_true rfl) rfl (Lc.av (av := [.ref (A 1 j)]) (k := 0) rfl) ?_
  intro σ F hl hr hname
  have F : Fx ω σ cX4_numberOf 1 wsX4_numberOf RX4 rmX4_numberOf := F
  refine v_aload_n F dX4_numberOf_0 rfl rfl ?_
  refine v_ifnonnull_r F 8 dX4_numberOf_1 (by decide) ?_
  refine v_aload_n F dX4_numberOf_8 rfl rfl ?_
  refine v_get F 1 0 fo_X4_numberOf_130 dX4_numberOf_9 hb rfl ?_
  exact v_iret F hr dX4_numberOf_12 (Nat.le_of_ble_eq_true rfl) (Nat.le_of_ble_eq_true rfl) ⟨rfl, rfl⟩
def rmX4_isOfKind : Room := { frames := 0, cells := 0, slots := 0, locals := 0 }
theorem hd_X4_isOfKind : yX4_isOfKind.cls ≠ "java/lang/invoke/MethodHandle" ∧ yX4_isOfKind.cls ≠ "java/lang/invoke/VarHandle" ∧ (parseMethodDescriptor yX4_isOfKind.desc).map (fun d => d.parameters.length) = some 2 := by decide +kernel
set_option maxHeartbeats 4000000 in
set_option maxRecDepth 100000 in
theorem c_isOfKind_0 {l : Launch} {ω : Om} {M : MM} {q : Nat} : Ct l ω yX4_isOfKind wsX4_isOfKind rmX4_isOfKind [.null, .int (nI q)] M (fun v M9 => v = some (.int (bI false)) ∧ M9 = M) 0 0 := by
  refine Ct.ofV (cc := cX4_isOfKind) (maxL := 2) (ret := (some .boolean)) [some (.null), some (.int (nI q))] (by decide) rfl (Nat.le_of_ble_eq_true rfl) rfl (Lc.av (av := [.null, .int (nI q)]) (k := 0) rfl) ?_
  intro σ F hl hr hname
  have F : Fx ω σ cX4_isOfKind 2 wsX4_isOfKind RX4 rmX4_isOfKind := F
  refine v_aload_n F dX4_isOfKind_0 rfl rfl ?_
  refine v_ifnull_n F 16 dX4_isOfKind_1 (by decide) ?_
  refine v_iconst (v := nI 0) F dX4_isOfKind_16 (by decide) ?_
  exact v_zret F hr dX4_isOfKind_17 rfl (Nat.le_of_ble_eq_true rfl) (Nat.le_of_ble_eq_true rfl) ⟨rfl, rfl⟩
theorem fo_X4_isOfKind_147 : FO wsX4_isOfKind RX4 147 1 2 := ⟨_, _, _, rfl, by decide, by decide +kernel, by decide +kernel⟩
set_option maxHeartbeats 4000000 in
set_option maxRecDepth 100000 in
theorem c_isOfKind_1 {l : Launch} {ω : Om} {M : MM} {j q : Nat} {A B : FF} (hb : M (A 1 j) = some (.inr (1, bxF A B j))) (hW : ∀ i j, B i j < 128) (hq : q < 128) : Ct l ω yX4_isOfKind wsX4_isOfKind rmX4_isOfKind [.ref (A 1 j), .int (nI q)] M (fun v M9 => v = some (.int (bI (decide (B j 5 = q)))) ∧ M9 = M) 0 0 := by
  refine Ct.ofV (cc := cX4_isOfKind) (maxL := 2) (ret := (some .boolean)) [some (.ref (A 1 j)), some (.int (nI q))] (by decide) rfl (Nat.le_of_ble_eq_true rfl) rfl (Lc.av (av := [.ref (A 1 j), .int (nI q)]) (k := 0) rfl) ?_
  intro σ F hl hr hname
  have F : Fx ω σ cX4_isOfKind 2 wsX4_isOfKind RX4 rmX4_isOfKind := F
  refine v_aload_n F dX4_isOfKind_0 rfl rfl ?_
  refine v_ifnull_r F dX4_isOfKind_1 ?_
  refine v_aload_n F dX4_isOfKind_4 rfl rfl ?_
  refine v_get F 1 2 fo_X4_isOfKind_147 dX4_isOfKind_5 hb rfl ?_
  refine v_iload_n F dX4_isOfKind_8 rfl ?_
  refine v_icmp_ne_n F 16 dX4_isOfKind_9 (by decide) (by first | omega | exact Nat.lt_trans (hW _ _) (by decide)) (by first | omega | exact Nat.lt_trans (hW _ _) (by decide)) (fun c9 => ?_) (fun c9 => ?_)
  · refine v_iconst (v := nI 0) F dX4_isOfKind_16 (by decide) ?_
    exact v_zret F hr dX4_isOfKind_17 rfl (Nat.le_of_ble_eq_true rfl) (Nat.le_of_ble_eq_true rfl) (by first | (refine ⟨zl1 ?_, rfl⟩; simp [*]; done) | (refine ⟨zl1 ?_, rfl⟩; simp [*]; omega) | (refine ⟨zl0 ?_, rfl⟩; simp [*]; done) | (refine ⟨zl0 ?_, rfl⟩; simp [*]; omega))
  · refine v_iconst (v := nI 1) F dX4_isOfKind_12 (by decide) ?_
    refine v_goto F 17 dX4_isOfKind_13 (by decide) ?_
    exact v_zret F hr dX4_isOfKind_17 rfl (Nat.le_of_ble_eq_true rfl) (Nat.le_of_ble_eq_true rfl) (by first | (refine ⟨zl1 ?_, rfl⟩; simp [*]; done) | (refine ⟨zl1 ?_, rfl⟩; simp [*]; omega) | (refine ⟨zl0 ?_, rfl⟩; simp [*]; done) | (refine ⟨zl0 ?_, rfl⟩; simp [*]; omega))
end
section
/-! the class: cuts -/
theorem v_mmin_n {ω : Om} {σ : Sg} {cc : ByteArray} {nL : Nat} {Ts : List Cond} {own : String} {rm : Room} {M : MM} {L : List (Option Value)} {kc ks : Nat} {Q : State → Prop} {pc : Nat} {st : List Value} (F : Fx ω σ cc nL Ts own rm) {a b idx : Nat} (ha : a < 2 ^ 31) (hb : b < 2 ^ 31) (hLn : L.length = nL) (hl : Cond.methodLink own idx Lib.Math.min.name ∈ Ts) (hs : Cond.static Lib.Math.min.name ∈ Ts) (hi : Cond.initialized "java/lang/Math" ∈ Ts) (hcd : Cond.code Lib.Math.min.name Lib.Math.min.code 2 (some .int) ∈ Ts) (d : decode cc pc = .ok (.invokestatic idx, 3)) (hR : 1 ≤ rm.frames ∧ (st.map fun v => v.category).sum + 13 ≤ rm.locals ∧ kc ≤ rm.cells ∧ ks ≤ rm.slots)
    (k : V ω σ M L kc ks Q (pc + 3) (.int (nI (if b < a then b else a)) :: st)) : V ω σ M L kc ks Q pc (.int (nI b) :: .int (nI a) :: st) := by
  obtain ⟨p, l, e, R, s, m, args, below, meth, c⟩ := σ
  intro H locs ls h1 h2 h3
  obtain ⟨hx, hb9, hml, hown, hts, hK, hlk, hRr, hz⟩ := F
  cases hRr
  refine va_mmin hx hb9 (hml.trans (hLn.symm.trans h3.1.symm)) hown (hts _ hl) (hts _ hs) (hts _ hi) (hts _ hcd) hR.1 hR.2.1 hR.2.2.1 hR.2.2.2 d ?_
  have e : (if nI b < nI a then nI b else nI a) = nI (if b < a then b else a) := by
    by_cases h : b < a
    · rw [if_pos h, if_pos ((nI_ltI hb ha).mpr h)]
    · rw [if_neg h, if_neg (fun q => h ((nI_ltI hb ha).mp q))]
  rw [e]
  exact k H locs ls h1 h2 h3
/-- the boxes of a page that follow none -/
def bfn (B : FF) (p : Nat) : Nat → Nat := fl (fun m i => if B i 8 = 0 ∧ B i 0 = p ∧ B i 6 = 0 then m ||| 2 ^ i else m) 0
def Eb (B : FF) (ac : Bool) (i : Nat) : Nat := if ac then B i 2 + B i 4 else B i 1 + B i 3
def Gb (B : FF) (ac : Bool) (i : Nat) : Nat := B i (if ac then 2 else 1)
def c0 (ac : Bool) : Nat := if ac then 80 else 60
def lc1 (B : FF) (s : Nat) (ac : Bool) : Nat → Nat := fl (fun c i => if s.testBit i then (if Eb B ac i < c then Eb B ac i else c) else c) (c0 ac)
def lcp (B : FF) (s : Nat) (ac : Bool) (c : Nat) : Nat → Nat × Nat := fl (fun cm i => if s.testBit i ∧ Gb B ac i < cm.1 ∧ cm.1 < Eb B ac i then (Eb B ac i, 1) else cm) (c, 0)
def lcs (B : FF) (s : Nat) (ac : Bool) (n : Nat) : Nat → Nat × Nat → Nat
  | 0, cm => cm.1
  | f + 1, cm => if cm.2 = 0 then cm.1 else lcs B s ac n f (lcp B s ac cm.1 n)
def lcut (B : FF) (n s : Nat) (ac : Bool) : Nat := lcs B s ac n 24 (lc1 B s ac n, 1)
def enb (B : FF) (cut s : Nat) (ac : Bool) : Nat → Nat := fl (fun m i => if s.testBit i ∧ Eb B ac i ≤ cut then m ||| 2 ^ i else m) 0
def cuo (B : FF) (n s : Nat) : Nat := if enb B (lcut B n s true) s true n = s then (if enb B (lcut B n s false) s false n = s then 0 else enb B (lcut B n s false) s false n) else enb B (lcut B n s true) s true n
/-- the first by its edges of a set, and 1; 0 of none -/
def fbe (B : FF) (s : Nat) : Nat → Nat := fl (fun f i => if s.testBit i ∧ (f = 0 ∨ ahd B i (f - 1) = true) then i + 1 else f) 0
def chn (B : FF) : Nat → Nat → List Nat
  | 0, _ => []
  | _ + 1, 0 => []
  | f + 1, x + 1 => x :: chn B f (B x 7)
def unc (B : FF) (n : Nat) : Nat → Nat → List Nat
  | 0, _ => []
  | f + 1, s => if s = 0 then [] else match fbe B s n with
    | 0 => []
    | x + 1 => chn B 24 (x + 1) ++ unc B n f (nd s (2 ^ x))
def rs (B : FF) (n : Nat) : Nat → Nat → List Nat
  | 0, s => unc B n 24 s
  | f + 1, s => if cuo B n s = 0 then unc B n 24 s else rs B n f (cuo B n s) ++ rs B n f (nd s (cuo B n s))
def ordF (B : FF) (n p : Nat) : List Nat := rs B n 24 (bfn B p n)
theorem or_lt {m i k : Nat} (h : m < 2 ^ k) (hi : i < k) : m ||| 2 ^ i < 2 ^ k := Nat.or_lt_two_pow h (Nat.pow_lt_pow_right (by decide) hi)
theorem bfn_lt (B : FF) (p : Nat) : ∀ n, n ≤ 24 → bfn B p n < 2 ^ 24 := by
  intro n hn
  induction n with
  | zero => exact Nat.two_pow_pos 24
  | succ n ih =>
    have h := ih (by omega)
    unfold bfn at h ⊢
    rw [fl_s]
    split
    · exact or_lt h (by omega)
    · exact h
theorem enb_lt (B : FF) (cut s : Nat) (ac : Bool) : ∀ n, n ≤ 24 → enb B cut s ac n < 2 ^ 24 := by
  intro n hn
  induction n with
  | zero => exact Nat.two_pow_pos 24
  | succ n ih =>
    have h := ih (by omega)
    unfold enb at h ⊢
    rw [fl_s]
    split
    · exact or_lt h (by omega)
    · exact h
theorem Eb_lt {B : FF} (hW : ∀ i j, B i j < 128) (ac : Bool) (i : Nat) : Eb B ac i < 256 := by
  have h1 := hW i 1; have h2 := hW i 2; have h3 := hW i 3; have h4 := hW i 4
  unfold Eb; split <;> omega
theorem Gb_lt {B : FF} (hW : ∀ i j, B i j < 128) (ac : Bool) (i : Nat) : Gb B ac i < 128 := hW _ _
theorem lc1_lt {B : FF} (s : Nat) (ac : Bool) : ∀ n, lc1 B s ac n < 256 := by
  intro n
  induction n with
  | zero => show c0 ac < 256; unfold c0; split <;> decide
  | succ n ih =>
    unfold lc1 at ih ⊢
    rw [fl_s]
    split
    · split <;> omega
    · exact ih
theorem lcp_lt {B : FF} (hW : ∀ i j, B i j < 128) (s : Nat) (ac : Bool) {c : Nat} (hc : c < 256) : ∀ n, (lcp B s ac c n).1 < 256 ∧ (lcp B s ac c n).2 < 2 := by
  intro n
  induction n with
  | zero => exact ⟨hc, by show (0 : Nat) < 2; decide⟩
  | succ n ih =>
    unfold lcp at ih ⊢
    rw [fl_s]
    split
    · exact ⟨Eb_lt hW ac n, by show (1 : Nat) < 2; decide⟩
    · exact ih
theorem lcs_lt {B : FF} (hW : ∀ i j, B i j < 128) (s : Nat) (ac : Bool) (n : Nat) : ∀ f (cm : Nat × Nat), cm.1 < 256 → lcs B s ac n f cm < 256 := by
  intro f
  induction f with
  | zero => intro cm h; exact h
  | succ f ih =>
    intro cm h
    unfold lcs
    split
    · exact h
    · exact ih _ (lcp_lt hW s ac h n).1
theorem lcut_lt {B : FF} (hW : ∀ i j, B i j < 128) (n s : Nat) (ac : Bool) : lcut B n s ac < 256 := lcs_lt hW s ac n 24 _ (lc1_lt s ac n)
theorem cuo_lt (B : FF) {n : Nat} (hn : n ≤ 24) (s : Nat) : cuo B n s < 2 ^ 24 := by
  have h1 := enb_lt B (lcut B n s true) s true n hn
  have h2 := enb_lt B (lcut B n s false) s false n hn
  unfold cuo
  split
  · split
    · decide
    · exact h2
  · exact h1
theorem nd_lt {s f : Nat} (h : s < 2 ^ 24) : nd s f < 2 ^ 24 := by
  apply Nat.lt_pow_two_of_testBit
  intro i hi
  rw [nd_tb, Nat.testBit_lt_two_pow (Nat.lt_of_lt_of_le h (Nat.pow_le_pow_right (by decide) hi))]
  rfl
theorem fbe_le (B : FF) (s : Nat) : ∀ n, fbe B s n ≤ n := by
  intro n
  induction n with
  | zero => exact Nat.le_refl 0
  | succ n ih =>
    unfold fbe at ih ⊢
    rw [fl_s]
    split <;> omega
def Pf (g : Nat → Int32) (l : List Nat) : Prop := ∀ i, i < l.length → g i = nI (l.getD i 0)
theorem Pf.nil {g : Nat → Int32} : Pf g [] := fun i h => absurd h (Nat.not_lt_zero i)
theorem Pf.snoc {g : Nat → Int32} {l : List Nat} {x : Nat} (h : Pf g l) : Pf (upd g l.length (nI x)) (l ++ [x]) := by
  intro i hi
  rw [List.length_append, List.length_singleton] at hi
  by_cases h1 : i = l.length
  · subst h1
    rw [pk_us]
    simp [List.getD_eq_getElem?_getD]
  · rw [pk_un h1, h i (by omega)]
    have h2 : i < l.length := by omega
    simp [List.getD_eq_getElem?_getD, List.getElem?_append_left h2]
def rmX4_boxesThatFollowNone : Room := { frames := 1, cells := 0, slots := 0, locals := 21 }
theorem hd_X4_boxesThatFollowNone : yX4_boxesThatFollowNone.cls = (RX4, TX4, 7).1 ∧ yX4_boxesThatFollowNone.cls ≠ "java/lang/invoke/MethodHandle" ∧ yX4_boxesThatFollowNone.cls ≠ "java/lang/invoke/VarHandle" ∧ (parseMethodDescriptor yX4_boxesThatFollowNone.desc).map (fun d => d.parameters.length) = some 1 := by decide +kernel
theorem fo_X4_boxesThatFollowNone_15 : FO wsX4_boxesThatFollowNone RX4 15 4 1 := ⟨_, _, _, rfl, by decide, by decide +kernel, by decide +kernel⟩
theorem fo_X4_boxesThatFollowNone_89 : FO wsX4_boxesThatFollowNone RX4 89 1 1 := ⟨_, _, _, rfl, by decide, by decide +kernel, by decide +kernel⟩
theorem fo_X4_boxesThatFollowNone_98 : FO wsX4_boxesThatFollowNone RX4 98 1 7 := ⟨_, _, _, rfl, by decide, by decide +kernel, by decide +kernel⟩
theorem fo_X4_boxesThatFollowNone_108 : FO wsX4_boxesThatFollowNone RX4 108 1 8 := ⟨_, _, _, rfl, by decide, by decide +kernel, by decide +kernel⟩
set_option maxHeartbeats 4000000 in
set_option maxRecDepth 100000 in
theorem c_bfn {l : Launch} {ω : Om} {M : MM} {A B P : FF} {n k : Nat} {R : Nat → (Nat → Int32) × Nat} (hX : XI ω A B P n k R M) (hB : WB B n) {p : Nat} (hp : p < 5) : Ct l ω yX4_boxesThatFollowNone wsX4_boxesThatFollowNone rmX4_boxesThatFollowNone [.ref (A 0 0), .int (nI p)] M (fun v M9 => v = some (.int (nI (bfn B p n))) ∧ M9 = M) 0 0 := by
  refine Ct.ofV (cc := cX4_boxesThatFollowNone) (maxL := 5) (ret := (some .int)) [some (.ref (A 0 0)), some (.int (nI p)), none, none, none] (by decide) rfl (Nat.le_of_ble_eq_true rfl) rfl (Lc.av (av := [.ref (A 0 0), .int (nI p)]) (k := 3) rfl) ?_
  intro σ F hl hr hname
  have F : Fx ω σ cX4_boxesThatFollowNone 5 wsX4_boxesThatFollowNone RX4 rmX4_boxesThatFollowNone := F
  have hn : n ≤ 24 := hB.1
  have hW : ∀ i j, B i j < 128 := hB.2.1
  refine v_iconst (v := nI 0) F dX4_boxesThatFollowNone_0 (by decide) ?_
  refine v_istore_n F dX4_boxesThatFollowNone_1 (Nat.le_of_ble_eq_true rfl) (ok2_d rfl) ?_
  refine v_iconst (v := nI 0) F dX4_boxesThatFollowNone_2 (by decide) ?_
  refine v_istore_n F dX4_boxesThatFollowNone_3 (Nat.le_of_ble_eq_true rfl) (ok2_d rfl) ?_
  have lp : ∀ i, i ≤ n → ∀ m w, m = bfn B p i → V ω σ M [some (.ref (A 0 0)), some (.int (nI p)), some (.int (nI m)), some (.int (nI i)), w] 0 0 (BQ ω σ (fun v M9 => v = some (.int (nI (bfn B p n))) ∧ M9 = M) 0 0) 4 [] := by
    refine loop_up n _ (fun i hi ih => ?_)
    intro m w hm
    refine v_iload_n F dX4_boxesThatFollowNone_4 rfl ?_
    refine v_aload_n F dX4_boxesThatFollowNone_5 rfl rfl ?_
    refine v_get F 4 1 fo_X4_boxesThatFollowNone_15 dX4_boxesThatFollowNone_6 hX.x rfl ?_
    refine v_icmp_ge_n F 61 dX4_boxesThatFollowNone_9 (by decide) (by first | omega | exact Nat.lt_trans (hW _ _) (by decide)) (by first | omega | exact Nat.lt_trans (hW _ _) (by decide)) (fun c9 => ?_) (fun c9 => ?_)
    · refine v_iload_n F dX4_boxesThatFollowNone_61 rfl ?_
      exact v_iret F hr dX4_boxesThatFollowNone_62 (Nat.le_of_ble_eq_true rfl) (Nat.le_of_ble_eq_true rfl) ⟨by rw [hm, show i = n by omega], rfl⟩
    · have hi2 : i < n := by omega
      refine v_aload_n F dX4_boxesThatFollowNone_12 rfl rfl ?_
      refine v_iload_n F dX4_boxesThatFollowNone_13 rfl ?_
      refine v_callV F 1 [_] rfl rfl rfl (c_madeBox_in hX hB hi2) gX4_boxesThatFollowNone_X4_madeBox rfl hd_X4_madeBox ⟨⟨rfl, rfl⟩, ⟨(Nat.le_of_ble_eq_true rfl), (Nat.le_of_ble_eq_true rfl)⟩, ⟨(Nat.le_of_ble_eq_true rfl), (Nat.le_of_ble_eq_true rfl)⟩, (Nat.le_of_ble_eq_true rfl)⟩ hX.x rfl dX4_boxesThatFollowNone_14 (fun v14 M14 q14 => ?_)
      obtain ⟨rfl, rfl⟩ := q14
      refine v_astore F dX4_boxesThatFollowNone_17 rfl (Nat.le_of_ble_eq_true rfl) (ok2_d rfl) ?_
      refine v_aload F dX4_boxesThatFollowNone_19 rfl rfl ?_
      refine v_ifnull_r F dX4_boxesThatFollowNone_21 ?_
      refine v_aload F dX4_boxesThatFollowNone_24 rfl rfl ?_
      refine v_get F 1 7 fo_X4_boxesThatFollowNone_98 dX4_boxesThatFollowNone_26 (hX.box hi2) rfl ?_
      refine v_if_ne_n F 55 dX4_boxesThatFollowNone_29 (by decide) (by first | omega | exact Nat.lt_trans (hW _ _) (by decide)) (fun c29 => ?_) (fun c29 => ?_)
      · refine v_iinc1 F dX4_boxesThatFollowNone_55 rfl (ok2_d rfl) ?_
        refine v_goto F 4 dX4_boxesThatFollowNone_58 (by decide) ?_
        exact ih (by omega) _ _ (by simp only [bfn, fl_s]; rw [← bfn, ← hm]; simp [*])
      · refine v_aload F dX4_boxesThatFollowNone_32 rfl rfl ?_
        refine v_get F 1 1 fo_X4_boxesThatFollowNone_89 dX4_boxesThatFollowNone_34 (hX.box hi2) rfl ?_
        refine v_iload_n F dX4_boxesThatFollowNone_37 rfl ?_
        refine v_icmp_ne_n F 55 dX4_boxesThatFollowNone_38 (by decide) (by first | omega | exact Nat.lt_trans (hW _ _) (by decide)) (by first | omega | exact Nat.lt_trans (hW _ _) (by decide)) (fun c38 => ?_) (fun c38 => ?_)
        · refine v_iinc1 F dX4_boxesThatFollowNone_55 rfl (ok2_d rfl) ?_
          refine v_goto F 4 dX4_boxesThatFollowNone_58 (by decide) ?_
          exact ih (by omega) _ _ (by simp only [bfn, fl_s]; rw [← bfn, ← hm]; simp [*])
        · refine v_aload F dX4_boxesThatFollowNone_41 rfl rfl ?_
          refine v_get_o (o := oA A (B i 6)) F 1 8 fo_X4_boxesThatFollowNone_108 dX4_boxesThatFollowNone_43 (hX.box hi2) rfl (fun h43 => ?_) (fun a43 h43 => ?_)
          · have h6 : B i 6 = 0 := by cases hq : B i 6 with | zero => rfl | succ y => rw [hq] at h43; exact nomatch h43
            refine v_ifnonnull_n F dX4_boxesThatFollowNone_46 ?_
            refine v_iload_n F dX4_boxesThatFollowNone_49 rfl ?_
            refine v_iconst (v := nI 1) F dX4_boxesThatFollowNone_50 (by decide) ?_
            refine v_iload_n F dX4_boxesThatFollowNone_51 rfl ?_
            refine v_ishl_n F dX4_boxesThatFollowNone_52 (by first | omega | exact Nat.lt_trans (hW _ _) (by decide)) ?_
            refine v_ior_n F dX4_boxesThatFollowNone_53 ?_
            refine v_istore_n F dX4_boxesThatFollowNone_54 (Nat.le_of_ble_eq_true rfl) (ok2_d rfl) ?_
            refine v_iinc1 F dX4_boxesThatFollowNone_55 rfl (ok2_d rfl) ?_
            refine v_goto F 4 dX4_boxesThatFollowNone_58 (by decide) ?_
            exact ih (by omega) _ _ (by simp only [bfn, fl_s]; rw [← bfn, ← hm]; simp [*])
          · have h6 : ¬ B i 6 = 0 := fun hq => by rw [hq] at h43; exact nomatch h43
            refine v_ifnonnull_r F 55 dX4_boxesThatFollowNone_46 (by decide) ?_
            refine v_iinc1 F dX4_boxesThatFollowNone_55 rfl (ok2_d rfl) ?_
            refine v_goto F 4 dX4_boxesThatFollowNone_58 (by decide) ?_
            exact ih (by omega) _ _ (by simp only [bfn, fl_s]; rw [← bfn, ← hm]; simp [*])
  exact lp 0 (Nat.zero_le _) _ _ rfl
def rmX4_endedBy : Room := { frames := 1, cells := 0, slots := 0, locals := 23 }
theorem hd_X4_endedBy : yX4_endedBy.cls = (RX4, TX4, 7).1 ∧ yX4_endedBy.cls ≠ "java/lang/invoke/MethodHandle" ∧ yX4_endedBy.cls ≠ "java/lang/invoke/VarHandle" ∧ (parseMethodDescriptor yX4_endedBy.desc).map (fun d => d.parameters.length) = some 3 := by decide +kernel
theorem fo_X4_endedBy_15 : FO wsX4_endedBy RX4 15 4 1 := ⟨_, _, _, rfl, by decide, by decide +kernel, by decide +kernel⟩
set_option maxHeartbeats 4000000 in
set_option maxRecDepth 100000 in
theorem c_enb {l : Launch} {ω : Om} {M : MM} {A B P : FF} {n k : Nat} {R : Nat → (Nat → Int32) × Nat} (hX : XI ω A B P n k R M) (hB : WB B n) {c s : Nat} {ac : Bool} (hc : c < 256) (hs : s < 2 ^ 24) : Ct l ω yX4_endedBy wsX4_endedBy rmX4_endedBy [.ref (A 0 0), .int (nI c), .int (nI s), .int (bI ac)] M (fun v M9 => v = some (.int (nI (enb B c s ac n))) ∧ M9 = M) 0 0 := by
  refine Ct.ofV (cc := cX4_endedBy) (maxL := 7) (ret := (some .int)) [some (.ref (A 0 0)), some (.int (nI c)), some (.int (nI s)), some (.int (bI ac)), none, none, none] (by decide) rfl (Nat.le_of_ble_eq_true rfl) rfl (Lc.av (av := [.ref (A 0 0), .int (nI c), .int (nI s), .int (bI ac)]) (k := 3) rfl) ?_
  intro σ F hl hr hname
  have F : Fx ω σ cX4_endedBy 7 wsX4_endedBy RX4 rmX4_endedBy := F
  have hn : n ≤ 24 := hB.1
  have hW : ∀ i j, B i j < 128 := hB.2.1
  refine v_iconst (v := nI 0) F dX4_endedBy_0 (by decide) ?_
  refine v_istore F dX4_endedBy_1 (Nat.le_of_ble_eq_true rfl) (ok2_d rfl) ?_
  refine v_iconst (v := nI 0) F dX4_endedBy_3 (by decide) ?_
  refine v_istore F dX4_endedBy_4 (Nat.le_of_ble_eq_true rfl) (ok2_d rfl) ?_
  have lp : ∀ i, i ≤ n → ∀ m w, m = enb B c s ac i → V ω σ M [some (.ref (A 0 0)), some (.int (nI c)), some (.int (nI s)), some (.int (bI ac)), some (.int (nI m)), some (.int (nI i)), w] 0 0 (BQ ω σ (fun v M9 => v = some (.int (nI (enb B c s ac n))) ∧ M9 = M) 0 0) 6 [] := by
    refine loop_up n _ (fun i hi ih => ?_)
    intro m w hm
    refine v_iload F dX4_endedBy_6 rfl ?_
    refine v_aload_n F dX4_endedBy_8 rfl rfl ?_
    refine v_get F 4 1 fo_X4_endedBy_15 dX4_endedBy_9 hX.x rfl ?_
    refine v_icmp_ge_n F 54 dX4_endedBy_12 (by decide) (by first | omega | exact Nat.lt_trans (hW _ _) (by decide) | exact Nat.lt_trans (Eb_lt hW ac _) (by decide) | exact Nat.lt_trans (Gb_lt hW ac _) (by decide)) (by first | omega | exact Nat.lt_trans (hW _ _) (by decide) | exact Nat.lt_trans (Eb_lt hW ac _) (by decide) | exact Nat.lt_trans (Gb_lt hW ac _) (by decide)) (fun c12 => ?_) (fun c12 => ?_)
    · refine v_iload F dX4_endedBy_54 rfl ?_
      exact v_iret F hr dX4_endedBy_56 (Nat.le_of_ble_eq_true rfl) (Nat.le_of_ble_eq_true rfl) ⟨by rw [hm, show i = n by omega], rfl⟩
    · have hi2 : i < n := by omega
      rcases hb : s.testBit i with _ | _
      · refine v_aload_n F dX4_endedBy_15 rfl rfl ?_
        refine v_iload_n F dX4_endedBy_16 rfl ?_
        refine v_iload F dX4_endedBy_17 rfl ?_
        refine v_callV F 2 [_, _] rfl rfl rfl (c_boxOfSet_out hX hB hs hi2 hb) gX4_endedBy_X4_boxOfSet rfl hd_X4_boxOfSet ⟨⟨rfl, rfl⟩, ⟨(Nat.le_of_ble_eq_true rfl), (Nat.le_of_ble_eq_true rfl)⟩, ⟨(Nat.le_of_ble_eq_true rfl), (Nat.le_of_ble_eq_true rfl)⟩, (Nat.le_of_ble_eq_true rfl)⟩ hX.x rfl dX4_endedBy_19 (fun v19 M19 q19 => ?_)
        obtain ⟨rfl, rfl⟩ := q19
        refine v_astore F dX4_endedBy_22 rfl (Nat.le_of_ble_eq_true rfl) (ok2_d rfl) ?_
        refine v_aload F dX4_endedBy_24 rfl rfl ?_
        refine v_ifnull_n F 48 dX4_endedBy_26 (by decide) ?_
        refine v_iinc1 F dX4_endedBy_48 rfl (ok2_d rfl) ?_
        refine v_goto F 6 dX4_endedBy_51 (by decide) ?_
        exact ih (by omega) _ _ (by simp only [enb, fl_s]; rw [← enb, ← hm]; simp only [hb, Bool.false_eq_true, false_and, true_and, if_false, ↓reduceIte]; try (split <;> first | rfl | (exfalso; omega)))
      · refine v_aload_n F dX4_endedBy_15 rfl rfl ?_
        refine v_iload_n F dX4_endedBy_16 rfl ?_
        refine v_iload F dX4_endedBy_17 rfl ?_
        refine v_callV F 2 [_, _] rfl rfl rfl (c_boxOfSet_in hX hB hs hi2 hb) gX4_endedBy_X4_boxOfSet rfl hd_X4_boxOfSet ⟨⟨rfl, rfl⟩, ⟨(Nat.le_of_ble_eq_true rfl), (Nat.le_of_ble_eq_true rfl)⟩, ⟨(Nat.le_of_ble_eq_true rfl), (Nat.le_of_ble_eq_true rfl)⟩, (Nat.le_of_ble_eq_true rfl)⟩ hX.x rfl dX4_endedBy_19 (fun v19 M19 q19 => ?_)
        obtain ⟨rfl, rfl⟩ := q19
        refine v_astore F dX4_endedBy_22 rfl (Nat.le_of_ble_eq_true rfl) (ok2_d rfl) ?_
        refine v_aload F dX4_endedBy_24 rfl rfl ?_
        refine v_ifnull_r F dX4_endedBy_26 ?_
        refine v_aload F dX4_endedBy_29 rfl rfl ?_
        refine v_iload_n F dX4_endedBy_31 rfl ?_
        refine v_callV F 1 [_] rfl rfl rfl (c_X1_end hW (hX.box hi2)) gX4_endedBy_X1_end rfl hd_X1_end ⟨⟨rfl, rfl⟩, ⟨(Nat.le_of_ble_eq_true rfl), (Nat.le_of_ble_eq_true rfl)⟩, ⟨(Nat.le_of_ble_eq_true rfl), (Nat.le_of_ble_eq_true rfl)⟩, (Nat.le_of_ble_eq_true rfl)⟩ (hX.box hi2) rfl dX4_endedBy_32 (fun v32 M32 q32 => ?_)
        obtain ⟨rfl, rfl⟩ := q32
        rw [show (if ac = true then B i 2 + B i 4 else B i 1 + B i 3) = Eb B ac i from rfl]
        refine v_iload_n F dX4_endedBy_35 rfl ?_
        refine v_icmp_gt_n F 48 dX4_endedBy_36 (by decide) (by first | omega | exact Nat.lt_trans (hW _ _) (by decide) | exact Nat.lt_trans (Eb_lt hW ac _) (by decide) | exact Nat.lt_trans (Gb_lt hW ac _) (by decide)) (by first | omega | exact Nat.lt_trans (hW _ _) (by decide) | exact Nat.lt_trans (Eb_lt hW ac _) (by decide) | exact Nat.lt_trans (Gb_lt hW ac _) (by decide)) (fun c36 => ?_) (fun c36 => ?_)
        · refine v_iinc1 F dX4_endedBy_48 rfl (ok2_d rfl) ?_
          refine v_goto F 6 dX4_endedBy_51 (by decide) ?_
          exact ih (by omega) _ _ (by simp only [enb, fl_s]; rw [← enb, ← hm]; simp only [hb, Bool.false_eq_true, false_and, true_and, if_false, ↓reduceIte]; try (split <;> first | rfl | (exfalso; omega)))
        · refine v_iload F dX4_endedBy_39 rfl ?_
          refine v_iconst (v := nI 1) F dX4_endedBy_41 (by decide) ?_
          refine v_iload F dX4_endedBy_42 rfl ?_
          refine v_ishl_n F dX4_endedBy_44 (by first | omega | exact Nat.lt_trans (hW _ _) (by decide) | exact Nat.lt_trans (Eb_lt hW ac _) (by decide) | exact Nat.lt_trans (Gb_lt hW ac _) (by decide)) ?_
          refine v_ior_n F dX4_endedBy_45 ?_
          refine v_istore F dX4_endedBy_46 (Nat.le_of_ble_eq_true rfl) (ok2_d rfl) ?_
          refine v_iinc1 F dX4_endedBy_48 rfl (ok2_d rfl) ?_
          refine v_goto F 6 dX4_endedBy_51 (by decide) ?_
          exact ih (by omega) _ _ (by simp only [enb, fl_s]; rw [← enb, ← hm]; simp only [hb, Bool.false_eq_true, false_and, true_and, if_false, ↓reduceIte]; try (split <;> first | rfl | (exfalso; omega)))
  exact lp 0 (Nat.zero_le _) _ _ rfl
def rmX4_leastCut : Room := { frames := 1, cells := 0, slots := 0, locals := 30 }
theorem hd_X4_leastCut : yX4_leastCut.cls = (RX4, TX4, 7).1 ∧ yX4_leastCut.cls ≠ "java/lang/invoke/MethodHandle" ∧ yX4_leastCut.cls ≠ "java/lang/invoke/VarHandle" ∧ (parseMethodDescriptor yX4_leastCut.desc).map (fun d => d.parameters.length) = some 2 := by decide +kernel
theorem fo_X4_leastCut_15 : FO wsX4_leastCut RX4 15 4 1 := ⟨_, _, _, rfl, by decide, by decide +kernel, by decide +kernel⟩
set_option maxHeartbeats 4000000 in
set_option maxRecDepth 100000 in
theorem c_lcut {l : Launch} {ω : Om} {M : MM} {A B P : FF} {n k : Nat} {R : Nat → (Nat → Int32) × Nat} (hX : XI ω A B P n k R M) (hB : WB B n) {s : Nat} {ac : Bool} (hs : s < 2 ^ 24) : Ct l ω yX4_leastCut wsX4_leastCut rmX4_leastCut [.ref (A 0 0), .int (nI s), .int (bI ac)] M (fun v M9 => v = some (.int (nI (lcut B n s ac))) ∧ M9 = M) 0 0 := by
  refine Ct.ofV (cc := cX4_leastCut) (maxL := 8) (ret := (some .int)) [some (.ref (A 0 0)), some (.int (nI s)), some (.int (bI ac)), none, none, none, none, none] (by decide) rfl (Nat.le_of_ble_eq_true rfl) rfl (Lc.av (av := [.ref (A 0 0), .int (nI s), .int (bI ac)]) (k := 5) rfl) ?_
  intro σ F hl hr hname
  have F : Fx ω σ cX4_leastCut 8 wsX4_leastCut RX4 rmX4_leastCut := F
  have hn : n ≤ 24 := hB.1
  have hW : ∀ i j, B i j < 128 := hB.2.1
  refine v_iload_n F dX4_leastCut_0 rfl ?_
  refine v_if_eq_b F 9 dX4_leastCut_1 (by decide) (fun c1 => ?_) (fun c1 => ?_)
  · refine v_bipush (v := nI 60) F dX4_leastCut_9 (by decide) ?_
    refine V.toI (show nI _ = nI (c0 ac) by simp [c0, c1]) ?_
    refine v_istore_n F dX4_leastCut_11 (Nat.le_of_ble_eq_true rfl) (ok2_d rfl) ?_
    refine v_iconst (v := nI 0) F dX4_leastCut_12 (by decide) ?_
    refine v_istore F dX4_leastCut_13 (Nat.le_of_ble_eq_true rfl) (ok2_d rfl) ?_
    have lp1 : ∀ i, i ≤ n → ∀ c w, c = lc1 B s ac i → V ω σ M [some (.ref (A 0 0)), some (.int (nI s)), some (.int (bI ac)), some (.int (nI c)), some (.int (nI i)), w, none, none] 0 0 (BQ ω σ (fun v M9 => v = some (.int (nI (lcut B n s ac))) ∧ M9 = M) 0 0) 15 [] := by
      refine loop_up n _ (fun i hi ih => ?_)
      intro c w hm
      have hc : c < 256 := by rw [hm]; exact lc1_lt s ac i
      refine v_iload F dX4_leastCut_15 rfl ?_
      refine v_aload_n F dX4_leastCut_17 rfl rfl ?_
      refine v_get F 4 1 fo_X4_leastCut_15 dX4_leastCut_18 hX.x rfl ?_
      refine v_icmp_ge_n F 59 dX4_leastCut_21 (by decide) (by first | omega | exact Nat.lt_trans (hW _ _) (by decide) | exact Nat.lt_trans (Eb_lt hW ac _) (by decide) | exact Nat.lt_trans (Gb_lt hW ac _) (by decide)) (by first | omega | exact Nat.lt_trans (hW _ _) (by decide) | exact Nat.lt_trans (Eb_lt hW ac _) (by decide) | exact Nat.lt_trans (Gb_lt hW ac _) (by decide)) (fun c21 => ?_) (fun c21 => ?_)
      · refine v_iconst (v := nI 1) F dX4_leastCut_59 (by decide) ?_
        refine v_istore F dX4_leastCut_60 (Nat.le_of_ble_eq_true rfl) (ok2_d rfl) ?_
        refine v_iconst (v := nI 0) F dX4_leastCut_62 (by decide) ?_
        refine v_istore F dX4_leastCut_63 (Nat.le_of_ble_eq_true rfl) (ok2_d rfl) ?_
        have lp2 : ∀ j, j ≤ 24 → ∀ c mv w6 w7, c < 256 → mv < 2 → lcs B s ac n (24 - j) (c, mv) = lcut B n s ac → V ω σ M [some (.ref (A 0 0)), some (.int (nI s)), some (.int (bI ac)), some (.int (nI c)), some (.int (nI mv)), some (.int (nI j)), w6, w7] 0 0 (BQ ω σ (fun v M9 => v = some (.int (nI (lcut B n s ac))) ∧ M9 = M) 0 0) 65 [] := by
          refine loop_up 24 _ (fun j hj ih2 => ?_)
          intro c mv w6 w7 hc hmv hl
          refine v_iload F dX4_leastCut_65 rfl ?_
          refine v_bipush (v := nI 24) F dX4_leastCut_67 (by decide) ?_
          refine v_icmp_ge_n F 148 dX4_leastCut_69 (by decide) (by first | omega | exact Nat.lt_trans (hW _ _) (by decide) | exact Nat.lt_trans (Eb_lt hW ac _) (by decide) | exact Nat.lt_trans (Gb_lt hW ac _) (by decide)) (by first | omega | exact Nat.lt_trans (hW _ _) (by decide) | exact Nat.lt_trans (Eb_lt hW ac _) (by decide) | exact Nat.lt_trans (Gb_lt hW ac _) (by decide)) (fun c69 => ?_) (fun c69 => ?_)
          · refine v_iload_n F dX4_leastCut_148 rfl ?_
            exact v_iret F hr dX4_leastCut_149 (Nat.le_of_ble_eq_true rfl) (Nat.le_of_ble_eq_true rfl) ⟨by rw [← hl]; first | (rw [show 24 - j = 0 by omega]; rfl) | (cases 24 - j with | zero => rfl | succ f => simp [lcs, *]), rfl⟩
          · refine v_iload F dX4_leastCut_72 rfl ?_
            refine v_if_eq_n F 148 dX4_leastCut_74 (by decide) (by first | omega | exact Nat.lt_trans (hW _ _) (by decide) | exact Nat.lt_trans (Eb_lt hW ac _) (by decide) | exact Nat.lt_trans (Gb_lt hW ac _) (by decide)) (fun c74 => ?_) (fun c74 => ?_)
            · refine v_iload_n F dX4_leastCut_148 rfl ?_
              exact v_iret F hr dX4_leastCut_149 (Nat.le_of_ble_eq_true rfl) (Nat.le_of_ble_eq_true rfl) ⟨by rw [← hl]; first | (rw [show 24 - j = 0 by omega]; rfl) | (cases 24 - j with | zero => rfl | succ f => simp [lcs, *]), rfl⟩
            · refine v_iconst (v := nI 0) F dX4_leastCut_77 (by decide) ?_
              refine v_istore F dX4_leastCut_78 (Nat.le_of_ble_eq_true rfl) (ok2_d rfl) ?_
              refine v_iconst (v := nI 0) F dX4_leastCut_80 (by decide) ?_
              refine v_istore F dX4_leastCut_81 (Nat.le_of_ble_eq_true rfl) (ok2_d rfl) ?_
              have lp3 : ∀ i, i ≤ n → ∀ c2 mv2 w7, (c2, mv2) = lcp B s ac c i → V ω σ M [some (.ref (A 0 0)), some (.int (nI s)), some (.int (bI ac)), some (.int (nI c2)), some (.int (nI mv2)), some (.int (nI j)), some (.int (nI i)), w7] 0 0 (BQ ω σ (fun v M9 => v = some (.int (nI (lcut B n s ac))) ∧ M9 = M) 0 0) 83 [] := by
                refine loop_up n _ (fun i hi ih => ?_)
                intro c2 mv2 w7 hm
                have hh := lcp_lt hW s ac hc i
                rw [← hm] at hh
                obtain ⟨hc2, hmv2⟩ := hh
                have hc2 : c2 < 256 := hc2
                have hmv2 : mv2 < 2 := hmv2
                refine v_iload F dX4_leastCut_83 rfl ?_
                refine v_aload_n F dX4_leastCut_85 rfl rfl ?_
                refine v_get F 4 1 fo_X4_leastCut_15 dX4_leastCut_86 hX.x rfl ?_
                refine v_icmp_ge_n F 142 dX4_leastCut_89 (by decide) (by first | omega | exact Nat.lt_trans (hW _ _) (by decide) | exact Nat.lt_trans (Eb_lt hW ac _) (by decide) | exact Nat.lt_trans (Gb_lt hW ac _) (by decide)) (by first | omega | exact Nat.lt_trans (hW _ _) (by decide) | exact Nat.lt_trans (Eb_lt hW ac _) (by decide) | exact Nat.lt_trans (Gb_lt hW ac _) (by decide)) (fun c89 => ?_) (fun c89 => ?_)
                · refine v_iinc1 F dX4_leastCut_142 rfl (ok2_d rfl) ?_
                  refine v_goto F 65 dX4_leastCut_145 (by decide) ?_
                  exact ih2 (by omega) _ _ _ _ hc2 hmv2 (by rw [← hl, show 24 - j = 24 - (j + 1) + 1 by omega, lcs, if_neg c74, ← show i = n by omega, ← hm])
                · have hi2 : i < n := by omega
                  rcases hb : s.testBit i with _ | _
                  · refine v_aload_n F dX4_leastCut_92 rfl rfl ?_
                    refine v_iload_n F dX4_leastCut_93 rfl ?_
                    refine v_iload F dX4_leastCut_94 rfl ?_
                    refine v_callV F 2 [_, _] rfl rfl rfl (c_boxOfSet_out hX hB hs hi2 hb) gX4_leastCut_X4_boxOfSet rfl hd_X4_boxOfSet ⟨⟨rfl, rfl⟩, ⟨(Nat.le_of_ble_eq_true rfl), (Nat.le_of_ble_eq_true rfl)⟩, ⟨(Nat.le_of_ble_eq_true rfl), (Nat.le_of_ble_eq_true rfl)⟩, (Nat.le_of_ble_eq_true rfl)⟩ hX.x rfl dX4_leastCut_96 (fun v96 M96 q96 => ?_)
                    obtain ⟨rfl, rfl⟩ := q96
                    refine v_astore F dX4_leastCut_99 rfl (Nat.le_of_ble_eq_true rfl) (ok2_d rfl) ?_
                    refine v_aload F dX4_leastCut_101 rfl rfl ?_
                    refine v_ifnull_n F 136 dX4_leastCut_103 (by decide) ?_
                    refine v_iinc1 F dX4_leastCut_136 rfl (ok2_d rfl) ?_
                    refine v_goto F 83 dX4_leastCut_139 (by decide) ?_
                    exact ih (by omega) _ _ _ (by simp only [lcp, fl_s]; rw [← lcp, ← hm]; simp only [hb, Bool.false_eq_true, false_and, true_and, if_false, ↓reduceIte]; try (split <;> first | rfl | (exfalso; omega)))
                  · refine v_aload_n F dX4_leastCut_92 rfl rfl ?_
                    refine v_iload_n F dX4_leastCut_93 rfl ?_
                    refine v_iload F dX4_leastCut_94 rfl ?_
                    refine v_callV F 2 [_, _] rfl rfl rfl (c_boxOfSet_in hX hB hs hi2 hb) gX4_leastCut_X4_boxOfSet rfl hd_X4_boxOfSet ⟨⟨rfl, rfl⟩, ⟨(Nat.le_of_ble_eq_true rfl), (Nat.le_of_ble_eq_true rfl)⟩, ⟨(Nat.le_of_ble_eq_true rfl), (Nat.le_of_ble_eq_true rfl)⟩, (Nat.le_of_ble_eq_true rfl)⟩ hX.x rfl dX4_leastCut_96 (fun v96 M96 q96 => ?_)
                    obtain ⟨rfl, rfl⟩ := q96
                    refine v_astore F dX4_leastCut_99 rfl (Nat.le_of_ble_eq_true rfl) (ok2_d rfl) ?_
                    refine v_aload F dX4_leastCut_101 rfl rfl ?_
                    refine v_ifnull_r F dX4_leastCut_103 ?_
                    refine v_aload F dX4_leastCut_106 rfl rfl ?_
                    refine v_iload_n F dX4_leastCut_108 rfl ?_
                    refine v_callV F 1 [_] rfl rfl rfl (c_X1_begin hW (hX.box hi2)) gX4_leastCut_X1_begin rfl hd_X1_begin ⟨⟨rfl, rfl⟩, ⟨(Nat.le_of_ble_eq_true rfl), (Nat.le_of_ble_eq_true rfl)⟩, ⟨(Nat.le_of_ble_eq_true rfl), (Nat.le_of_ble_eq_true rfl)⟩, (Nat.le_of_ble_eq_true rfl)⟩ (hX.box hi2) rfl dX4_leastCut_109 (fun v109 M109 q109 => ?_)
                    obtain ⟨rfl, rfl⟩ := q109
                    rw [show B i (if ac = true then 2 else 1) = Gb B ac i from rfl]
                    refine v_iload_n F dX4_leastCut_112 rfl ?_
                    refine v_icmp_ge_n F 136 dX4_leastCut_113 (by decide) (by first | omega | exact Nat.lt_trans (hW _ _) (by decide) | exact Nat.lt_trans (Eb_lt hW ac _) (by decide) | exact Nat.lt_trans (Gb_lt hW ac _) (by decide)) (by first | omega | exact Nat.lt_trans (hW _ _) (by decide) | exact Nat.lt_trans (Eb_lt hW ac _) (by decide) | exact Nat.lt_trans (Gb_lt hW ac _) (by decide)) (fun c113 => ?_) (fun c113 => ?_)
                    · refine v_iinc1 F dX4_leastCut_136 rfl (ok2_d rfl) ?_
                      refine v_goto F 83 dX4_leastCut_139 (by decide) ?_
                      exact ih (by omega) _ _ _ (by simp only [lcp, fl_s]; rw [← lcp, ← hm]; simp only [hb, Bool.false_eq_true, false_and, true_and, if_false, ↓reduceIte]; try (split <;> first | rfl | (exfalso; omega)))
                    · refine v_aload F dX4_leastCut_116 rfl rfl ?_
                      refine v_iload_n F dX4_leastCut_118 rfl ?_
                      refine v_callV F 1 [_] rfl rfl rfl (c_X1_end hW (hX.box hi2)) gX4_leastCut_X1_end rfl hd_X1_end ⟨⟨rfl, rfl⟩, ⟨(Nat.le_of_ble_eq_true rfl), (Nat.le_of_ble_eq_true rfl)⟩, ⟨(Nat.le_of_ble_eq_true rfl), (Nat.le_of_ble_eq_true rfl)⟩, (Nat.le_of_ble_eq_true rfl)⟩ (hX.box hi2) rfl dX4_leastCut_119 (fun v119 M119 q119 => ?_)
                      obtain ⟨rfl, rfl⟩ := q119
                      rw [show (if ac = true then B i 2 + B i 4 else B i 1 + B i 3) = Eb B ac i from rfl]
                      refine v_iload_n F dX4_leastCut_122 rfl ?_
                      refine v_icmp_le_n F 136 dX4_leastCut_123 (by decide) (by first | omega | exact Nat.lt_trans (hW _ _) (by decide) | exact Nat.lt_trans (Eb_lt hW ac _) (by decide) | exact Nat.lt_trans (Gb_lt hW ac _) (by decide)) (by first | omega | exact Nat.lt_trans (hW _ _) (by decide) | exact Nat.lt_trans (Eb_lt hW ac _) (by decide) | exact Nat.lt_trans (Gb_lt hW ac _) (by decide)) (fun c123 => ?_) (fun c123 => ?_)
                      · refine v_iinc1 F dX4_leastCut_136 rfl (ok2_d rfl) ?_
                        refine v_goto F 83 dX4_leastCut_139 (by decide) ?_
                        exact ih (by omega) _ _ _ (by simp only [lcp, fl_s]; rw [← lcp, ← hm]; simp only [hb, Bool.false_eq_true, false_and, true_and, if_false, ↓reduceIte]; try (split <;> first | rfl | (exfalso; omega)))
                      · refine v_aload F dX4_leastCut_126 rfl rfl ?_
                        refine v_iload_n F dX4_leastCut_128 rfl ?_
                        refine v_callV F 1 [_] rfl rfl rfl (c_X1_end hW (hX.box hi2)) gX4_leastCut_X1_end rfl hd_X1_end ⟨⟨rfl, rfl⟩, ⟨(Nat.le_of_ble_eq_true rfl), (Nat.le_of_ble_eq_true rfl)⟩, ⟨(Nat.le_of_ble_eq_true rfl), (Nat.le_of_ble_eq_true rfl)⟩, (Nat.le_of_ble_eq_true rfl)⟩ (hX.box hi2) rfl dX4_leastCut_129 (fun v129 M129 q129 => ?_)
                        obtain ⟨rfl, rfl⟩ := q129
                        rw [show (if ac = true then B i 2 + B i 4 else B i 1 + B i 3) = Eb B ac i from rfl]
                        refine v_istore_n F dX4_leastCut_132 (Nat.le_of_ble_eq_true rfl) (ok2_d rfl) ?_
                        refine v_iconst (v := nI 1) F dX4_leastCut_133 (by decide) ?_
                        refine v_istore F dX4_leastCut_134 (Nat.le_of_ble_eq_true rfl) (ok2_d rfl) ?_
                        refine v_iinc1 F dX4_leastCut_136 rfl (ok2_d rfl) ?_
                        refine v_goto F 83 dX4_leastCut_139 (by decide) ?_
                        exact ih (by omega) _ _ _ (by simp only [lcp, fl_s]; rw [← lcp, ← hm]; simp only [hb, Bool.false_eq_true, false_and, true_and, if_false, ↓reduceIte]; try (split <;> first | rfl | (exfalso; omega)))
              exact lp3 0 (Nat.zero_le _) _ _ _ rfl
        exact lp2 0 (Nat.zero_le _) _ _ _ _ hc (by decide) (by rw [hm, show i = n by omega]; rfl)
      · have hi2 : i < n := by omega
        rcases hb : s.testBit i with _ | _
        · refine v_aload_n F dX4_leastCut_24 rfl rfl ?_
          refine v_iload_n F dX4_leastCut_25 rfl ?_
          refine v_iload F dX4_leastCut_26 rfl ?_
          refine v_callV F 2 [_, _] rfl rfl rfl (c_boxOfSet_out hX hB hs hi2 hb) gX4_leastCut_X4_boxOfSet rfl hd_X4_boxOfSet ⟨⟨rfl, rfl⟩, ⟨(Nat.le_of_ble_eq_true rfl), (Nat.le_of_ble_eq_true rfl)⟩, ⟨(Nat.le_of_ble_eq_true rfl), (Nat.le_of_ble_eq_true rfl)⟩, (Nat.le_of_ble_eq_true rfl)⟩ hX.x rfl dX4_leastCut_28 (fun v28 M28 q28 => ?_)
          obtain ⟨rfl, rfl⟩ := q28
          refine v_astore F dX4_leastCut_31 rfl (Nat.le_of_ble_eq_true rfl) (ok2_d rfl) ?_
          refine v_aload F dX4_leastCut_33 rfl rfl ?_
          refine v_ifnull_n F 51 dX4_leastCut_35 (by decide) ?_
          refine v_iload_n F dX4_leastCut_51 rfl ?_
          refine v_istore_n F dX4_leastCut_52 (Nat.le_of_ble_eq_true rfl) (ok2_d rfl) ?_
          refine v_iinc1 F dX4_leastCut_53 rfl (ok2_d rfl) ?_
          refine v_goto F 15 dX4_leastCut_56 (by decide) ?_
          exact ih (by omega) _ _ (by simp only [lc1, fl_s]; rw [← lc1, ← hm]; simp [hb])
        · refine v_aload_n F dX4_leastCut_24 rfl rfl ?_
          refine v_iload_n F dX4_leastCut_25 rfl ?_
          refine v_iload F dX4_leastCut_26 rfl ?_
          refine v_callV F 2 [_, _] rfl rfl rfl (c_boxOfSet_in hX hB hs hi2 hb) gX4_leastCut_X4_boxOfSet rfl hd_X4_boxOfSet ⟨⟨rfl, rfl⟩, ⟨(Nat.le_of_ble_eq_true rfl), (Nat.le_of_ble_eq_true rfl)⟩, ⟨(Nat.le_of_ble_eq_true rfl), (Nat.le_of_ble_eq_true rfl)⟩, (Nat.le_of_ble_eq_true rfl)⟩ hX.x rfl dX4_leastCut_28 (fun v28 M28 q28 => ?_)
          obtain ⟨rfl, rfl⟩ := q28
          refine v_astore F dX4_leastCut_31 rfl (Nat.le_of_ble_eq_true rfl) (ok2_d rfl) ?_
          refine v_aload F dX4_leastCut_33 rfl rfl ?_
          refine v_ifnull_r F dX4_leastCut_35 ?_
          refine v_iload_n F dX4_leastCut_38 rfl ?_
          refine v_aload F dX4_leastCut_39 rfl rfl ?_
          refine v_iload_n F dX4_leastCut_41 rfl ?_
          refine v_callV F 1 [_] rfl rfl rfl (c_X1_end hW (hX.box hi2)) gX4_leastCut_X1_end rfl hd_X1_end ⟨⟨rfl, rfl⟩, ⟨(Nat.le_of_ble_eq_true rfl), (Nat.le_of_ble_eq_true rfl)⟩, ⟨(Nat.le_of_ble_eq_true rfl), (Nat.le_of_ble_eq_true rfl)⟩, (Nat.le_of_ble_eq_true rfl)⟩ (hX.box hi2) rfl dX4_leastCut_42 (fun v42 M42 q42 => ?_)
          obtain ⟨rfl, rfl⟩ := q42
          rw [show (if ac = true then B i 2 + B i 4 else B i 1 + B i 3) = Eb B ac i from rfl]
          refine v_mmin_n F (by omega) (Nat.lt_trans (Eb_lt hW ac _) (by decide)) rfl (by decide +kernel) (by decide +kernel) (by decide +kernel) (by decide +kernel) dX4_leastCut_45 ⟨Nat.le_of_ble_eq_true rfl, Nat.le_of_ble_eq_true rfl, Nat.le_of_ble_eq_true rfl, Nat.le_of_ble_eq_true rfl⟩ ?_
          refine v_goto F 52 dX4_leastCut_48 (by decide) ?_
          refine v_istore_n F dX4_leastCut_52 (Nat.le_of_ble_eq_true rfl) (ok2_d rfl) ?_
          refine v_iinc1 F dX4_leastCut_53 rfl (ok2_d rfl) ?_
          refine v_goto F 15 dX4_leastCut_56 (by decide) ?_
          exact ih (by omega) _ _ (by simp only [lc1, fl_s]; rw [← lc1, ← hm]; simp [hb])
    exact lp1 0 (Nat.zero_le _) _ _ rfl
  · refine v_bipush (v := nI 80) F dX4_leastCut_4 (by decide) ?_
    refine v_goto F 11 dX4_leastCut_6 (by decide) ?_
    refine V.toI (show nI _ = nI (c0 ac) by simp [c0, c1]) ?_
    refine v_istore_n F dX4_leastCut_11 (Nat.le_of_ble_eq_true rfl) (ok2_d rfl) ?_
    refine v_iconst (v := nI 0) F dX4_leastCut_12 (by decide) ?_
    refine v_istore F dX4_leastCut_13 (Nat.le_of_ble_eq_true rfl) (ok2_d rfl) ?_
    have lp1 : ∀ i, i ≤ n → ∀ c w, c = lc1 B s ac i → V ω σ M [some (.ref (A 0 0)), some (.int (nI s)), some (.int (bI ac)), some (.int (nI c)), some (.int (nI i)), w, none, none] 0 0 (BQ ω σ (fun v M9 => v = some (.int (nI (lcut B n s ac))) ∧ M9 = M) 0 0) 15 [] := by
      refine loop_up n _ (fun i hi ih => ?_)
      intro c w hm
      have hc : c < 256 := by rw [hm]; exact lc1_lt s ac i
      refine v_iload F dX4_leastCut_15 rfl ?_
      refine v_aload_n F dX4_leastCut_17 rfl rfl ?_
      refine v_get F 4 1 fo_X4_leastCut_15 dX4_leastCut_18 hX.x rfl ?_
      refine v_icmp_ge_n F 59 dX4_leastCut_21 (by decide) (by first | omega | exact Nat.lt_trans (hW _ _) (by decide) | exact Nat.lt_trans (Eb_lt hW ac _) (by decide) | exact Nat.lt_trans (Gb_lt hW ac _) (by decide)) (by first | omega | exact Nat.lt_trans (hW _ _) (by decide) | exact Nat.lt_trans (Eb_lt hW ac _) (by decide) | exact Nat.lt_trans (Gb_lt hW ac _) (by decide)) (fun c21 => ?_) (fun c21 => ?_)
      · refine v_iconst (v := nI 1) F dX4_leastCut_59 (by decide) ?_
        refine v_istore F dX4_leastCut_60 (Nat.le_of_ble_eq_true rfl) (ok2_d rfl) ?_
        refine v_iconst (v := nI 0) F dX4_leastCut_62 (by decide) ?_
        refine v_istore F dX4_leastCut_63 (Nat.le_of_ble_eq_true rfl) (ok2_d rfl) ?_
        have lp2 : ∀ j, j ≤ 24 → ∀ c mv w6 w7, c < 256 → mv < 2 → lcs B s ac n (24 - j) (c, mv) = lcut B n s ac → V ω σ M [some (.ref (A 0 0)), some (.int (nI s)), some (.int (bI ac)), some (.int (nI c)), some (.int (nI mv)), some (.int (nI j)), w6, w7] 0 0 (BQ ω σ (fun v M9 => v = some (.int (nI (lcut B n s ac))) ∧ M9 = M) 0 0) 65 [] := by
          refine loop_up 24 _ (fun j hj ih2 => ?_)
          intro c mv w6 w7 hc hmv hl
          refine v_iload F dX4_leastCut_65 rfl ?_
          refine v_bipush (v := nI 24) F dX4_leastCut_67 (by decide) ?_
          refine v_icmp_ge_n F 148 dX4_leastCut_69 (by decide) (by first | omega | exact Nat.lt_trans (hW _ _) (by decide) | exact Nat.lt_trans (Eb_lt hW ac _) (by decide) | exact Nat.lt_trans (Gb_lt hW ac _) (by decide)) (by first | omega | exact Nat.lt_trans (hW _ _) (by decide) | exact Nat.lt_trans (Eb_lt hW ac _) (by decide) | exact Nat.lt_trans (Gb_lt hW ac _) (by decide)) (fun c69 => ?_) (fun c69 => ?_)
          · refine v_iload_n F dX4_leastCut_148 rfl ?_
            exact v_iret F hr dX4_leastCut_149 (Nat.le_of_ble_eq_true rfl) (Nat.le_of_ble_eq_true rfl) ⟨by rw [← hl]; first | (rw [show 24 - j = 0 by omega]; rfl) | (cases 24 - j with | zero => rfl | succ f => simp [lcs, *]), rfl⟩
          · refine v_iload F dX4_leastCut_72 rfl ?_
            refine v_if_eq_n F 148 dX4_leastCut_74 (by decide) (by first | omega | exact Nat.lt_trans (hW _ _) (by decide) | exact Nat.lt_trans (Eb_lt hW ac _) (by decide) | exact Nat.lt_trans (Gb_lt hW ac _) (by decide)) (fun c74 => ?_) (fun c74 => ?_)
            · refine v_iload_n F dX4_leastCut_148 rfl ?_
              exact v_iret F hr dX4_leastCut_149 (Nat.le_of_ble_eq_true rfl) (Nat.le_of_ble_eq_true rfl) ⟨by rw [← hl]; first | (rw [show 24 - j = 0 by omega]; rfl) | (cases 24 - j with | zero => rfl | succ f => simp [lcs, *]), rfl⟩
            · refine v_iconst (v := nI 0) F dX4_leastCut_77 (by decide) ?_
              refine v_istore F dX4_leastCut_78 (Nat.le_of_ble_eq_true rfl) (ok2_d rfl) ?_
              refine v_iconst (v := nI 0) F dX4_leastCut_80 (by decide) ?_
              refine v_istore F dX4_leastCut_81 (Nat.le_of_ble_eq_true rfl) (ok2_d rfl) ?_
              have lp3 : ∀ i, i ≤ n → ∀ c2 mv2 w7, (c2, mv2) = lcp B s ac c i → V ω σ M [some (.ref (A 0 0)), some (.int (nI s)), some (.int (bI ac)), some (.int (nI c2)), some (.int (nI mv2)), some (.int (nI j)), some (.int (nI i)), w7] 0 0 (BQ ω σ (fun v M9 => v = some (.int (nI (lcut B n s ac))) ∧ M9 = M) 0 0) 83 [] := by
                refine loop_up n _ (fun i hi ih => ?_)
                intro c2 mv2 w7 hm
                have hh := lcp_lt hW s ac hc i
                rw [← hm] at hh
                obtain ⟨hc2, hmv2⟩ := hh
                have hc2 : c2 < 256 := hc2
                have hmv2 : mv2 < 2 := hmv2
                refine v_iload F dX4_leastCut_83 rfl ?_
                refine v_aload_n F dX4_leastCut_85 rfl rfl ?_
                refine v_get F 4 1 fo_X4_leastCut_15 dX4_leastCut_86 hX.x rfl ?_
                refine v_icmp_ge_n F 142 dX4_leastCut_89 (by decide) (by first | omega | exact Nat.lt_trans (hW _ _) (by decide) | exact Nat.lt_trans (Eb_lt hW ac _) (by decide) | exact Nat.lt_trans (Gb_lt hW ac _) (by decide)) (by first | omega | exact Nat.lt_trans (hW _ _) (by decide) | exact Nat.lt_trans (Eb_lt hW ac _) (by decide) | exact Nat.lt_trans (Gb_lt hW ac _) (by decide)) (fun c89 => ?_) (fun c89 => ?_)
                · refine v_iinc1 F dX4_leastCut_142 rfl (ok2_d rfl) ?_
                  refine v_goto F 65 dX4_leastCut_145 (by decide) ?_
                  exact ih2 (by omega) _ _ _ _ hc2 hmv2 (by rw [← hl, show 24 - j = 24 - (j + 1) + 1 by omega, lcs, if_neg c74, ← show i = n by omega, ← hm])
                · have hi2 : i < n := by omega
                  rcases hb : s.testBit i with _ | _
                  · refine v_aload_n F dX4_leastCut_92 rfl rfl ?_
                    refine v_iload_n F dX4_leastCut_93 rfl ?_
                    refine v_iload F dX4_leastCut_94 rfl ?_
                    refine v_callV F 2 [_, _] rfl rfl rfl (c_boxOfSet_out hX hB hs hi2 hb) gX4_leastCut_X4_boxOfSet rfl hd_X4_boxOfSet ⟨⟨rfl, rfl⟩, ⟨(Nat.le_of_ble_eq_true rfl), (Nat.le_of_ble_eq_true rfl)⟩, ⟨(Nat.le_of_ble_eq_true rfl), (Nat.le_of_ble_eq_true rfl)⟩, (Nat.le_of_ble_eq_true rfl)⟩ hX.x rfl dX4_leastCut_96 (fun v96 M96 q96 => ?_)
                    obtain ⟨rfl, rfl⟩ := q96
                    refine v_astore F dX4_leastCut_99 rfl (Nat.le_of_ble_eq_true rfl) (ok2_d rfl) ?_
                    refine v_aload F dX4_leastCut_101 rfl rfl ?_
                    refine v_ifnull_n F 136 dX4_leastCut_103 (by decide) ?_
                    refine v_iinc1 F dX4_leastCut_136 rfl (ok2_d rfl) ?_
                    refine v_goto F 83 dX4_leastCut_139 (by decide) ?_
                    exact ih (by omega) _ _ _ (by simp only [lcp, fl_s]; rw [← lcp, ← hm]; simp only [hb, Bool.false_eq_true, false_and, true_and, if_false, ↓reduceIte]; try (split <;> first | rfl | (exfalso; omega)))
                  · refine v_aload_n F dX4_leastCut_92 rfl rfl ?_
                    refine v_iload_n F dX4_leastCut_93 rfl ?_
                    refine v_iload F dX4_leastCut_94 rfl ?_
                    refine v_callV F 2 [_, _] rfl rfl rfl (c_boxOfSet_in hX hB hs hi2 hb) gX4_leastCut_X4_boxOfSet rfl hd_X4_boxOfSet ⟨⟨rfl, rfl⟩, ⟨(Nat.le_of_ble_eq_true rfl), (Nat.le_of_ble_eq_true rfl)⟩, ⟨(Nat.le_of_ble_eq_true rfl), (Nat.le_of_ble_eq_true rfl)⟩, (Nat.le_of_ble_eq_true rfl)⟩ hX.x rfl dX4_leastCut_96 (fun v96 M96 q96 => ?_)
                    obtain ⟨rfl, rfl⟩ := q96
                    refine v_astore F dX4_leastCut_99 rfl (Nat.le_of_ble_eq_true rfl) (ok2_d rfl) ?_
                    refine v_aload F dX4_leastCut_101 rfl rfl ?_
                    refine v_ifnull_r F dX4_leastCut_103 ?_
                    refine v_aload F dX4_leastCut_106 rfl rfl ?_
                    refine v_iload_n F dX4_leastCut_108 rfl ?_
                    refine v_callV F 1 [_] rfl rfl rfl (c_X1_begin hW (hX.box hi2)) gX4_leastCut_X1_begin rfl hd_X1_begin ⟨⟨rfl, rfl⟩, ⟨(Nat.le_of_ble_eq_true rfl), (Nat.le_of_ble_eq_true rfl)⟩, ⟨(Nat.le_of_ble_eq_true rfl), (Nat.le_of_ble_eq_true rfl)⟩, (Nat.le_of_ble_eq_true rfl)⟩ (hX.box hi2) rfl dX4_leastCut_109 (fun v109 M109 q109 => ?_)
                    obtain ⟨rfl, rfl⟩ := q109
                    rw [show B i (if ac = true then 2 else 1) = Gb B ac i from rfl]
                    refine v_iload_n F dX4_leastCut_112 rfl ?_
                    refine v_icmp_ge_n F 136 dX4_leastCut_113 (by decide) (by first | omega | exact Nat.lt_trans (hW _ _) (by decide) | exact Nat.lt_trans (Eb_lt hW ac _) (by decide) | exact Nat.lt_trans (Gb_lt hW ac _) (by decide)) (by first | omega | exact Nat.lt_trans (hW _ _) (by decide) | exact Nat.lt_trans (Eb_lt hW ac _) (by decide) | exact Nat.lt_trans (Gb_lt hW ac _) (by decide)) (fun c113 => ?_) (fun c113 => ?_)
                    · refine v_iinc1 F dX4_leastCut_136 rfl (ok2_d rfl) ?_
                      refine v_goto F 83 dX4_leastCut_139 (by decide) ?_
                      exact ih (by omega) _ _ _ (by simp only [lcp, fl_s]; rw [← lcp, ← hm]; simp only [hb, Bool.false_eq_true, false_and, true_and, if_false, ↓reduceIte]; try (split <;> first | rfl | (exfalso; omega)))
                    · refine v_aload F dX4_leastCut_116 rfl rfl ?_
                      refine v_iload_n F dX4_leastCut_118 rfl ?_
                      refine v_callV F 1 [_] rfl rfl rfl (c_X1_end hW (hX.box hi2)) gX4_leastCut_X1_end rfl hd_X1_end ⟨⟨rfl, rfl⟩, ⟨(Nat.le_of_ble_eq_true rfl), (Nat.le_of_ble_eq_true rfl)⟩, ⟨(Nat.le_of_ble_eq_true rfl), (Nat.le_of_ble_eq_true rfl)⟩, (Nat.le_of_ble_eq_true rfl)⟩ (hX.box hi2) rfl dX4_leastCut_119 (fun v119 M119 q119 => ?_)
                      obtain ⟨rfl, rfl⟩ := q119
                      rw [show (if ac = true then B i 2 + B i 4 else B i 1 + B i 3) = Eb B ac i from rfl]
                      refine v_iload_n F dX4_leastCut_122 rfl ?_
                      refine v_icmp_le_n F 136 dX4_leastCut_123 (by decide) (by first | omega | exact Nat.lt_trans (hW _ _) (by decide) | exact Nat.lt_trans (Eb_lt hW ac _) (by decide) | exact Nat.lt_trans (Gb_lt hW ac _) (by decide)) (by first | omega | exact Nat.lt_trans (hW _ _) (by decide) | exact Nat.lt_trans (Eb_lt hW ac _) (by decide) | exact Nat.lt_trans (Gb_lt hW ac _) (by decide)) (fun c123 => ?_) (fun c123 => ?_)
                      · refine v_iinc1 F dX4_leastCut_136 rfl (ok2_d rfl) ?_
                        refine v_goto F 83 dX4_leastCut_139 (by decide) ?_
                        exact ih (by omega) _ _ _ (by simp only [lcp, fl_s]; rw [← lcp, ← hm]; simp only [hb, Bool.false_eq_true, false_and, true_and, if_false, ↓reduceIte]; try (split <;> first | rfl | (exfalso; omega)))
                      · refine v_aload F dX4_leastCut_126 rfl rfl ?_
                        refine v_iload_n F dX4_leastCut_128 rfl ?_
                        refine v_callV F 1 [_] rfl rfl rfl (c_X1_end hW (hX.box hi2)) gX4_leastCut_X1_end rfl hd_X1_end ⟨⟨rfl, rfl⟩, ⟨(Nat.le_of_ble_eq_true rfl), (Nat.le_of_ble_eq_true rfl)⟩, ⟨(Nat.le_of_ble_eq_true rfl), (Nat.le_of_ble_eq_true rfl)⟩, (Nat.le_of_ble_eq_true rfl)⟩ (hX.box hi2) rfl dX4_leastCut_129 (fun v129 M129 q129 => ?_)
                        obtain ⟨rfl, rfl⟩ := q129
                        rw [show (if ac = true then B i 2 + B i 4 else B i 1 + B i 3) = Eb B ac i from rfl]
                        refine v_istore_n F dX4_leastCut_132 (Nat.le_of_ble_eq_true rfl) (ok2_d rfl) ?_
                        refine v_iconst (v := nI 1) F dX4_leastCut_133 (by decide) ?_
                        refine v_istore F dX4_leastCut_134 (Nat.le_of_ble_eq_true rfl) (ok2_d rfl) ?_
                        refine v_iinc1 F dX4_leastCut_136 rfl (ok2_d rfl) ?_
                        refine v_goto F 83 dX4_leastCut_139 (by decide) ?_
                        exact ih (by omega) _ _ _ (by simp only [lcp, fl_s]; rw [← lcp, ← hm]; simp only [hb, Bool.false_eq_true, false_and, true_and, if_false, ↓reduceIte]; try (split <;> first | rfl | (exfalso; omega)))
              exact lp3 0 (Nat.zero_le _) _ _ _ rfl
        exact lp2 0 (Nat.zero_le _) _ _ _ _ hc (by decide) (by rw [hm, show i = n by omega]; rfl)
      · have hi2 : i < n := by omega
        rcases hb : s.testBit i with _ | _
        · refine v_aload_n F dX4_leastCut_24 rfl rfl ?_
          refine v_iload_n F dX4_leastCut_25 rfl ?_
          refine v_iload F dX4_leastCut_26 rfl ?_
          refine v_callV F 2 [_, _] rfl rfl rfl (c_boxOfSet_out hX hB hs hi2 hb) gX4_leastCut_X4_boxOfSet rfl hd_X4_boxOfSet ⟨⟨rfl, rfl⟩, ⟨(Nat.le_of_ble_eq_true rfl), (Nat.le_of_ble_eq_true rfl)⟩, ⟨(Nat.le_of_ble_eq_true rfl), (Nat.le_of_ble_eq_true rfl)⟩, (Nat.le_of_ble_eq_true rfl)⟩ hX.x rfl dX4_leastCut_28 (fun v28 M28 q28 => ?_)
          obtain ⟨rfl, rfl⟩ := q28
          refine v_astore F dX4_leastCut_31 rfl (Nat.le_of_ble_eq_true rfl) (ok2_d rfl) ?_
          refine v_aload F dX4_leastCut_33 rfl rfl ?_
          refine v_ifnull_n F 51 dX4_leastCut_35 (by decide) ?_
          refine v_iload_n F dX4_leastCut_51 rfl ?_
          refine v_istore_n F dX4_leastCut_52 (Nat.le_of_ble_eq_true rfl) (ok2_d rfl) ?_
          refine v_iinc1 F dX4_leastCut_53 rfl (ok2_d rfl) ?_
          refine v_goto F 15 dX4_leastCut_56 (by decide) ?_
          exact ih (by omega) _ _ (by simp only [lc1, fl_s]; rw [← lc1, ← hm]; simp [hb])
        · refine v_aload_n F dX4_leastCut_24 rfl rfl ?_
          refine v_iload_n F dX4_leastCut_25 rfl ?_
          refine v_iload F dX4_leastCut_26 rfl ?_
          refine v_callV F 2 [_, _] rfl rfl rfl (c_boxOfSet_in hX hB hs hi2 hb) gX4_leastCut_X4_boxOfSet rfl hd_X4_boxOfSet ⟨⟨rfl, rfl⟩, ⟨(Nat.le_of_ble_eq_true rfl), (Nat.le_of_ble_eq_true rfl)⟩, ⟨(Nat.le_of_ble_eq_true rfl), (Nat.le_of_ble_eq_true rfl)⟩, (Nat.le_of_ble_eq_true rfl)⟩ hX.x rfl dX4_leastCut_28 (fun v28 M28 q28 => ?_)
          obtain ⟨rfl, rfl⟩ := q28
          refine v_astore F dX4_leastCut_31 rfl (Nat.le_of_ble_eq_true rfl) (ok2_d rfl) ?_
          refine v_aload F dX4_leastCut_33 rfl rfl ?_
          refine v_ifnull_r F dX4_leastCut_35 ?_
          refine v_iload_n F dX4_leastCut_38 rfl ?_
          refine v_aload F dX4_leastCut_39 rfl rfl ?_
          refine v_iload_n F dX4_leastCut_41 rfl ?_
          refine v_callV F 1 [_] rfl rfl rfl (c_X1_end hW (hX.box hi2)) gX4_leastCut_X1_end rfl hd_X1_end ⟨⟨rfl, rfl⟩, ⟨(Nat.le_of_ble_eq_true rfl), (Nat.le_of_ble_eq_true rfl)⟩, ⟨(Nat.le_of_ble_eq_true rfl), (Nat.le_of_ble_eq_true rfl)⟩, (Nat.le_of_ble_eq_true rfl)⟩ (hX.box hi2) rfl dX4_leastCut_42 (fun v42 M42 q42 => ?_)
          obtain ⟨rfl, rfl⟩ := q42
          rw [show (if ac = true then B i 2 + B i 4 else B i 1 + B i 3) = Eb B ac i from rfl]
          refine v_mmin_n F (by omega) (Nat.lt_trans (Eb_lt hW ac _) (by decide)) rfl (by decide +kernel) (by decide +kernel) (by decide +kernel) (by decide +kernel) dX4_leastCut_45 ⟨Nat.le_of_ble_eq_true rfl, Nat.le_of_ble_eq_true rfl, Nat.le_of_ble_eq_true rfl, Nat.le_of_ble_eq_true rfl⟩ ?_
          refine v_goto F 52 dX4_leastCut_48 (by decide) ?_
          refine v_istore_n F dX4_leastCut_52 (Nat.le_of_ble_eq_true rfl) (ok2_d rfl) ?_
          refine v_iinc1 F dX4_leastCut_53 rfl (ok2_d rfl) ?_
          refine v_goto F 15 dX4_leastCut_56 (by decide) ?_
          exact ih (by omega) _ _ (by simp only [lc1, fl_s]; rw [← lc1, ← hm]; simp [hb])
    exact lp1 0 (Nat.zero_le _) _ _ rfl
def rmX4_cutOff : Room := { frames := 2, cells := 0, slots := 0, locals := 57 }
theorem hd_X4_cutOff : yX4_cutOff.cls = (RX4, TX4, 7).1 ∧ yX4_cutOff.cls ≠ "java/lang/invoke/MethodHandle" ∧ yX4_cutOff.cls ≠ "java/lang/invoke/VarHandle" ∧ (parseMethodDescriptor yX4_cutOff.desc).map (fun d => d.parameters.length) = some 1 := by decide +kernel
set_option maxHeartbeats 4000000 in
set_option maxRecDepth 100000 in
theorem c_cuo {l : Launch} {ω : Om} {M : MM} {A B P : FF} {n k : Nat} {R : Nat → (Nat → Int32) × Nat} (hX : XI ω A B P n k R M) (hB : WB B n) {s : Nat} (hs : s < 2 ^ 24) : Ct l ω yX4_cutOff wsX4_cutOff rmX4_cutOff [.ref (A 0 0), .int (nI s)] M (fun v M9 => v = some (.int (nI (cuo B n s))) ∧ M9 = M) 0 0 := by
  refine Ct.ofV (cc := cX4_cutOff) (maxL := 4) (ret := (some .int)) [some (.ref (A 0 0)), some (.int (nI s)), none, none] (by decide) rfl (Nat.le_of_ble_eq_true rfl) rfl (Lc.av (av := [.ref (A 0 0), .int (nI s)]) (k := 2) rfl) ?_
  intro σ F hl hr hname
  have F : Fx ω σ cX4_cutOff 4 wsX4_cutOff RX4 rmX4_cutOff := F
  have hn : n ≤ 24 := hB.1
  have hW : ∀ i j, B i j < 128 := hB.2.1
  refine v_aload_n F dX4_cutOff_0 rfl rfl ?_
  refine v_aload_n F dX4_cutOff_1 rfl rfl ?_
  refine v_iload_n F dX4_cutOff_2 rfl ?_
  refine v_iconst (v := nI 1) F dX4_cutOff_3 (by decide) ?_
  refine v_callV F 2 [_, _] rfl rfl rfl (c_lcut (ac := true) hX hB hs) gX4_cutOff_X4_leastCut rfl hd_X4_leastCut ⟨⟨rfl, rfl⟩, ⟨(Nat.le_of_ble_eq_true rfl), (Nat.le_of_ble_eq_true rfl)⟩, ⟨(Nat.le_of_ble_eq_true rfl), (Nat.le_of_ble_eq_true rfl)⟩, (Nat.le_of_ble_eq_true rfl)⟩ hX.x rfl dX4_cutOff_4 (fun v4 M4 q4 => ?_)
  obtain ⟨rfl, rfl⟩ := q4
  refine v_iload_n F dX4_cutOff_7 rfl ?_
  refine v_iconst (v := nI 1) F dX4_cutOff_8 (by decide) ?_
  refine v_callV F 3 [_, _, _] rfl rfl rfl (c_enb (ac := true) hX hB (lcut_lt hW n s true) hs) gX4_cutOff_X4_endedBy rfl hd_X4_endedBy ⟨⟨rfl, rfl⟩, ⟨(Nat.le_of_ble_eq_true rfl), (Nat.le_of_ble_eq_true rfl)⟩, ⟨(Nat.le_of_ble_eq_true rfl), (Nat.le_of_ble_eq_true rfl)⟩, (Nat.le_of_ble_eq_true rfl)⟩ hX.x rfl dX4_cutOff_9 (fun v9 M9 q9 => ?_)
  obtain ⟨rfl, rfl⟩ := q9
  refine v_istore_n F dX4_cutOff_12 (Nat.le_of_ble_eq_true rfl) (ok2_d rfl) ?_
  refine v_iload_n F dX4_cutOff_13 rfl ?_
  refine v_iload_n F dX4_cutOff_14 rfl ?_
  refine v_icmp_eq_n F 20 dX4_cutOff_15 (by decide) (by first | omega | exact Nat.lt_trans (enb_lt _ _ _ _ n hn) (by decide)) (by first | omega | exact Nat.lt_trans (enb_lt _ _ _ _ n hn) (by decide)) (fun c15 => ?_) (fun c15 => ?_)
  · refine v_aload_n F dX4_cutOff_20 rfl rfl ?_
    refine v_aload_n F dX4_cutOff_21 rfl rfl ?_
    refine v_iload_n F dX4_cutOff_22 rfl ?_
    refine v_iconst (v := nI 0) F dX4_cutOff_23 (by decide) ?_
    refine v_callV F 2 [_, _] rfl rfl rfl (c_lcut (ac := false) hX hB hs) gX4_cutOff_X4_leastCut rfl hd_X4_leastCut ⟨⟨rfl, rfl⟩, ⟨(Nat.le_of_ble_eq_true rfl), (Nat.le_of_ble_eq_true rfl)⟩, ⟨(Nat.le_of_ble_eq_true rfl), (Nat.le_of_ble_eq_true rfl)⟩, (Nat.le_of_ble_eq_true rfl)⟩ hX.x rfl dX4_cutOff_24 (fun v24 M24 q24 => ?_)
    obtain ⟨rfl, rfl⟩ := q24
    refine v_iload_n F dX4_cutOff_27 rfl ?_
    refine v_iconst (v := nI 0) F dX4_cutOff_28 (by decide) ?_
    refine v_callV F 3 [_, _, _] rfl rfl rfl (c_enb (ac := false) hX hB (lcut_lt hW n s false) hs) gX4_cutOff_X4_endedBy rfl hd_X4_endedBy ⟨⟨rfl, rfl⟩, ⟨(Nat.le_of_ble_eq_true rfl), (Nat.le_of_ble_eq_true rfl)⟩, ⟨(Nat.le_of_ble_eq_true rfl), (Nat.le_of_ble_eq_true rfl)⟩, (Nat.le_of_ble_eq_true rfl)⟩ hX.x rfl dX4_cutOff_29 (fun v29 M29 q29 => ?_)
    obtain ⟨rfl, rfl⟩ := q29
    refine v_istore_n F dX4_cutOff_32 (Nat.le_of_ble_eq_true rfl) (ok2_d rfl) ?_
    refine v_iload_n F dX4_cutOff_33 rfl ?_
    refine v_iload_n F dX4_cutOff_34 rfl ?_
    refine v_icmp_eq_n F 42 dX4_cutOff_35 (by decide) (by first | omega | exact Nat.lt_trans (enb_lt _ _ _ _ n hn) (by decide)) (by first | omega | exact Nat.lt_trans (enb_lt _ _ _ _ n hn) (by decide)) (fun c35 => ?_) (fun c35 => ?_)
    · refine v_iconst (v := nI 0) F dX4_cutOff_42 (by decide) ?_
      exact v_iret F hr dX4_cutOff_43 (Nat.le_of_ble_eq_true rfl) (Nat.le_of_ble_eq_true rfl) ⟨by simp only [cuo]; simp [*], rfl⟩
    · refine v_iload_n F dX4_cutOff_38 rfl ?_
      refine v_goto F 43 dX4_cutOff_39 (by decide) ?_
      exact v_iret F hr dX4_cutOff_43 (Nat.le_of_ble_eq_true rfl) (Nat.le_of_ble_eq_true rfl) ⟨by simp only [cuo]; simp [*], rfl⟩
  · refine v_iload_n F dX4_cutOff_18 rfl ?_
    exact v_iret F hr dX4_cutOff_19 (Nat.le_of_ble_eq_true rfl) (Nat.le_of_ble_eq_true rfl) ⟨by simp only [cuo]; simp [*], rfl⟩
def rmX4_firstByEdges : Room := { frames := 1, cells := 0, slots := 0, locals := 23 }
theorem hd_X4_firstByEdges : yX4_firstByEdges.cls = (RX4, TX4, 7).1 ∧ yX4_firstByEdges.cls ≠ "java/lang/invoke/MethodHandle" ∧ yX4_firstByEdges.cls ≠ "java/lang/invoke/VarHandle" ∧ (parseMethodDescriptor yX4_firstByEdges.desc).map (fun d => d.parameters.length) = some 1 := by decide +kernel
theorem fo_X4_firstByEdges_15 : FO wsX4_firstByEdges RX4 15 4 1 := ⟨_, _, _, rfl, by decide, by decide +kernel, by decide +kernel⟩
set_option maxHeartbeats 4000000 in
set_option maxRecDepth 100000 in
theorem c_fbe {l : Launch} {ω : Om} {M : MM} {A B P : FF} {n k : Nat} {R : Nat → (Nat → Int32) × Nat} (hX : XI ω A B P n k R M) (hB : WB B n) {s : Nat} (hs : s < 2 ^ 24) : Ct l ω yX4_firstByEdges wsX4_firstByEdges rmX4_firstByEdges [.ref (A 0 0), .int (nI s)] M (fun v M9 => v = some (va_rf (oA A (fbe B s n))) ∧ M9 = M) 0 0 := by
  refine Ct.ofV (cc := cX4_firstByEdges) (maxL := 5) (ret := (some (.object "Readingorder$Box"))) [some (.ref (A 0 0)), some (.int (nI s)), none, none, none] (by decide) rfl (Nat.le_of_ble_eq_true rfl) rfl (Lc.av (av := [.ref (A 0 0), .int (nI s)]) (k := 3) rfl) ?_
  intro σ F hl hr hname
  have F : Fx ω σ cX4_firstByEdges 5 wsX4_firstByEdges RX4 rmX4_firstByEdges := F
  have hn : n ≤ 24 := hB.1
  have hW : ∀ i j, B i j < 128 := hB.2.1
  refine v_null F dX4_firstByEdges_0 ?_
  refine v_astore_n F dX4_firstByEdges_1 rfl (Nat.le_of_ble_eq_true rfl) (ok2_d rfl) ?_
  refine v_iconst (v := nI 0) F dX4_firstByEdges_2 (by decide) ?_
  refine v_istore_n F dX4_firstByEdges_3 (Nat.le_of_ble_eq_true rfl) (ok2_d rfl) ?_
  have lp : ∀ i, i ≤ n → ∀ f w, f = fbe B s i → f ≤ n → V ω σ M [some (.ref (A 0 0)), some (.int (nI s)), some (va_rf (oA A f)), some (.int (nI i)), w] 0 0 (BQ ω σ (fun v M9 => v = some (va_rf (oA A (fbe B s n))) ∧ M9 = M) 0 0) 4 [] := by
    refine loop_up n _ (fun i hi ih => ?_)
    intro f w hm hf
    rcases f with _ | y
    · have hy : True := trivial
      refine v_iload_n F dX4_firstByEdges_4 rfl ?_
      refine v_aload_n F dX4_firstByEdges_5 rfl rfl ?_
      refine v_get F 4 1 fo_X4_firstByEdges_15 dX4_firstByEdges_6 hX.x rfl ?_
      refine v_icmp_ge_n F 47 dX4_firstByEdges_9 (by decide) (by first | omega | exact Nat.lt_trans (hW _ _) (by decide)) (by first | omega | exact Nat.lt_trans (hW _ _) (by decide)) (fun c9 => ?_) (fun c9 => ?_)
      · refine v_aload_n F dX4_firstByEdges_47 rfl rfl ?_
        exact v_aret F hr dX4_firstByEdges_48 rfl (Nat.le_of_ble_eq_true rfl) (Nat.le_of_ble_eq_true rfl) ⟨by rw [← show i = n by omega, ← hm], rfl⟩
      · have hi2 : i < n := by omega
        rcases hb : s.testBit i with _ | _
        · refine v_aload_n F dX4_firstByEdges_12 rfl rfl ?_
          refine v_iload_n F dX4_firstByEdges_13 rfl ?_
          refine v_iload_n F dX4_firstByEdges_14 rfl ?_
          refine v_callV F 2 [_, _] rfl rfl rfl (c_boxOfSet_out hX hB hs hi2 hb) gX4_firstByEdges_X4_boxOfSet rfl hd_X4_boxOfSet ⟨⟨rfl, rfl⟩, ⟨(Nat.le_of_ble_eq_true rfl), (Nat.le_of_ble_eq_true rfl)⟩, ⟨(Nat.le_of_ble_eq_true rfl), (Nat.le_of_ble_eq_true rfl)⟩, (Nat.le_of_ble_eq_true rfl)⟩ hX.x rfl dX4_firstByEdges_15 (fun v15 M15 q15 => ?_)
          obtain ⟨rfl, rfl⟩ := q15
          refine v_astore F dX4_firstByEdges_18 rfl (Nat.le_of_ble_eq_true rfl) (ok2_d rfl) ?_
          refine v_aload F dX4_firstByEdges_20 rfl rfl ?_
          refine v_ifnull_n F 41 dX4_firstByEdges_22 (by decide) ?_
          refine v_iinc1 F dX4_firstByEdges_41 rfl (ok2_d rfl) ?_
          refine v_goto F 4 dX4_firstByEdges_44 (by decide) ?_
          first | exact ih (by omega) 0 _ (by simp only [fbe, fl_s]; rw [← fbe, ← hm]; clear hm ih; simp [*]) (by omega) | exact ih (by omega) (i + 1) _ (by simp only [fbe, fl_s]; rw [← fbe, ← hm]; clear hm ih; simp [*]) (by omega) | exact ih (by omega) (y + 1) _ (by simp only [fbe, fl_s]; rw [← fbe, ← hm]; clear hm ih; simp [*]) (by omega)
        · refine v_aload_n F dX4_firstByEdges_12 rfl rfl ?_
          refine v_iload_n F dX4_firstByEdges_13 rfl ?_
          refine v_iload_n F dX4_firstByEdges_14 rfl ?_
          refine v_callV F 2 [_, _] rfl rfl rfl (c_boxOfSet_in hX hB hs hi2 hb) gX4_firstByEdges_X4_boxOfSet rfl hd_X4_boxOfSet ⟨⟨rfl, rfl⟩, ⟨(Nat.le_of_ble_eq_true rfl), (Nat.le_of_ble_eq_true rfl)⟩, ⟨(Nat.le_of_ble_eq_true rfl), (Nat.le_of_ble_eq_true rfl)⟩, (Nat.le_of_ble_eq_true rfl)⟩ hX.x rfl dX4_firstByEdges_15 (fun v15 M15 q15 => ?_)
          obtain ⟨rfl, rfl⟩ := q15
          refine v_astore F dX4_firstByEdges_18 rfl (Nat.le_of_ble_eq_true rfl) (ok2_d rfl) ?_
          refine v_aload F dX4_firstByEdges_20 rfl rfl ?_
          refine v_ifnull_r F dX4_firstByEdges_22 ?_
          refine v_aload_n F dX4_firstByEdges_25 rfl rfl ?_
          refine v_ifnull_n F 38 dX4_firstByEdges_26 (by decide) ?_
          refine v_aload F dX4_firstByEdges_38 rfl rfl ?_
          refine v_astore_n F dX4_firstByEdges_40 rfl (Nat.le_of_ble_eq_true rfl) (ok2_d rfl) ?_
          refine v_iinc1 F dX4_firstByEdges_41 rfl (ok2_d rfl) ?_
          refine v_goto F 4 dX4_firstByEdges_44 (by decide) ?_
          first | exact ih (by omega) 0 _ (by simp only [fbe, fl_s]; rw [← fbe, ← hm]; clear hm ih; simp [*]) (by omega) | exact ih (by omega) (i + 1) _ (by simp only [fbe, fl_s]; rw [← fbe, ← hm]; clear hm ih; simp [*]) (by omega) | exact ih (by omega) (y + 1) _ (by simp only [fbe, fl_s]; rw [← fbe, ← hm]; clear hm ih; simp [*]) (by omega)
    · have hy : y < n := by omega
      refine v_iload_n F dX4_firstByEdges_4 rfl ?_
      refine v_aload_n F dX4_firstByEdges_5 rfl rfl ?_
      refine v_get F 4 1 fo_X4_firstByEdges_15 dX4_firstByEdges_6 hX.x rfl ?_
      refine v_icmp_ge_n F 47 dX4_firstByEdges_9 (by decide) (by first | omega | exact Nat.lt_trans (hW _ _) (by decide)) (by first | omega | exact Nat.lt_trans (hW _ _) (by decide)) (fun c9 => ?_) (fun c9 => ?_)
      · refine v_aload_n F dX4_firstByEdges_47 rfl rfl ?_
        exact v_aret F hr dX4_firstByEdges_48 rfl (Nat.le_of_ble_eq_true rfl) (Nat.le_of_ble_eq_true rfl) ⟨by rw [← show i = n by omega, ← hm], rfl⟩
      · have hi2 : i < n := by omega
        rcases hb : s.testBit i with _ | _
        · refine v_aload_n F dX4_firstByEdges_12 rfl rfl ?_
          refine v_iload_n F dX4_firstByEdges_13 rfl ?_
          refine v_iload_n F dX4_firstByEdges_14 rfl ?_
          refine v_callV F 2 [_, _] rfl rfl rfl (c_boxOfSet_out hX hB hs hi2 hb) gX4_firstByEdges_X4_boxOfSet rfl hd_X4_boxOfSet ⟨⟨rfl, rfl⟩, ⟨(Nat.le_of_ble_eq_true rfl), (Nat.le_of_ble_eq_true rfl)⟩, ⟨(Nat.le_of_ble_eq_true rfl), (Nat.le_of_ble_eq_true rfl)⟩, (Nat.le_of_ble_eq_true rfl)⟩ hX.x rfl dX4_firstByEdges_15 (fun v15 M15 q15 => ?_)
          obtain ⟨rfl, rfl⟩ := q15
          refine v_astore F dX4_firstByEdges_18 rfl (Nat.le_of_ble_eq_true rfl) (ok2_d rfl) ?_
          refine v_aload F dX4_firstByEdges_20 rfl rfl ?_
          refine v_ifnull_n F 41 dX4_firstByEdges_22 (by decide) ?_
          refine v_iinc1 F dX4_firstByEdges_41 rfl (ok2_d rfl) ?_
          refine v_goto F 4 dX4_firstByEdges_44 (by decide) ?_
          first | exact ih (by omega) 0 _ (by simp only [fbe, fl_s]; rw [← fbe, ← hm]; clear hm ih; simp [*]) (by omega) | exact ih (by omega) (i + 1) _ (by simp only [fbe, fl_s]; rw [← fbe, ← hm]; clear hm ih; simp [*]) (by omega) | exact ih (by omega) (y + 1) _ (by simp only [fbe, fl_s]; rw [← fbe, ← hm]; clear hm ih; simp [*]) (by omega)
        · refine v_aload_n F dX4_firstByEdges_12 rfl rfl ?_
          refine v_iload_n F dX4_firstByEdges_13 rfl ?_
          refine v_iload_n F dX4_firstByEdges_14 rfl ?_
          refine v_callV F 2 [_, _] rfl rfl rfl (c_boxOfSet_in hX hB hs hi2 hb) gX4_firstByEdges_X4_boxOfSet rfl hd_X4_boxOfSet ⟨⟨rfl, rfl⟩, ⟨(Nat.le_of_ble_eq_true rfl), (Nat.le_of_ble_eq_true rfl)⟩, ⟨(Nat.le_of_ble_eq_true rfl), (Nat.le_of_ble_eq_true rfl)⟩, (Nat.le_of_ble_eq_true rfl)⟩ hX.x rfl dX4_firstByEdges_15 (fun v15 M15 q15 => ?_)
          obtain ⟨rfl, rfl⟩ := q15
          refine v_astore F dX4_firstByEdges_18 rfl (Nat.le_of_ble_eq_true rfl) (ok2_d rfl) ?_
          refine v_aload F dX4_firstByEdges_20 rfl rfl ?_
          refine v_ifnull_r F dX4_firstByEdges_22 ?_
          refine v_aload_n F dX4_firstByEdges_25 rfl rfl ?_
          refine v_ifnull_r F dX4_firstByEdges_26 ?_
          refine v_aload F dX4_firstByEdges_29 rfl rfl ?_
          refine v_aload_n F dX4_firstByEdges_31 rfl rfl ?_
          refine v_callV F 1 [_] rfl rfl rfl (c_X1_isAheadByEdges hW (hX.box hi2) (hX.box hy) (by omega) (by omega)) gX4_firstByEdges_X1_isAheadByEdges rfl hd_X1_isAheadByEdges ⟨⟨rfl, rfl⟩, ⟨(Nat.le_of_ble_eq_true rfl), (Nat.le_of_ble_eq_true rfl)⟩, ⟨(Nat.le_of_ble_eq_true rfl), (Nat.le_of_ble_eq_true rfl)⟩, (Nat.le_of_ble_eq_true rfl)⟩ (hX.box hi2) rfl dX4_firstByEdges_32 (fun v32 M32 q32 => ?_)
          obtain ⟨rfl, rfl⟩ := q32
          refine v_if_eq_b F 41 dX4_firstByEdges_35 (by decide) (fun c35 => ?_) (fun c35 => ?_)
          · refine v_iinc1 F dX4_firstByEdges_41 rfl (ok2_d rfl) ?_
            refine v_goto F 4 dX4_firstByEdges_44 (by decide) ?_
            first | exact ih (by omega) 0 _ (by simp only [fbe, fl_s]; rw [← fbe, ← hm]; clear hm ih; simp [*]) (by omega) | exact ih (by omega) (i + 1) _ (by simp only [fbe, fl_s]; rw [← fbe, ← hm]; clear hm ih; simp [*]) (by omega) | exact ih (by omega) (y + 1) _ (by simp only [fbe, fl_s]; rw [← fbe, ← hm]; clear hm ih; simp [*]) (by omega)
          · refine v_aload F dX4_firstByEdges_38 rfl rfl ?_
            refine v_astore_n F dX4_firstByEdges_40 rfl (Nat.le_of_ble_eq_true rfl) (ok2_d rfl) ?_
            refine v_iinc1 F dX4_firstByEdges_41 rfl (ok2_d rfl) ?_
            refine v_goto F 4 dX4_firstByEdges_44 (by decide) ?_
            first | exact ih (by omega) 0 _ (by simp only [fbe, fl_s]; rw [← fbe, ← hm]; clear hm ih; simp [*]) (by omega) | exact ih (by omega) (i + 1) _ (by simp only [fbe, fl_s]; rw [← fbe, ← hm]; clear hm ih; simp [*]) (by omega) | exact ih (by omega) (y + 1) _ (by simp only [fbe, fl_s]; rw [← fbe, ← hm]; clear hm ih; simp [*]) (by omega)
  exact lp 0 (Nat.zero_le _) 0 _ rfl (Nat.zero_le _)
end
section
/-! the class: reading a page -/
def upR (R : Nat → (Nat → Int32) × Nat) (p : Nat) (v : (Nat → Int32) × Nat) : Nat → (Nat → Int32) × Nat := fun q => if q = p then v else R q
/-- the addresses of readings and of their rows are apart -/
def AD (A : FF) : Prop := ∀ p q, p < 7 → q < 7 → p ≠ q → A 2 p ≠ A 2 q ∧ A 3 p ≠ A 3 q
theorem XI.setT {ω : Om} {A B P : FF} {n k : Nat} {R : Nat → (Nat → Int32) × Nat} {M : MM} (h : XI ω A B P n k R M) (hA : AD A) {p ci : Nat} (hp : p < 7) (hci : ci = if p = 6 then 2 else 3) (g : Nat → Int32) (len : Nat) : XI ω A B P n k (upR R p (g, len)) (setR ω ci M (A 2 p) (A 3 p) g len) := by
  subst hci
  obtain ⟨r1, r2⟩ := h.2.2.2.2.2.1 p hp
  have hne := rd_ne r1 r2
  have e : ∀ {a : Nat} {v : va_E}, M a = some v → (∀ x, v ≠ rdE (if p = 6 then 2 else 3) (A 3 p) x) → (∀ x, v ≠ rowE ω x) → setR ω (if p = 6 then 2 else 3) M (A 2 p) (A 3 p) g len a = some v := by
    intro a v ha h1 h2
    rw [setR_n]
    · exact ha
    · intro he
      rw [he, r1] at ha
      exact h1 _ (Option.some.inj ha).symm
    · intro he
      rw [he, r2] at ha
      exact h2 _ (Option.some.inj ha).symm
  refine ⟨e h.x ?_ (fun x => by simp [rowE]), e h.made (fun x => by simp [rdE]) (fun x => by simp [rowE]), e h.rds (fun x => by simp [rdE]) (fun x => by simp [rowE]), e h.giv (fun x => by simp [rdE]) (fun x => by simp [rowE]), fun i hi => e (h.box hi) ?_ (fun x => by simp [rowE]), fun q hq => ?_, fun i hi => e (h.app hi) ?_ (fun x => by simp [rowE])⟩
  · intro x; simp only [rdE]; split <;> simp
  · intro x; simp only [rdE]; split <;> simp [bxF]
  · by_cases hqp : q = p
    · subst hqp
      rw [show upR R q (g, len) q = (g, len) by simp [upR]]
      exact ⟨setR_1 hne, setR_2⟩
    · obtain ⟨s1, s2⟩ := h.2.2.2.2.2.1 q hq
      obtain ⟨d1, d2⟩ := hA q p hq hp hqp
      have d3 : A 2 q ≠ A 3 p := fun he => by rw [he, r2] at s1; cases s1
      have d4 : A 3 q ≠ A 2 p := fun he => by rw [he, r1] at s2; cases s2
      rw [show upR R p (g, len) q = R q by simp [upR, hqp]]
      exact ⟨(setR_n d1 d3).trans s1, (setR_n d4 d2).trans s2⟩
  · intro x; simp only [rdE]; split <;> simp [apF]
theorem upR_s {R : Nat → (Nat → Int32) × Nat} {p : Nat} {v : (Nat → Int32) × Nat} : upR R p v p = v := by simp [upR]
theorem upR_n {R : Nat → (Nat → Int32) × Nat} {p q : Nat} {v : (Nat → Int32) × Nat} (h : q ≠ p) : upR R p v q = R q := by simp [upR, h]
theorem loop_pr (T : Nat → Prop) (h : ∀ f, (∀ f', f = f' + 1 → T f') → T f) : ∀ f, T f := by
  intro f
  induction f with
  | zero => exact h 0 (fun f' q => by omega)
  | succ f ih => exact h (f + 1) (fun f' q => by rw [show f' = f by omega]; exact ih)
theorem unc_0 (B : FF) (n f : Nat) : unc B n f 0 = [] := by cases f <;> simp [unc]
theorem unc_n {B : FF} {n f s : Nat} (h : fbe B s n = 0) : unc B n f s = [] := by
  cases f with
  | zero => rfl
  | succ f => simp [unc, h]
theorem unc_s {B : FF} {n f s y : Nat} (hs : s ≠ 0) (h : fbe B s n = y + 1) : unc B n (f + 1) s = chn B 24 (y + 1) ++ unc B n f (nd s (2 ^ y)) := by simp [unc, h, hs]
theorem chn_0 (B : FF) (f : Nat) : chn B f 0 = [] := by cases f <;> rfl
theorem chn_s (B : FF) (f y : Nat) : chn B (f + 1) (y + 1) = y :: chn B f (B y 7) := rfl
theorem oA_s {A : FF} {x a : Nat} (h : oA A x = some a) : ∃ y, x = y + 1 ∧ a = A 1 y := by
  cases x with
  | zero => cases h
  | succ y => cases h; exact ⟨y, rfl, rfl⟩
theorem oA_n {A : FF} {x : Nat} (h : oA A x = none) : x = 0 := by
  cases x with
  | zero => rfl
  | succ y => cases h
def rmX4_readUncut : Room := { frames := 2, cells := 0, slots := 0, locals := 47 }
theorem hd_X4_readUncut : yX4_readUncut.cls = (RX4, TX4, 7).1 ∧ yX4_readUncut.cls ≠ "java/lang/invoke/MethodHandle" ∧ yX4_readUncut.cls ≠ "java/lang/invoke/VarHandle" ∧ (parseMethodDescriptor yX4_readUncut.desc).map (fun d => d.parameters.length) = some 2 := by decide +kernel
theorem fo_X4_readUncut_104 : FO wsX4_readUncut RX4 104 1 9 := ⟨_, _, _, rfl, by decide, by decide +kernel, by decide +kernel⟩
theorem fo_X4_readUncut_130 : FO wsX4_readUncut RX4 130 1 0 := ⟨_, _, _, rfl, by decide, by decide +kernel, by decide +kernel⟩
set_option maxHeartbeats 4000000 in
set_option maxRecDepth 100000 in
theorem c_unc {l : Launch} {ω : Om} {M : MM} {A B P : FF} {n k : Nat} {R : Nat → (Nat → Int32) × Nat} (hX : XI ω A B P n k R M) (hB : WB B n) (hA : AD A) {s : Nat} (hs : s < 2 ^ 24) {lst : List Nat} (hlen : (R 5).2 = lst.length) (hpf : Pf (R 5).1 lst) (ρ : Nat → Nat) (hρ0 : ∀ i, ρ i < 24) (hρ : ∀ i y, i < n → B i 7 = y + 1 → ρ y < ρ i) (htot : lst.length + (unc B n 24 s).length ≤ 24) : Ct l ω yX4_readUncut wsX4_readUncut rmX4_readUncut [.ref (A 0 0), .int (nI s), .ref (A 2 5)] M (fun v M9 => v = none ∧ ∃ g9, M9 = setR ω 3 M (A 2 5) (A 3 5) g9 (lst ++ unc B n 24 s).length ∧ Pf g9 (lst ++ unc B n 24 s)) 0 0 := by
  refine Ct.ofV (cc := cX4_readUncut) (maxL := 7) (ret := none) [some (.ref (A 0 0)), some (.int (nI s)), some (.ref (A 2 5)), none, none, none, none] (by decide) rfl (Nat.le_of_ble_eq_true rfl) rfl (Lc.av (av := [.ref (A 0 0), .int (nI s), .ref (A 2 5)]) (k := 4) rfl) ?_
  intro σ F hl hr hname
  have F : Fx ω σ cX4_readUncut 7 wsX4_readUncut RX4 rmX4_readUncut := F
  have hn : n ≤ 24 := hB.1
  have hW : ∀ i j, B i j < 128 := hB.2.1
  refine v_iload_n F dX4_readUncut_0 rfl ?_
  refine v_istore_n F dX4_readUncut_1 (Nat.le_of_ble_eq_true rfl) (ok2_d rfl) ?_
  refine v_iconst (v := nI 0) F dX4_readUncut_2 (by decide) ?_
  refine v_istore F dX4_readUncut_3 (Nat.le_of_ble_eq_true rfl) (ok2_d rfl) ?_
  have lp1 : ∀ j, j ≤ 24 → ∀ g1 (l1 : List Nat) s1 w5 w6, Pf g1 l1 → s1 < 2 ^ 24 → l1 ++ unc B n (24 - j) s1 = lst ++ unc B n 24 s → V ω σ (setR ω 3 M (A 2 5) (A 3 5) g1 l1.length) [some (.ref (A 0 0)), some (.int (nI s)), some (.ref (A 2 5)), some (.int (nI s1)), some (.int (nI j)), w5, w6] 0 0 (BQ ω σ (fun v M9 => v = none ∧ ∃ g9, M9 = setR ω 3 M (A 2 5) (A 3 5) g9 (lst ++ unc B n 24 s).length ∧ Pf g9 (lst ++ unc B n 24 s)) 0 0) 5 [] := by
    refine loop_up 24 _ (fun j hj ih => ?_)
    intro g1 l1 s1 w5 w6 hp1 hs1 heq
    have hX1 := hX.setT hA (p := 5) (ci := 3) (by decide) (by decide) g1 l1.length
    have hll := congrArg List.length heq
    rw [List.length_append, List.length_append] at hll
    refine v_iload F dX4_readUncut_5 rfl ?_
    refine v_bipush (v := nI 24) F dX4_readUncut_7 (by decide) ?_
    refine v_icmp_ge_n F 75 dX4_readUncut_9 (by decide) (by first | omega | exact Nat.lt_trans (hW _ _) (by decide)) (by first | omega | exact Nat.lt_trans (hW _ _) (by decide)) (fun c9 => ?_) (fun c9 => ?_)
    · exact v_vret F hr dX4_readUncut_75 (Nat.le_of_ble_eq_true rfl) (Nat.le_of_ble_eq_true rfl) ⟨rfl, g1, by rw [← heq]; (first | rw [show 24 - j = 0 by omega, unc, List.append_nil] | rw [c13, unc_0, List.append_nil]), by rw [← heq]; (first | rw [show 24 - j = 0 by omega, unc, List.append_nil] | rw [c13, unc_0, List.append_nil]); exact hp1⟩
    · refine v_iload_n F dX4_readUncut_12 rfl ?_
      refine v_if_eq_n F 75 dX4_readUncut_13 (by decide) (by first | omega | exact Nat.lt_trans (hW _ _) (by decide)) (fun c13 => ?_) (fun c13 => ?_)
      · exact v_vret F hr dX4_readUncut_75 (Nat.le_of_ble_eq_true rfl) (Nat.le_of_ble_eq_true rfl) ⟨rfl, g1, by rw [← heq]; (first | rw [show 24 - j = 0 by omega, unc, List.append_nil] | rw [c13, unc_0, List.append_nil]), by rw [← heq]; (first | rw [show 24 - j = 0 by omega, unc, List.append_nil] | rw [c13, unc_0, List.append_nil]); exact hp1⟩
      · refine v_aload_n F dX4_readUncut_16 rfl rfl ?_
        refine v_iload_n F dX4_readUncut_17 rfl ?_
        refine v_callV F 1 [_] rfl rfl rfl (c_fbe hX1 hB hs1) gX4_readUncut_X4_firstByEdges rfl hd_X4_firstByEdges ⟨⟨rfl, rfl⟩, ⟨(Nat.le_of_ble_eq_true rfl), (Nat.le_of_ble_eq_true rfl)⟩, ⟨(Nat.le_of_ble_eq_true rfl), (Nat.le_of_ble_eq_true rfl)⟩, (Nat.le_of_ble_eq_true rfl)⟩ hX1.x rfl dX4_readUncut_18 (fun v18 M18 q18 => ?_)
        obtain ⟨rfl, rfl⟩ := q18
        refine V.rf (fun h18 => ?_) (fun a18 h18 => ?_)
        · have hf0 := oA_n h18
          refine v_astore F dX4_readUncut_21 rfl (Nat.le_of_ble_eq_true rfl) (ok2_d rfl) ?_
          refine v_aload F dX4_readUncut_23 rfl rfl ?_
          refine v_ifnonnull_n F dX4_readUncut_25 ?_
          exact v_vret F hr dX4_readUncut_28 (Nat.le_of_ble_eq_true rfl) (Nat.le_of_ble_eq_true rfl) ⟨rfl, g1, by rw [← heq, unc_n hf0, List.append_nil], by rw [← heq, unc_n hf0, List.append_nil]; exact hp1⟩
        · obtain ⟨y, hy, rfl⟩ := oA_s h18
          have hyn : y < n := by have := fbe_le B s1 n; omega
          have hu : (unc B n (24 - j) s1).length = (chn B 24 (y + 1)).length + (unc B n (24 - (j + 1)) (nd s1 (2 ^ y))).length := by rw [show 24 - j = 24 - (j + 1) + 1 by omega, unc_s c13 hy, List.length_append]
          refine v_astore F dX4_readUncut_21 rfl (Nat.le_of_ble_eq_true rfl) (ok2_d rfl) ?_
          refine v_aload F dX4_readUncut_23 rfl rfl ?_
          refine v_ifnonnull_r F 29 dX4_readUncut_25 (by decide) ?_
          refine v_iload_n F dX4_readUncut_29 rfl ?_
          refine v_iconst (v := nI 1) F dX4_readUncut_30 (by decide) ?_
          refine v_aload F dX4_readUncut_31 rfl rfl ?_
          refine v_get F 1 0 fo_X4_readUncut_130 dX4_readUncut_33 (hX1.box hyn) rfl ?_
          refine v_ishl_n F dX4_readUncut_36 (by first | omega | exact Nat.lt_trans (hW _ _) (by decide)) ?_
          refine v_iconst (v := (-1)) F dX4_readUncut_37 (by decide) ?_
          refine v_ixor F dX4_readUncut_38 ?_
          refine v_iand_nd F dX4_readUncut_39 ?_
          refine v_istore_n F dX4_readUncut_40 (Nat.le_of_ble_eq_true rfl) (ok2_d rfl) ?_
          refine v_aload F dX4_readUncut_41 rfl rfl ?_
          refine v_astore F dX4_readUncut_43 rfl (Nat.le_of_ble_eq_true rfl) (ok2_d rfl) ?_
          have lp2 : ∀ f c g2 (l2 : List Nat), (∀ z, c = z + 1 → z < n ∧ ρ z < f) → Pf g2 l2 → l2 ++ chn B f c = l1 ++ chn B 24 (y + 1) → V ω σ (setR ω 3 M (A 2 5) (A 3 5) g2 l2.length) [some (.ref (A 0 0)), some (.int (nI s)), some (.ref (A 2 5)), some (.int (nI (nd s1 (2 ^ y)))), some (.int (nI j)), some (.ref (A 1 y)), some (va_rf (oA A c))] 0 0 (BQ ω σ (fun v M9 => v = none ∧ ∃ g9, M9 = setR ω 3 M (A 2 5) (A 3 5) g9 (lst ++ unc B n 24 s).length ∧ Pf g9 (lst ++ unc B n 24 s)) 0 0) 45 [] := by
            refine loop_pr _ (fun f ih2 => ?_)
            intro c g2 l2 hc hp2 heq2
            have hX2 := hX.setT hA (p := 5) (ci := 3) (by decide) (by decide) g2 l2.length
            have hl2 := congrArg List.length heq2
            rw [List.length_append, List.length_append] at hl2
            rcases c with _ | z
            · have hnext : l2 ++ unc B n (24 - (j + 1)) (nd s1 (2 ^ y)) = lst ++ unc B n 24 s := by
                rw [chn_0, List.append_nil] at heq2
                rw [← heq, show 24 - j = 24 - (j + 1) + 1 by omega, unc_s c13 hy, heq2, List.append_assoc]
              refine v_aload F dX4_readUncut_45 rfl rfl ?_
              refine v_ifnull_n F 69 dX4_readUncut_47 (by decide) ?_
              refine v_iinc1 F dX4_readUncut_69 rfl (ok2_d rfl) ?_
              refine v_goto F 5 dX4_readUncut_72 (by decide) ?_
              exact ih (by omega) _ _ _ _ _ hp2 (nd_lt hs1) hnext
            · obtain ⟨hz, hzf⟩ := hc z rfl
              obtain ⟨f, rfl⟩ : ∃ q, f = q + 1 := ⟨f - 1, by omega⟩
              rw [chn_s] at heq2 hl2
              rw [List.length_cons] at hl2
              have hlt : l2.length < 24 := by omega
              have heq3 : (l2 ++ [z]) ++ chn B f (B z 7) = l1 ++ chn B 24 (y + 1) := by rw [List.append_assoc]; exact heq2
              have hc3 : ∀ z2, B z 7 = z2 + 1 → z2 < n ∧ ρ z2 < f := fun z2 hz2 => ⟨(hB.2.2.2 z z2 hz hz2).1, by have := hρ z z2 hz hz2; omega⟩
              have hgo2 := ih2 f rfl (B z 7) (upd g2 l2.length (nI z)) (l2 ++ [z]) hc3 hp2.snoc heq3
              rw [List.length_append, List.length_singleton] at hgo2
              refine v_aload F dX4_readUncut_45 rfl rfl ?_
              refine v_ifnull_r F dX4_readUncut_47 ?_
              refine v_aload_n F dX4_readUncut_50 rfl rfl ?_
              refine v_aload F dX4_readUncut_51 rfl rfl ?_
              refine v_get F 1 0 fo_X4_readUncut_130 dX4_readUncut_53 (hX2.box hz) rfl ?_
              refine v_callV F 1 [_] rfl rfl rfl (c_X3_add (hX2.rd (p := 5) (by decide)) (hX2.row (p := 5) (by decide)) (by rw [upR_s]; exact hlt)) gX4_readUncut_X3_add rfl hd_X3_add ⟨⟨rfl, rfl⟩, ⟨(Nat.le_of_ble_eq_true rfl), (Nat.le_of_ble_eq_true rfl)⟩, ⟨(Nat.le_of_ble_eq_true rfl), (Nat.le_of_ble_eq_true rfl)⟩, (Nat.le_of_ble_eq_true rfl)⟩ (hX2.rd (p := 5) (by decide)) rfl dX4_readUncut_56 (fun v56 M56 q56 => ?_)
              obtain ⟨rfl, rfl⟩ := q56
              rw [upR_s, setR_set (rd_ne (hX.rd (by decide)) (hX.row (by decide)))]
              refine v_aload F dX4_readUncut_59 rfl rfl ?_
              refine v_get_o (o := oA A (B z 7)) F 1 9 fo_X4_readUncut_104 dX4_readUncut_61 ((hX.setT hA (p := 5) (ci := 3) (by decide) (by decide) _ _).box hz) rfl (fun h61 => ?_) (fun a61 h61 => ?_)
              · refine v_astore F dX4_readUncut_64 rfl (Nat.le_of_ble_eq_true rfl) (ok2_d rfl) ?_
                refine v_goto F 45 dX4_readUncut_66 (by decide) ?_
                first | (rw [show oA A (B z 7) = _ from h61] at hgo2; exact hgo2)
              · refine v_astore F dX4_readUncut_64 rfl (Nat.le_of_ble_eq_true rfl) (ok2_d rfl) ?_
                refine v_goto F 45 dX4_readUncut_66 (by decide) ?_
                first | (rw [show oA A (B z 7) = _ from h61] at hgo2; exact hgo2)
          exact lp2 24 (y + 1) g1 l1 (fun z hz => by rw [show z = y by omega]; exact ⟨hyn, hρ0 y⟩) hp1 rfl
  have hgo := lp1 0 (by decide) (R 5).1 lst s none none hpf hs rfl
  rw [← hlen, setR_id (hX.rd (by decide)) (hX.row (by decide))] at hgo
  exact hgo
def rmRS (f : Nat) : Room := { frames := 20 + 2 * f, cells := 0, slots := 0, locals := 400 + 48 * f }
def rmRP (f : Nat) : Room := { frames := 21 + 2 * f, cells := 0, slots := 0, locals := 424 + 48 * f }
def RSt (l : Launch) (ω : Om) (A B P : FF) (n k f : Nat) : Prop := ∀ (R : Nat → (Nat → Int32) × Nat) (M : MM) (lst : List Nat) (s : Nat), XI ω A B P n k R M → (R 5).2 = lst.length → Pf (R 5).1 lst → s < 2 ^ 24 → lst.length + (rs B n f s).length ≤ 24 →
  Ct l ω yX4_readSet wsX4_readSet (rmRS f) [.ref (A 0 0), .int (nI s), .ref (A 2 5), .int (nI (24 - f))] M (fun v M9 => v = none ∧ ∃ g9, M9 = setR ω 3 M (A 2 5) (A 3 5) g9 (lst ++ rs B n f s).length ∧ Pf g9 (lst ++ rs B n f s)) 0 0
def RPt (l : Launch) (ω : Om) (A B P : FF) (n k f : Nat) : Prop := ∀ (R : Nat → (Nat → Int32) × Nat) (M : MM) (lst : List Nat) (s t : Nat), XI ω A B P n k R M → (R 5).2 = lst.length → Pf (R 5).1 lst → s < 2 ^ 24 → t < 2 ^ 24 → lst.length + (rs B n f s).length + (rs B n f t).length ≤ 24 →
  Ct l ω yX4_readParts wsX4_readParts (rmRP f) [.ref (A 0 0), .int (nI s), .int (nI t), .ref (A 2 5), .int (nI (24 - f))] M (fun v M9 => v = none ∧ ∃ g9, M9 = setR ω 3 M (A 2 5) (A 3 5) g9 (lst ++ rs B n f s ++ rs B n f t).length ∧ Pf g9 (lst ++ rs B n f s ++ rs B n f t)) 0 0
theorem hd_X4_readSet : yX4_readSet.cls = (RX4, TX4, 7).1 ∧ yX4_readSet.cls ≠ "java/lang/invoke/MethodHandle" ∧ yX4_readSet.cls ≠ "java/lang/invoke/VarHandle" ∧ (parseMethodDescriptor yX4_readSet.desc).map (fun d => d.parameters.length) = some 3 := by decide +kernel
theorem hd_X4_readParts : yX4_readParts.cls = (RX4, TX4, 7).1 ∧ yX4_readParts.cls ≠ "java/lang/invoke/MethodHandle" ∧ yX4_readParts.cls ≠ "java/lang/invoke/VarHandle" ∧ (parseMethodDescriptor yX4_readParts.desc).map (fun d => d.parameters.length) = some 4 := by decide +kernel
set_option maxHeartbeats 4000000 in
set_option maxRecDepth 100000 in
theorem c_rp {l : Launch} {ω : Om} {M : MM} {A B P : FF} {n k : Nat} {R : Nat → (Nat → Int32) × Nat} (hX : XI ω A B P n k R M) (hB : WB B n) (hA : AD A) {f : Nat} (hf : f ≤ 24) (ih : RSt l ω A B P n k f) {s t : Nat} (hs : s < 2 ^ 24) (ht : t < 2 ^ 24) {lst : List Nat} (hlen : (R 5).2 = lst.length) (hpf : Pf (R 5).1 lst) (htot : lst.length + (rs B n f s).length + (rs B n f t).length ≤ 24) : Ct l ω yX4_readParts wsX4_readParts (rmRP f) [.ref (A 0 0), .int (nI s), .int (nI t), .ref (A 2 5), .int (nI (24 - f))] M (fun v M9 => v = none ∧ ∃ g9, M9 = setR ω 3 M (A 2 5) (A 3 5) g9 (lst ++ rs B n f s ++ rs B n f t).length ∧ Pf g9 (lst ++ rs B n f s ++ rs B n f t)) 0 0 := by
  refine Ct.ofV (cc := cX4_readParts) (maxL := 5) (ret := none) [some (.ref (A 0 0)), some (.int (nI s)), some (.int (nI t)), some (.ref (A 2 5)), some (.int (nI (24 - f)))] (by decide) rfl (Nat.le_of_ble_eq_true rfl) rfl (Lc.av (av := [.ref (A 0 0), .int (nI s), .int (nI t), .ref (A 2 5), .int (nI (24 - f))]) (k := 0) rfl) ?_
  intro σ F hl hr hname
  have F : Fx ω σ cX4_readParts 5 wsX4_readParts RX4 (rmRP f) := F
  have hn : n ≤ 24 := hB.1
  have hW : ∀ i j, B i j < 128 := hB.2.1
  subst hl
  refine v_aload_n F dX4_readParts_0 rfl rfl ?_
  refine v_iload_n F dX4_readParts_1 rfl ?_
  refine v_aload_n F dX4_readParts_2 rfl rfl ?_
  refine v_iload F dX4_readParts_3 rfl ?_
  refine v_callV F 3 [_, _, _] rfl rfl rfl (ih _ _ lst s hX hlen hpf hs (by omega)) gX4_readParts_X4_readSet rfl hd_X4_readSet ⟨⟨rfl, rfl⟩, ⟨(by show _ + 1 ≤ _; simp only [rmRS, rmRP, rmX4_readUncut, rmX4_cutOff]; omega), (by show 8 + _ + _ ≤ _; simp only [rmRS, rmRP, rmX4_readUncut, rmX4_cutOff]; omega)⟩, ⟨(Nat.le_of_ble_eq_true rfl), (Nat.le_of_ble_eq_true rfl)⟩, (Nat.le_of_ble_eq_true rfl)⟩ hX.x rfl dX4_readParts_5 (fun v5 M5 q5 => ?_)
  obtain ⟨rfl, g5, rfl, hp5⟩ := q5
  have hX1 := hX.setT hA (p := 5) (ci := 3) (by decide) (by decide) g5 (lst ++ rs B n f s).length
  refine v_aload_n F dX4_readParts_8 rfl rfl ?_
  refine v_iload_n F dX4_readParts_9 rfl ?_
  refine v_aload_n F dX4_readParts_10 rfl rfl ?_
  refine v_iload F dX4_readParts_11 rfl ?_
  refine v_callV F 3 [_, _, _] rfl rfl rfl (ih _ _ (lst ++ rs B n f s) t hX1 (by rw [upR_s]) (by rw [upR_s]; exact hp5) ht (by rw [List.length_append]; omega)) gX4_readParts_X4_readSet rfl hd_X4_readSet ⟨⟨rfl, rfl⟩, ⟨(by show _ + 1 ≤ _; simp only [rmRS, rmRP, rmX4_readUncut, rmX4_cutOff]; omega), (by show 8 + _ + _ ≤ _; simp only [rmRS, rmRP, rmX4_readUncut, rmX4_cutOff]; omega)⟩, ⟨(Nat.le_of_ble_eq_true rfl), (Nat.le_of_ble_eq_true rfl)⟩, (Nat.le_of_ble_eq_true rfl)⟩ hX1.x rfl dX4_readParts_13 (fun v13 M13 q13 => ?_)
  obtain ⟨rfl, g13, rfl, hp13⟩ := q13
  exact v_vret F hr dX4_readParts_16 (Nat.le_of_ble_eq_true rfl) (Nat.le_of_ble_eq_true rfl) ⟨rfl, g13, by rw [setR_set (rd_ne (hX.rd (by decide)) (hX.row (by decide)))], hp13⟩
set_option maxHeartbeats 4000000 in
set_option maxRecDepth 100000 in
theorem c_rs0 {l : Launch} {ω : Om} {M : MM} {A B P : FF} {n k : Nat} {R : Nat → (Nat → Int32) × Nat} (hX : XI ω A B P n k R M) (hB : WB B n) (hA : AD A) {f : Nat} (hf : f ≤ 24) (ih : ∀ f2, f = f2 + 1 → RPt l ω A B P n k f2) {s : Nat} (hs : s < 2 ^ 24) {lst : List Nat} (hlen : (R 5).2 = lst.length) (hpf : Pf (R 5).1 lst) (ρ : Nat → Nat) (hρ0 : ∀ i, ρ i < 24) (hρ : ∀ i y, i < n → B i 7 = y + 1 → ρ y < ρ i) (htot : lst.length + (rs B n f s).length ≤ 24) : Ct l ω yX4_readSet wsX4_readSet (rmRS f) [.ref (A 0 0), .int (nI s), .ref (A 2 5), .int (nI (24 - f))] M (fun v M9 => v = none ∧ ∃ g9, M9 = setR ω 3 M (A 2 5) (A 3 5) g9 (lst ++ rs B n f s).length ∧ Pf g9 (lst ++ rs B n f s)) 0 0 := by
  refine Ct.ofV (cc := cX4_readSet) (maxL := 5) (ret := none) [some (.ref (A 0 0)), some (.int (nI s)), some (.ref (A 2 5)), some (.int (nI (24 - f))), none] (by decide) rfl (Nat.le_of_ble_eq_true rfl) rfl (Lc.av (av := [.ref (A 0 0), .int (nI s), .ref (A 2 5), .int (nI (24 - f))]) (k := 1) rfl) ?_
  intro σ F hl hr hname
  have F : Fx ω σ cX4_readSet 5 wsX4_readSet RX4 (rmRS f) := F
  have hn : n ≤ 24 := hB.1
  have hW : ∀ i j, B i j < 128 := hB.2.1
  subst hl
  have hco := cuo_lt B hn s
  rcases (show f = 0 ∨ (∃ f2, f = f2 + 1 ∧ cuo B n s = 0) ∨ (∃ f2, f = f2 + 1 ∧ cuo B n s ≠ 0) from (by cases f with | zero => exact Or.inl rfl | succ f2 => by_cases h : cuo B n s = 0; exact Or.inr (Or.inl ⟨f2, rfl, h⟩); exact Or.inr (Or.inr ⟨f2, rfl, h⟩))) with rfl | ⟨f2, rfl, h0⟩ | ⟨f2, rfl, h0⟩
  · have hrs : rs B n 0 s = unc B n 24 s := rfl
    refine v_iload_n F dX4_readSet_0 rfl ?_
    refine v_bipush (v := nI 24) F dX4_readSet_1 (by decide) ?_
    refine v_icmp_ge_n F 14 dX4_readSet_3 (by decide) (by omega) (by omega) (fun c3 => ?_) (fun c3 => ?_)
    · refine v_iconst (v := nI 0) F dX4_readSet_14 (by decide) ?_
      refine v_istore F dX4_readSet_15 (Nat.le_of_ble_eq_true rfl) (ok2_d rfl) ?_
      refine v_iload F dX4_readSet_17 rfl ?_
      refine v_if_ne_n F 31 dX4_readSet_19 (by decide) (by omega) (fun c19 => ?_) (fun c19 => ?_)
      · exact absurd rfl c19
      · refine v_aload_n F dX4_readSet_22 rfl rfl ?_
        refine v_iload_n F dX4_readSet_23 rfl ?_
        refine v_aload_n F dX4_readSet_24 rfl rfl ?_
        refine v_callV F 2 [_, _] rfl rfl rfl (c_unc hX hB hA hs hlen hpf ρ hρ0 hρ (by rw [← hrs]; exact htot)) gX4_readSet_X4_readUncut rfl hd_X4_readUncut ⟨⟨rfl, rfl⟩, ⟨(by show _ + 1 ≤ _; simp only [rmRS, rmRP, rmX4_readUncut, rmX4_cutOff]; omega), (by show 8 + _ + _ ≤ _; simp only [rmRS, rmRP, rmX4_readUncut, rmX4_cutOff]; omega)⟩, ⟨(Nat.le_of_ble_eq_true rfl), (Nat.le_of_ble_eq_true rfl)⟩, (Nat.le_of_ble_eq_true rfl)⟩ hX.x rfl dX4_readSet_25 (fun v25 M25 q25 => ?_)
        obtain ⟨rfl, g25, rfl, hp25⟩ := q25
        refine v_goto F 47 dX4_readSet_28 (by decide) ?_
        exact v_vret F hr dX4_readSet_47 (Nat.le_of_ble_eq_true rfl) (Nat.le_of_ble_eq_true rfl) ⟨rfl, g25, by rw [hrs], by rw [hrs]; exact hp25⟩
    · exact absurd c3 (by omega)
  · have hrs : rs B n (f2 + 1) s = unc B n 24 s := by simp [rs, h0]
    refine v_iload_n F dX4_readSet_0 rfl ?_
    refine v_bipush (v := nI 24) F dX4_readSet_1 (by decide) ?_
    refine v_icmp_ge_n F 14 dX4_readSet_3 (by decide) (by omega) (by omega) (fun c3 => ?_) (fun c3 => ?_)
    · exact absurd c3 (by omega)
    · refine v_aload_n F dX4_readSet_6 rfl rfl ?_
      refine v_iload_n F dX4_readSet_7 rfl ?_
      refine v_callV F 1 [_] rfl rfl rfl (c_cuo hX hB hs) gX4_readSet_X4_cutOff rfl hd_X4_cutOff ⟨⟨rfl, rfl⟩, ⟨(by show _ + 1 ≤ _; simp only [rmRS, rmRP, rmX4_readUncut, rmX4_cutOff]; omega), (by show 8 + _ + _ ≤ _; simp only [rmRS, rmRP, rmX4_readUncut, rmX4_cutOff]; omega)⟩, ⟨(Nat.le_of_ble_eq_true rfl), (Nat.le_of_ble_eq_true rfl)⟩, (Nat.le_of_ble_eq_true rfl)⟩ hX.x rfl dX4_readSet_8 (fun v8 M8 q8 => ?_)
      obtain ⟨rfl, rfl⟩ := q8
      refine v_goto F 15 dX4_readSet_11 (by decide) ?_
      refine v_istore F dX4_readSet_15 (Nat.le_of_ble_eq_true rfl) (ok2_d rfl) ?_
      refine v_iload F dX4_readSet_17 rfl ?_
      refine v_if_ne_n F 31 dX4_readSet_19 (by decide) (by omega) (fun c19 => ?_) (fun c19 => ?_)
      · exact absurd h0 c19
      · refine v_aload_n F dX4_readSet_22 rfl rfl ?_
        refine v_iload_n F dX4_readSet_23 rfl ?_
        refine v_aload_n F dX4_readSet_24 rfl rfl ?_
        refine v_callV F 2 [_, _] rfl rfl rfl (c_unc hX hB hA hs hlen hpf ρ hρ0 hρ (by rw [← hrs]; exact htot)) gX4_readSet_X4_readUncut rfl hd_X4_readUncut ⟨⟨rfl, rfl⟩, ⟨(by show _ + 1 ≤ _; simp only [rmRS, rmRP, rmX4_readUncut, rmX4_cutOff]; omega), (by show 8 + _ + _ ≤ _; simp only [rmRS, rmRP, rmX4_readUncut, rmX4_cutOff]; omega)⟩, ⟨(Nat.le_of_ble_eq_true rfl), (Nat.le_of_ble_eq_true rfl)⟩, (Nat.le_of_ble_eq_true rfl)⟩ hX.x rfl dX4_readSet_25 (fun v25 M25 q25 => ?_)
        obtain ⟨rfl, g25, rfl, hp25⟩ := q25
        refine v_goto F 47 dX4_readSet_28 (by decide) ?_
        exact v_vret F hr dX4_readSet_47 (Nat.le_of_ble_eq_true rfl) (Nat.le_of_ble_eq_true rfl) ⟨rfl, g25, by rw [hrs], by rw [hrs]; exact hp25⟩
  · have hrs : rs B n (f2 + 1) s = rs B n f2 (cuo B n s) ++ rs B n f2 (nd s (cuo B n s)) := by simp [rs, h0]
    have hf1 := ih f2 rfl
    refine v_iload_n F dX4_readSet_0 rfl ?_
    refine v_bipush (v := nI 24) F dX4_readSet_1 (by decide) ?_
    refine v_icmp_ge_n F 14 dX4_readSet_3 (by decide) (by omega) (by omega) (fun c3 => ?_) (fun c3 => ?_)
    · exact absurd c3 (by omega)
    · refine v_aload_n F dX4_readSet_6 rfl rfl ?_
      refine v_iload_n F dX4_readSet_7 rfl ?_
      refine v_callV F 1 [_] rfl rfl rfl (c_cuo hX hB hs) gX4_readSet_X4_cutOff rfl hd_X4_cutOff ⟨⟨rfl, rfl⟩, ⟨(by show _ + 1 ≤ _; simp only [rmRS, rmRP, rmX4_readUncut, rmX4_cutOff]; omega), (by show 8 + _ + _ ≤ _; simp only [rmRS, rmRP, rmX4_readUncut, rmX4_cutOff]; omega)⟩, ⟨(Nat.le_of_ble_eq_true rfl), (Nat.le_of_ble_eq_true rfl)⟩, (Nat.le_of_ble_eq_true rfl)⟩ hX.x rfl dX4_readSet_8 (fun v8 M8 q8 => ?_)
      obtain ⟨rfl, rfl⟩ := q8
      refine v_goto F 15 dX4_readSet_11 (by decide) ?_
      refine v_istore F dX4_readSet_15 (Nat.le_of_ble_eq_true rfl) (ok2_d rfl) ?_
      refine v_iload F dX4_readSet_17 rfl ?_
      refine v_if_ne_n F 31 dX4_readSet_19 (by decide) (by omega) (fun c19 => ?_) (fun c19 => ?_)
      · refine v_aload_n F dX4_readSet_31 rfl rfl ?_
        refine v_iload F dX4_readSet_32 rfl ?_
        refine v_iload_n F dX4_readSet_34 rfl ?_
        refine v_iload F dX4_readSet_35 rfl ?_
        refine v_iconst (v := (-1)) F dX4_readSet_37 (by decide) ?_
        refine v_ixor F dX4_readSet_38 ?_
        refine v_iand_nd F dX4_readSet_39 ?_
        refine v_aload_n F dX4_readSet_40 rfl rfl ?_
        refine v_iload_n F dX4_readSet_41 rfl ?_
        refine v_iconst (v := nI 1) F dX4_readSet_42 (by decide) ?_
        refine v_iadd_n F dX4_readSet_43 ?_
        refine V.toI (by rw [show 24 - (f2 + 1) + 1 = 24 - f2 by omega]) ?_
        refine v_callV F 4 [_, _, _, _] rfl rfl rfl (hf1 _ _ lst _ _ hX hlen hpf hco (nd_lt hs) (by rw [hrs, List.length_append] at htot; omega)) gX4_readSet_X4_readParts rfl hd_X4_readParts ⟨⟨rfl, rfl⟩, ⟨(by show _ + 1 ≤ _; simp only [rmRS, rmRP, rmX4_readUncut, rmX4_cutOff]; omega), (by show 8 + _ + _ ≤ _; simp only [rmRS, rmRP, rmX4_readUncut, rmX4_cutOff]; omega)⟩, ⟨(Nat.le_of_ble_eq_true rfl), (Nat.le_of_ble_eq_true rfl)⟩, (Nat.le_of_ble_eq_true rfl)⟩ hX.x rfl dX4_readSet_44 (fun v44 M44 q44 => ?_)
        obtain ⟨rfl, g44, rfl, hp44⟩ := q44
        exact v_vret F hr dX4_readSet_47 (Nat.le_of_ble_eq_true rfl) (Nat.le_of_ble_eq_true rfl) ⟨rfl, g44, by rw [hrs, List.append_assoc], by rw [hrs, ← List.append_assoc]; exact hp44⟩
      · exact absurd c19 h0
theorem c_rs {l : Launch} {ω : Om} {A B P : FF} {n k : Nat} (hB : WB B n) (hA : AD A) (ρ : Nat → Nat) (hρ0 : ∀ i, ρ i < 24) (hρ : ∀ i y, i < n → B i 7 = y + 1 → ρ y < ρ i) : ∀ f, f ≤ 24 → RSt l ω A B P n k f := by
  intro f
  induction f with
  | zero =>
    intro _ R M lst s hX hlen hpf hs htot
    exact c_rs0 hX hB hA (Nat.zero_le _) (fun f2 h => by omega) hs hlen hpf ρ hρ0 hρ htot
  | succ f ih =>
    intro hf R M lst s hX hlen hpf hs htot
    refine c_rs0 hX hB hA hf (fun f2 h => ?_) hs hlen hpf ρ hρ0 hρ htot
    have e : f2 = f := by omega
    subst e
    intro R M lst s t hX hlen hpf hs ht htot
    exact c_rp hX hB hA (by omega) (ih (by omega)) hs ht hlen hpf htot
def rmX4_readByCuts : Room := { frames := 71, cells := 0, slots := 0, locals := 1624 }
theorem hd_X4_readByCuts : yX4_readByCuts.cls = (RX4, TX4, 7).1 ∧ yX4_readByCuts.cls ≠ "java/lang/invoke/MethodHandle" ∧ yX4_readByCuts.cls ≠ "java/lang/invoke/VarHandle" ∧ (parseMethodDescriptor yX4_readByCuts.desc).map (fun d => d.parameters.length) = some 2 := by decide +kernel
theorem fp_X4_readByCuts_136 : FP wsX4_readByCuts RX4 136 3 1 .int := ⟨_, _, _, tyX3, rfl, by decide, by decide +kernel, by decide +kernel, tyX3_ok, nmX3, rfl, by decide +kernel⟩
set_option maxHeartbeats 4000000 in
set_option maxRecDepth 100000 in
theorem c_rbc {l : Launch} {ω : Om} {M : MM} {A B P : FF} {n k : Nat} {R : Nat → (Nat → Int32) × Nat} (hX : XI ω A B P n k R M) (hB : WB B n) (hA : AD A) {p : Nat} (hp : p < 5) (ρ : Nat → Nat) (hρ0 : ∀ i, ρ i < 24) (hρ : ∀ i y, i < n → B i 7 = y + 1 → ρ y < ρ i) (htot : (ordF B n p).length ≤ 24) : Ct l ω yX4_readByCuts wsX4_readByCuts rmX4_readByCuts [.ref (A 0 0), .int (nI p), .ref (A 2 5)] M (fun v M9 => v = none ∧ ∃ g9, M9 = setR ω 3 M (A 2 5) (A 3 5) g9 (ordF B n p).length ∧ Pf g9 (ordF B n p)) 0 0 := by
  refine Ct.ofV (cc := cX4_readByCuts) (maxL := 3) (ret := none) [some (.ref (A 0 0)), some (.int (nI p)), some (.ref (A 2 5))] (by decide) rfl (Nat.le_of_ble_eq_true rfl) rfl (Lc.av (av := [.ref (A 0 0), .int (nI p), .ref (A 2 5)]) (k := 0) rfl) ?_
  intro σ F hl hr hname
  have F : Fx ω σ cX4_readByCuts 3 wsX4_readByCuts RX4 rmX4_readByCuts := F
  have hn : n ≤ 24 := hB.1
  have hW : ∀ i j, B i j < 128 := hB.2.1
  subst hl
  have hX1 := hX.setT hA (p := 5) (ci := 3) (by decide) (by decide) (R 5).1 0
  refine v_aload_n F dX4_readByCuts_0 rfl rfl ?_
  refine v_iconst (v := nI 0) F dX4_readByCuts_1 (by decide) ?_
  refine v_put F 3 1 fp_X4_readByCuts_136 dX4_readByCuts_2 (hX.rd (p := 5) (by decide)) rfl rfl (Nat.le_of_ble_eq_true rfl) ?_
  rw [show mup M (A 2 5) (.inr (3, [Value.ref (A 3 5), Value.int (nI (R 5).2)].set 1 (Value.int (nI 0)))) = setR ω 3 M (A 2 5) (A 3 5) (R 5).1 0 from setR_len (hX.rd (p := 5) (by decide)) (hX.row (p := 5) (by decide))]
  refine v_aload_n F dX4_readByCuts_5 rfl rfl ?_
  refine v_aload_n F dX4_readByCuts_6 rfl rfl ?_
  refine v_iload_n F dX4_readByCuts_7 rfl ?_
  refine v_callV F 1 [_] rfl rfl rfl (c_bfn hX1 hB hp) gX4_readByCuts_X4_boxesThatFollowNone rfl hd_X4_boxesThatFollowNone ⟨⟨rfl, rfl⟩, ⟨(Nat.le_of_ble_eq_true rfl), (Nat.le_of_ble_eq_true rfl)⟩, ⟨(Nat.le_of_ble_eq_true rfl), (Nat.le_of_ble_eq_true rfl)⟩, (Nat.le_of_ble_eq_true rfl)⟩ hX1.x rfl dX4_readByCuts_8 (fun v8 M8 q8 => ?_)
  obtain ⟨rfl, rfl⟩ := q8
  refine v_aload_n F dX4_readByCuts_11 rfl rfl ?_
  refine v_iconst (v := nI 0) F dX4_readByCuts_12 (by decide) ?_
  refine v_callV F 3 [_, _, _] rfl rfl rfl (c_rs hB hA ρ hρ0 hρ 24 (Nat.le_refl _) _ _ [] _ hX1 (by rw [upR_s]; rfl) Pf.nil (bfn_lt B p n hn) (by rw [List.length_nil, Nat.zero_add]; exact htot)) gX4_readByCuts_X4_readSet rfl hd_X4_readSet ⟨⟨rfl, rfl⟩, ⟨(Nat.le_of_ble_eq_true rfl), (Nat.le_of_ble_eq_true rfl)⟩, ⟨(Nat.le_of_ble_eq_true rfl), (Nat.le_of_ble_eq_true rfl)⟩, (Nat.le_of_ble_eq_true rfl)⟩ hX1.x rfl dX4_readByCuts_13 (fun v13 M13 q13 => ?_)
  obtain ⟨rfl, g13, rfl, hp13⟩ := q13
  exact v_vret F hr dX4_readByCuts_16 (Nat.le_of_ble_eq_true rfl) (Nat.le_of_ble_eq_true rfl) ⟨rfl, g13, by rw [setR_set (rd_ne (hX.rd (by decide)) (hX.row (by decide)))]; rfl, hp13⟩
/-- the sets put aside: what is read of a pile of sets, and that the pile never grows too high -/
def sa (B : FF) (n : Nat) : Nat → List Nat → List Nat
  | 0, _ => []
  | _ + 1, [] => []
  | f + 1, s :: t => if cuo B n s = 0 then unc B n 24 s ++ sa B n f t else sa B n f (cuo B n s :: nd s (cuo B n s) :: t)
def saO (B : FF) (n : Nat) : Nat → List Nat → Prop
  | 0, _ => True
  | _ + 1, [] => True
  | f + 1, s :: t => if cuo B n s = 0 then saO B n f t else t.length + 2 ≤ 24 ∧ saO B n f (cuo B n s :: nd s (cuo B n s) :: t)
/-- a row holds a pile, its top last -/
def Pl (g : Nat → Int32) (l : List Nat) : Prop := Pf g l.reverse
theorem Pl.push {g : Nat → Int32} {l : List Nat} {x : Nat} (h : Pl g l) : Pl (upd g l.length (nI x)) (x :: l) := by
  unfold Pl at *
  rw [List.reverse_cons, ← List.length_reverse (as := l)]
  exact h.snoc
theorem Pl.top {g : Nat → Int32} {l : List Nat} {x : Nat} (h : Pl g (x :: l)) : g l.length = nI x := by
  have h1 := h l.length (by simp)
  rw [h1]
  congr 1
  simp [List.getD_eq_getElem?_getD, List.getElem?_append_right]
theorem Pl.pop {g : Nat → Int32} {l : List Nat} {x : Nat} (h : Pl g (x :: l)) : Pl g l := by
  intro i hi
  have h1 := h i (by simp at hi ⊢; omega)
  rw [h1]
  congr 1
  rw [List.reverse_cons, List.getD_eq_getElem?_getD, List.getD_eq_getElem?_getD, List.getElem?_append_left hi]
theorem sa_1 {B : FF} {n f s : Nat} {t : List Nat} (h : cuo B n s = 0) : sa B n (f + 1) (s :: t) = unc B n 24 s ++ sa B n f t := by simp [sa, h]
theorem sa_2 {B : FF} {n f s : Nat} {t : List Nat} (h : cuo B n s ≠ 0) : sa B n (f + 1) (s :: t) = sa B n f (cuo B n s :: nd s (cuo B n s) :: t) := by simp [sa, h]
theorem sa_n (B : FF) (n f : Nat) : sa B n f [] = [] := by cases f <;> rfl
theorem saO_1 {B : FF} {n f s : Nat} {t : List Nat} (h : cuo B n s = 0) (h2 : saO B n (f + 1) (s :: t)) : saO B n f t := by simpa [saO, h] using h2
theorem saO_2 {B : FF} {n f s : Nat} {t : List Nat} (h : cuo B n s ≠ 0) (h2 : saO B n (f + 1) (s :: t)) : t.length + 2 ≤ 24 ∧ saO B n f (cuo B n s :: nd s (cuo B n s) :: t) := by simpa [saO, h] using h2
theorem setR_comm {ω : Om} {c1 c2 : Nat} {M : MM} {r rn q qn : Nat} {g h : Nat → Int32} {a b : Nat} (h1 : r ≠ q) (h2 : r ≠ qn) (h3 : rn ≠ q) (h4 : rn ≠ qn) : setR ω c1 (setR ω c2 M q qn h b) r rn g a = setR ω c2 (setR ω c1 M r rn g a) q qn h b := by
  funext x
  unfold setR mup
  by_cases e1 : x = r
  · subst e1; simp [h1, h2]
  · by_cases e2 : x = rn
    · subst e2; simp [h3, h4]
    · simp [e1, e2]
def rmX4_readWithSetsAside : Room := { frames := 3, cells := 0, slots := 0, locals := 80 }
theorem hd_X4_readWithSetsAside : yX4_readWithSetsAside.cls = (RX4, TX4, 7).1 ∧ yX4_readWithSetsAside.cls ≠ "java/lang/invoke/MethodHandle" ∧ yX4_readWithSetsAside.cls ≠ "java/lang/invoke/VarHandle" ∧ (parseMethodDescriptor yX4_readWithSetsAside.desc).map (fun d => d.parameters.length) = some 2 := by decide +kernel
theorem fo_X4_readWithSetsAside_33 : FO wsX4_readWithSetsAside RX4 33 4 4 := ⟨_, _, _, rfl, by decide, by decide +kernel, by decide +kernel⟩
theorem fo_X4_readWithSetsAside_233 : FO wsX4_readWithSetsAside RX4 233 2 1 := ⟨_, _, _, rfl, by decide, by decide +kernel, by decide +kernel⟩
theorem fp_X4_readWithSetsAside_136 : FP wsX4_readWithSetsAside RX4 136 3 1 .int := ⟨_, _, _, tyX3, rfl, by decide, by decide +kernel, by decide +kernel, tyX3_ok, nmX3, rfl, by decide +kernel⟩
theorem fp_X4_readWithSetsAside_233 : FP wsX4_readWithSetsAside RX4 233 2 1 .int := ⟨_, _, _, tyX2, rfl, by decide, by decide +kernel, by decide +kernel, tyX2_ok, nmX2, rfl, by decide +kernel⟩
set_option maxHeartbeats 4000000 in
set_option maxRecDepth 100000 in
theorem c_rwa {l : Launch} {ω : Om} {M : MM} {A B P : FF} {n k : Nat} {R : Nat → (Nat → Int32) × Nat} (hX : XI ω A B P n k R M) (hB : WB B n) (hA : AD A) {p : Nat} (hp : p < 5) (ρ : Nat → Nat) (hρ0 : ∀ i, ρ i < 24) (hρ : ∀ i y, i < n → B i 7 = y + 1 → ρ y < ρ i) (htot : (sa B n 48 [bfn B p n]).length ≤ 24) (hso : saO B n 48 [bfn B p n]) : Ct l ω yX4_readWithSetsAside wsX4_readWithSetsAside rmX4_readWithSetsAside [.ref (A 0 0), .int (nI p), .ref (A 2 5)] M (fun v M9 => v = none ∧ ∃ g9 h9 n9, M9 = setR ω 2 (setR ω 3 M (A 2 5) (A 3 5) g9 (sa B n 48 [bfn B p n]).length) (A 2 6) (A 3 6) h9 n9 ∧ Pf g9 (sa B n 48 [bfn B p n])) 0 0 := by
  refine Ct.ofV (cc := cX4_readWithSetsAside) (maxL := 6) (ret := none) [some (.ref (A 0 0)), some (.int (nI p)), some (.ref (A 2 5)), none, none, none] (by decide) rfl (Nat.le_of_ble_eq_true rfl) rfl (Lc.av (av := [.ref (A 0 0), .int (nI p), .ref (A 2 5)]) (k := 3) rfl) ?_
  intro σ F hl hr hname
  have F : Fx ω σ cX4_readWithSetsAside 6 wsX4_readWithSetsAside RX4 rmX4_readWithSetsAside := F
  have hn : n ≤ 24 := hB.1
  have hW : ∀ i j, B i j < 128 := hB.2.1
  subst hl
  have hX1 := hX.setT hA (p := 5) (ci := 3) (by decide) (by decide) (R 5).1 0
  have hk1 : setR ω 3 M (A 2 5) (A 3 5) (R 5).1 0 (A 2 6) = some (rdE 2 (A 3 6) (R 6).2) := by
    have := hX1.pile
    rwa [upR_n (by decide)] at this
  have hk2 : setR ω 3 M (A 2 5) (A 3 5) (R 5).1 0 (A 3 6) = some (rowE ω (R 6).1) := by
    have := hX1.row (p := 6) (by decide)
    rwa [upR_n (by decide)] at this
  have hX2 := hX1.setT hA (p := 6) (ci := 2) (by decide) (by decide) (R 6).1 0
  have hr5 := rd_ne (hX.rd (p := 5) (by decide)) (hX.row (by decide))
  have hr6 := rd_ne hX.pile (hX.row (by decide))
  obtain ⟨hd1, hd2⟩ := hA 5 6 (by decide) (by decide) (by decide)
  have hd3 : A 2 5 ≠ A 3 6 := fun e => by
    have h1 := hX.rd (p := 5) (by decide)
    rw [e, hX.row (by decide)] at h1
    cases h1
  have hd4 : A 3 5 ≠ A 2 6 := fun e => by
    have h1 := hX.pile
    rw [← e, hX.row (by decide)] at h1
    cases h1
  refine v_aload_n F dX4_readWithSetsAside_0 rfl rfl ?_
  refine v_iconst (v := nI 0) F dX4_readWithSetsAside_1 (by decide) ?_
  refine v_put F 3 1 fp_X4_readWithSetsAside_136 dX4_readWithSetsAside_2 (hX.rd (p := 5) (by decide)) rfl rfl (Nat.le_of_ble_eq_true rfl) ?_
  rw [show mup M (A 2 5) (.inr (3, [Value.ref (A 3 5), Value.int (nI (R 5).2)].set 1 (Value.int (nI 0)))) = setR ω 3 M (A 2 5) (A 3 5) (R 5).1 0 from setR_len (hX.rd (p := 5) (by decide)) (hX.row (p := 5) (by decide))]
  refine v_aload_n F dX4_readWithSetsAside_5 rfl rfl ?_
  refine v_get F 4 4 fo_X4_readWithSetsAside_33 dX4_readWithSetsAside_6 hX1.x rfl ?_
  refine v_iconst (v := nI 0) F dX4_readWithSetsAside_9 (by decide) ?_
  refine v_put F 2 1 fp_X4_readWithSetsAside_233 dX4_readWithSetsAside_10 hk1 rfl rfl (Nat.le_of_ble_eq_true rfl) ?_
  rw [show mup (setR ω 3 M (A 2 5) (A 3 5) (R 5).1 0) (A 2 6) (.inr (2, [Value.ref (A 3 6), Value.int (nI (R 6).2)].set 1 (Value.int (nI 0)))) = setR ω 2 (setR ω 3 M (A 2 5) (A 3 5) (R 5).1 0) (A 2 6) (A 3 6) (R 6).1 0 from setR_len hk1 hk2]
  refine v_aload_n F dX4_readWithSetsAside_13 rfl rfl ?_
  refine v_get F 4 4 fo_X4_readWithSetsAside_33 dX4_readWithSetsAside_14 hX2.x rfl ?_
  refine v_aload_n F dX4_readWithSetsAside_17 rfl rfl ?_
  refine v_iload_n F dX4_readWithSetsAside_18 rfl ?_
  refine v_callV F 1 [_] rfl rfl rfl (c_bfn hX2 hB hp) gX4_readWithSetsAside_X4_boxesThatFollowNone rfl hd_X4_boxesThatFollowNone ⟨⟨rfl, rfl⟩, ⟨(Nat.le_of_ble_eq_true rfl), (Nat.le_of_ble_eq_true rfl)⟩, ⟨(Nat.le_of_ble_eq_true rfl), (Nat.le_of_ble_eq_true rfl)⟩, (Nat.le_of_ble_eq_true rfl)⟩ hX2.x rfl dX4_readWithSetsAside_19 (fun v19 M19 q19 => ?_)
  obtain ⟨rfl, rfl⟩ := q19
  refine v_callV F 1 [_] rfl rfl rfl (c_X2_put (setR_1 hr6) setR_2 (by decide)) gX4_readWithSetsAside_X2_put rfl hd_X2_put ⟨⟨rfl, rfl⟩, ⟨(Nat.le_of_ble_eq_true rfl), (Nat.le_of_ble_eq_true rfl)⟩, ⟨(Nat.le_of_ble_eq_true rfl), (Nat.le_of_ble_eq_true rfl)⟩, (Nat.le_of_ble_eq_true rfl)⟩ (setR_1 hr6) rfl dX4_readWithSetsAside_22 (fun v22 M22 q22 => ?_)
  obtain ⟨rfl, rfl⟩ := q22
  rw [setR_set hr6]
  refine v_iconst (v := nI 0) F dX4_readWithSetsAside_25 (by decide) ?_
  refine v_istore_n F dX4_readWithSetsAside_26 (Nat.le_of_ble_eq_true rfl) (ok2_d rfl) ?_
  have lp1 : ∀ j, j ≤ 48 → ∀ g1 h1 (l1 t1 : List Nat) w4 w5, Pf g1 l1 → Pl h1 t1 → (∀ q, q ∈ t1 → q < 2 ^ 24) → t1.length ≤ 24 → saO B n (48 - j) t1 → l1 ++ sa B n (48 - j) t1 = sa B n 48 [bfn B p n] → V ω σ (setR ω 2 (setR ω 3 M (A 2 5) (A 3 5) g1 l1.length) (A 2 6) (A 3 6) h1 t1.length) [some (.ref (A 0 0)), some (.int (nI p)), some (.ref (A 2 5)), some (.int (nI j)), w4, w5] 0 0 (BQ ω σ (fun v M9 => v = none ∧ ∃ g9 h9 n9, M9 = setR ω 2 (setR ω 3 M (A 2 5) (A 3 5) g9 (sa B n 48 [bfn B p n]).length) (A 2 6) (A 3 6) h9 n9 ∧ Pf g9 (sa B n 48 [bfn B p n])) 0 0) 27 [] := by
    refine loop_up 48 _ (fun j hj ih => ?_)
    intro g1 h1 l1 t1 w4 w5 hpf1 hP1 hq1 ht1 hso1 heq
    have htl := htot
    rw [← heq, List.length_append] at htl
    rcases t1 with _ | ⟨s1, t1⟩
    · have hX3 := (hX.setT hA (p := 5) (ci := 3) (by decide) (by decide) g1 l1.length).setT hA (p := 6) (ci := 2) (by decide) (by decide) h1 0
      refine v_iload_n F dX4_readWithSetsAside_27 rfl ?_
      refine v_bipush (v := nI 48) F dX4_readWithSetsAside_28 (by decide) ?_
      refine v_icmp_ge_n F 104 dX4_readWithSetsAside_30 (by decide) (by first | omega | (have := cuo_lt B hn s1; omega)) (by first | omega | (have := cuo_lt B hn s1; omega)) (fun c30 => ?_) (fun c30 => ?_)
      · have hfin : l1 = sa B n 48 [bfn B p n] := by
          rw [← heq]
          first | rw [sa_n, List.append_nil] | rw [show sa B n (48 - j) _ = [] from by rw [show 48 - j = 0 by omega]; rfl, List.append_nil]
        exact v_vret F hr dX4_readWithSetsAside_104 (Nat.le_of_ble_eq_true rfl) (Nat.le_of_ble_eq_true rfl) ⟨rfl, g1, h1, _, by rw [← hfin], by rw [← hfin]; exact hpf1⟩
      · refine v_aload_n F dX4_readWithSetsAside_33 rfl rfl ?_
        refine v_get F 4 4 fo_X4_readWithSetsAside_33 dX4_readWithSetsAside_34 hX3.x rfl ?_
        refine v_get F 2 1 fo_X4_readWithSetsAside_233 dX4_readWithSetsAside_37 (setR_1 hr6) rfl ?_
        refine v_if_le_n F 104 dX4_readWithSetsAside_40 (by decide) (by first | omega | (have := cuo_lt B hn s1; omega)) (fun c40 => ?_) (fun c40 => ?_)
        · have hfin : l1 = sa B n 48 [bfn B p n] := by
            rw [← heq]
            first | rw [sa_n, List.append_nil] | rw [show sa B n (48 - j) _ = [] from by rw [show 48 - j = 0 by omega]; rfl, List.append_nil]
          exact v_vret F hr dX4_readWithSetsAside_104 (Nat.le_of_ble_eq_true rfl) (Nat.le_of_ble_eq_true rfl) ⟨rfl, g1, h1, _, by rw [← hfin], by rw [← hfin]; exact hpf1⟩
        · exact absurd rfl c40
    · have hX3 := (hX.setT hA (p := 5) (ci := 3) (by decide) (by decide) g1 l1.length).setT hA (p := 6) (ci := 2) (by decide) (by decide) h1 (t1.length + 1)
      have hX4 := (hX.setT hA (p := 5) (ci := 3) (by decide) (by decide) g1 l1.length).setT hA (p := 6) (ci := 2) (by decide) (by decide) h1 t1.length
      have hs1 := hq1 s1 List.mem_cons_self
      rw [List.length_cons] at ht1
      have hlt : t1.length < 24 := by omega
      show V ω σ (setR ω 2 (setR ω 3 M (A 2 5) (A 3 5) g1 l1.length) (A 2 6) (A 3 6) h1 (t1.length + 1)) _ _ _ _ _ _
      refine v_iload_n F dX4_readWithSetsAside_27 rfl ?_
      refine v_bipush (v := nI 48) F dX4_readWithSetsAside_28 (by decide) ?_
      refine v_icmp_ge_n F 104 dX4_readWithSetsAside_30 (by decide) (by first | omega | (have := cuo_lt B hn s1; omega)) (by first | omega | (have := cuo_lt B hn s1; omega)) (fun c30 => ?_) (fun c30 => ?_)
      · have hfin : l1 = sa B n 48 [bfn B p n] := by
          rw [← heq]
          first | rw [sa_n, List.append_nil] | rw [show sa B n (48 - j) _ = [] from by rw [show 48 - j = 0 by omega]; rfl, List.append_nil]
        exact v_vret F hr dX4_readWithSetsAside_104 (Nat.le_of_ble_eq_true rfl) (Nat.le_of_ble_eq_true rfl) ⟨rfl, g1, h1, _, by rw [← hfin], by rw [← hfin]; exact hpf1⟩
      · refine v_aload_n F dX4_readWithSetsAside_33 rfl rfl ?_
        refine v_get F 4 4 fo_X4_readWithSetsAside_33 dX4_readWithSetsAside_34 hX3.x rfl ?_
        refine v_get F 2 1 fo_X4_readWithSetsAside_233 dX4_readWithSetsAside_37 (setR_1 hr6) rfl ?_
        refine v_if_le_n F 104 dX4_readWithSetsAside_40 (by decide) (by first | omega | (have := cuo_lt B hn s1; omega)) (fun c40 => ?_) (fun c40 => ?_)
        · exact absurd c40 (by omega)
        · refine v_aload_n F dX4_readWithSetsAside_43 rfl rfl ?_
          refine v_get F 4 4 fo_X4_readWithSetsAside_33 dX4_readWithSetsAside_44 hX3.x rfl ?_
          rw [show 48 - j = 48 - (j + 1) + 1 by omega] at hso1 heq htl
          refine v_callV F 0 [] rfl rfl rfl (c_X2_take (setR_1 hr6) setR_2 (by omega)) gX4_readWithSetsAside_X2_take rfl hd_X2_take ⟨⟨rfl, rfl⟩, ⟨(Nat.le_of_ble_eq_true rfl), (Nat.le_of_ble_eq_true rfl)⟩, ⟨(Nat.le_of_ble_eq_true rfl), (Nat.le_of_ble_eq_true rfl)⟩, (Nat.le_of_ble_eq_true rfl)⟩ (setR_1 hr6) rfl dX4_readWithSetsAside_47 (fun v47 M47 q47 => ?_)
          obtain ⟨rfl, rfl⟩ := q47
          rw [setR_len (setR_1 hr6) setR_2, setR_set hr6, hP1.top]
          refine v_istore F dX4_readWithSetsAside_50 (Nat.le_of_ble_eq_true rfl) (ok2_d rfl) ?_
          refine v_aload_n F dX4_readWithSetsAside_52 rfl rfl ?_
          refine v_iload F dX4_readWithSetsAside_53 rfl ?_
          refine v_callV F 1 [_] rfl rfl rfl (c_cuo hX4 hB hs1) gX4_readWithSetsAside_X4_cutOff rfl hd_X4_cutOff ⟨⟨rfl, rfl⟩, ⟨(Nat.le_of_ble_eq_true rfl), (Nat.le_of_ble_eq_true rfl)⟩, ⟨(Nat.le_of_ble_eq_true rfl), (Nat.le_of_ble_eq_true rfl)⟩, (Nat.le_of_ble_eq_true rfl)⟩ hX4.x rfl dX4_readWithSetsAside_55 (fun v55 M55 q55 => ?_)
          obtain ⟨rfl, rfl⟩ := q55
          refine v_istore F dX4_readWithSetsAside_58 (Nat.le_of_ble_eq_true rfl) (ok2_d rfl) ?_
          refine v_iload F dX4_readWithSetsAside_60 rfl ?_
          refine v_if_ne_n F 75 dX4_readWithSetsAside_62 (by decide) (by first | omega | (have := cuo_lt B hn s1; omega)) (fun c62 => ?_) (fun c62 => ?_)
          · refine v_aload_n F dX4_readWithSetsAside_75 rfl rfl ?_
            refine v_get F 4 4 fo_X4_readWithSetsAside_33 dX4_readWithSetsAside_76 hX4.x rfl ?_
            refine v_iload F dX4_readWithSetsAside_79 rfl ?_
            refine v_iload F dX4_readWithSetsAside_81 rfl ?_
            refine v_iconst (v := (-1)) F dX4_readWithSetsAside_83 (by decide) ?_
            refine v_ixor F dX4_readWithSetsAside_84 ?_
            refine v_iand_nd F dX4_readWithSetsAside_85 ?_
            refine v_callV F 1 [_] rfl rfl rfl (c_X2_put (setR_1 hr6) setR_2 hlt) gX4_readWithSetsAside_X2_put rfl hd_X2_put ⟨⟨rfl, rfl⟩, ⟨(Nat.le_of_ble_eq_true rfl), (Nat.le_of_ble_eq_true rfl)⟩, ⟨(Nat.le_of_ble_eq_true rfl), (Nat.le_of_ble_eq_true rfl)⟩, (Nat.le_of_ble_eq_true rfl)⟩ (setR_1 hr6) rfl dX4_readWithSetsAside_86 (fun v86 M86 q86 => ?_)
            obtain ⟨rfl, rfl⟩ := q86
            rw [setR_set hr6]
            have hX5 := (hX.setT hA (p := 5) (ci := 3) (by decide) (by decide) g1 l1.length).setT hA (p := 6) (ci := 2) (by decide) (by decide) (upd h1 t1.length (nI (nd s1 (cuo B n s1)))) (t1.length + 1)
            refine v_aload_n F dX4_readWithSetsAside_89 rfl rfl ?_
            refine v_get F 4 4 fo_X4_readWithSetsAside_33 dX4_readWithSetsAside_90 hX5.x rfl ?_
            refine v_iload F dX4_readWithSetsAside_93 rfl ?_
            refine v_callV F 1 [_] rfl rfl rfl (c_X2_put (setR_1 hr6) setR_2 (by have := (saO_2 c62 hso1).1; omega)) gX4_readWithSetsAside_X2_put rfl hd_X2_put ⟨⟨rfl, rfl⟩, ⟨(Nat.le_of_ble_eq_true rfl), (Nat.le_of_ble_eq_true rfl)⟩, ⟨(Nat.le_of_ble_eq_true rfl), (Nat.le_of_ble_eq_true rfl)⟩, (Nat.le_of_ble_eq_true rfl)⟩ (setR_1 hr6) rfl dX4_readWithSetsAside_95 (fun v95 M95 q95 => ?_)
            obtain ⟨rfl, rfl⟩ := q95
            rw [setR_set hr6]
            refine v_iinc1 F dX4_readWithSetsAside_98 rfl (ok2_d rfl) ?_
            refine v_goto F 27 dX4_readWithSetsAside_101 (by decide) ?_
            first | exact ih (by omega) g69 h1 _ t1 _ _ hp69 hP1.pop (fun q hq => hq1 q (List.mem_cons_of_mem _ hq)) (by omega) (saO_1 c62 hso1) (by rw [← heq, sa_1 c62, List.append_assoc]) | exact ih (by omega) g1 _ l1 (cuo B n s1 :: nd s1 (cuo B n s1) :: t1) _ _ hpf1 hP1.pop.push.push (fun q hq => by rcases List.mem_cons.mp hq with h | h; rw [h]; exact cuo_lt B hn s1; rcases List.mem_cons.mp h with h | h; rw [h]; exact nd_lt hs1; exact hq1 q (List.mem_cons_of_mem _ h)) (saO_2 c62 hso1).1 (saO_2 c62 hso1).2 (by rw [← heq, sa_2 c62])
          · refine v_aload_n F dX4_readWithSetsAside_65 rfl rfl ?_
            refine v_iload F dX4_readWithSetsAside_66 rfl ?_
            refine v_aload_n F dX4_readWithSetsAside_68 rfl rfl ?_
            refine v_callV F 2 [_, _] rfl rfl rfl (c_unc hX4 hB hA hs1 (by rw [upR_n (by decide), upR_s]) (by rw [upR_n (by decide), upR_s]; exact hpf1) ρ hρ0 hρ (by rw [sa_1 c62, List.length_append] at htl; omega)) gX4_readWithSetsAside_X4_readUncut rfl hd_X4_readUncut ⟨⟨rfl, rfl⟩, ⟨(Nat.le_of_ble_eq_true rfl), (Nat.le_of_ble_eq_true rfl)⟩, ⟨(Nat.le_of_ble_eq_true rfl), (Nat.le_of_ble_eq_true rfl)⟩, (Nat.le_of_ble_eq_true rfl)⟩ hX4.x rfl dX4_readWithSetsAside_69 (fun v69 M69 q69 => ?_)
            obtain ⟨rfl, g69, rfl, hp69⟩ := q69
            rw [setR_comm hd1 hd3 hd4 hd2, setR_set hr5]
            refine v_goto F 98 dX4_readWithSetsAside_72 (by decide) ?_
            refine v_iinc1 F dX4_readWithSetsAside_98 rfl (ok2_d rfl) ?_
            refine v_goto F 27 dX4_readWithSetsAside_101 (by decide) ?_
            first | exact ih (by omega) g69 h1 _ t1 _ _ hp69 hP1.pop (fun q hq => hq1 q (List.mem_cons_of_mem _ hq)) (by omega) (saO_1 c62 hso1) (by rw [← heq, sa_1 c62, List.append_assoc]) | exact ih (by omega) g1 _ l1 (cuo B n s1 :: nd s1 (cuo B n s1) :: t1) _ _ hpf1 hP1.pop.push.push (fun q hq => by rcases List.mem_cons.mp hq with h | h; rw [h]; exact cuo_lt B hn s1; rcases List.mem_cons.mp h with h | h; rw [h]; exact nd_lt hs1; exact hq1 q (List.mem_cons_of_mem _ h)) (saO_2 c62 hso1).1 (saO_2 c62 hso1).2 (by rw [← heq, sa_2 c62])
  exact lp1 0 (by decide) (R 5).1 _ [] [bfn B p n] none none Pf.nil (Pl.push (l := []) (fun i hi => absurd hi (Nat.not_lt_zero i))) (fun q hq => by rw [List.mem_singleton.mp hq]; exact bfn_lt B p n hn) (show 1 ≤ 24 by decide) hso rfl
end
