section
-- ===== PART A: goes FIRST, ahead of the names: the tables' words, and 'selects' of the private methods out of them =====
/-- a private method of a class that the tables say can be made, by its rows of tables_1 -/
def lw_okq (q : MethodName × Nat) : Prop := (q.1.cls ≠ "java/lang/invoke/MethodHandle" ∧ q.1.cls ≠ "java/lang/invoke/VarHandle") ∧ Cond.instantiable q.1.cls q.2 ∈ tables_1 ∧ Cond.privateMethod q.1 ∈ tables_1 ∧ Cond.instanceMethod q.1 ∈ tables_1
theorem lw_p0 : lw_okq (⟨"WallChapels$Tape", "append", "(I)V"⟩, 4) := ⟨⟨by decide +kernel, by decide +kernel⟩, List.mem_of_getElem? (i := 34) (by decide +kernel), List.mem_of_getElem? (i := 413) (by decide +kernel), List.mem_of_getElem? (i := 414) (by decide +kernel)⟩
theorem lw_p1 : lw_okq (⟨"WallChapels$Plan", "readFrom", "(LWallChapels$Tape;)I"⟩, 8) := ⟨⟨by decide +kernel, by decide +kernel⟩, List.mem_of_getElem? (i := 60) (by decide +kernel), List.mem_of_getElem? (i := 425) (by decide +kernel), List.mem_of_getElem? (i := 426) (by decide +kernel)⟩
theorem lw_p2 : lw_okq (⟨"WallChapels$Plan", "begin", "()V"⟩, 8) := ⟨⟨by decide +kernel, by decide +kernel⟩, List.mem_of_getElem? (i := 60) (by decide +kernel), List.mem_of_getElem? (i := 429) (by decide +kernel), List.mem_of_getElem? (i := 430) (by decide +kernel)⟩
theorem lw_p3 : lw_okq (⟨"WallChapels$Tape", "rewind", "()V"⟩, 4) := ⟨⟨by decide +kernel, by decide +kernel⟩, List.mem_of_getElem? (i := 34) (by decide +kernel), List.mem_of_getElem? (i := 438) (by decide +kernel), List.mem_of_getElem? (i := 439) (by decide +kernel)⟩
theorem lw_p4 : lw_okq (⟨"WallChapels$Plan", "readClause", "(LWallChapels$Tape;)Z"⟩, 8) := ⟨⟨by decide +kernel, by decide +kernel⟩, List.mem_of_getElem? (i := 60) (by decide +kernel), List.mem_of_getElem? (i := 442) (by decide +kernel), List.mem_of_getElem? (i := 443) (by decide +kernel)⟩
theorem lw_p5 : lw_okq (⟨"WallChapels$Tape", "ahead", "()I"⟩, 4) := ⟨⟨by decide +kernel, by decide +kernel⟩, List.mem_of_getElem? (i := 34) (by decide +kernel), List.mem_of_getElem? (i := 446) (by decide +kernel), List.mem_of_getElem? (i := 447) (by decide +kernel)⟩
theorem lw_p6 : lw_okq (⟨"WallChapels$Tape", "byteAtHead", "()I"⟩, 4) := ⟨⟨by decide +kernel, by decide +kernel⟩, List.mem_of_getElem? (i := 34) (by decide +kernel), List.mem_of_getElem? (i := 450) (by decide +kernel), List.mem_of_getElem? (i := 451) (by decide +kernel)⟩
theorem lw_p7 : lw_okq (⟨"WallChapels$Tape", "step", "()V"⟩, 4) := ⟨⟨by decide +kernel, by decide +kernel⟩, List.mem_of_getElem? (i := 34) (by decide +kernel), List.mem_of_getElem? (i := 454) (by decide +kernel), List.mem_of_getElem? (i := 455) (by decide +kernel)⟩
theorem lw_p8 : lw_okq (⟨"WallChapels$Tape", "refuseHere", "()Z"⟩, 4) := ⟨⟨by decide +kernel, by decide +kernel⟩, List.mem_of_getElem? (i := 34) (by decide +kernel), List.mem_of_getElem? (i := 470) (by decide +kernel), List.mem_of_getElem? (i := 471) (by decide +kernel)⟩
theorem lw_p9 : lw_okq (⟨"WallChapels$Tape", "takeNumber", "(III)I"⟩, 4) := ⟨⟨by decide +kernel, by decide +kernel⟩, List.mem_of_getElem? (i := 34) (by decide +kernel), List.mem_of_getElem? (i := 474) (by decide +kernel), List.mem_of_getElem? (i := 475) (by decide +kernel)⟩
theorem lw_p10 : lw_okq (⟨"WallChapels$Tape", "take", "(I)Z"⟩, 4) := ⟨⟨by decide +kernel, by decide +kernel⟩, List.mem_of_getElem? (i := 34) (by decide +kernel), List.mem_of_getElem? (i := 498) (by decide +kernel), List.mem_of_getElem? (i := 499) (by decide +kernel)⟩
theorem lw_p11 : lw_okq (⟨"WallChapels$Plan", "isSound", "()Z"⟩, 8) := ⟨⟨by decide +kernel, by decide +kernel⟩, List.mem_of_getElem? (i := 60) (by decide +kernel), List.mem_of_getElem? (i := 504) (by decide +kernel), List.mem_of_getElem? (i := 505) (by decide +kernel)⟩
theorem lw_p12 : lw_okq (⟨"WallChapels$Plan", "endA", "(I)I"⟩, 8) := ⟨⟨by decide +kernel, by decide +kernel⟩, List.mem_of_getElem? (i := 60) (by decide +kernel), List.mem_of_getElem? (i := 508) (by decide +kernel), List.mem_of_getElem? (i := 509) (by decide +kernel)⟩
theorem lw_p13 : lw_okq (⟨"WallChapels$Plan", "endB", "(I)I"⟩, 8) := ⟨⟨by decide +kernel, by decide +kernel⟩, List.mem_of_getElem? (i := 60) (by decide +kernel), List.mem_of_getElem? (i := 512) (by decide +kernel), List.mem_of_getElem? (i := 513) (by decide +kernel)⟩
theorem lw_p14 : lw_okq (⟨"WallChapels$Plan", "noteTouching", "()V"⟩, 8) := ⟨⟨by decide +kernel, by decide +kernel⟩, List.mem_of_getElem? (i := 60) (by decide +kernel), List.mem_of_getElem? (i := 516) (by decide +kernel), List.mem_of_getElem? (i := 517) (by decide +kernel)⟩
theorem lw_p15 : lw_okq (⟨"WallChapels$LawReader", "readLaw", "()I"⟩, 3) := ⟨⟨by decide +kernel, by decide +kernel⟩, List.mem_of_getElem? (i := 105) (by decide +kernel), List.mem_of_getElem? (i := 520) (by decide +kernel), List.mem_of_getElem? (i := 521) (by decide +kernel)⟩
def lw_privs_1 : List (MethodName × Nat) := [(⟨"WallChapels$Tape", "append", "(I)V"⟩, 4), (⟨"WallChapels$Plan", "readFrom", "(LWallChapels$Tape;)I"⟩, 8), (⟨"WallChapels$Plan", "begin", "()V"⟩, 8), (⟨"WallChapels$Tape", "rewind", "()V"⟩, 4), (⟨"WallChapels$Plan", "readClause", "(LWallChapels$Tape;)Z"⟩, 8), (⟨"WallChapels$Tape", "ahead", "()I"⟩, 4), (⟨"WallChapels$Tape", "byteAtHead", "()I"⟩, 4), (⟨"WallChapels$Tape", "step", "()V"⟩, 4), (⟨"WallChapels$Tape", "refuseHere", "()Z"⟩, 4), (⟨"WallChapels$Tape", "takeNumber", "(III)I"⟩, 4), (⟨"WallChapels$Tape", "take", "(I)Z"⟩, 4), (⟨"WallChapels$Plan", "isSound", "()Z"⟩, 8), (⟨"WallChapels$Plan", "endA", "(I)I"⟩, 8), (⟨"WallChapels$Plan", "endB", "(I)I"⟩, 8), (⟨"WallChapels$Plan", "noteTouching", "()V"⟩, 8), (⟨"WallChapels$LawReader", "readLaw", "()I"⟩, 3)]
theorem lw_r1 : ∀ q ∈ lw_privs_1, lw_okq q := List.forall_mem_cons.mpr ⟨lw_p0, List.forall_mem_cons.mpr ⟨lw_p1, List.forall_mem_cons.mpr ⟨lw_p2, List.forall_mem_cons.mpr ⟨lw_p3, List.forall_mem_cons.mpr ⟨lw_p4, List.forall_mem_cons.mpr ⟨lw_p5, List.forall_mem_cons.mpr ⟨lw_p6, List.forall_mem_cons.mpr ⟨lw_p7, List.forall_mem_cons.mpr ⟨lw_p8, List.forall_mem_cons.mpr ⟨lw_p9, List.forall_mem_cons.mpr ⟨lw_p10, List.forall_mem_cons.mpr ⟨lw_p11, List.forall_mem_cons.mpr ⟨lw_p12, List.forall_mem_cons.mpr ⟨lw_p13, List.forall_mem_cons.mpr ⟨lw_p14, List.forall_mem_cons.mpr ⟨lw_p15, fun _ h => absurd h List.not_mem_nil⟩⟩⟩⟩⟩⟩⟩⟩⟩⟩⟩⟩⟩⟩⟩⟩
theorem lw_p16 : lw_okq (⟨"WallChapels$LawReader", "readClause", "()Z"⟩, 3) := ⟨⟨by decide +kernel, by decide +kernel⟩, List.mem_of_getElem? (i := 105) (by decide +kernel), List.mem_of_getElem? (i := 525) (by decide +kernel), List.mem_of_getElem? (i := 526) (by decide +kernel)⟩
theorem lw_p17 : lw_okq (⟨"WallChapels$LawReader", "readSum", "(I)Z"⟩, 3) := ⟨⟨by decide +kernel, by decide +kernel⟩, List.mem_of_getElem? (i := 105) (by decide +kernel), List.mem_of_getElem? (i := 531) (by decide +kernel), List.mem_of_getElem? (i := 532) (by decide +kernel)⟩
theorem lw_p18 : lw_okq (⟨"WallChapels$LawReader", "readTerm", "(I)Z"⟩, 3) := ⟨⟨by decide +kernel, by decide +kernel⟩, List.mem_of_getElem? (i := 105) (by decide +kernel), List.mem_of_getElem? (i := 535) (by decide +kernel), List.mem_of_getElem? (i := 536) (by decide +kernel)⟩
theorem lw_p19 : lw_okq (⟨"WallChapels$LawReader", "readAtom", "(I)Z"⟩, 3) := ⟨⟨by decide +kernel, by decide +kernel⟩, List.mem_of_getElem? (i := 105) (by decide +kernel), List.mem_of_getElem? (i := 539) (by decide +kernel), List.mem_of_getElem? (i := 540) (by decide +kernel)⟩
theorem lw_p20 : lw_okq (⟨"WallChapels$LawReader", "emit", "(I)V"⟩, 3) := ⟨⟨by decide +kernel, by decide +kernel⟩, List.mem_of_getElem? (i := 105) (by decide +kernel), List.mem_of_getElem? (i := 545) (by decide +kernel), List.mem_of_getElem? (i := 546) (by decide +kernel)⟩
theorem lw_p21 : lw_okq (⟨"WallChapels$LawReader", "readCondition", "(IZ)Z"⟩, 3) := ⟨⟨by decide +kernel, by decide +kernel⟩, List.mem_of_getElem? (i := 105) (by decide +kernel), List.mem_of_getElem? (i := 557) (by decide +kernel), List.mem_of_getElem? (i := 558) (by decide +kernel)⟩
theorem lw_p22 : lw_okq (⟨"WallChapels$LawReader", "readTruth", "(IZ)Z"⟩, 3) := ⟨⟨by decide +kernel, by decide +kernel⟩, List.mem_of_getElem? (i := 105) (by decide +kernel), List.mem_of_getElem? (i := 561) (by decide +kernel), List.mem_of_getElem? (i := 562) (by decide +kernel)⟩
theorem lw_p23 : lw_okq (⟨"WallChapels$LawReader", "readUnit", "(IZ)Z"⟩, 3) := ⟨⟨by decide +kernel, by decide +kernel⟩, List.mem_of_getElem? (i := 105) (by decide +kernel), List.mem_of_getElem? (i := 565) (by decide +kernel), List.mem_of_getElem? (i := 566) (by decide +kernel)⟩
theorem lw_p24 : lw_okq (⟨"WallChapels$LawReader", "readNested", "(II)Z"⟩, 3) := ⟨⟨by decide +kernel, by decide +kernel⟩, List.mem_of_getElem? (i := 105) (by decide +kernel), List.mem_of_getElem? (i := 569) (by decide +kernel), List.mem_of_getElem? (i := 570) (by decide +kernel)⟩
theorem lw_p25 : lw_okq (⟨"WallChapels$Walks", "readFrom", "(LWallChapels$Tape;)I"⟩, 5) := ⟨⟨by decide +kernel, by decide +kernel⟩, List.mem_of_getElem? (i := 170) (by decide +kernel), List.mem_of_getElem? (i := 573) (by decide +kernel), List.mem_of_getElem? (i := 574) (by decide +kernel)⟩
theorem lw_p26 : lw_okq (⟨"WallChapels", "settleTown", "()I"⟩, 17) := ⟨⟨by decide +kernel, by decide +kernel⟩, List.mem_of_getElem? (i := 26) (by decide +kernel), List.mem_of_getElem? (i := 585) (by decide +kernel), List.mem_of_getElem? (i := 586) (by decide +kernel)⟩
theorem lw_p27 : lw_okq (⟨"WallChapels$Plan", "become", "(LWallChapels$Plan;)V"⟩, 8) := ⟨⟨by decide +kernel, by decide +kernel⟩, List.mem_of_getElem? (i := 60) (by decide +kernel), List.mem_of_getElem? (i := 589) (by decide +kernel), List.mem_of_getElem? (i := 590) (by decide +kernel)⟩
theorem lw_p28 : lw_okq (⟨"WallChapels$Scene", "begin", "(LWallChapels$Plan;)V"⟩, 7) := ⟨⟨by decide +kernel, by decide +kernel⟩, List.mem_of_getElem? (i := 276) (by decide +kernel), List.mem_of_getElem? (i := 593) (by decide +kernel), List.mem_of_getElem? (i := 594) (by decide +kernel)⟩
theorem lw_p29 : lw_okq (⟨"WallChapels$Plan", "wallsTold", "()I"⟩, 8) := ⟨⟨by decide +kernel, by decide +kernel⟩, List.mem_of_getElem? (i := 60) (by decide +kernel), List.mem_of_getElem? (i := 597) (by decide +kernel), List.mem_of_getElem? (i := 598) (by decide +kernel)⟩
theorem lw_p30 : lw_okq (⟨"WallChapels$Acts", "forgetAll", "()V"⟩, 3) := ⟨⟨by decide +kernel, by decide +kernel⟩, List.mem_of_getElem? (i := 318) (by decide +kernel), List.mem_of_getElem? (i := 601) (by decide +kernel), List.mem_of_getElem? (i := 602) (by decide +kernel)⟩
theorem lw_p31 : lw_okq (⟨"WallChapels$Laws", "addFrom", "(LWallChapels$LawReader;)I"⟩, 12) := ⟨⟨by decide +kernel, by decide +kernel⟩, List.mem_of_getElem? (i := 123) (by decide +kernel), List.mem_of_getElem? (i := 605) (by decide +kernel), List.mem_of_getElem? (i := 606) (by decide +kernel)⟩
def lw_privs_2 : List (MethodName × Nat) := [(⟨"WallChapels$LawReader", "readClause", "()Z"⟩, 3), (⟨"WallChapels$LawReader", "readSum", "(I)Z"⟩, 3), (⟨"WallChapels$LawReader", "readTerm", "(I)Z"⟩, 3), (⟨"WallChapels$LawReader", "readAtom", "(I)Z"⟩, 3), (⟨"WallChapels$LawReader", "emit", "(I)V"⟩, 3), (⟨"WallChapels$LawReader", "readCondition", "(IZ)Z"⟩, 3), (⟨"WallChapels$LawReader", "readTruth", "(IZ)Z"⟩, 3), (⟨"WallChapels$LawReader", "readUnit", "(IZ)Z"⟩, 3), (⟨"WallChapels$LawReader", "readNested", "(II)Z"⟩, 3), (⟨"WallChapels$Walks", "readFrom", "(LWallChapels$Tape;)I"⟩, 5), (⟨"WallChapels", "settleTown", "()I"⟩, 17), (⟨"WallChapels$Plan", "become", "(LWallChapels$Plan;)V"⟩, 8), (⟨"WallChapels$Scene", "begin", "(LWallChapels$Plan;)V"⟩, 7), (⟨"WallChapels$Plan", "wallsTold", "()I"⟩, 8), (⟨"WallChapels$Acts", "forgetAll", "()V"⟩, 3), (⟨"WallChapels$Laws", "addFrom", "(LWallChapels$LawReader;)I"⟩, 12)]
theorem lw_r2 : ∀ q ∈ lw_privs_2, lw_okq q := List.forall_mem_cons.mpr ⟨lw_p16, List.forall_mem_cons.mpr ⟨lw_p17, List.forall_mem_cons.mpr ⟨lw_p18, List.forall_mem_cons.mpr ⟨lw_p19, List.forall_mem_cons.mpr ⟨lw_p20, List.forall_mem_cons.mpr ⟨lw_p21, List.forall_mem_cons.mpr ⟨lw_p22, List.forall_mem_cons.mpr ⟨lw_p23, List.forall_mem_cons.mpr ⟨lw_p24, List.forall_mem_cons.mpr ⟨lw_p25, List.forall_mem_cons.mpr ⟨lw_p26, List.forall_mem_cons.mpr ⟨lw_p27, List.forall_mem_cons.mpr ⟨lw_p28, List.forall_mem_cons.mpr ⟨lw_p29, List.forall_mem_cons.mpr ⟨lw_p30, List.forall_mem_cons.mpr ⟨lw_p31, fun _ h => absurd h List.not_mem_nil⟩⟩⟩⟩⟩⟩⟩⟩⟩⟩⟩⟩⟩⟩⟩⟩
theorem lw_p32 : lw_okq (⟨"WallChapels$Walks", "addDraft", "()I"⟩, 5) := ⟨⟨by decide +kernel, by decide +kernel⟩, List.mem_of_getElem? (i := 170) (by decide +kernel), List.mem_of_getElem? (i := 610) (by decide +kernel), List.mem_of_getElem? (i := 611) (by decide +kernel)⟩
theorem lw_p33 : lw_okq (⟨"WallChapels", "isCorner", "(I)Z"⟩, 17) := ⟨⟨by decide +kernel, by decide +kernel⟩, List.mem_of_getElem? (i := 26) (by decide +kernel), List.mem_of_getElem? (i := 619) (by decide +kernel), List.mem_of_getElem? (i := 620) (by decide +kernel)⟩
theorem lw_p34 : lw_okq (⟨"WallChapels", "openNow", "()I"⟩, 17) := ⟨⟨by decide +kernel, by decide +kernel⟩, List.mem_of_getElem? (i := 26) (by decide +kernel), List.mem_of_getElem? (i := 623) (by decide +kernel), List.mem_of_getElem? (i := 624) (by decide +kernel)⟩
theorem lw_p35 : lw_okq (⟨"WallChapels$Plan", "openBehind", "(I)I"⟩, 8) := ⟨⟨by decide +kernel, by decide +kernel⟩, List.mem_of_getElem? (i := 60) (by decide +kernel), List.mem_of_getElem? (i := 627) (by decide +kernel), List.mem_of_getElem? (i := 628) (by decide +kernel)⟩
theorem lw_p36 : lw_okq (⟨"WallChapels", "isStreet", "(I)Z"⟩, 17) := ⟨⟨by decide +kernel, by decide +kernel⟩, List.mem_of_getElem? (i := 26) (by decide +kernel), List.mem_of_getElem? (i := 641) (by decide +kernel), List.mem_of_getElem? (i := 642) (by decide +kernel)⟩
theorem lw_p37 : lw_okq (⟨"WallChapels$Plan", "yardsOf", "(I)I"⟩, 8) := ⟨⟨by decide +kernel, by decide +kernel⟩, List.mem_of_getElem? (i := 60) (by decide +kernel), List.mem_of_getElem? (i := 647) (by decide +kernel), List.mem_of_getElem? (i := 648) (by decide +kernel)⟩
theorem lw_p38 : lw_okq (⟨"WallChapels", "logLength", "()I"⟩, 17) := ⟨⟨by decide +kernel, by decide +kernel⟩, List.mem_of_getElem? (i := 26) (by decide +kernel), List.mem_of_getElem? (i := 663) (by decide +kernel), List.mem_of_getElem? (i := 664) (by decide +kernel)⟩
theorem lw_p39 : lw_okq (⟨"WallChapels", "hasTown", "()Z"⟩, 17) := ⟨⟨by decide +kernel, by decide +kernel⟩, List.mem_of_getElem? (i := 26) (by decide +kernel), List.mem_of_getElem? (i := 675) (by decide +kernel), List.mem_of_getElem? (i := 676) (by decide +kernel)⟩
theorem lw_p40 : lw_okq (⟨"WallChapels$Acts", "keep", "(LWallChapels$Scene;)V"⟩, 3) := ⟨⟨by decide +kernel, by decide +kernel⟩, List.mem_of_getElem? (i := 318) (by decide +kernel), List.mem_of_getElem? (i := 679) (by decide +kernel), List.mem_of_getElem? (i := 680) (by decide +kernel)⟩
theorem lw_p41 : lw_okq (⟨"WallChapels$Scene", "become", "(LWallChapels$Scene;)V"⟩, 7) := ⟨⟨by decide +kernel, by decide +kernel⟩, List.mem_of_getElem? (i := 276) (by decide +kernel), List.mem_of_getElem? (i := 683) (by decide +kernel), List.mem_of_getElem? (i := 684) (by decide +kernel)⟩
theorem lw_p42 : lw_okq (⟨"WallChapels", "liveDay", "()V"⟩, 17) := ⟨⟨by decide +kernel, by decide +kernel⟩, List.mem_of_getElem? (i := 26) (by decide +kernel), List.mem_of_getElem? (i := 689) (by decide +kernel), List.mem_of_getElem? (i := 690) (by decide +kernel)⟩
theorem lw_p43 : lw_okq (⟨"WallChapels$Custom", "lookAt", "(LWallChapels$Scene;)V"⟩, 7) := ⟨⟨by decide +kernel, by decide +kernel⟩, List.mem_of_getElem? (i := 216) (by decide +kernel), List.mem_of_getElem? (i := 693) (by decide +kernel), List.mem_of_getElem? (i := 694) (by decide +kernel)⟩
theorem lw_p44 : lw_okq (⟨"WallChapels$Plan", "chapelsAmong", "(I)I"⟩, 8) := ⟨⟨by decide +kernel, by decide +kernel⟩, List.mem_of_getElem? (i := 60) (by decide +kernel), List.mem_of_getElem? (i := 698) (by decide +kernel), List.mem_of_getElem? (i := 699) (by decide +kernel)⟩
theorem lw_p45 : lw_okq (⟨"WallChapels$Ways", "measure", "(LWallChapels$Plan;I)V"⟩, 4) := ⟨⟨by decide +kernel, by decide +kernel⟩, List.mem_of_getElem? (i := 196) (by decide +kernel), List.mem_of_getElem? (i := 703) (by decide +kernel), List.mem_of_getElem? (i := 704) (by decide +kernel)⟩
theorem lw_p46 : lw_okq (⟨"WallChapels$Ways", "noteStreet", "(III)V"⟩, 4) := ⟨⟨by decide +kernel, by decide +kernel⟩, List.mem_of_getElem? (i := 196) (by decide +kernel), List.mem_of_getElem? (i := 711) (by decide +kernel), List.mem_of_getElem? (i := 712) (by decide +kernel)⟩
theorem lw_p47 : lw_okq (⟨"WallChapels$Custom", "passDay", "(LWallChapels$Scene;)V"⟩, 7) := ⟨⟨by decide +kernel, by decide +kernel⟩, List.mem_of_getElem? (i := 216) (by decide +kernel), List.mem_of_getElem? (i := 716) (by decide +kernel), List.mem_of_getElem? (i := 717) (by decide +kernel)⟩
def lw_privs_3 : List (MethodName × Nat) := [(⟨"WallChapels$Walks", "addDraft", "()I"⟩, 5), (⟨"WallChapels", "isCorner", "(I)Z"⟩, 17), (⟨"WallChapels", "openNow", "()I"⟩, 17), (⟨"WallChapels$Plan", "openBehind", "(I)I"⟩, 8), (⟨"WallChapels", "isStreet", "(I)Z"⟩, 17), (⟨"WallChapels$Plan", "yardsOf", "(I)I"⟩, 8), (⟨"WallChapels", "logLength", "()I"⟩, 17), (⟨"WallChapels", "hasTown", "()Z"⟩, 17), (⟨"WallChapels$Acts", "keep", "(LWallChapels$Scene;)V"⟩, 3), (⟨"WallChapels$Scene", "become", "(LWallChapels$Scene;)V"⟩, 7), (⟨"WallChapels", "liveDay", "()V"⟩, 17), (⟨"WallChapels$Custom", "lookAt", "(LWallChapels$Scene;)V"⟩, 7), (⟨"WallChapels$Plan", "chapelsAmong", "(I)I"⟩, 8), (⟨"WallChapels$Ways", "measure", "(LWallChapels$Plan;I)V"⟩, 4), (⟨"WallChapels$Ways", "noteStreet", "(III)V"⟩, 4), (⟨"WallChapels$Custom", "passDay", "(LWallChapels$Scene;)V"⟩, 7)]
theorem lw_r3 : ∀ q ∈ lw_privs_3, lw_okq q := List.forall_mem_cons.mpr ⟨lw_p32, List.forall_mem_cons.mpr ⟨lw_p33, List.forall_mem_cons.mpr ⟨lw_p34, List.forall_mem_cons.mpr ⟨lw_p35, List.forall_mem_cons.mpr ⟨lw_p36, List.forall_mem_cons.mpr ⟨lw_p37, List.forall_mem_cons.mpr ⟨lw_p38, List.forall_mem_cons.mpr ⟨lw_p39, List.forall_mem_cons.mpr ⟨lw_p40, List.forall_mem_cons.mpr ⟨lw_p41, List.forall_mem_cons.mpr ⟨lw_p42, List.forall_mem_cons.mpr ⟨lw_p43, List.forall_mem_cons.mpr ⟨lw_p44, List.forall_mem_cons.mpr ⟨lw_p45, List.forall_mem_cons.mpr ⟨lw_p46, List.forall_mem_cons.mpr ⟨lw_p47, fun _ h => absurd h List.not_mem_nil⟩⟩⟩⟩⟩⟩⟩⟩⟩⟩⟩⟩⟩⟩⟩⟩
theorem lw_p48 : lw_okq (⟨"WallChapels$Custom", "goalOf", "(LWallChapels$Scene;I)I"⟩, 7) := ⟨⟨by decide +kernel, by decide +kernel⟩, List.mem_of_getElem? (i := 216) (by decide +kernel), List.mem_of_getElem? (i := 720) (by decide +kernel), List.mem_of_getElem? (i := 721) (by decide +kernel)⟩
theorem lw_p49 : lw_okq (⟨"WallChapels$Custom", "pullOn", "(LWallChapels$Scene;II)I"⟩, 7) := ⟨⟨by decide +kernel, by decide +kernel⟩, List.mem_of_getElem? (i := 216) (by decide +kernel), List.mem_of_getElem? (i := 725) (by decide +kernel), List.mem_of_getElem? (i := 726) (by decide +kernel)⟩
theorem lw_p50 : lw_okq (⟨"WallChapels$Custom", "canCome", "(LWallChapels$Scene;II)Z"⟩, 7) := ⟨⟨by decide +kernel, by decide +kernel⟩, List.mem_of_getElem? (i := 216) (by decide +kernel), List.mem_of_getElem? (i := 729) (by decide +kernel), List.mem_of_getElem? (i := 730) (by decide +kernel)⟩
theorem lw_p51 : lw_okq (⟨"WallChapels$Ways", "yardsBetween", "(II)I"⟩, 4) := ⟨⟨by decide +kernel, by decide +kernel⟩, List.mem_of_getElem? (i := 196) (by decide +kernel), List.mem_of_getElem? (i := 733) (by decide +kernel), List.mem_of_getElem? (i := 734) (by decide +kernel)⟩
theorem lw_p52 : lw_okq (⟨"WallChapels$Laws", "tellTown", "(II)V"⟩, 12) := ⟨⟨by decide +kernel, by decide +kernel⟩, List.mem_of_getElem? (i := 123) (by decide +kernel), List.mem_of_getElem? (i := 738) (by decide +kernel), List.mem_of_getElem? (i := 739) (by decide +kernel)⟩
theorem lw_p53 : lw_okq (⟨"WallChapels$Laws", "tellChapel", "(IIII)V"⟩, 12) := ⟨⟨by decide +kernel, by decide +kernel⟩, List.mem_of_getElem? (i := 123) (by decide +kernel), List.mem_of_getElem? (i := 742) (by decide +kernel), List.mem_of_getElem? (i := 743) (by decide +kernel)⟩
theorem lw_p54 : lw_okq (⟨"WallChapels$Laws", "worth", "()I"⟩, 12) := ⟨⟨by decide +kernel, by decide +kernel⟩, List.mem_of_getElem? (i := 123) (by decide +kernel), List.mem_of_getElem? (i := 746) (by decide +kernel), List.mem_of_getElem? (i := 747) (by decide +kernel)⟩
theorem lw_p55 : lw_okq (⟨"WallChapels$Laws", "push", "(I)V"⟩, 12) := ⟨⟨by decide +kernel, by decide +kernel⟩, List.mem_of_getElem? (i := 123) (by decide +kernel), List.mem_of_getElem? (i := 750) (by decide +kernel), List.mem_of_getElem? (i := 751) (by decide +kernel)⟩
theorem lw_p56 : lw_okq (⟨"WallChapels$Laws", "pop", "()I"⟩, 12) := ⟨⟨by decide +kernel, by decide +kernel⟩, List.mem_of_getElem? (i := 123) (by decide +kernel), List.mem_of_getElem? (i := 754) (by decide +kernel), List.mem_of_getElem? (i := 755) (by decide +kernel)⟩
theorem lw_p57 : lw_okq (⟨"WallChapels$Laws", "letter", "(I)I"⟩, 12) := ⟨⟨by decide +kernel, by decide +kernel⟩, List.mem_of_getElem? (i := 123) (by decide +kernel), List.mem_of_getElem? (i := 759) (by decide +kernel), List.mem_of_getElem? (i := 760) (by decide +kernel)⟩
theorem lw_p58 : lw_okq (⟨"WallChapels$LogBook", "write", "(IIII)V"⟩, 3) := ⟨⟨by decide +kernel, by decide +kernel⟩, List.mem_of_getElem? (i := 338) (by decide +kernel), List.mem_of_getElem? (i := 777) (by decide +kernel), List.mem_of_getElem? (i := 778) (by decide +kernel)⟩
theorem lw_p59 : lw_okq (⟨"WallChapels", "isWalker", "(I)Z"⟩, 17) := ⟨⟨by decide +kernel, by decide +kernel⟩, List.mem_of_getElem? (i := 26) (by decide +kernel), List.mem_of_getElem? (i := 796) (by decide +kernel), List.mem_of_getElem? (i := 797) (by decide +kernel)⟩
theorem lw_p60 : lw_okq (⟨"WallChapels$Acts", "takeBack", "(LWallChapels$Scene;)Z"⟩, 3) := ⟨⟨by decide +kernel, by decide +kernel⟩, List.mem_of_getElem? (i := 318) (by decide +kernel), List.mem_of_getElem? (i := 824) (by decide +kernel), List.mem_of_getElem? (i := 825) (by decide +kernel)⟩
theorem lw_p61 : lw_okq (⟨"WallChapels$LogBook", "entry", "(II)I"⟩, 3) := ⟨⟨by decide +kernel, by decide +kernel⟩, List.mem_of_getElem? (i := 338) (by decide +kernel), List.mem_of_getElem? (i := 832) (by decide +kernel), List.mem_of_getElem? (i := 833) (by decide +kernel)⟩
theorem lw_p62 : lw_okq (⟨"WallChapels$LogBook", "become", "(LWallChapels$LogBook;)V"⟩, 3) := ⟨⟨by decide +kernel, by decide +kernel⟩, List.mem_of_getElem? (i := 338) (by decide +kernel), List.mem_of_getElem? (i := 841) (by decide +kernel), List.mem_of_getElem? (i := 842) (by decide +kernel)⟩
theorem lw_p63 : lw_okq (⟨"WallChapels$Ways", "stepYards", "(II)I"⟩, 4) := ⟨⟨by decide +kernel, by decide +kernel⟩, List.mem_of_getElem? (i := 196) (by decide +kernel), List.mem_of_getElem? (i := 858) (by decide +kernel), List.mem_of_getElem? (i := 859) (by decide +kernel)⟩
def lw_privs_4 : List (MethodName × Nat) := [(⟨"WallChapels$Custom", "goalOf", "(LWallChapels$Scene;I)I"⟩, 7), (⟨"WallChapels$Custom", "pullOn", "(LWallChapels$Scene;II)I"⟩, 7), (⟨"WallChapels$Custom", "canCome", "(LWallChapels$Scene;II)Z"⟩, 7), (⟨"WallChapels$Ways", "yardsBetween", "(II)I"⟩, 4), (⟨"WallChapels$Laws", "tellTown", "(II)V"⟩, 12), (⟨"WallChapels$Laws", "tellChapel", "(IIII)V"⟩, 12), (⟨"WallChapels$Laws", "worth", "()I"⟩, 12), (⟨"WallChapels$Laws", "push", "(I)V"⟩, 12), (⟨"WallChapels$Laws", "pop", "()I"⟩, 12), (⟨"WallChapels$Laws", "letter", "(I)I"⟩, 12), (⟨"WallChapels$LogBook", "write", "(IIII)V"⟩, 3), (⟨"WallChapels", "isWalker", "(I)Z"⟩, 17), (⟨"WallChapels$Acts", "takeBack", "(LWallChapels$Scene;)Z"⟩, 3), (⟨"WallChapels$LogBook", "entry", "(II)I"⟩, 3), (⟨"WallChapels$LogBook", "become", "(LWallChapels$LogBook;)V"⟩, 3), (⟨"WallChapels$Ways", "stepYards", "(II)I"⟩, 4)]
theorem lw_r4 : ∀ q ∈ lw_privs_4, lw_okq q := List.forall_mem_cons.mpr ⟨lw_p48, List.forall_mem_cons.mpr ⟨lw_p49, List.forall_mem_cons.mpr ⟨lw_p50, List.forall_mem_cons.mpr ⟨lw_p51, List.forall_mem_cons.mpr ⟨lw_p52, List.forall_mem_cons.mpr ⟨lw_p53, List.forall_mem_cons.mpr ⟨lw_p54, List.forall_mem_cons.mpr ⟨lw_p55, List.forall_mem_cons.mpr ⟨lw_p56, List.forall_mem_cons.mpr ⟨lw_p57, List.forall_mem_cons.mpr ⟨lw_p58, List.forall_mem_cons.mpr ⟨lw_p59, List.forall_mem_cons.mpr ⟨lw_p60, List.forall_mem_cons.mpr ⟨lw_p61, List.forall_mem_cons.mpr ⟨lw_p62, List.forall_mem_cons.mpr ⟨lw_p63, fun _ h => absurd h List.not_mem_nil⟩⟩⟩⟩⟩⟩⟩⟩⟩⟩⟩⟩⟩⟩⟩⟩
theorem lw_p64 : lw_okq (⟨"WallChapels$Ways", "isMeasured", "(I)Z"⟩, 4) := ⟨⟨by decide +kernel, by decide +kernel⟩, List.mem_of_getElem? (i := 196) (by decide +kernel), List.mem_of_getElem? (i := 862) (by decide +kernel), List.mem_of_getElem? (i := 863) (by decide +kernel)⟩
theorem lw_p65 : lw_okq (⟨"WallChapels$Ways", "leastRow", "(II)I"⟩, 4) := ⟨⟨by decide +kernel, by decide +kernel⟩, List.mem_of_getElem? (i := 196) (by decide +kernel), List.mem_of_getElem? (i := 876) (by decide +kernel), List.mem_of_getElem? (i := 877) (by decide +kernel)⟩
theorem lw_p66 : lw_okq (⟨"WallChapels$Ways", "nextTowards", "(II)I"⟩, 4) := ⟨⟨by decide +kernel, by decide +kernel⟩, List.mem_of_getElem? (i := 196) (by decide +kernel), List.mem_of_getElem? (i := 880) (by decide +kernel), List.mem_of_getElem? (i := 881) (by decide +kernel)⟩
theorem lw_p67 : lw_okq (⟨"WallChapels$Plan", "reachedFrom", "(II)I"⟩, 8) := ⟨⟨by decide +kernel, by decide +kernel⟩, List.mem_of_getElem? (i := 60) (by decide +kernel), List.mem_of_getElem? (i := 888) (by decide +kernel), List.mem_of_getElem? (i := 889) (by decide +kernel)⟩
theorem lw_p68 : lw_okq (⟨"WallChapels$Ways", "planFeast", "(I)V"⟩, 4) := ⟨⟨by decide +kernel, by decide +kernel⟩, List.mem_of_getElem? (i := 196) (by decide +kernel), List.mem_of_getElem? (i := 892) (by decide +kernel), List.mem_of_getElem? (i := 893) (by decide +kernel)⟩
theorem lw_p69 : lw_okq (⟨"WallChapels$Ways", "fewestYards", "(II)I"⟩, 4) := ⟨⟨by decide +kernel, by decide +kernel⟩, List.mem_of_getElem? (i := 196) (by decide +kernel), List.mem_of_getElem? (i := 896) (by decide +kernel), List.mem_of_getElem? (i := 897) (by decide +kernel)⟩
theorem lw_p70 : lw_okq (⟨"WallChapels$Ways", "yardsByNext", "(III)I"⟩, 4) := ⟨⟨by decide +kernel, by decide +kernel⟩, List.mem_of_getElem? (i := 196) (by decide +kernel), List.mem_of_getElem? (i := 900) (by decide +kernel), List.mem_of_getElem? (i := 901) (by decide +kernel)⟩
theorem lw_p71 : lw_okq (⟨"WallChapels$Ways", "feastOf", "(II)I"⟩, 4) := ⟨⟨by decide +kernel, by decide +kernel⟩, List.mem_of_getElem? (i := 196) (by decide +kernel), List.mem_of_getElem? (i := 905) (by decide +kernel), List.mem_of_getElem? (i := 906) (by decide +kernel)⟩
theorem lw_p72 : lw_okq (⟨"WallChapels$Ways", "feastYards", "(II)I"⟩, 4) := ⟨⟨by decide +kernel, by decide +kernel⟩, List.mem_of_getElem? (i := 196) (by decide +kernel), List.mem_of_getElem? (i := 909) (by decide +kernel), List.mem_of_getElem? (i := 910) (by decide +kernel)⟩
theorem lw_p73 : lw_okq (⟨"WallChapels$Ways", "feastRow", "(II)I"⟩, 4) := ⟨⟨by decide +kernel, by decide +kernel⟩, List.mem_of_getElem? (i := 196) (by decide +kernel), List.mem_of_getElem? (i := 913) (by decide +kernel), List.mem_of_getElem? (i := 914) (by decide +kernel)⟩
theorem lw_p74 : lw_okq (⟨"WallChapels$Sightings", "add", "(IZ)I"⟩, 6) := ⟨⟨by decide +kernel, by decide +kernel⟩, List.mem_of_getElem? (i := 248) (by decide +kernel), List.mem_of_getElem? (i := 933) (by decide +kernel), List.mem_of_getElem? (i := 934) (by decide +kernel)⟩
theorem lw_p75 : lw_okq (⟨"WallChapels$Sightings", "gather", "(LWallChapels$Plan;I)I"⟩, 6) := ⟨⟨by decide +kernel, by decide +kernel⟩, List.mem_of_getElem? (i := 248) (by decide +kernel), List.mem_of_getElem? (i := 941) (by decide +kernel), List.mem_of_getElem? (i := 942) (by decide +kernel)⟩
theorem lw_p76 : lw_okq (⟨"WallChapels$Sightings", "gatherIfFits", "(II)V"⟩, 6) := ⟨⟨by decide +kernel, by decide +kernel⟩, List.mem_of_getElem? (i := 248) (by decide +kernel), List.mem_of_getElem? (i := 947) (by decide +kernel), List.mem_of_getElem? (i := 948) (by decide +kernel)⟩
theorem lw_p77 : lw_okq (⟨"WallChapels$Sightings", "apartBy", "(I)I"⟩, 6) := ⟨⟨by decide +kernel, by decide +kernel⟩, List.mem_of_getElem? (i := 248) (by decide +kernel), List.mem_of_getElem? (i := 955) (by decide +kernel), List.mem_of_getElem? (i := 956) (by decide +kernel)⟩
theorem lw_p78 : lw_okq (⟨"WallChapels", "areTwoWalkers", "(II)Z"⟩, 17) := ⟨⟨by decide +kernel, by decide +kernel⟩, List.mem_of_getElem? (i := 26) (by decide +kernel), List.mem_of_getElem? (i := 989) (by decide +kernel), List.mem_of_getElem? (i := 990) (by decide +kernel)⟩
theorem lw_p79 : lw_okq (⟨"WallChapels$Custom", "hasAt", "(LWallChapels$Scene;III)I"⟩, 7) := ⟨⟨by decide +kernel, by decide +kernel⟩, List.mem_of_getElem? (i := 216) (by decide +kernel), List.mem_of_getElem? (i := 993) (by decide +kernel), List.mem_of_getElem? (i := 994) (by decide +kernel)⟩
def lw_privs_5 : List (MethodName × Nat) := [(⟨"WallChapels$Ways", "isMeasured", "(I)Z"⟩, 4), (⟨"WallChapels$Ways", "leastRow", "(II)I"⟩, 4), (⟨"WallChapels$Ways", "nextTowards", "(II)I"⟩, 4), (⟨"WallChapels$Plan", "reachedFrom", "(II)I"⟩, 8), (⟨"WallChapels$Ways", "planFeast", "(I)V"⟩, 4), (⟨"WallChapels$Ways", "fewestYards", "(II)I"⟩, 4), (⟨"WallChapels$Ways", "yardsByNext", "(III)I"⟩, 4), (⟨"WallChapels$Ways", "feastOf", "(II)I"⟩, 4), (⟨"WallChapels$Ways", "feastYards", "(II)I"⟩, 4), (⟨"WallChapels$Ways", "feastRow", "(II)I"⟩, 4), (⟨"WallChapels$Sightings", "add", "(IZ)I"⟩, 6), (⟨"WallChapels$Sightings", "gather", "(LWallChapels$Plan;I)I"⟩, 6), (⟨"WallChapels$Sightings", "gatherIfFits", "(II)V"⟩, 6), (⟨"WallChapels$Sightings", "apartBy", "(I)I"⟩, 6), (⟨"WallChapels", "areTwoWalkers", "(II)Z"⟩, 17), (⟨"WallChapels$Custom", "hasAt", "(LWallChapels$Scene;III)I"⟩, 7)]
theorem lw_r5 : ∀ q ∈ lw_privs_5, lw_okq q := List.forall_mem_cons.mpr ⟨lw_p64, List.forall_mem_cons.mpr ⟨lw_p65, List.forall_mem_cons.mpr ⟨lw_p66, List.forall_mem_cons.mpr ⟨lw_p67, List.forall_mem_cons.mpr ⟨lw_p68, List.forall_mem_cons.mpr ⟨lw_p69, List.forall_mem_cons.mpr ⟨lw_p70, List.forall_mem_cons.mpr ⟨lw_p71, List.forall_mem_cons.mpr ⟨lw_p72, List.forall_mem_cons.mpr ⟨lw_p73, List.forall_mem_cons.mpr ⟨lw_p74, List.forall_mem_cons.mpr ⟨lw_p75, List.forall_mem_cons.mpr ⟨lw_p76, List.forall_mem_cons.mpr ⟨lw_p77, List.forall_mem_cons.mpr ⟨lw_p78, List.forall_mem_cons.mpr ⟨lw_p79, fun _ h => absurd h List.not_mem_nil⟩⟩⟩⟩⟩⟩⟩⟩⟩⟩⟩⟩⟩⟩⟩⟩
theorem lw_p80 : lw_okq (⟨"WallChapels$Custom", "stays", "(LWallChapels$Scene;III)Z"⟩, 7) := ⟨⟨by decide +kernel, by decide +kernel⟩, List.mem_of_getElem? (i := 216) (by decide +kernel), List.mem_of_getElem? (i := 1001) (by decide +kernel), List.mem_of_getElem? (i := 1002) (by decide +kernel)⟩
theorem lw_p81 : lw_okq (⟨"WallChapels$Plan", "bridgesAmong", "(I)I"⟩, 8) := ⟨⟨by decide +kernel, by decide +kernel⟩, List.mem_of_getElem? (i := 60) (by decide +kernel), List.mem_of_getElem? (i := 1021) (by decide +kernel), List.mem_of_getElem? (i := 1022) (by decide +kernel)⟩
theorem lw_p82 : lw_okq (⟨"WallChapels$Plan", "partsBy", "(I)I"⟩, 8) := ⟨⟨by decide +kernel, by decide +kernel⟩, List.mem_of_getElem? (i := 60) (by decide +kernel), List.mem_of_getElem? (i := 1026) (by decide +kernel), List.mem_of_getElem? (i := 1027) (by decide +kernel)⟩
theorem lw_p83 : lw_okq (⟨"WallChapels", "deepest", "()I"⟩, 17) := ⟨⟨by decide +kernel, by decide +kernel⟩, List.mem_of_getElem? (i := 26) (by decide +kernel), List.mem_of_getElem? (i := 1030) (by decide +kernel), List.mem_of_getElem? (i := 1031) (by decide +kernel)⟩
theorem lw_p84 : lw_okq (⟨"WallChapels", "byStreets", "(II)I"⟩, 17) := ⟨⟨by decide +kernel, by decide +kernel⟩, List.mem_of_getElem? (i := 26) (by decide +kernel), List.mem_of_getElem? (i := 1034) (by decide +kernel), List.mem_of_getElem? (i := 1035) (by decide +kernel)⟩
theorem lw_p85 : lw_okq (⟨"WallChapels", "faithful", "()I"⟩, 17) := ⟨⟨by decide +kernel, by decide +kernel⟩, List.mem_of_getElem? (i := 26) (by decide +kernel), List.mem_of_getElem? (i := 1038) (by decide +kernel), List.mem_of_getElem? (i := 1039) (by decide +kernel)⟩
theorem lw_p86 : lw_okq (⟨"WallChapels", "byFarthest", "(II)I"⟩, 17) := ⟨⟨by decide +kernel, by decide +kernel⟩, List.mem_of_getElem? (i := 26) (by decide +kernel), List.mem_of_getElem? (i := 1042) (by decide +kernel), List.mem_of_getElem? (i := 1043) (by decide +kernel)⟩
theorem lw_p87 : lw_okq (⟨"WallChapels$Ways", "farthestFrom", "(I)I"⟩, 4) := ⟨⟨by decide +kernel, by decide +kernel⟩, List.mem_of_getElem? (i := 196) (by decide +kernel), List.mem_of_getElem? (i := 1046) (by decide +kernel), List.mem_of_getElem? (i := 1047) (by decide +kernel)⟩
theorem lw_p88 : lw_okq (⟨"WallChapels$Plan", "lengthOf", "(I)I"⟩, 8) := ⟨⟨by decide +kernel, by decide +kernel⟩, List.mem_of_getElem? (i := 60) (by decide +kernel), List.mem_of_getElem? (i := 1051) (by decide +kernel), List.mem_of_getElem? (i := 1052) (by decide +kernel)⟩
theorem lw_p89 : lw_okq (⟨"WallChapels", "lit", "()I"⟩, 17) := ⟨⟨by decide +kernel, by decide +kernel⟩, List.mem_of_getElem? (i := 26) (by decide +kernel), List.mem_of_getElem? (i := 1056) (by decide +kernel), List.mem_of_getElem? (i := 1057) (by decide +kernel)⟩
theorem lw_p90 : lw_okq (⟨"java/lang/Throwable", "fillInStackTrace", "(I)Ljava/lang/Throwable;"⟩, 6) := ⟨⟨by decide +kernel, by decide +kernel⟩, List.mem_of_getElem? (i := 1104) (by decide +kernel), List.mem_of_getElem? (i := 1102) (by decide +kernel), List.mem_of_getElem? (i := 1103) (by decide +kernel)⟩
theorem lw_p91 : lw_okq (⟨"WallChapelsModel", "put", "(I)V"⟩, 54) := ⟨⟨by decide +kernel, by decide +kernel⟩, List.mem_of_getElem? (i := 1134) (by decide +kernel), List.mem_of_getElem? (i := 1317) (by decide +kernel), List.mem_of_getElem? (i := 1318) (by decide +kernel)⟩
theorem lw_p92 : lw_okq (⟨"WallChapelsModel", "readTown", "()V"⟩, 54) := ⟨⟨by decide +kernel, by decide +kernel⟩, List.mem_of_getElem? (i := 1134) (by decide +kernel), List.mem_of_getElem? (i := 1333) (by decide +kernel), List.mem_of_getElem? (i := 1334) (by decide +kernel)⟩
theorem lw_p93 : lw_okq (⟨"WallChapelsModel", "starts", "([BII)V"⟩, 54) := ⟨⟨by decide +kernel, by decide +kernel⟩, List.mem_of_getElem? (i := 1134) (by decide +kernel), List.mem_of_getElem? (i := 1337) (by decide +kernel), List.mem_of_getElem? (i := 1338) (by decide +kernel)⟩
theorem lw_p94 : lw_okq (⟨"WallChapelsModel", "readClause", "()V"⟩, 54) := ⟨⟨by decide +kernel, by decide +kernel⟩, List.mem_of_getElem? (i := 1134) (by decide +kernel), List.mem_of_getElem? (i := 1341) (by decide +kernel), List.mem_of_getElem? (i := 1342) (by decide +kernel)⟩
theorem lw_p95 : lw_okq (⟨"WallChapelsModel", "look", "()I"⟩, 54) := ⟨⟨by decide +kernel, by decide +kernel⟩, List.mem_of_getElem? (i := 1134) (by decide +kernel), List.mem_of_getElem? (i := 1345) (by decide +kernel), List.mem_of_getElem? (i := 1346) (by decide +kernel)⟩
def lw_privs_6 : List (MethodName × Nat) := [(⟨"WallChapels$Custom", "stays", "(LWallChapels$Scene;III)Z"⟩, 7), (⟨"WallChapels$Plan", "bridgesAmong", "(I)I"⟩, 8), (⟨"WallChapels$Plan", "partsBy", "(I)I"⟩, 8), (⟨"WallChapels", "deepest", "()I"⟩, 17), (⟨"WallChapels", "byStreets", "(II)I"⟩, 17), (⟨"WallChapels", "faithful", "()I"⟩, 17), (⟨"WallChapels", "byFarthest", "(II)I"⟩, 17), (⟨"WallChapels$Ways", "farthestFrom", "(I)I"⟩, 4), (⟨"WallChapels$Plan", "lengthOf", "(I)I"⟩, 8), (⟨"WallChapels", "lit", "()I"⟩, 17), (⟨"java/lang/Throwable", "fillInStackTrace", "(I)Ljava/lang/Throwable;"⟩, 6), (⟨"WallChapelsModel", "put", "(I)V"⟩, 54), (⟨"WallChapelsModel", "readTown", "()V"⟩, 54), (⟨"WallChapelsModel", "starts", "([BII)V"⟩, 54), (⟨"WallChapelsModel", "readClause", "()V"⟩, 54), (⟨"WallChapelsModel", "look", "()I"⟩, 54)]
theorem lw_r6 : ∀ q ∈ lw_privs_6, lw_okq q := List.forall_mem_cons.mpr ⟨lw_p80, List.forall_mem_cons.mpr ⟨lw_p81, List.forall_mem_cons.mpr ⟨lw_p82, List.forall_mem_cons.mpr ⟨lw_p83, List.forall_mem_cons.mpr ⟨lw_p84, List.forall_mem_cons.mpr ⟨lw_p85, List.forall_mem_cons.mpr ⟨lw_p86, List.forall_mem_cons.mpr ⟨lw_p87, List.forall_mem_cons.mpr ⟨lw_p88, List.forall_mem_cons.mpr ⟨lw_p89, List.forall_mem_cons.mpr ⟨lw_p90, List.forall_mem_cons.mpr ⟨lw_p91, List.forall_mem_cons.mpr ⟨lw_p92, List.forall_mem_cons.mpr ⟨lw_p93, List.forall_mem_cons.mpr ⟨lw_p94, List.forall_mem_cons.mpr ⟨lw_p95, fun _ h => absurd h List.not_mem_nil⟩⟩⟩⟩⟩⟩⟩⟩⟩⟩⟩⟩⟩⟩⟩⟩
theorem lw_p96 : lw_okq (⟨"WallChapelsModel", "fails", "()Z"⟩, 54) := ⟨⟨by decide +kernel, by decide +kernel⟩, List.mem_of_getElem? (i := 1134) (by decide +kernel), List.mem_of_getElem? (i := 1349) (by decide +kernel), List.mem_of_getElem? (i := 1350) (by decide +kernel)⟩
theorem lw_p97 : lw_okq (⟨"WallChapelsModel", "readItems", "(I[IILjava/lang/String;)V"⟩, 54) := ⟨⟨by decide +kernel, by decide +kernel⟩, List.mem_of_getElem? (i := 1134) (by decide +kernel), List.mem_of_getElem? (i := 1354) (by decide +kernel), List.mem_of_getElem? (i := 1355) (by decide +kernel)⟩
theorem lw_p98 : lw_okq (⟨"WallChapelsModel", "number", "(II)I"⟩, 54) := ⟨⟨by decide +kernel, by decide +kernel⟩, List.mem_of_getElem? (i := 1134) (by decide +kernel), List.mem_of_getElem? (i := 1421) (by decide +kernel), List.mem_of_getElem? (i := 1422) (by decide +kernel)⟩
theorem lw_p99 : lw_okq (⟨"WallChapelsModel", "isDigit", "()Z"⟩, 54) := ⟨⟨by decide +kernel, by decide +kernel⟩, List.mem_of_getElem? (i := 1134) (by decide +kernel), List.mem_of_getElem? (i := 1425) (by decide +kernel), List.mem_of_getElem? (i := 1426) (by decide +kernel)⟩
theorem lw_p100 : lw_okq (⟨"WallChapelsModel", "here", "()I"⟩, 54) := ⟨⟨by decide +kernel, by decide +kernel⟩, List.mem_of_getElem? (i := 1134) (by decide +kernel), List.mem_of_getElem? (i := 1429) (by decide +kernel), List.mem_of_getElem? (i := 1430) (by decide +kernel)⟩
theorem lw_p101 : lw_okq (⟨"WallChapelsModel", "isWhole", "()Z"⟩, 54) := ⟨⟨by decide +kernel, by decide +kernel⟩, List.mem_of_getElem? (i := 1134) (by decide +kernel), List.mem_of_getElem? (i := 1435) (by decide +kernel), List.mem_of_getElem? (i := 1436) (by decide +kernel)⟩
theorem lw_p102 : lw_okq (⟨"WallChapelsModel", "goThrough", "([BII)V"⟩, 54) := ⟨⟨by decide +kernel, by decide +kernel⟩, List.mem_of_getElem? (i := 1134) (by decide +kernel), List.mem_of_getElem? (i := 1439) (by decide +kernel), List.mem_of_getElem? (i := 1440) (by decide +kernel)⟩
theorem lw_p103 : lw_okq (⟨"WallChapelsModel", "clause", "()V"⟩, 54) := ⟨⟨by decide +kernel, by decide +kernel⟩, List.mem_of_getElem? (i := 1134) (by decide +kernel), List.mem_of_getElem? (i := 1443) (by decide +kernel), List.mem_of_getElem? (i := 1444) (by decide +kernel)⟩
theorem lw_p104 : lw_okq (⟨"WallChapelsModel", "takes", "(I)Z"⟩, 54) := ⟨⟨by decide +kernel, by decide +kernel⟩, List.mem_of_getElem? (i := 1134) (by decide +kernel), List.mem_of_getElem? (i := 1450) (by decide +kernel), List.mem_of_getElem? (i := 1451) (by decide +kernel)⟩
theorem lw_p105 : lw_okq (⟨"WallChapelsModel", "condition", "(ZI)Z"⟩, 54) := ⟨⟨by decide +kernel, by decide +kernel⟩, List.mem_of_getElem? (i := 1134) (by decide +kernel), List.mem_of_getElem? (i := 1454) (by decide +kernel), List.mem_of_getElem? (i := 1455) (by decide +kernel)⟩
theorem lw_p106 : lw_okq (⟨"WallChapelsModel", "part", "(ZI)Z"⟩, 54) := ⟨⟨by decide +kernel, by decide +kernel⟩, List.mem_of_getElem? (i := 1134) (by decide +kernel), List.mem_of_getElem? (i := 1458) (by decide +kernel), List.mem_of_getElem? (i := 1459) (by decide +kernel)⟩
theorem lw_p107 : lw_okq (⟨"WallChapelsModel", "compares", "(ZI)Z"⟩, 54) := ⟨⟨by decide +kernel, by decide +kernel⟩, List.mem_of_getElem? (i := 1134) (by decide +kernel), List.mem_of_getElem? (i := 1462) (by decide +kernel), List.mem_of_getElem? (i := 1463) (by decide +kernel)⟩
theorem lw_p108 : lw_okq (⟨"WallChapelsModel", "sum", "()I"⟩, 54) := ⟨⟨by decide +kernel, by decide +kernel⟩, List.mem_of_getElem? (i := 1134) (by decide +kernel), List.mem_of_getElem? (i := 1466) (by decide +kernel), List.mem_of_getElem? (i := 1467) (by decide +kernel)⟩
theorem lw_p109 : lw_okq (⟨"WallChapelsModel", "term", "()I"⟩, 54) := ⟨⟨by decide +kernel, by decide +kernel⟩, List.mem_of_getElem? (i := 1134) (by decide +kernel), List.mem_of_getElem? (i := 1470) (by decide +kernel), List.mem_of_getElem? (i := 1471) (by decide +kernel)⟩
theorem lw_p110 : lw_okq (⟨"WallChapelsModel", "atom", "()I"⟩, 54) := ⟨⟨by decide +kernel, by decide +kernel⟩, List.mem_of_getElem? (i := 1134) (by decide +kernel), List.mem_of_getElem? (i := 1474) (by decide +kernel), List.mem_of_getElem? (i := 1475) (by decide +kernel)⟩
theorem lw_p111 : lw_okq (⟨"WallChapelsModel", "goesIn", "()Z"⟩, 54) := ⟨⟨by decide +kernel, by decide +kernel⟩, List.mem_of_getElem? (i := 1134) (by decide +kernel), List.mem_of_getElem? (i := 1478) (by decide +kernel), List.mem_of_getElem? (i := 1479) (by decide +kernel)⟩
def lw_privs_7 : List (MethodName × Nat) := [(⟨"WallChapelsModel", "fails", "()Z"⟩, 54), (⟨"WallChapelsModel", "readItems", "(I[IILjava/lang/String;)V"⟩, 54), (⟨"WallChapelsModel", "number", "(II)I"⟩, 54), (⟨"WallChapelsModel", "isDigit", "()Z"⟩, 54), (⟨"WallChapelsModel", "here", "()I"⟩, 54), (⟨"WallChapelsModel", "isWhole", "()Z"⟩, 54), (⟨"WallChapelsModel", "goThrough", "([BII)V"⟩, 54), (⟨"WallChapelsModel", "clause", "()V"⟩, 54), (⟨"WallChapelsModel", "takes", "(I)Z"⟩, 54), (⟨"WallChapelsModel", "condition", "(ZI)Z"⟩, 54), (⟨"WallChapelsModel", "part", "(ZI)Z"⟩, 54), (⟨"WallChapelsModel", "compares", "(ZI)Z"⟩, 54), (⟨"WallChapelsModel", "sum", "()I"⟩, 54), (⟨"WallChapelsModel", "term", "()I"⟩, 54), (⟨"WallChapelsModel", "atom", "()I"⟩, 54), (⟨"WallChapelsModel", "goesIn", "()Z"⟩, 54)]
theorem lw_r7 : ∀ q ∈ lw_privs_7, lw_okq q := List.forall_mem_cons.mpr ⟨lw_p96, List.forall_mem_cons.mpr ⟨lw_p97, List.forall_mem_cons.mpr ⟨lw_p98, List.forall_mem_cons.mpr ⟨lw_p99, List.forall_mem_cons.mpr ⟨lw_p100, List.forall_mem_cons.mpr ⟨lw_p101, List.forall_mem_cons.mpr ⟨lw_p102, List.forall_mem_cons.mpr ⟨lw_p103, List.forall_mem_cons.mpr ⟨lw_p104, List.forall_mem_cons.mpr ⟨lw_p105, List.forall_mem_cons.mpr ⟨lw_p106, List.forall_mem_cons.mpr ⟨lw_p107, List.forall_mem_cons.mpr ⟨lw_p108, List.forall_mem_cons.mpr ⟨lw_p109, List.forall_mem_cons.mpr ⟨lw_p110, List.forall_mem_cons.mpr ⟨lw_p111, fun _ h => absurd h List.not_mem_nil⟩⟩⟩⟩⟩⟩⟩⟩⟩⟩⟩⟩⟩⟩⟩⟩
theorem lw_p112 : lw_okq (⟨"WallChapelsModel", "unit", "()Z"⟩, 54) := ⟨⟨by decide +kernel, by decide +kernel⟩, List.mem_of_getElem? (i := 1134) (by decide +kernel), List.mem_of_getElem? (i := 1496) (by decide +kernel), List.mem_of_getElem? (i := 1497) (by decide +kernel)⟩
theorem lw_p113 : lw_okq (⟨"WallChapelsModel", "readWalk", "()V"⟩, 54) := ⟨⟨by decide +kernel, by decide +kernel⟩, List.mem_of_getElem? (i := 1134) (by decide +kernel), List.mem_of_getElem? (i := 1500) (by decide +kernel), List.mem_of_getElem? (i := 1501) (by decide +kernel)⟩
theorem lw_p114 : lw_okq (⟨"WallChapelsModel", "isCorner", "(I)Z"⟩, 54) := ⟨⟨by decide +kernel, by decide +kernel⟩, List.mem_of_getElem? (i := 1134) (by decide +kernel), List.mem_of_getElem? (i := 1513) (by decide +kernel), List.mem_of_getElem? (i := 1514) (by decide +kernel)⟩
theorem lw_p115 : lw_okq (⟨"WallChapelsModel", "openAt", "(II)I"⟩, 54) := ⟨⟨by decide +kernel, by decide +kernel⟩, List.mem_of_getElem? (i := 1134) (by decide +kernel), List.mem_of_getElem? (i := 1517) (by decide +kernel), List.mem_of_getElem? (i := 1518) (by decide +kernel)⟩
theorem lw_p116 : lw_okq (⟨"WallChapelsModel", "isStreet", "(I)Z"⟩, 54) := ⟨⟨by decide +kernel, by decide +kernel⟩, List.mem_of_getElem? (i := 1134) (by decide +kernel), List.mem_of_getElem? (i := 1525) (by decide +kernel), List.mem_of_getElem? (i := 1526) (by decide +kernel)⟩
theorem lw_p117 : lw_okq (⟨"WallChapelsModel", "isWalker", "(I)Z"⟩, 54) := ⟨⟨by decide +kernel, by decide +kernel⟩, List.mem_of_getElem? (i := 1134) (by decide +kernel), List.mem_of_getElem? (i := 1534) (by decide +kernel), List.mem_of_getElem? (i := 1535) (by decide +kernel)⟩
theorem lw_p118 : lw_okq (⟨"WallChapelsModel", "remember", "()V"⟩, 54) := ⟨⟨by decide +kernel, by decide +kernel⟩, List.mem_of_getElem? (i := 1134) (by decide +kernel), List.mem_of_getElem? (i := 1551) (by decide +kernel), List.mem_of_getElem? (i := 1552) (by decide +kernel)⟩
theorem lw_p119 : lw_okq (⟨"WallChapelsModel", "goDay", "([I)I"⟩, 54) := ⟨⟨by decide +kernel, by decide +kernel⟩, List.mem_of_getElem? (i := 1134) (by decide +kernel), List.mem_of_getElem? (i := 1555) (by decide +kernel), List.mem_of_getElem? (i := 1556) (by decide +kernel)⟩
theorem lw_p120 : lw_okq (⟨"WallChapelsModel", "laysYards", "(I)V"⟩, 54) := ⟨⟨by decide +kernel, by decide +kernel⟩, List.mem_of_getElem? (i := 1134) (by decide +kernel), List.mem_of_getElem? (i := 1559) (by decide +kernel), List.mem_of_getElem? (i := 1560) (by decide +kernel)⟩
theorem lw_p121 : lw_okq (⟨"WallChapelsModel", "goesOf", "([II)I"⟩, 54) := ⟨⟨by decide +kernel, by decide +kernel⟩, List.mem_of_getElem? (i := 1134) (by decide +kernel), List.mem_of_getElem? (i := 1565) (by decide +kernel), List.mem_of_getElem? (i := 1566) (by decide +kernel)⟩
theorem lw_p122 : lw_okq (⟨"WallChapelsModel", "drawsOf", "([III)I"⟩, 54) := ⟨⟨by decide +kernel, by decide +kernel⟩, List.mem_of_getElem? (i := 1134) (by decide +kernel), List.mem_of_getElem? (i := 1569) (by decide +kernel), List.mem_of_getElem? (i := 1570) (by decide +kernel)⟩
theorem lw_p123 : lw_okq (⟨"WallChapelsModel", "chapels", "(I)I"⟩, 54) := ⟨⟨by decide +kernel, by decide +kernel⟩, List.mem_of_getElem? (i := 1134) (by decide +kernel), List.mem_of_getElem? (i := 1573) (by decide +kernel), List.mem_of_getElem? (i := 1574) (by decide +kernel)⟩
theorem lw_p124 : lw_okq (⟨"WallChapelsModel", "canCome", "(II)Z"⟩, 54) := ⟨⟨by decide +kernel, by decide +kernel⟩, List.mem_of_getElem? (i := 1134) (by decide +kernel), List.mem_of_getElem? (i := 1577) (by decide +kernel), List.mem_of_getElem? (i := 1578) (by decide +kernel)⟩
theorem lw_p125 : lw_okq (⟨"WallChapelsModel", "far0", "(II)I"⟩, 54) := ⟨⟨by decide +kernel, by decide +kernel⟩, List.mem_of_getElem? (i := 1134) (by decide +kernel), List.mem_of_getElem? (i := 1581) (by decide +kernel), List.mem_of_getElem? (i := 1582) (by decide +kernel)⟩
theorem lw_p126 : lw_okq (⟨"WallChapelsModel", "worthOf", "(IIIIII)I"⟩, 54) := ⟨⟨by decide +kernel, by decide +kernel⟩, List.mem_of_getElem? (i := 1134) (by decide +kernel), List.mem_of_getElem? (i := 1587) (by decide +kernel), List.mem_of_getElem? (i := 1588) (by decide +kernel)⟩
theorem lw_p127 : lw_okq (⟨"WallChapelsModel", "pays", "(I)Z"⟩, 54) := ⟨⟨by decide +kernel, by decide +kernel⟩, List.mem_of_getElem? (i := 1134) (by decide +kernel), List.mem_of_getElem? (i := 1602) (by decide +kernel), List.mem_of_getElem? (i := 1603) (by decide +kernel)⟩
def lw_privs_8 : List (MethodName × Nat) := [(⟨"WallChapelsModel", "unit", "()Z"⟩, 54), (⟨"WallChapelsModel", "readWalk", "()V"⟩, 54), (⟨"WallChapelsModel", "isCorner", "(I)Z"⟩, 54), (⟨"WallChapelsModel", "openAt", "(II)I"⟩, 54), (⟨"WallChapelsModel", "isStreet", "(I)Z"⟩, 54), (⟨"WallChapelsModel", "isWalker", "(I)Z"⟩, 54), (⟨"WallChapelsModel", "remember", "()V"⟩, 54), (⟨"WallChapelsModel", "goDay", "([I)I"⟩, 54), (⟨"WallChapelsModel", "laysYards", "(I)V"⟩, 54), (⟨"WallChapelsModel", "goesOf", "([II)I"⟩, 54), (⟨"WallChapelsModel", "drawsOf", "([III)I"⟩, 54), (⟨"WallChapelsModel", "chapels", "(I)I"⟩, 54), (⟨"WallChapelsModel", "canCome", "(II)Z"⟩, 54), (⟨"WallChapelsModel", "far0", "(II)I"⟩, 54), (⟨"WallChapelsModel", "worthOf", "(IIIIII)I"⟩, 54), (⟨"WallChapelsModel", "pays", "(I)Z"⟩, 54)]
theorem lw_r8 : ∀ q ∈ lw_privs_8, lw_okq q := List.forall_mem_cons.mpr ⟨lw_p112, List.forall_mem_cons.mpr ⟨lw_p113, List.forall_mem_cons.mpr ⟨lw_p114, List.forall_mem_cons.mpr ⟨lw_p115, List.forall_mem_cons.mpr ⟨lw_p116, List.forall_mem_cons.mpr ⟨lw_p117, List.forall_mem_cons.mpr ⟨lw_p118, List.forall_mem_cons.mpr ⟨lw_p119, List.forall_mem_cons.mpr ⟨lw_p120, List.forall_mem_cons.mpr ⟨lw_p121, List.forall_mem_cons.mpr ⟨lw_p122, List.forall_mem_cons.mpr ⟨lw_p123, List.forall_mem_cons.mpr ⟨lw_p124, List.forall_mem_cons.mpr ⟨lw_p125, List.forall_mem_cons.mpr ⟨lw_p126, List.forall_mem_cons.mpr ⟨lw_p127, fun _ h => absurd h List.not_mem_nil⟩⟩⟩⟩⟩⟩⟩⟩⟩⟩⟩⟩⟩⟩⟩⟩
theorem lw_p128 : lw_okq (⟨"WallChapelsModel", "draw", "(I)I"⟩, 54) := ⟨⟨by decide +kernel, by decide +kernel⟩, List.mem_of_getElem? (i := 1134) (by decide +kernel), List.mem_of_getElem? (i := 1628) (by decide +kernel), List.mem_of_getElem? (i := 1629) (by decide +kernel)⟩
theorem lw_p129 : lw_okq (⟨"WallChapelsModel", "isWalk", "(I)Z"⟩, 54) := ⟨⟨by decide +kernel, by decide +kernel⟩, List.mem_of_getElem? (i := 1134) (by decide +kernel), List.mem_of_getElem? (i := 1646) (by decide +kernel), List.mem_of_getElem? (i := 1647) (by decide +kernel)⟩
theorem lw_p130 : lw_okq (⟨"WallChapelsModel", "between", "(II)I"⟩, 54) := ⟨⟨by decide +kernel, by decide +kernel⟩, List.mem_of_getElem? (i := 1134) (by decide +kernel), List.mem_of_getElem? (i := 1655) (by decide +kernel), List.mem_of_getElem? (i := 1656) (by decide +kernel)⟩
theorem lw_p131 : lw_okq (⟨"WallChapelsModel", "goWay", "(IIIIII)V"⟩, 54) := ⟨⟨by decide +kernel, by decide +kernel⟩, List.mem_of_getElem? (i := 1134) (by decide +kernel), List.mem_of_getElem? (i := 1667) (by decide +kernel), List.mem_of_getElem? (i := 1668) (by decide +kernel)⟩
theorem lw_p132 : lw_okq (⟨"WallChapelsModel", "goFeast", "(IIII)V"⟩, 54) := ⟨⟨by decide +kernel, by decide +kernel⟩, List.mem_of_getElem? (i := 1134) (by decide +kernel), List.mem_of_getElem? (i := 1675) (by decide +kernel), List.mem_of_getElem? (i := 1676) (by decide +kernel)⟩
theorem lw_p133 : lw_okq (⟨"WallChapelsModel", "couldBe", "(I)Z"⟩, 54) := ⟨⟨by decide +kernel, by decide +kernel⟩, List.mem_of_getElem? (i := 1134) (by decide +kernel), List.mem_of_getElem? (i := 1699) (by decide +kernel), List.mem_of_getElem? (i := 1700) (by decide +kernel)⟩
theorem lw_p134 : lw_okq (⟨"WallChapelsModel", "isSo", "(I)Z"⟩, 54) := ⟨⟨by decide +kernel, by decide +kernel⟩, List.mem_of_getElem? (i := 1134) (by decide +kernel), List.mem_of_getElem? (i := 1703) (by decide +kernel), List.mem_of_getElem? (i := 1704) (by decide +kernel)⟩
theorem lw_p135 : lw_okq (⟨"WallChapelsModel", "wallsBy", "(I)I"⟩, 54) := ⟨⟨by decide +kernel, by decide +kernel⟩, List.mem_of_getElem? (i := 1134) (by decide +kernel), List.mem_of_getElem? (i := 1707) (by decide +kernel), List.mem_of_getElem? (i := 1708) (by decide +kernel)⟩
theorem lw_p136 : lw_okq (⟨"WallChapelsModel", "reached", "(II)I"⟩, 54) := ⟨⟨by decide +kernel, by decide +kernel⟩, List.mem_of_getElem? (i := 1134) (by decide +kernel), List.mem_of_getElem? (i := 1724) (by decide +kernel), List.mem_of_getElem? (i := 1725) (by decide +kernel)⟩
theorem lw_p137 : lw_okq (⟨"WallChapelsModel", "isGame", "(II)Z"⟩, 54) := ⟨⟨by decide +kernel, by decide +kernel⟩, List.mem_of_getElem? (i := 1134) (by decide +kernel), List.mem_of_getElem? (i := 1744) (by decide +kernel), List.mem_of_getElem? (i := 1745) (by decide +kernel)⟩
theorem lw_p138 : lw_okq (⟨"WallChapelsModel", "gameOf", "(IIIII)I"⟩, 54) := ⟨⟨by decide +kernel, by decide +kernel⟩, List.mem_of_getElem? (i := 1134) (by decide +kernel), List.mem_of_getElem? (i := 1749) (by decide +kernel), List.mem_of_getElem? (i := 1750) (by decide +kernel)⟩
theorem lw_p139 : lw_okq (⟨"WallChapelsModel", "bridges", "()I"⟩, 54) := ⟨⟨by decide +kernel, by decide +kernel⟩, List.mem_of_getElem? (i := 1134) (by decide +kernel), List.mem_of_getElem? (i := 1771) (by decide +kernel), List.mem_of_getElem? (i := 1772) (by decide +kernel)⟩
theorem lw_p140 : lw_okq (⟨"WallChapelsModel", "parts", "()I"⟩, 54) := ⟨⟨by decide +kernel, by decide +kernel⟩, List.mem_of_getElem? (i := 1134) (by decide +kernel), List.mem_of_getElem? (i := 1775) (by decide +kernel), List.mem_of_getElem? (i := 1776) (by decide +kernel)⟩
theorem lw_p141 : lw_okq (⟨"WallChapelsModel", "openStreets", "()I"⟩, 54) := ⟨⟨by decide +kernel, by decide +kernel⟩, List.mem_of_getElem? (i := 1134) (by decide +kernel), List.mem_of_getElem? (i := 1779) (by decide +kernel), List.mem_of_getElem? (i := 1780) (by decide +kernel)⟩
theorem lw_p142 : lw_okq (⟨"WallChapelsModel", "greatest", "(I)I"⟩, 54) := ⟨⟨by decide +kernel, by decide +kernel⟩, List.mem_of_getElem? (i := 1134) (by decide +kernel), List.mem_of_getElem? (i := 1783) (by decide +kernel), List.mem_of_getElem? (i := 1784) (by decide +kernel)⟩
theorem lw_p143 : lw_okq (⟨"WallChapelsModel", "valueOf", "(II)I"⟩, 54) := ⟨⟨by decide +kernel, by decide +kernel⟩, List.mem_of_getElem? (i := 1134) (by decide +kernel), List.mem_of_getElem? (i := 1787) (by decide +kernel), List.mem_of_getElem? (i := 1788) (by decide +kernel)⟩
def lw_privs_9 : List (MethodName × Nat) := [(⟨"WallChapelsModel", "draw", "(I)I"⟩, 54), (⟨"WallChapelsModel", "isWalk", "(I)Z"⟩, 54), (⟨"WallChapelsModel", "between", "(II)I"⟩, 54), (⟨"WallChapelsModel", "goWay", "(IIIIII)V"⟩, 54), (⟨"WallChapelsModel", "goFeast", "(IIII)V"⟩, 54), (⟨"WallChapelsModel", "couldBe", "(I)Z"⟩, 54), (⟨"WallChapelsModel", "isSo", "(I)Z"⟩, 54), (⟨"WallChapelsModel", "wallsBy", "(I)I"⟩, 54), (⟨"WallChapelsModel", "reached", "(II)I"⟩, 54), (⟨"WallChapelsModel", "isGame", "(II)Z"⟩, 54), (⟨"WallChapelsModel", "gameOf", "(IIIII)I"⟩, 54), (⟨"WallChapelsModel", "bridges", "()I"⟩, 54), (⟨"WallChapelsModel", "parts", "()I"⟩, 54), (⟨"WallChapelsModel", "openStreets", "()I"⟩, 54), (⟨"WallChapelsModel", "greatest", "(I)I"⟩, 54), (⟨"WallChapelsModel", "valueOf", "(II)I"⟩, 54)]
theorem lw_r9 : ∀ q ∈ lw_privs_9, lw_okq q := List.forall_mem_cons.mpr ⟨lw_p128, List.forall_mem_cons.mpr ⟨lw_p129, List.forall_mem_cons.mpr ⟨lw_p130, List.forall_mem_cons.mpr ⟨lw_p131, List.forall_mem_cons.mpr ⟨lw_p132, List.forall_mem_cons.mpr ⟨lw_p133, List.forall_mem_cons.mpr ⟨lw_p134, List.forall_mem_cons.mpr ⟨lw_p135, List.forall_mem_cons.mpr ⟨lw_p136, List.forall_mem_cons.mpr ⟨lw_p137, List.forall_mem_cons.mpr ⟨lw_p138, List.forall_mem_cons.mpr ⟨lw_p139, List.forall_mem_cons.mpr ⟨lw_p140, List.forall_mem_cons.mpr ⟨lw_p141, List.forall_mem_cons.mpr ⟨lw_p142, List.forall_mem_cons.mpr ⟨lw_p143, fun _ h => absurd h List.not_mem_nil⟩⟩⟩⟩⟩⟩⟩⟩⟩⟩⟩⟩⟩⟩⟩⟩
theorem lw_p144 : lw_okq (⟨"WallChapelsModel", "farthest", "(I)I"⟩, 54) := ⟨⟨by decide +kernel, by decide +kernel⟩, List.mem_of_getElem? (i := 1134) (by decide +kernel), List.mem_of_getElem? (i := 1791) (by decide +kernel), List.mem_of_getElem? (i := 1792) (by decide +kernel)⟩
theorem lw_p145 : lw_okq (⟨"WallChapelsModel", "openYards", "()I"⟩, 54) := ⟨⟨by decide +kernel, by decide +kernel⟩, List.mem_of_getElem? (i := 1134) (by decide +kernel), List.mem_of_getElem? (i := 1795) (by decide +kernel), List.mem_of_getElem? (i := 1796) (by decide +kernel)⟩
theorem lw_p146 : lw_okq (⟨"WallChapelsModel", "dark", "()I"⟩, 54) := ⟨⟨by decide +kernel, by decide +kernel⟩, List.mem_of_getElem? (i := 1134) (by decide +kernel), List.mem_of_getElem? (i := 1799) (by decide +kernel), List.mem_of_getElem? (i := 1800) (by decide +kernel)⟩
def lw_privs_10 : List (MethodName × Nat) := [(⟨"WallChapelsModel", "farthest", "(I)I"⟩, 54), (⟨"WallChapelsModel", "openYards", "()I"⟩, 54), (⟨"WallChapelsModel", "dark", "()I"⟩, 54)]
theorem lw_r10 : ∀ q ∈ lw_privs_10, lw_okq q := List.forall_mem_cons.mpr ⟨lw_p144, List.forall_mem_cons.mpr ⟨lw_p145, List.forall_mem_cons.mpr ⟨lw_p146, fun _ h => absurd h List.not_mem_nil⟩⟩⟩
def lw_privs : List (MethodName × Nat) := lw_privs_1 ++ (lw_privs_2 ++ (lw_privs_3 ++ (lw_privs_4 ++ (lw_privs_5 ++ (lw_privs_6 ++ (lw_privs_7 ++ (lw_privs_8 ++ (lw_privs_9 ++ (lw_privs_10)))))))))
def lw_tbl : List Cond := k2_sels lw_privs ++ tables_1
theorem lw_privs_ok : ∀ q ∈ lw_privs, lw_okq q := by
  show ∀ q ∈ lw_privs_1 ++ (lw_privs_2 ++ (lw_privs_3 ++ (lw_privs_4 ++ (lw_privs_5 ++ (lw_privs_6 ++ (lw_privs_7 ++ (lw_privs_8 ++ (lw_privs_9 ++ (lw_privs_10))))))))), lw_okq q
  exact List.forall_mem_append.mpr ⟨lw_r1, List.forall_mem_append.mpr ⟨lw_r2, List.forall_mem_append.mpr ⟨lw_r3, List.forall_mem_append.mpr ⟨lw_r4, List.forall_mem_append.mpr ⟨lw_r5, List.forall_mem_append.mpr ⟨lw_r6, List.forall_mem_append.mpr ⟨lw_r7, List.forall_mem_append.mpr ⟨lw_r8, List.forall_mem_append.mpr ⟨lw_r9, lw_r10⟩⟩⟩⟩⟩⟩⟩⟩⟩
end
section
/-! what the names' part asks for and doesn't hold: the word of an array class over an array type, carried from state to state -/
def va_AOA (t : FieldType) (U : State) : Prop := (Cond.arrayOver (.array t)).before #[] U = true
theorem va_AOA.use {t : FieldType} {A : Array Value} {U : State} (h : va_AOA t U) : (Cond.arrayOver (.array t)).before A U = true := h
theorem aoa_of {t : FieldType} {A : Array Value} {U : State} (h : (Cond.arrayOver (.array t)).before A U = true) : va_AOA t U := h
/-- the tables alone decide it -/
theorem aoa_moved {t : FieldType} {u U : State} (hvm : u.vm.Alike U.vm) (h : va_AOA t u) : va_AOA t U := by
  obtain ⟨comp, cA, kA, e1, e2, e3, e4, e5⟩ := arrayOverA_spec h
  obtain ⟨kB, e3', ek⟩ := hvm.2.2 _ _ e3
  have i1 : U.vm.findClass (FieldType.array t).toString = some comp := by rw [hvm.findClass]; exact e1
  have i5 : U.vm.findClass ("[" ++ (FieldType.array t).toString) = some cA := by rw [hvm.findClass]; exact e5
  have i4 : kB.kind = .array comp (.array t) := by rw [ek]; exact e4
  have i2 : (U.vm.classes.findIdx? fun (x : Class) => match x.kind with | .array component _ => component == comp | _ => false) = some cA := by
    have a := va_idx_bare u.vm comp
    have b := va_idx_bare U.vm comp
    first | rw [hvm.bare_eq] at b | rw [← hvm.bare_eq] at b
    exact (b.symm.trans a).trans e2
  show (Cond.arrayOver (.array t)).before #[] U = true
  unfold Cond.before Cond.holds
  simp only [Cond.value]
  rw [i1, Option.bind_some]
  refine (congrArg (fun o : Option Nat => (o.bind (fun c => (U.vm.classes[c]?).map fun (k : Class) => match k.kind with | .array _ ty => decide (ty = FieldType.array t) && decide (U.vm.findClass ("[" ++ (FieldType.array t).toString) = some c) | _ => false) == some true)) i2).trans ?_
  simp [e3', i4, i5]
end
section
/-! ===== BEGIN words of one list among another's, by their places ===== -/
theorem goodIn_r {big : List Cond} (ws : List Cond) (ps : List Nat) (hp : ws = ps.filterMap (fun i => big[i]?)) (h : ws.all goodWord = true) : GoodIn big ws := by
  intro w hw
  have h1 := List.all_eq_true.mp h w hw
  rw [hp] at hw
  obtain ⟨i, -, hi⟩ := List.mem_filterMap.mp hw
  have hm : w ∈ big := by first | exact List.mem_of_getElem? hi | exact List.getElem?_mem hi
  exact ⟨hm, good_of_word h1⟩
theorem goodIn_app {big a b : List Cond} (ha : GoodIn big a) (hb : GoodIn big b) : GoodIn big (a ++ b) := fun w h => (List.mem_append.mp h).elim (ha w) (hb w)
theorem goodIn_ca {big a b : List Cond} {c : Cond} (ha : GoodIn big (c :: a)) (hb : GoodIn big b) : GoodIn big (c :: (a ++ b)) := fun w h => (List.mem_cons.mp h).elim (fun e => ha w (List.mem_cons.mpr (Or.inl e))) (fun h => (List.mem_append.mp h).elim (fun h => ha w (List.mem_cons.mpr (Or.inr h))) (hb w))
theorem goodIn_sub {big ws : List Cond} (hm : ∀ w ∈ ws, w ∈ big) (h : ws.all goodWord = true) : GoodIn big ws := fun w hw => ⟨hm w hw, good_of_word (List.all_eq_true.mp h w hw)⟩
/-! ===== END ===== -/

/-! ===== BEGIN new T[n][m]: the outer array a place, the inner ones among the pooled ===== -/
/-- f, but v at every address of l -/
def vr_up {α : Type} (f : Nat → α) (l : List Nat) (v : α) : Nat → α := fun a => if a ∈ l then v else f a
theorem vr_up_in {α : Type} {f : Nat → α} {l : List Nat} {v : α} {a : Nat} (h : a ∈ l) : vr_up f l v a = v := if_pos h
theorem vr_up_ne {α : Type} {f : Nat → α} {l : List Nat} {v : α} {a : Nat} (h : a ∉ l) : vr_up f l v a = f a := if_neg h
theorem vr_rows {L l : List Nat} {f : Nat → va_E} {e : va_E} (h : ∀ a, a ∈ l → a ∉ L) : va_pl L f ++ l.map (fun a => (a, e)) = va_pl (L ++ l) (vr_up f l e) := by
  unfold va_pl
  rw [List.map_append]
  congr 1
  · apply List.map_congr_left
    intro a ha
    rw [vr_up_ne (fun q => h a q ha)]
  · apply List.map_congr_left
    intro a ha
    rw [vr_up_in ha]
theorem vr_lay {X rows : va_W} {x : Nat × va_E} {pl : va_W} {D : va_G} {cl : List vw_C} {H : Heap} (hP : va_P D cl (((X ++ pl) ++ [x]) ++ rows) H) : va_P D cl ((X ++ [x]) ++ (pl ++ rows)) H := by
  rw [List.append_assoc (X ++ pl)] at hP
  have h := va_P.swap hP
  rw [← List.append_assoc X] at h
  have h2 := va_P.swap h
  rw [List.append_assoc (X ++ [x])] at h2
  exact h2
theorem vr_layD {X rows : va_W} {x : Nat × va_E} {pl : va_W} {A : Nat → Prop} (hD : va_D A (((X ++ pl) ++ [x]) ++ rows)) : va_D A ((X ++ [x]) ++ (pl ++ rows)) := by
  rw [List.append_assoc (X ++ pl)] at hD
  have h := va_D.swap hD
  rw [← List.append_assoc X] at h
  have h2 := va_D.swap h
  rw [List.append_assoc (X ++ [x])] at h2
  exact h2
theorem vr_outer (c : ClassId) (N h0 : Nat) : ∀ i : Nat, Jvm.Free.Multi.outerC c N h0 i = arrV c N (fun j => va_rf (if j < i then some (h0 + 1 + j) else none))
  | 0 => by
    show ({ cls := c, slots := Array.replicate N .null, vm := .none } : Cell) = _
    rw [arrV_new]
    refine congrArg (arrV c N) (funext fun j => ?_)
    simp [va_rf]
  | i + 1 => by
    show (Jvm.Free.Multi.outerC c N h0 i).setSlot i (.ref (h0 + 1 + i)) = _
    rw [vr_outer c N h0 i, arrV_store]
    refine congrArg (arrV c N) (funext fun j => ?_)
    by_cases e : j = i
    · subst e
      simp [updV, va_rf]
    · by_cases h : j < i
      · simp [updV, e, h, Nat.lt_succ_of_lt h]
      · simp [updV, e, h, show ¬ j < i + 1 by omega]
section VGM
variable {p : Program} {l : Launch} {e : Env} {R : Room} {s : State} {m : MethodId} {args : Array Value} {below : List Frame} {meth : Method} {c : Code} {H : Heap} {locs : List Loc} {cells slots : Nat} {Q : State → Prop}
variable {cc : ByteArray} {pc : Nat} {ls : Array Slot} {rest : List Value} {D : va_G} {cl : List vw_C} {A : Nat → Prop} {a : Nat} {tys : List (ClassId × FieldType)} {ws : va_W} {H0 : Heap}
theorem va_mna {X : va_W} {L : List Nat} {f : Nat → va_E} {cc : ByteArray} (hexec : p.tables.exec = Jvm.exec) (hb : c.code = cc) {own : String} {index : Nat} {ty : FieldType} {cy : ClassId} (hown : s.vm.findClass own = some m.cls) (hclink : (Cond.classLink own index ("[" ++ (FieldType.array ty).toString)).before args s = true) (hover : va_AOA ty s) (harr : (Cond.arrayClass ty).before args s = true) (hcy : s.vm.findClass (FieldType.array ty).toString = some cy)
    (hK : va_K D cl tys s) (hP : va_P D cl (X ++ va_pl L f) H) (hD : va_D A (X ++ va_pl L f)) (hS : va_S A H0 H locs) (hA : ∀ q, H0.size ≤ q → A q) {n k : Int32} {N' K' : Nat} {z : vp_A} (hn : ¬ n < 0) (hk : ¬ k < 0) (hN : n.toNatClampNeg = N') (hM : k.toNatClampNeg = K')
    (hb1 : N' * 4 ≤ 536870912) (hb2 : K' * componentBytes ty ≤ 536870912) (hb3 : K' ≤ 536870912) (hdf : fits ty (defaultValue ty) = true) (hdd : (defaultValue ty).isDefault = true) (hcells : cells + (1 + N') ≤ R.cells) (hslots : slots + (N' + N' * K') ≤ R.slots) (hz : ∀ c : ClassId, Jvm.Free.Multi.innerC c K' (defaultValue ty) = vp_cell c z) (hdg : decode cc pc = .ok (.multianewarray index 2, 4))
    (kk : ∀ (q : Nat) (r : Nat → Nat) (cA : ClassId) (H1 : Heap), (∀ i j : Nat, i < N' → j < N' → r i = r j → i = j) → (∀ i : Nat, i < N' → r i ∉ L) → va_K D cl (tys ++ [(cA, .array ty)]) s →
      va_P D cl ((X ++ [(q, .inl (cA, N', .inr (.inr (.inr (.inr (fun i => if i < N' then some (r i) else none))))))]) ++ va_pl (L ++ (List.range N').map r) (vr_up f ((List.range N').map r) (.inl (cy, z)))) H1 → va_D A ((X ++ [(q, .inl (cA, N', .inr (.inr (.inr (.inr (fun i => if i < N' then some (r i) else none))))))]) ++ va_pl (L ++ (List.range N').map r) (vr_up f ((List.range N').map r) (.inl (cy, z)))) → va_S A H0 H1 locs →
      W p l e R s m args below meth c H1 locs (cells + 1 + N') (slots + N' + N' * K') Q (F0 m (pc + 4) ls (.ref q :: rest))) : W p l e R s m args below meth c H locs cells slots Q (F0 m pc ls (.int k :: .int n :: rest)) := by
  subst hN
  subst hM
  intro T hT Xs
  obtain ⟨vm₁, cA, comp, -, fA, fC, hO, -, X', step⟩ := Xs.multianewarray2F hexec hown hclink (va_AOA.use hover) harr (g := F0 m pc ls (.int k :: .int n :: rest)) rfl (by rw [hb]; exact hdg) rfl hn hk hb1 hb2 hb3 hdf hdd hcells hslots
  have ec : some cy = some comp := hcy.symm.trans fC
  cases ec
  generalize hF : Jvm.Free.Multi.fill (T.setVm vm₁) cA cy n.toNatClampNeg k.toNatClampNeg (defaultValue ty) n.toNatClampNeg = F at X' step
  have hTh : (T.setVm vm₁).heap = H := hT
  obtain ⟨f1, f2, -, -⟩ := Jvm.Free.Multi.fill_facts (T.setVm vm₁) cA cy n.toNatClampNeg k.toNatClampNeg (defaultValue ty) n.toNatClampNeg
  rw [hF, hTh] at f1 f2
  have hold : ∀ x : Nat, x < H.size → F.heap[x]? = H[x]? := fun x hx => by
    have := Jvm.Free.Multi.fill_old (T.setVm vm₁) cA cy n.toNatClampNeg k.toNatClampNeg (defaultValue ty) (a := x) (by rw [hTh]; exact hx) n.toNatClampNeg
    rw [hF, hTh] at this
    exact this
  have hrow : ∀ j : Nat, j < n.toNatClampNeg → F.heap[H.size + 1 + j]? = some (vp_cell cy z) := fun j hj => by
    have := Jvm.Free.Multi.fill_inner (T.setVm vm₁) cA cy n.toNatClampNeg k.toNatClampNeg (defaultValue ty) n.toNatClampNeg j hj
    rw [hF, hTh, hz] at this
    exact this
  have hout : Jvm.Free.Multi.outerC cA n.toNatClampNeg H.size n.toNatClampNeg = vp_cell cA (n.toNatClampNeg, .inr (.inr (.inr (.inr (fun i => if i < n.toNatClampNeg then some (H.size + 1 + i) else none))))) := by
    rw [vp_cell_q]
    exact vr_outer cA n.toNatClampNeg H.size n.toNatClampNeg
  rw [hout] at f2
  have hlt : ∀ a, a ∈ L → a < H.size := fun a ha => by
    obtain ⟨k9, hk9⟩ := va_pl_get (X := X) (f := f) ha
    exact (hP k9 _ hk9).lt
  have hnl : ∀ i : Nat, i < n.toNatClampNeg → H.size + 1 + i ∉ L := fun i _ h => by
    have := hlt _ h
    omega
  have hnm : ∀ a, a ∈ (List.range n.toNatClampNeg).map (fun i => H.size + 1 + i) → a ∉ L := fun a ha h => by
    obtain ⟨i, -, rfl⟩ := List.mem_map.mp ha
    have := hlt _ h
    omega
  have hP0 : va_P D cl (X ++ va_pl L f) F.heap := hP.kept (fun k9 x hx => hold x.1 ((hP k9 x hx).lt))
  have hP1 : va_P D cl ((X ++ va_pl L f) ++ [(H.size, .inl (cA, n.toNatClampNeg, .inr (.inr (.inr (.inr (fun i => if i < n.toNatClampNeg then some (H.size + 1 + i) else none))))))]) F.heap := hP0.app (fun k9 x hx => by
    have h0 : k9 < 1 := (List.getElem?_eq_some_iff.mp hx).1
    rw [show k9 = 0 by omega] at hx
    cases hx
    exact f2)
  have hP2 : va_P D cl (((X ++ va_pl L f) ++ [(H.size, .inl (cA, n.toNatClampNeg, .inr (.inr (.inr (.inr (fun i => if i < n.toNatClampNeg then some (H.size + 1 + i) else none))))))]) ++ ((List.range n.toNatClampNeg).map (fun i => H.size + 1 + i)).map (fun a => (a, .inl (cy, z)))) F.heap := hP1.app (fun k9 x hx => by
    obtain ⟨a, ha, rfl⟩ := List.mem_map.mp (List.mem_of_getElem? hx)
    obtain ⟨i, hi, rfl⟩ := List.mem_map.mp ha
    exact hrow i (List.mem_range.mp hi))
  have hD2 : va_D A (((X ++ va_pl L f) ++ [(H.size, .inl (cA, n.toNatClampNeg, .inr (.inr (.inr (.inr (fun i => if i < n.toNatClampNeg then some (H.size + 1 + i) else none))))))]) ++ ((List.range n.toNatClampNeg).map (fun i => H.size + 1 + i)).map (fun a => (a, .inl (cy, z)))) := by
    have hD1 := hD.push (e := .inl (cA, n.toNatClampNeg, .inr (.inr (.inr (.inr (fun i => if i < n.toNatClampNeg then some (H.size + 1 + i) else none)))))) hP rfl (hA _ hS.1)
    generalize hW1 : (X ++ va_pl L f) ++ [(H.size, .inl (cA, n.toNatClampNeg, .inr (.inr (.inr (.inr (fun i => if i < n.toNatClampNeg then some (H.size + 1 + i) else none))))))] = W1 at hD1 hP1 ⊢
    have hle : ∀ (k9 : Nat) (x : Nat × va_E), W1[k9]? = some x → x.1 ≤ H.size := fun k9 x hx => by
      rw [← hW1] at hx
      by_cases hl : k9 < (X ++ va_pl L f).length
      · rw [List.getElem?_append_left hl] at hx
        exact Nat.le_of_lt ((hP k9 x hx).lt)
      · rw [List.getElem?_append_right (by omega)] at hx
        have h0 : k9 - (X ++ va_pl L f).length < 1 := (List.getElem?_eq_some_iff.mp hx).1
        rw [show k9 - (X ++ va_pl L f).length = 0 by omega] at hx
        cases hx
        exact Nat.le_refl _
    have hr : ∀ (k9 : Nat) (x : Nat × va_E), (((List.range n.toNatClampNeg).map (fun i => H.size + 1 + i)).map (fun a => ((a, .inl (cy, z)) : Nat × va_E)))[k9]? = some x → x.1 = H.size + 1 + k9 := fun k9 x hx => by
      rw [List.getElem?_map, List.getElem?_map] at hx
      by_cases h9 : k9 < n.toNatClampNeg
      · rw [List.getElem?_range h9] at hx
        cases hx
        rfl
      · have hn0 : (List.range n.toNatClampNeg)[k9]? = none := List.getElem?_eq_none (by rw [List.length_range]; omega)
        rw [hn0] at hx
        cases hx
    refine ⟨fun i j x y hi hj hxy => ?_, fun k9 x hx => ?_⟩
    · by_cases h1 : i < W1.length <;> by_cases h2 : j < W1.length
      · rw [List.getElem?_append_left h1] at hi
        rw [List.getElem?_append_left h2] at hj
        exact hD1.1 i j x y hi hj hxy
      · rw [List.getElem?_append_left h1] at hi
        rw [List.getElem?_append_right (by omega)] at hj
        have := hle _ _ hi
        have := hr _ _ hj
        omega
      · rw [List.getElem?_append_right (by omega)] at hi
        rw [List.getElem?_append_left h2] at hj
        have := hle _ _ hj
        have := hr _ _ hi
        omega
      · rw [List.getElem?_append_right (by omega)] at hi hj
        have := hr _ _ hi
        have := hr _ _ hj
        omega
    · by_cases h1 : k9 < W1.length
      · rw [List.getElem?_append_left h1] at hx
        exact hD1.2 k9 x hx
      · rw [List.getElem?_append_right (by omega)] at hx
        have := hr _ _ hx
        exact hA _ (by have := hS.1; omega)
  have hAr : ArrOfT s cA (.array ty) := fun N9 z9 => by
    obtain ⟨-, k9, hk9, cm9, hkk9⟩ := (hO 0 0 0).1
    exact ⟨(fun q hq => by cases hq), k9, hk9, cm9, hkk9⟩
  have hK2 : va_K D cl (tys ++ [(cA, .array ty)]) s := ⟨hK.1, fun k9 x hx => by
    by_cases hl : k9 < tys.length
    · rw [List.getElem?_append_left hl] at hx
      exact hK.2 k9 x hx
    · rw [List.getElem?_append_right (by omega)] at hx
      have h0 : k9 - tys.length < 1 := (List.getElem?_eq_some_iff.mp hx).1
      rw [show k9 - tys.length = 0 by omega] at hx
      cases hx
      exact ⟨hAr, fA⟩⟩
  obtain ⟨t, a1, b1⟩ := kk H.size (fun i => H.size + 1 + i) cA F.heap (fun i j _ _ h => by have h9 : H.size + 1 + i = H.size + 1 + j := h; omega) hnl hK2 (by rw [← vr_rows hnm]; exact vr_lay hP2) (by rw [← vr_rows hnm]; exact vr_layD hD2) ⟨by rw [f1]; have := hS.1; omega, fun x h1 h2 => (hold x (Nat.lt_of_lt_of_le h1 hS.1)).trans (hS.2.1 x h1 h2), hS.2.2⟩ F rfl X'
  refine ⟨t, step t ?_, b1⟩
  have e : T.heap.size = H.size := by rw [hT]
  rw [e]
  exact a1
end VGM
/-! ===== END ===== -/

/-! ===== BEGIN exceptions that leave a method, and their catching by the caller (launches without stack traces) ===== -/
section VXA
/-! The laws vx_back, vx_callV, vx_callS, vx_callSW, vx_throw0, vx_throwS follow proofs of the library, with one case more: JvmDerived/Free/Laws.lean (Back.of_free), Shelf42/LK1.lean (callV, callS), Shelf/KitTraced.lean (throwNew0V, throwNewS). -/
/-- where a method has thrown q: the class by its name, the cell, what was written, the world -/
def vx_T (XC : String → State → State → Prop) (st : State) (q : Addr) (t : State) (mc ms : Nat) (free : Addr → Prop) : Prop :=
  ∃ (E : String) (ce : Cell) (L : List Loc), XC E st t ∧ t.heap[q]? = some ce ∧ ce.vm = .none ∧ st.vm.findClass E = some ce.cls ∧ st.WarmedH t.vm ∧ st.sameButNew ({ t with vm := st.vm } : State) L mc ms ∧ ∀ z ∈ L, free z.base
def vx_Q (Qc : Array Value → State → Outcome → State → Prop) (XC : String → State → State → Prop) (mc ms : Nat) (free : Addr → Prop) : Array Value → State → Outcome → State → Prop := fun a st o t =>
  (Qc a st o t ∧ ∃ L, FrameEnd st o t L mc ms ∧ ∀ q ∈ L, free q.base) ∨ ∃ q, o = .threw q ∧ vx_T XC st q t mc ms free
/-- a callee that returns or throws -/
def vx_Met (l : Launch) (y : MethodName) (ws : List Cond) (rm : Room) (Pc : Array Value → State → Prop) (Qc : Array Value → State → Outcome → State → Prop) (XC : String → State → State → Prop) (mc ms : Nat) (free : Addr → Prop) : Prop :=
  MetFree l y (headSpec ws rm) Pc (fun _ _ _ _ _ => True) (vx_Q Qc XC mc ms free)
def vx_Post (XC : String → State → State → Prop) (mc ms : Nat) (free : Addr → Prop) : Pt → Array Value → Addr → Pt → Prop := fun A a q B =>
  ∃ (g : JFrame) (mk : MethodId) (t : State) (L : List Loc) (E : String) (ce : Cell), B.U.heap = t.heap ∧ B.U.vm = t.vm ∧ XC E (A.U.calling g mk a) t ∧ t.heap[q]? = some ce ∧ ce.vm = .none ∧ A.U.vm.findClass E = some ce.cls ∧ B.locs = A.locs ++ L ∧ (∀ z ∈ L, free z.base) ∧ B.cells = A.cells + mc ∧ B.slots = A.slots + ms
def vx_Back (l : Launch) (R : Room) (p : Program) (e : Env) (below : List Frame) (s : State) (sargs : Array Value) (y : MethodName) (len W9 : Nat)
    (Pre : Pt → Array Value → Prop) (Post : Pt → Array Value → Option Value → Pt → Prop) (PostX : Pt → Array Value → Addr → Pt → Prop) : Prop :=
  ∀ (m : MethodId) (meth : Method) (c : Code) (A : Pt) (g : JFrame) (ig : Instr) (mk : MethodId) (a : Array Value),
    Stand p l e R s m sargs below meth c A.U A.locs A.cells A.slots → g.method = m → g.locals.size = c.maxLocals → decode c.code g.pc = .ok (ig, len) →
    2 * g.monitorRoom + (g.stack.map fun v => v.category).sum ≤ W9 → A.U.methodNamed? y = some mk → Pre A a →
    (∃ (v : Option Value) (B : Pt), Stand p l e R s m sargs below meth c B.U B.locs B.cells B.slots ∧ Post A a v B ∧
      Steps p.tables e below (doInvoke e (A.U.setTop g) [] mk a).1 (B.U.setTop { g with pc := g.pc + len, stack := v.toList ++ g.stack })) ∨
    (∃ (q : Addr) (B : Pt), Stand p l e R s m sargs below meth c B.U B.locs B.cells B.slots ∧ PostX A a q B ∧
      Steps p.tables e below (doInvoke e (A.U.setTop g) [] mk a).1 ((B.U.setTop g).pushFrame (.throwing q)))
section Payer
variable {l : Launch} {R : Room} {p : Program} {e : Env} {below : List Frame} {s : State} {sargs : Array Value} {y : MethodName} {len W9 : Nat}
theorem vx_back {ws : List Cond} {rm : Room} {Pc : Array Value → State → Prop} {Qc : Array Value → State → Outcome → State → Prop} {XC : String → State → State → Prop} {mc ms : Nat} {free : Addr → Prop} {bytes : ByteArray} {maxL : Nat} {ret : Option FieldType}
    (hM : vx_Met l y ws rm Pc Qc XC mc ms free) (hblind : FrameBlind Pc) (hrc : rm.cells = mc) (hrs : rm.slots = ms)
    (hframes : rm.frames + 1 ≤ R.frames) (hlocals : W9 + (maxL + 11) + rm.locals ≤ R.locals)
    (hws : ∀ w ∈ ws, ∀ a' U, s.WarmedH U.vm → w.before a' U = true) (hcode : Cond.code y bytes maxL ret ∈ ws) (hinit : ∀ a' U, s.WarmedH U.vm → (Cond.initialized y.cls).before a' U = true) :
    vx_Back l R p e below s sargs y len W9 (PreOf R mc ms Pc) (PostOf Qc mc ms free) (vx_Post XC mc ms free) := by
  intro m meth c A g ig mk a X hg hsize hdg hW hn hp
  have h1 : (headSpec ws rm).pre.before a A.U = true := atoms_intro fun w hw => hws w hw _ _ X.warmed
  have h2 : (Cond.code y bytes maxL ret).before a A.U = true := hws _ hcode _ _ X.warmed
  have h3 : (Cond.initialized y.cls).before a A.U = true := hinit _ _ X.warmed
  have h4 : A.cells + (headSpec ws rm).room.cells ≤ R.cells := by rw [show (headSpec ws rm).room.cells = mc from hrc]; exact hp.1
  have h5 : A.slots + (headSpec ws rm).room.slots ≤ R.slots := by rw [show (headSpec ws rm).room.slots = ms from hrs]; exact hp.2.1
  have hPc : Pc a (A.U.calling g mk a) := hblind _ _ _ _ hp.2.2
  obtain ⟨U, Ls, c0, s0⟩ := A
  dsimp only [Pt.U, Pt.locs, Pt.cells, Pt.slots] at h1 h2 h3 h4 h5 X hn hPc ⊢
  obtain ⟨methY, cY, hmY, hcY, -, hlY, -, -, -, -⟩ := Cond.code_spec hn h2
  obtain ⟨kY, hkY, -⟩ := className_of_methodNamed hn
  have hinitY : kY.init = .initialized := Cond.initialized_spec (findClass_of_methodNamed hn) hkY h3
  have h : At U g.method c below := by rw [hg]; exact X.here
  have hlocals9 : W9 + (maxL + 11) + (headSpec ws rm).room.locals ≤ R.locals := hlocals
  have happ : (headSpec ws rm).appliesLoose y e.platform (U.calling g mk a) = true :=
    Spec.appliesLoose_calling (g := g) h hdg hn hkY hinitY
      (X.room_calling (g := g) (R' := (headSpec ws rm).room) hsize hmY hcY hframes (by rw [hlY]; omega) h4 h5) h1
  obtain ⟨mid, hmid⟩ := h.above
  have hfr : (U.setTop g).frames = (.java g :: mid) ++ below := by rw [State.frames_setTop' g h.top, hmid]; rfl
  obtain ⟨o, s₂, hsteps, -, hend, hq⟩ := Steps.callFree hM p X.admits X.cas X.clock (acts := []) hfr happ hPc trivial
  have hq' : vx_Q Qc XC mc ms free a (U.calling g mk a) o s₂ := hq
  rw [State.frames_setTop' g h.top] at hend
  obtain ⟨g₀, hg0⟩ := Option.isSome_iff_exists.mp h.top
  obtain ⟨r, hr⟩ := State.topJava?_eq_some.mp hg0
  have hr' : (({ U with heap := s₂.heap, slotsUsed := s₂.slotsUsed } : State).setVm s₂.vm).frames = .java g₀ :: r := hr
  rcases hq' with ⟨hqc, L, hfe, hL⟩ | ⟨q, rfl, E, ce, L, hx, hce, hcv, hcl, hW₂, hsm, hL⟩
  · obtain ⟨⟨v, rfl⟩, hW₂, e2, q2, q3, q4, q5, q6⟩ := id hfe
    have e3 : s₂ = ({ (U.calling g mk a).setFrames s₂.frames with heap := s₂.heap, slotsUsed := s₂.slotsUsed } : State).setVm s₂.vm := by
      have : s₂ = ({ s₂ with vm := (U.calling g mk a).vm } : State).setVm s₂.vm := rfl
      rw [e2] at this
      exact this
    obtain ⟨c₂, i₂, len₂, hc₂, hd₂, hf₂⟩ := hend
    have hW' : U.WarmedH s₂.vm := hW₂
    have hcc : c₂ = c := by
      have h1 : s₂.code? g.method = U.code? g.method := by
        rw [State.code?_eq, State.code?_eq, hW'.alike.method?]
      exact Option.some.inj (hc₂.symm.trans (h1.trans h.code))
    subst hcc
    have hlen : len₂ = len := by rw [hdg] at hd₂; cases hd₂; rfl
    subst hlen
    have hs₂ : s₂ = (({ U with heap := s₂.heap, slotsUsed := s₂.slotsUsed } : State).setVm s₂.vm).setTop { g with pc := g.pc + len₂, stack := v.toList ++ g.stack } := by
      refine e3.trans ?_
      rw [hf₂, State.calling_eq h.top, State.setFrames_setFrames, State.setTop_of_frames _ hr', hr]
      rfl
    have hsame : U.sameButNew ({ U with heap := s₂.heap, slotsUsed := s₂.slotsUsed } : State) L mc ms := by
      refine ⟨?_, q2, q3, q4, q5, q6⟩
      obtain ⟨t, ht, -⟩ := State.frames_cons hr
      show ({ U with heap := s₂.heap, slotsUsed := s₂.slotsUsed } : State) = { U.setFrames U.frames with heap := s₂.heap, slotsUsed := s₂.slotsUsed }
      rw [State.setFrames_self ht]
    subst hg
    refine Or.inl ⟨v, ⟨(({ U with heap := s₂.heap, slotsUsed := s₂.slotsUsed } : State).setVm s₂.vm), Ls ++ L, c0 + mc, s0 + ms⟩,
      ⟨X.admits, X.cas, X.clock, X.frames, X.room, X.hears, X.method, X.code, (X.here.setHeapUsed s₂.heap s₂.slotsUsed).setVm hW'.alike, X.tail, State.WarmedH.trans X.warmed hW', X.limits, X.bytes, X.same.trans (hsame.setVm s.vm)⟩,
      ⟨g, mk, s₂, L, rfl, rfl, hqc, rfl, hL, rfl, rfl⟩, ?_⟩
    show Steps p.tables e below _ ((({ U with heap := s₂.heap, slotsUsed := s₂.slotsUsed } : State).setVm s₂.vm).setTop { g with pc := g.pc + len₂, stack := v.toList ++ g.stack })
    rw [← hs₂]
    exact hsteps
  · obtain ⟨e2, q2, q3, q4, q5, q6⟩ := id hsm
    have e3 : s₂ = ({ (U.calling g mk a).setFrames s₂.frames with heap := s₂.heap, slotsUsed := s₂.slotsUsed } : State).setVm s₂.vm := by
      have : s₂ = ({ s₂ with vm := (U.calling g mk a).vm } : State).setVm s₂.vm := rfl
      rw [e2] at this
      exact this
    have hf₂ : s₂.frames = .throwing q :: .java g :: U.frames.tail := hend
    have hW' : U.WarmedH s₂.vm := hW₂
    have hs₂ : s₂ = ((({ U with heap := s₂.heap, slotsUsed := s₂.slotsUsed } : State).setVm s₂.vm).setTop g).pushFrame (.throwing q) := by
      refine e3.trans ?_
      rw [hf₂, State.calling_eq h.top, State.setFrames_setFrames, State.pushFrame, State.frames_setTop _ hr', State.setTop_of_frames _ hr', State.setFrames_setFrames, hr]
      rfl
    have hsame : U.sameButNew ({ U with heap := s₂.heap, slotsUsed := s₂.slotsUsed } : State) L mc ms := by
      refine ⟨?_, q2, q3, q4, q5, q6⟩
      obtain ⟨t, ht, -⟩ := State.frames_cons hr
      show ({ U with heap := s₂.heap, slotsUsed := s₂.slotsUsed } : State) = { U.setFrames U.frames with heap := s₂.heap, slotsUsed := s₂.slotsUsed }
      rw [State.setFrames_self ht]
    subst hg
    refine Or.inr ⟨q, ⟨(({ U with heap := s₂.heap, slotsUsed := s₂.slotsUsed } : State).setVm s₂.vm), Ls ++ L, c0 + mc, s0 + ms⟩,
      ⟨X.admits, X.cas, X.clock, X.frames, X.room, X.hears, X.method, X.code, (X.here.setHeapUsed s₂.heap s₂.slotsUsed).setVm hW'.alike, X.tail, State.WarmedH.trans X.warmed hW', X.limits, X.bytes, X.same.trans (hsame.setVm s.vm)⟩,
      ⟨g, mk, s₂, L, E, ce, rfl, rfl, hx, hce, hcv, hcl, rfl, hL, rfl, rfl⟩, ?_⟩
    show Steps p.tables e below _ (((({ U with heap := s₂.heap, slotsUsed := s₂.slotsUsed } : State).setVm s₂.vm).setTop g).pushFrame (.throwing q))
    rw [← hs₂]
    exact hsteps
end Payer
section Calls
variable {p : Program} {l : Launch} {e : Env} {R : Room} {s : State} {m : MethodId} {args : Array Value} {below : List Frame} {meth : Method} {c : Code} {T : State} {locs : List Loc} {cells slots : Nat}
theorem vx_callV (X : Stand p l e R s m args below meth c T locs cells slots) (hexec : p.tables.exec = Jvm.exec) {own C : String} {index : Nat} {y : MethodName} {bytes : ByteArray} {maxL : Nat} {ret : Option FieldType}
    (hown : s.vm.findClass own = some m.cls) (hlink : (Cond.methodLink own index y).before args s = true) (hinst : (Cond.instanceMethod y).before args s = true) (hsel : (Cond.selects C y y).before args s = true)
    (hcode : (Cond.code y bytes maxL ret).before args s = true) (hy : y.cls ≠ "java/lang/invoke/MethodHandle" ∧ y.cls ≠ "java/lang/invoke/VarHandle")
    {W9 : Nat} {Pre : Pt → Array Value → Prop} {Post : Pt → Array Value → Option Value → Pt → Prop} {PostX : Pt → Array Value → Addr → Pt → Prop} (hK : vx_Back l R p e below s args y 3 W9 Pre Post PostX)
    {b : Addr} {cellB : Cell} (hcell : T.heap[b]? = some cellB) (hobj : cellB.vm.isStatics = false) (hcls : s.vm.findClass C = some cellB.cls)
    {g : JFrame} (hg : g.method = m) (hsize : g.locals.size = c.maxLocals) {argsL rest : List Value} (hlen : ∀ sig, parseMethodDescriptor y.desc = some sig → argsL.length = sig.parameters.length)
    (hstack : g.stack = argsL.reverse ++ .ref b :: rest) (hW : 2 * g.monitorRoom + (rest.map fun v => v.category).sum ≤ W9) (hdg : decode c.code g.pc = .ok (.invokevirtual index, 3))
    (hpre : ∀ vm₁, s.WarmedH vm₁ → Pre ⟨T.setVm vm₁, locs, cells, slots⟩ (Value.ref b :: argsL).toArray) :
    (∃ (v : Option Value) (vm₁ : Vm) (B : Pt), s.WarmedH vm₁ ∧ Stand p l e R s m args below meth c B.U B.locs B.cells B.slots ∧ Post ⟨T.setVm vm₁, locs, cells, slots⟩ (Value.ref b :: argsL).toArray v B ∧
      ∀ target, Steps p.tables e below (B.U.setTop { g with pc := g.pc + 3, stack := v.toList ++ rest }) target → Steps p.tables e below (T.setTop g) target) ∨
    (∃ (q : Addr) (vm₁ : Vm) (B : Pt), s.WarmedH vm₁ ∧ Stand p l e R s m args below meth c B.U B.locs B.cells B.slots ∧ PostX ⟨T.setVm vm₁, locs, cells, slots⟩ (Value.ref b :: argsL).toArray q B ∧
      Steps p.tables e below (T.setTop g) ((B.U.setTop { g with stack := rest }).pushFrame (.throwing q))) := by
  obtain ⟨mk, methM, hnamed, hmethM, hstM, habM⟩ := Cond.instanceMethod_spec hinst
  obtain ⟨methM', cM, hmethM', -, -, -, -, -, -, hsigM⟩ := Cond.code_spec hnamed hcode
  cases hmethM.symm.trans hmethM'
  obtain ⟨c2, r2, m2, q1, q2, q3, q4, kP, hkP, hkPi⟩ := Cond.selects_spec hsel
  cases hcls.symm.trans q1
  cases (State.methodFound?_of_named hnamed hy).symm.trans q2
  cases hnamed.symm.trans q3
  have hselP : selectMethod e.platform s.vm cellB.cls mk = .method mk := by rw [Launch.admits_selectMethod X.admits]; exact q4
  obtain ⟨vm₁, X₁, hstep₁⟩ := X.invokevirtual hexec hown hlink hnamed hmethM hstM hkP hkPi hy (a := b) (cell := cellB) hcell
    (fun z h => by rw [h] at hobj; cases hobj) hselP hmethM habM hkP hkPi (g := g) hg (argsL := argsL) (rest := rest) (hlen _ hsigM) hstack hdg
  rcases hK m meth c ⟨T.setVm vm₁, locs, cells, slots⟩ { g with stack := rest } (.invokevirtual index) mk (Value.ref b :: argsL).toArray X₁ hg hsize hdg hW (X₁.named hnamed) (hpre vm₁ X₁.warmed) with ⟨v, B, X', hpost, hsteps⟩ | ⟨q, B, X', hpost, hsteps⟩
  · exact Or.inl ⟨v, vm₁, B, X₁.warmed, X', hpost, fun target h => hstep₁ _ fun acts => by rw [doInvoke_state]; exact hsteps.trans h⟩
  · exact Or.inr ⟨q, vm₁, B, X₁.warmed, X', hpost, hstep₁ _ fun acts => by rw [doInvoke_state]; exact hsteps⟩
theorem vx_callS (X : Stand p l e R s m args below meth c T locs cells slots) (hexec : p.tables.exec = Jvm.exec) {own : String} {index : Nat} {y : MethodName} {bytes : ByteArray} {maxL : Nat} {ret : Option FieldType}
    (hown : s.vm.findClass own = some m.cls) (hlink : (Cond.methodLink own index y).before args s = true) (hstat : (Cond.static y).before args s = true) (hinit : (Cond.initialized y.cls).before args s = true)
    (hcode : (Cond.code y bytes maxL ret).before args s = true) (hy : y.cls ≠ "java/lang/invoke/MethodHandle" ∧ y.cls ≠ "java/lang/invoke/VarHandle")
    {W9 : Nat} {Pre : Pt → Array Value → Prop} {Post : Pt → Array Value → Option Value → Pt → Prop} {PostX : Pt → Array Value → Addr → Pt → Prop} (hK : vx_Back l R p e below s args y 3 W9 Pre Post PostX)
    {g : JFrame} (hg : g.method = m) (hsize : g.locals.size = c.maxLocals) {argsL rest : List Value} (hlen : ∀ sig, parseMethodDescriptor y.desc = some sig → argsL.length = sig.parameters.length)
    (hstack : g.stack = argsL.reverse ++ rest) (hW : 2 * g.monitorRoom + (rest.map fun v => v.category).sum ≤ W9) (hdg : decode c.code g.pc = .ok (.invokestatic index, 3))
    (hpre : ∀ vm₁, s.WarmedH vm₁ → Pre ⟨T.setVm vm₁, locs, cells, slots⟩ argsL.toArray) :
    (∃ (v : Option Value) (vm₁ : Vm) (B : Pt), s.WarmedH vm₁ ∧ Stand p l e R s m args below meth c B.U B.locs B.cells B.slots ∧ Post ⟨T.setVm vm₁, locs, cells, slots⟩ argsL.toArray v B ∧
      ∀ target, Steps p.tables e below (B.U.setTop { g with pc := g.pc + 3, stack := v.toList ++ rest }) target → Steps p.tables e below (T.setTop g) target) ∨
    (∃ (q : Addr) (vm₁ : Vm) (B : Pt), s.WarmedH vm₁ ∧ Stand p l e R s m args below meth c B.U B.locs B.cells B.slots ∧ PostX ⟨T.setVm vm₁, locs, cells, slots⟩ argsL.toArray q B ∧
      Steps p.tables e below (T.setTop g) ((B.U.setTop { g with stack := rest }).pushFrame (.throwing q))) := by
  obtain ⟨mk, hnamed⟩ := Cond.code_named hcode
  obtain ⟨methM, cM, hmethM, -, -, -, -, -, -, hsigM⟩ := Cond.code_spec hnamed hcode
  have hstatic : methM.isStatic = true := Cond.static_spec hnamed hmethM hstat
  obtain ⟨kP, hkP, -⟩ := className_of_methodNamed hnamed
  have hinitP : kP.init = .initialized := Cond.initialized_spec (findClass_of_methodNamed hnamed) hkP hinit
  obtain ⟨vm₁, X₁, hstep₁⟩ := X.invokestatic hexec hown hlink hnamed hmethM hstatic hkP hinitP hy (g := g) hg (argsL := argsL) (rest := rest) (hlen _ hsigM) hstack hdg
  rcases hK m meth c ⟨T.setVm vm₁, locs, cells, slots⟩ { g with stack := rest } (.invokestatic index) mk argsL.toArray X₁ hg hsize hdg hW (X₁.named hnamed) (hpre vm₁ X₁.warmed) with ⟨v, B, X', hpost, hsteps⟩ | ⟨q, B, X', hpost, hsteps⟩
  · exact Or.inl ⟨v, vm₁, B, X₁.warmed, X', hpost, fun target h => hstep₁ _ fun acts => by rw [doInvoke_state]; exact hsteps.trans h⟩
  · exact Or.inr ⟨q, vm₁, B, X₁.warmed, X', hpost, hstep₁ _ fun acts => by rw [doInvoke_state]; exact hsteps⟩
end Calls
theorem vx_cls {s : State} {T : State} {vm₁ : Vm} {E : String} {k : ClassId} (hW : s.WarmedH vm₁) (h : (T.setVm vm₁).vm.findClass E = some k) : s.vm.findClass E = some k := by
  have h1 : vm₁.findClass E = some k := h
  rw [hW.alike.findClass] at h1
  exact h1
/-- the method's frame g, with q thrown over it -/
def vx_W (p : Program) (l : Launch) (e : Env) (R : Room) (s : State) (m : MethodId) (args : Array Value) (below : List Frame) (meth : Method) (c : Code) (H : Heap) (locs : List Loc) (cells slots : Nat) (Q : State → Prop) (g : JFrame) (q : Addr) : Prop :=
  ∀ T : State, T.heap = H → Stand p l e R s m args below meth c T locs cells slots → ∃ t, Steps p.tables e below ((T.setTop g).pushFrame (.throwing q)) t ∧ Q t
def vx_Run (p : Program) (l : Launch) (e : Env) (R : Room) (s : State) (m : MethodId) (args : Array Value) (below : List Frame) (meth : Method) (c : Code) (H : Heap) (locs : List Loc) (cells slots mc ms : Nat) (g : JFrame) (rest : List Value) (Qa : State → Outcome → State → Prop) (XC : String → State → State → Prop) (free : Addr → Prop) : Prop :=
  ∀ T : State, T.heap = H → Stand p l e R s m args below meth c T locs cells slots →
    (∃ (v : Option Value) (st₀ t T' : State) (L : List Loc), st₀.heap = H ∧ Stand p l e R s m args below meth c T' (locs ++ L) (cells + mc) (slots + ms) ∧ (∀ q ∈ L, free q.base) ∧ T'.heap = t.heap ∧ T'.vm = t.vm ∧ Qa st₀ (.returned v) t ∧
      Goes p e below T g T' { g with pc := g.pc + 3, stack := v.toList ++ rest }) ∨
    (∃ (q : Addr) (st₀ t T' : State) (L : List Loc) (E : String) (ce : Cell), st₀.heap = H ∧ Stand p l e R s m args below meth c T' (locs ++ L) (cells + mc) (slots + ms) ∧ (∀ z ∈ L, free z.base) ∧ T'.heap = t.heap ∧ T'.vm = t.vm ∧ XC E st₀ t ∧ t.heap[q]? = some ce ∧ ce.vm = .none ∧ s.vm.findClass E = some ce.cls ∧
      Steps p.tables e below (T.setTop g) ((T'.setTop { g with stack := rest }).pushFrame (.throwing q)))
def vx_X {S : Type} (px : S → Prop) (B : String → S → State → Prop) (A : Nat → Prop) : String → State → State → Prop := fun E st t => ∃ u : S, px u ∧ B E u t ∧ va_F A st t
section Runs
variable {p : Program} {l : Launch} {e : Env} {R : Room} {s : State} {m : MethodId} {args : Array Value} {below : List Frame} {meth : Method} {c : Code} {H : Heap} {locs : List Loc} {cells slots : Nat}
variable {y : MethodName} {bytes cc : ByteArray} {maxL nL mc ms n index : Nat} {ret : Option FieldType} {ws : List Cond} {rm : Room} {Pc : Array Value → State → Prop} {Qc : Array Value → State → Outcome → State → Prop} {XC : String → State → State → Prop} {free : Addr → Prop} {Ts : List Cond} {own C : String} {b : Addr} {As rest : List Value} {g : JFrame}
theorem vx_callBack (cb : CallB R s args own index y bytes maxL ret ws rm mc ms n) (hM : vx_Met l y ws rm Pc Qc XC mc ms free) (hbl : FrameBlind Pc) : vx_Back l R p e below s args y 3 8 (PreOf R mc ms Pc) (PostOf Qc mc ms free) (vx_Post XC mc ms free) := by
  obtain ⟨hrc, hrs, hfr, hlo, hws, hcw, -, hini, -⟩ := cb
  exact vx_back (bytes := bytes) (maxL := maxL) (ret := ret) hM hbl hrc hrs hfr hlo hws hcw (fun a' U hW => word_at hW (Or.inl (by first | rfl | simp [Cond.onTables, Cond.keeps, Cond.steady])) hini)
theorem vx_runV (S : CallFix p m c cc nL s args Ts own) (hM : vx_Met l y ws rm Pc Qc XC mc ms free) (cw : CallW R s args own C index y bytes maxL ret ws rm mc ms n) (hp : PreV s H C b Pc As)
    (hg : g.method = m) (hn : As.length = n) (hsize : g.locals.size = nL) (hstack : g.stack = As.reverse ++ .ref b :: rest) (hW : 2 * g.monitorRoom + (rest.map fun v => v.category).sum ≤ 8) (hdg : decode cc g.pc = .ok (.invokevirtual index, 3)) (hf : cells + mc ≤ R.cells ∧ slots + ms ≤ R.slots) :
    vx_Run p l e R s m args below meth c H locs cells slots mc ms g rest (Qc (Value.ref b :: As).toArray) XC free := by
  have hK : vx_Back l R p e below s args y 3 8 (PreOf R mc ms Pc) (PostOf Qc mc ms free) (vx_Post XC mc ms free) := vx_callBack cw.1 hM hp.1
  obtain ⟨⟨-, -, -, -, -, -, hcode, -, hy, hlen, hl⟩, hin, hse⟩ := cw
  obtain ⟨hx, hb, hml, ho, -⟩ := S
  obtain ⟨-, ⟨cellB, hcB, hoB, hclB⟩, hPc⟩ := hp
  intro T hT X
  rcases vx_callV X hx (C := C) (bytes := bytes) (maxL := maxL) (ret := ret) ho hl hin hse hcode hy hK (by rw [hT]; exact hcB) hoB hclB hg (hsize.trans hml.symm) (argsL := As) (rest := rest) (fun sig h => hn.trans (hlen sig h)) hstack hW (by rw [hb]; exact hdg)
    (fun vm₁ hW₁ => ⟨hf.1, hf.2, hPc (T.setVm vm₁) hT hW₁⟩) with ⟨v, vm₁, ⟨U', l2, c2, s2⟩, hW₁, X', ⟨g', mk, t, L, e1, e2, hq, h1, hL, h2, h3⟩, st⟩ | ⟨q, vm₁, ⟨U', l2, c2, s2⟩, hW₁, X', ⟨g', mk, t, L, E, ce, e1, e2, hq, hce, hcv, hcl, h1, hL, h2, h3⟩, st⟩
  · dsimp only [Pt.U, Pt.locs, Pt.cells, Pt.slots] at X' e1 e2 h1 h2 h3 st
    subst h1; subst h2; subst h3
    exact Or.inl ⟨v, (T.setVm vm₁).calling g' mk (Value.ref b :: As).toArray, t, U', L, hT, X', hL, e1, e2, hq, st⟩
  · dsimp only [Pt.U, Pt.locs, Pt.cells, Pt.slots] at X' e1 e2 h1 h2 h3 st hcl
    subst h1; subst h2; subst h3
    exact Or.inr ⟨q, (T.setVm vm₁).calling g' mk (Value.ref b :: As).toArray, t, U', L, E, ce, hT, X', hL, e1, e2, hq, hce, hcv, vx_cls hW₁ hcl, st⟩
theorem vx_runS (S : CallFix p m c cc nL s args Ts own) (hM : vx_Met l y ws rm Pc Qc XC mc ms free) (cw : CallB R s args own index y bytes maxL ret ws rm mc ms n ∧ (Cond.static y).before args s = true) (hp : PreS s H Pc As)
    (hg : g.method = m) (hn : As.length = n) (hsize : g.locals.size = nL) (hstack : g.stack = As.reverse ++ rest) (hW : 2 * g.monitorRoom + (rest.map fun v => v.category).sum ≤ 8) (hdg : decode cc g.pc = .ok (.invokestatic index, 3)) (hf : cells + mc ≤ R.cells ∧ slots + ms ≤ R.slots) :
    vx_Run p l e R s m args below meth c H locs cells slots mc ms g rest (Qc As.toArray) XC free := by
  have hK : vx_Back l R p e below s args y 3 8 (PreOf R mc ms Pc) (PostOf Qc mc ms free) (vx_Post XC mc ms free) := vx_callBack cw.1 hM hp.1
  obtain ⟨⟨-, -, -, -, -, -, hcode, hini, hy, hlen, hl⟩, hstt⟩ := cw
  obtain ⟨hx, hb, hml, ho, -⟩ := S
  intro T hT X
  rcases vx_callS X hx (bytes := bytes) (maxL := maxL) (ret := ret) ho hl hstt hini hcode hy hK hg (hsize.trans hml.symm) (argsL := As) (rest := rest) (fun sig h => hn.trans (hlen sig h)) hstack hW (by rw [hb]; exact hdg)
    (fun vm₁ hW₁ => ⟨hf.1, hf.2, hp.2 (T.setVm vm₁) hT hW₁⟩) with ⟨v, vm₁, ⟨U', l2, c2, s2⟩, hW₁, X', ⟨g', mk, t, L, e1, e2, hq, h1, hL, h2, h3⟩, st⟩ | ⟨q, vm₁, ⟨U', l2, c2, s2⟩, hW₁, X', ⟨g', mk, t, L, E, ce, e1, e2, hq, hce, hcv, hcl, h1, hL, h2, h3⟩, st⟩
  · dsimp only [Pt.U, Pt.locs, Pt.cells, Pt.slots] at X' e1 e2 h1 h2 h3 st
    subst h1; subst h2; subst h3
    exact Or.inl ⟨v, (T.setVm vm₁).calling g' mk As.toArray, t, U', L, hT, X', hL, e1, e2, hq, st⟩
  · dsimp only [Pt.U, Pt.locs, Pt.cells, Pt.slots] at X' e1 e2 h1 h2 h3 st hcl
    subst h1; subst h2; subst h3
    exact Or.inr ⟨q, (T.setVm vm₁).calling g' mk As.toArray, t, U', L, E, ce, hT, X', hL, e1, e2, hq, hce, hcv, vx_cls hW₁ hcl, st⟩
end Runs
section Rows
variable {p : Program} {l : Launch} {e : Env} {R : Room} {s : State} {m : MethodId} {args : Array Value} {below : List Frame} {meth : Method} {c : Code} {H : Heap} {locs : List Loc} {cells slots : Nat} {Q : State → Prop}
variable {mc ms : Nat} {free : Addr → Prop} {A0 A1 : Nat → Prop} {H0 : Heap} {a : Array Value} {pc : Nat} {ls : Array Slot} {st0 rest : List Value}
theorem vx_keep {st₀ t T' : State} {L : List Loc} (h0 : st₀.heap = H) (e1 : T'.heap = t.heap) (hS : va_S A0 H0 H locs) (hA : ∀ q, q < H.size → A1 q → A0 q) (hf : ∀ q, free q → A0 q) (hL : ∀ q ∈ L, free q.base) (hF : va_F A1 st₀ t) :
    H.size ≤ T'.heap.size ∧ (∀ q : Nat, q < H.size → ¬ A1 q → T'.heap[q]? = H[q]?) ∧ va_S A0 H0 T'.heap (locs ++ L) := by
  obtain ⟨hz, hk⟩ := hF
  rw [h0] at hz hk
  exact ⟨by rw [e1]; exact hz, fun q h1 h2 => by rw [e1]; exact hk q h1 h2,
    ⟨Nat.le_trans hS.1 (by rw [e1]; exact hz), fun q h1 h2 => by rw [e1, hk q (Nat.lt_of_lt_of_le h1 hS.1) (fun z => h2 (hA q (Nat.lt_of_lt_of_le h1 hS.1) z))]; exact hS.2.1 q h1 h2, fun q hq => by
      rcases List.mem_append.mp hq with h | h
      · exact hS.2.2 q h
      · exact hf _ (hL q h)⟩⟩
theorem vx_calli {S SX : Type} {post : Int32 → S → Prop} {px : SX → Prop} {B : S → State → Prop} {BX : String → SX → State → Prop} {AX : Nat → Prop} (hr : vx_Run p l e R s m args below meth c H locs cells slots mc ms (F0 m pc ls st0) rest (va_Qi post B A1 a) (vx_X px BX AX) free) (hS : va_S A0 H0 H locs) (hA : ∀ q, q < H.size → A1 q → A0 q) (hf : ∀ q, free q → A0 q) (hAX : ∀ q, q < H.size → AX q → A0 q)
    (kx : ∀ (E : String) (ce : Cell) (q9 : Addr) (u : SX) (t : State) (H1 : Heap) (locs1 : List Loc), t.heap = H1 → s.vm.Alike t.vm → px u → BX E u t → H.size ≤ H1.size → (∀ q : Nat, q < H.size → ¬ AX q → H1[q]? = H[q]?) → va_S A0 H0 H1 locs1 → H1[q9]? = some ce → ce.vm = .none → s.vm.findClass E = some ce.cls → vx_W p l e R s m args below meth c H1 locs1 (cells + mc) (slots + ms) Q (F0 m pc ls rest) q9)
    (kk : ∀ (r : Int32) (u : S) (t : State) (H1 : Heap) (locs1 : List Loc), t.heap = H1 → s.vm.Alike t.vm → post r u → B u t → H.size ≤ H1.size → (∀ q : Nat, q < H.size → ¬ A1 q → H1[q]? = H[q]?) → va_S A0 H0 H1 locs1 → W p l e R s m args below meth c H1 locs1 (cells + mc) (slots + ms) Q (F0 m (pc + 3) ls (.int r :: rest))) : W p l e R s m args below meth c H locs cells slots Q (F0 m pc ls st0) := by
  intro T hT X
  rcases hr T hT X with ⟨v, st₀, t, T', L, h0, X', hL, e1, e2, ⟨⟨r, u, hv, hp, hb⟩, hF⟩, st⟩ | ⟨q, st₀, t, T', L, E, ce, h0, X', hL, e1, e2, ⟨u, hp, hb, hF⟩, hce, hcv, hcl, st⟩
  · cases hv
    obtain ⟨k1, k2, k3⟩ := vx_keep h0 e1 hS hA hf hL hF
    obtain ⟨t2, a1, b1⟩ := kk r u t T'.heap (locs ++ L) e1.symm (by rw [← e2]; exact X'.warmed.alike) hp hb k1 k2 k3 T' rfl X'
    exact ⟨t2, st t2 a1, b1⟩
  · obtain ⟨k1, k2, k3⟩ := vx_keep h0 e1 hS hAX hf hL hF
    obtain ⟨t2, a1, b1⟩ := kx E ce q u t T'.heap (locs ++ L) e1.symm (by rw [← e2]; exact X'.warmed.alike) hp hb k1 k2 k3 (by rw [e1]; exact hce) hcv hcl T' rfl X'
    exact ⟨t2, st.trans a1, b1⟩
theorem vx_calll {S SX : Type} {post : Int64 → S → Prop} {px : SX → Prop} {B : S → State → Prop} {BX : String → SX → State → Prop} {AX : Nat → Prop} (hr : vx_Run p l e R s m args below meth c H locs cells slots mc ms (F0 m pc ls st0) rest (va_Ql post B A1 a) (vx_X px BX AX) free) (hS : va_S A0 H0 H locs) (hA : ∀ q, q < H.size → A1 q → A0 q) (hf : ∀ q, free q → A0 q) (hAX : ∀ q, q < H.size → AX q → A0 q)
    (kx : ∀ (E : String) (ce : Cell) (q9 : Addr) (u : SX) (t : State) (H1 : Heap) (locs1 : List Loc), t.heap = H1 → s.vm.Alike t.vm → px u → BX E u t → H.size ≤ H1.size → (∀ q : Nat, q < H.size → ¬ AX q → H1[q]? = H[q]?) → va_S A0 H0 H1 locs1 → H1[q9]? = some ce → ce.vm = .none → s.vm.findClass E = some ce.cls → vx_W p l e R s m args below meth c H1 locs1 (cells + mc) (slots + ms) Q (F0 m pc ls rest) q9)
    (kk : ∀ (r : Int64) (u : S) (t : State) (H1 : Heap) (locs1 : List Loc), t.heap = H1 → s.vm.Alike t.vm → post r u → B u t → H.size ≤ H1.size → (∀ q : Nat, q < H.size → ¬ A1 q → H1[q]? = H[q]?) → va_S A0 H0 H1 locs1 → W p l e R s m args below meth c H1 locs1 (cells + mc) (slots + ms) Q (F0 m (pc + 3) ls (.long r :: rest))) : W p l e R s m args below meth c H locs cells slots Q (F0 m pc ls st0) := by
  intro T hT X
  rcases hr T hT X with ⟨v, st₀, t, T', L, h0, X', hL, e1, e2, ⟨⟨r, u, hv, hp, hb⟩, hF⟩, st⟩ | ⟨q, st₀, t, T', L, E, ce, h0, X', hL, e1, e2, ⟨u, hp, hb, hF⟩, hce, hcv, hcl, st⟩
  · cases hv
    obtain ⟨k1, k2, k3⟩ := vx_keep h0 e1 hS hA hf hL hF
    obtain ⟨t2, a1, b1⟩ := kk r u t T'.heap (locs ++ L) e1.symm (by rw [← e2]; exact X'.warmed.alike) hp hb k1 k2 k3 T' rfl X'
    exact ⟨t2, st t2 a1, b1⟩
  · obtain ⟨k1, k2, k3⟩ := vx_keep h0 e1 hS hAX hf hL hF
    obtain ⟨t2, a1, b1⟩ := kx E ce q u t T'.heap (locs ++ L) e1.symm (by rw [← e2]; exact X'.warmed.alike) hp hb k1 k2 k3 (by rw [e1]; exact hce) hcv hcl T' rfl X'
    exact ⟨t2, st.trans a1, b1⟩
theorem vx_callf {S SX : Type} {post : UInt32 → S → Prop} {px : SX → Prop} {B : S → State → Prop} {BX : String → SX → State → Prop} {AX : Nat → Prop} (hr : vx_Run p l e R s m args below meth c H locs cells slots mc ms (F0 m pc ls st0) rest (va_Qf post B A1 a) (vx_X px BX AX) free) (hS : va_S A0 H0 H locs) (hA : ∀ q, q < H.size → A1 q → A0 q) (hf : ∀ q, free q → A0 q) (hAX : ∀ q, q < H.size → AX q → A0 q)
    (kx : ∀ (E : String) (ce : Cell) (q9 : Addr) (u : SX) (t : State) (H1 : Heap) (locs1 : List Loc), t.heap = H1 → s.vm.Alike t.vm → px u → BX E u t → H.size ≤ H1.size → (∀ q : Nat, q < H.size → ¬ AX q → H1[q]? = H[q]?) → va_S A0 H0 H1 locs1 → H1[q9]? = some ce → ce.vm = .none → s.vm.findClass E = some ce.cls → vx_W p l e R s m args below meth c H1 locs1 (cells + mc) (slots + ms) Q (F0 m pc ls rest) q9)
    (kk : ∀ (r : UInt32) (u : S) (t : State) (H1 : Heap) (locs1 : List Loc), t.heap = H1 → s.vm.Alike t.vm → post r u → B u t → H.size ≤ H1.size → (∀ q : Nat, q < H.size → ¬ A1 q → H1[q]? = H[q]?) → va_S A0 H0 H1 locs1 → W p l e R s m args below meth c H1 locs1 (cells + mc) (slots + ms) Q (F0 m (pc + 3) ls (.float r :: rest))) : W p l e R s m args below meth c H locs cells slots Q (F0 m pc ls st0) := by
  intro T hT X
  rcases hr T hT X with ⟨v, st₀, t, T', L, h0, X', hL, e1, e2, ⟨⟨r, u, hv, hp, hb⟩, hF⟩, st⟩ | ⟨q, st₀, t, T', L, E, ce, h0, X', hL, e1, e2, ⟨u, hp, hb, hF⟩, hce, hcv, hcl, st⟩
  · cases hv
    obtain ⟨k1, k2, k3⟩ := vx_keep h0 e1 hS hA hf hL hF
    obtain ⟨t2, a1, b1⟩ := kk r u t T'.heap (locs ++ L) e1.symm (by rw [← e2]; exact X'.warmed.alike) hp hb k1 k2 k3 T' rfl X'
    exact ⟨t2, st t2 a1, b1⟩
  · obtain ⟨k1, k2, k3⟩ := vx_keep h0 e1 hS hAX hf hL hF
    obtain ⟨t2, a1, b1⟩ := kx E ce q u t T'.heap (locs ++ L) e1.symm (by rw [← e2]; exact X'.warmed.alike) hp hb k1 k2 k3 (by rw [e1]; exact hce) hcv hcl T' rfl X'
    exact ⟨t2, st.trans a1, b1⟩
theorem vx_calld {S SX : Type} {post : UInt64 → S → Prop} {px : SX → Prop} {B : S → State → Prop} {BX : String → SX → State → Prop} {AX : Nat → Prop} (hr : vx_Run p l e R s m args below meth c H locs cells slots mc ms (F0 m pc ls st0) rest (va_Qd post B A1 a) (vx_X px BX AX) free) (hS : va_S A0 H0 H locs) (hA : ∀ q, q < H.size → A1 q → A0 q) (hf : ∀ q, free q → A0 q) (hAX : ∀ q, q < H.size → AX q → A0 q)
    (kx : ∀ (E : String) (ce : Cell) (q9 : Addr) (u : SX) (t : State) (H1 : Heap) (locs1 : List Loc), t.heap = H1 → s.vm.Alike t.vm → px u → BX E u t → H.size ≤ H1.size → (∀ q : Nat, q < H.size → ¬ AX q → H1[q]? = H[q]?) → va_S A0 H0 H1 locs1 → H1[q9]? = some ce → ce.vm = .none → s.vm.findClass E = some ce.cls → vx_W p l e R s m args below meth c H1 locs1 (cells + mc) (slots + ms) Q (F0 m pc ls rest) q9)
    (kk : ∀ (r : UInt64) (u : S) (t : State) (H1 : Heap) (locs1 : List Loc), t.heap = H1 → s.vm.Alike t.vm → post r u → B u t → H.size ≤ H1.size → (∀ q : Nat, q < H.size → ¬ A1 q → H1[q]? = H[q]?) → va_S A0 H0 H1 locs1 → W p l e R s m args below meth c H1 locs1 (cells + mc) (slots + ms) Q (F0 m (pc + 3) ls (.double r :: rest))) : W p l e R s m args below meth c H locs cells slots Q (F0 m pc ls st0) := by
  intro T hT X
  rcases hr T hT X with ⟨v, st₀, t, T', L, h0, X', hL, e1, e2, ⟨⟨r, u, hv, hp, hb⟩, hF⟩, st⟩ | ⟨q, st₀, t, T', L, E, ce, h0, X', hL, e1, e2, ⟨u, hp, hb, hF⟩, hce, hcv, hcl, st⟩
  · cases hv
    obtain ⟨k1, k2, k3⟩ := vx_keep h0 e1 hS hA hf hL hF
    obtain ⟨t2, a1, b1⟩ := kk r u t T'.heap (locs ++ L) e1.symm (by rw [← e2]; exact X'.warmed.alike) hp hb k1 k2 k3 T' rfl X'
    exact ⟨t2, st t2 a1, b1⟩
  · obtain ⟨k1, k2, k3⟩ := vx_keep h0 e1 hS hAX hf hL hF
    obtain ⟨t2, a1, b1⟩ := kx E ce q u t T'.heap (locs ++ L) e1.symm (by rw [← e2]; exact X'.warmed.alike) hp hb k1 k2 k3 (by rw [e1]; exact hce) hcv hcl T' rfl X'
    exact ⟨t2, st.trans a1, b1⟩
theorem vx_callv {S SX : Type} {post : S → Prop} {px : SX → Prop} {B : S → State → Prop} {BX : String → SX → State → Prop} {AX : Nat → Prop} (hr : vx_Run p l e R s m args below meth c H locs cells slots mc ms (F0 m pc ls st0) rest (va_Qv post B A1 a) (vx_X px BX AX) free) (hS : va_S A0 H0 H locs) (hA : ∀ q, q < H.size → A1 q → A0 q) (hf : ∀ q, free q → A0 q) (hAX : ∀ q, q < H.size → AX q → A0 q)
    (kx : ∀ (E : String) (ce : Cell) (q9 : Addr) (u : SX) (t : State) (H1 : Heap) (locs1 : List Loc), t.heap = H1 → s.vm.Alike t.vm → px u → BX E u t → H.size ≤ H1.size → (∀ q : Nat, q < H.size → ¬ AX q → H1[q]? = H[q]?) → va_S A0 H0 H1 locs1 → H1[q9]? = some ce → ce.vm = .none → s.vm.findClass E = some ce.cls → vx_W p l e R s m args below meth c H1 locs1 (cells + mc) (slots + ms) Q (F0 m pc ls rest) q9)
    (kk : ∀ (u : S) (t : State) (H1 : Heap) (locs1 : List Loc), t.heap = H1 → s.vm.Alike t.vm → post u → B u t → H.size ≤ H1.size → (∀ q : Nat, q < H.size → ¬ A1 q → H1[q]? = H[q]?) → va_S A0 H0 H1 locs1 → W p l e R s m args below meth c H1 locs1 (cells + mc) (slots + ms) Q (F0 m (pc + 3) ls (rest))) : W p l e R s m args below meth c H locs cells slots Q (F0 m pc ls st0) := by
  intro T hT X
  rcases hr T hT X with ⟨v, st₀, t, T', L, h0, X', hL, e1, e2, ⟨⟨u, hv, hp, hb⟩, hF⟩, st⟩ | ⟨q, st₀, t, T', L, E, ce, h0, X', hL, e1, e2, ⟨u, hp, hb, hF⟩, hce, hcv, hcl, st⟩
  · cases hv
    obtain ⟨k1, k2, k3⟩ := vx_keep h0 e1 hS hA hf hL hF
    obtain ⟨t2, a1, b1⟩ := kk u t T'.heap (locs ++ L) e1.symm (by rw [← e2]; exact X'.warmed.alike) hp hb k1 k2 k3 T' rfl X'
    exact ⟨t2, st t2 a1, b1⟩
  · obtain ⟨k1, k2, k3⟩ := vx_keep h0 e1 hS hAX hf hL hF
    obtain ⟨t2, a1, b1⟩ := kx E ce q u t T'.heap (locs ++ L) e1.symm (by rw [← e2]; exact X'.warmed.alike) hp hb k1 k2 k3 (by rw [e1]; exact hce) hcv hcl T' rfl X'
    exact ⟨t2, st.trans a1, b1⟩
/-- caught by the row x of this method's table; the rows ahead don't take it -/
theorem vx_catch {own name : String} {E : String} {ce : Cell} {q : Addr} (hown : s.vm.findClass own = some m.cls) (pre : List ExceptionTableEntry) (x : ExceptionTableEntry) (suf : List ExceptionTableEntry) (hsplit : c.exceptionTable.toList = pre ++ x :: suf)
    (hpass : ∀ z ∈ pre, covers z pc = false ∨ (z.catchType ≠ 0 ∧ ∃ nm : String, (Cond.classLink own z.catchType nm).before args s = true ∧ va_Nc E nm s)) (hx : covers x pc = true) (h0 : x.catchType ≠ 0)
    (hlink : (Cond.classLink own x.catchType name).before args s = true) (hcast : (Cond.castable E name).before args s = true) (hcell : H[q]? = some ce) (hv : ce.vm = .none) (hcl : s.vm.findClass E = some ce.cls)
    (kk : W p l e R s m args below meth c H locs cells slots Q (F0 m x.handlerPc ls [.ref q])) : vx_W p l e R s m args below meth c H locs cells slots Q (F0 m pc ls rest) q := by
  intro T hT X
  have hpl : e.platform.magicAccessors = ({} : Platform).magicAccessors := by rw [X.admits.platform]
  obtain ⟨c3, c4, hc3, hc4, hasg⟩ := Cond.castable_spec hcast
  cases Option.some.inj (hc3.symm.trans hcl)
  obtain ⟨c5, hc5, hcl5⟩ := Cond.classLink_spec hown hlink e.platform hpl
  cases Option.some.inj (hc4.symm.trans hc5)
  obtain ⟨vm', X', st⟩ := X.thenCaughtThrough q (g := F0 m pc ls rest) rfl (Steps.refl _) (by rw [hT]; exact hcell) (by rw [hv]; rfl) (by obtain ⟨k9, h9, -⟩ := Vm.findClass_spec hcl; exact ⟨k9, h9⟩) pre x suf hsplit
    (fun z hz => by
      rcases hpass z hz with h | ⟨hz0, nm, hl1, hn1⟩
      · exact Or.inl h
      · obtain ⟨c6, hc6, hcl6⟩ := Cond.classLink_spec hown hl1 e.platform hpl
        obtain ⟨a8, b8, h1, h2, h3⟩ := hn1
        cases Option.some.inj (h1.symm.trans hcl)
        cases Option.some.inj (h2.symm.trans hc6)
        exact Or.inr ⟨hz0, _, hcl6, h3⟩) hx (Or.inr ⟨h0, c4, hcl5, hasg⟩)
  obtain ⟨t, a1, b1⟩ := kk (T.setVm vm') hT X'
  exact ⟨t, st.trans a1, b1⟩
end Rows
section Ends
variable {p : Program} {l : Launch} {e : Env} {R : Room} {s : State} {m : MethodId} {args : Array Value} {below : List Frame} {meth : Method} {c : Code} {H : Heap} {locs : List Loc} {cells slots : Nat} {Q : State → Prop}
variable {mc ms : Nat} {free : Addr → Prop} {A0 A1 : Nat → Prop} {H0 : Heap} {a : Array Value} {ls : Array Slot} {st0 rest : List Value}
variable {Qc : Array Value → State → Outcome → State → Prop} {XC : String → State → State → Prop}
/-- what a body that may throw owes at its end -/
def vx_MQ (below : List Frame) (Qc : Array Value → State → Outcome → State → Prop) (XC : String → State → State → Prop) (a : Array Value) (s : State) (mc ms : Nat) (free : Addr → Prop) : State → Prop := fun t =>
  ∃ o, t.status = .running ∧ Ended t below o ∧ vx_Q Qc XC mc ms free a s o t
theorem vx_ret {g : JFrame} {mc ms : Nat} (k : W p l e R s m args below meth c H locs cells slots (MQ below Qc args s mc ms free) g) : W p l e R s m args below meth c H locs cells slots (vx_MQ below Qc XC args s mc ms free) g := by
  intro T hT X
  obtain ⟨t, a1, o, b1, b2, b3, b4⟩ := k T hT X
  exact ⟨t, a1, o, b1, b2, Or.inl ⟨b3, b4⟩⟩
/-- not caught here: it goes on to the caller -/
theorem vx_widen {g : JFrame} {q : Addr} {k n : Nat} (h1 : cells ≤ k) (h2 : slots ≤ n) (kk : vx_W p l e R s m args below meth c H locs k n Q g q) : vx_W p l e R s m args below meth c H locs cells slots Q g q := fun T hT X => kk T hT (stand_widen X h1 h2)
theorem vx_out {pc : Nat} {E : String} {ce : Cell} {q : Addr} {mc ms : Nat} (hout : ∀ x ∈ c.exceptionTable.toList, covers x pc = false) (hlocks : meth.locks = false) (hcell : H[q]? = some ce) (hv : ce.vm = .none) (hcl : s.vm.findClass E = some ce.cls)
    (hx : ∀ t : State, t.heap = H → s.vm.Alike t.vm → XC E s t) (hf : ∀ z ∈ locs, free z.base) (hc : cells ≤ mc) (hs : slots ≤ ms) :
    vx_W p l e R s m args below meth c H locs cells slots (vx_MQ below Qc XC args s mc ms free) (F0 m pc ls rest) q := by
  intro T hT X
  obtain ⟨st1, hrun, hend, hW, hsm⟩ := X.leaveThrown q (g := F0 m pc ls rest) rfl rfl rfl hout hlocks
  have hcell9 : (T.setFrames (.throwing q :: below)).heap[q]? = some ce := by
    show T.heap[q]? = some ce
    rw [hT]; exact hcell
  exact ⟨_, st1, .threw q, hrun, hend, Or.inr ⟨q, rfl, E, ce, locs, hx _ hT hW.alike, hcell9, hv, hcl, hW, hsm.mono hc hs, hf⟩⟩
theorem vx_frame {U : State} {k n : Nat} (h : s.sameButNew ({ U with vm := s.vm } : State) locs k n) : s.heap.size ≤ U.heap.size ∧ ∀ q : Nat, q < s.heap.size → (∀ z ∈ locs, z.base ≠ q) → U.heap[q]? = s.heap[q]? := by
  obtain ⟨-, h2, -, -, -, h6⟩ := h
  refine ⟨h2, fun q hq hz => ?_⟩
  obtain ⟨c9, e1, e2, e3, e4⟩ := h6 q _ (Array.getElem?_eq_getElem hq)
  have hs : c9.slots = (s.heap[q]).slots := Array.ext_getElem? fun i => e4 i fun hm => hz _ hm rfl
  have h9 : c9 = s.heap[q] := by
    rw [hs] at e2
    exact e2
  have e5 : U.heap[q]? = some c9 := e1
  rw [e5, h9, Array.getElem?_eq_getElem hq]
/-- the words of a throw but the four that speak of the heap -/
def vx_no (w : Cond) : Bool := decide (w ≠ .isRef (.static Bundle.tN "UNASSIGNED_STACK" Bundle.steD)) && decide (w ≠ .isRef (.static Bundle.tN "SUPPRESSED_SENTINEL" Bundle.listD)) && decide (w ≠ .laysStatic Bundle.tN "UNASSIGNED_STACK" Bundle.steD) && decide (w ≠ .laysStatic Bundle.tN "SUPPRESSED_SENTINEL" Bundle.listD)
def vx_at0 (own : String) (ic : Nat) (X : String) (names : List String) : List Cond := (Bundle.ownAtoms0 own ic X names).filter vx_no
def vx_atS (own : String) (ic : Nat) (X : String) (names : List String) : List Cond := (Bundle.ownAtoms own ic X names).filter vx_no
/-- a word that the tables alone decide, or a good one -/
def vx_ot (w : Cond) : Bool := w.onTables || goodWord w
theorem vx_ot_at {args a' : Array Value} {s U : State} {w : Cond} (hW : s.WarmedH U.vm) (hvm : s.vm = U.vm) (hg : vx_ot w = true) (h : w.before args s = true) : w.before a' U = true := by
  simp only [vx_ot, Bool.or_eq_true] at hg
  rcases hg with hg | hg
  · exact va_tabs hg hvm h
  · exact word_at hW (good_of_word hg) h
/-- a list's words: the good ones out of the method's own list, the others by premises of their own -/
theorem vx_hat {args : Array Value} {s : State} {L B : List Cond} (h1 : ∀ w ∈ L.filter goodWord, w.before args s = true) (h2 : ∀ w ∈ L.filter (fun w => !goodWord w), w ∈ B) (h3 : ∀ w ∈ B, w.before args s = true) : ∀ w ∈ L, w.before args s = true := by
  intro w hw
  by_cases g : goodWord w = true
  · exact h1 w (List.mem_filter.mpr ⟨hw, g⟩)
  · refine h3 w (h2 w (List.mem_filter.mpr ⟨hw, ?_⟩))
    show (!goodWord w) = true
    cases hgw : goodWord w
    · rfl
    · exact absurd hgw g
theorem vx_c {args : Array Value} {s : State} {w : Cond} {B : List Cond} (h : w.before args s = true) (t : ∀ w ∈ B, w.before args s = true) : ∀ w' ∈ w :: B, w'.before args s = true := fun w' h' => (List.mem_cons.mp h').elim (fun e => by rw [e]; exact h) (t w')
theorem vx_n {args : Array Value} {s : State} : ∀ w ∈ ([] : List Cond), w.before args s = true := fun _ h => nomatch h
theorem vx_own {args : Array Value} {s : State} {L : List Cond} (h1 : ∀ w ∈ L.filter vx_no, w.before args s = true)
    (hU : (Cond.isRef (.static Bundle.tN "UNASSIGNED_STACK" Bundle.steD)).before args s = true) (hN : (Cond.isRef (.static Bundle.tN "SUPPRESSED_SENTINEL" Bundle.listD)).before args s = true)
    (lU : (Cond.laysStatic Bundle.tN "UNASSIGNED_STACK" Bundle.steD).before args s = true) (lN : (Cond.laysStatic Bundle.tN "SUPPRESSED_SENTINEL" Bundle.listD).before args s = true) : ∀ w ∈ L, w.before args s = true := by
  intro w hw
  by_cases e1 : w = .isRef (.static Bundle.tN "UNASSIGNED_STACK" Bundle.steD)
  · rw [e1]; exact hU
  · by_cases e2 : w = .isRef (.static Bundle.tN "SUPPRESSED_SENTINEL" Bundle.listD)
    · rw [e2]; exact hN
    · by_cases e3 : w = .laysStatic Bundle.tN "UNASSIGNED_STACK" Bundle.steD
      · rw [e3]; exact lU
      · by_cases e4 : w = .laysStatic Bundle.tN "SUPPRESSED_SENTINEL" Bundle.listD
        · rw [e4]; exact lN
        · exact h1 w (List.mem_filter.mpr ⟨hw, by unfold vx_no; rw [decide_eq_true e1, decide_eq_true e2, decide_eq_true e3, decide_eq_true e4]; rfl⟩)
/-- where a static field lies, its class's statics cell in H -/
def vx_L (C n d : String) (A : Nat → Prop) (U : State) (H : Heap) : Prop := ∃ (c : ClassId) (k : Class) (i : Nat) (f : Field) (a : Nat) (cell : Cell), U.vm.findClass C = some c ∧ U.fieldFound? C n d = some (c, k, i, f) ∧ f.isStatic = true ∧ k.statics = some a ∧ H[a]? = some cell ∧ cell.vm.isStatics = true ∧ cell.cls = c ∧ f.slot < cell.slots.size ∧ k.staticTypes[f.slot]? = some f.type ∧ ¬ A a
theorem vx_L.moved {C n d : String} {A : Nat → Prop} {u U : State} {H : Heap} (hvm : u.vm.Alike U.vm) (h : vx_L C n d A u H) : vx_L C n d A U H := by
  obtain ⟨c, k, i, f, a, cell, h1, h2, h3, h4, h5, h6, h7, h8, h9, h10⟩ := h
  obtain ⟨k', hi', he⟩ := State.fieldFound?_setVm hvm h2
  exact ⟨c, k', i, f, a, cell, by rw [hvm.findClass]; exact h1, hi', h3, by rw [he]; exact h4, h5, h6, h7, h8, by rw [he]; exact h9, h10⟩
theorem vx_L.kept {C n d : String} {A : Nat → Prop} {U : State} {H H1 : Heap} (h : vx_L C n d A U H) (hq : ∀ a : Nat, a < H.size → ¬ A a → H1[a]? = H[a]?) : vx_L C n d A U H1 := by
  obtain ⟨c, k, i, f, a, cell, h1, h2, h3, h4, h5, h6, h7, h8, h9, h10⟩ := h
  exact ⟨c, k, i, f, a, cell, h1, h2, h3, h4, by rw [hq a (Array.getElem?_eq_some_iff.mp h5).1 h10]; exact h5, h6, h7, h8, h9, h10⟩
theorem vx_L.narrow {C n d : String} {A B : Nat → Prop} {U : State} {H : Heap} (h : vx_L C n d A U H) (hAB : ∀ q, B q → A q) : vx_L C n d B U H := by
  obtain ⟨c, k, i, f, a, cell, h1, h2, h3, h4, h5, h6, h7, h8, h9, h10⟩ := h
  exact ⟨c, k, i, f, a, cell, h1, h2, h3, h4, h5, h6, h7, h8, h9, fun z => h10 (hAB _ z)⟩
theorem vx_L.word {C n d : String} {A : Nat → Prop} {s : State} {args : Array Value} (h : vx_L C n d A s s.heap) : (Cond.laysStatic C n d).before args s = true := by
  obtain ⟨c, k, i, f, a, cell, h1, h2, h3, h4, h5, h6, h7, h8, h9, -⟩ := h
  show (Cond.laysStatic C n d).holds args s none s [] = true
  exact Cond.laysStatic_of h1 h2 h3 h4 h5 h6 h7 h8 h9
/-- .. and what it holds: null or some reference -/
def vx_Zq (C n d : String) (A : Nat → Prop) (U : State) (H : Heap) : Prop := va_Zq C n d A U H ∧ vx_L C n d A U H
theorem vx_Zq.moved {C n d : String} {A : Nat → Prop} {u U : State} {H : Heap} (hvm : u.vm.Alike U.vm) (h : vx_Zq C n d A u H) : vx_Zq C n d A U H := ⟨va_Zq.moved hvm h.1, vx_L.moved hvm h.2⟩
theorem vx_Zq.kept {C n d : String} {A : Nat → Prop} {U : State} {H H1 : Heap} (h : vx_Zq C n d A U H) (hq : ∀ a : Nat, a < H.size → ¬ A a → H1[a]? = H[a]?) : vx_Zq C n d A U H1 := ⟨va_Zq.kept h.1 hq, vx_L.kept h.2 hq⟩
theorem vx_Zq.narrow {C n d : String} {A B : Nat → Prop} {U : State} {H : Heap} (h : vx_Zq C n d A U H) (hAB : ∀ q, B q → A q) : vx_Zq C n d B U H := ⟨va_Zq.narrow h.1 hAB, vx_L.narrow h.2 hAB⟩
theorem vx_Zqof {args : Array Value} {s : State} {C n d : String} {A : Nat → Prop} (hl : (Cond.laysStatic C n d).before args s = true) (hini : (Cond.initialized C).before args s = true) (h : (Cond.isRef (.static C n d)).before args s = true) (hA : ∀ a : Nat, a < s.heap.size → ¬ A a) : vx_Zq C n d A s s.heap := by
  refine ⟨va_Zqof hl hini h hA, ?_⟩
  obtain ⟨c, k, i, f, a, cell, h1, h2, h3, h4, h5, h6, h7, h8, h9⟩ := Cond.laysStatic_spec hl
  exact ⟨c, k, i, f, a, cell, h1, h2, h3, h4, h5, h6, h7, h8, h9, hA a (Array.getElem?_eq_some_iff.mp h5).1⟩
theorem vx_isRef {C n d : String} {v : Value} {A : Nat → Prop} {s : State} {args : Array Value} (h : va_Z C n d v A s s.heap) (hv : v.isRef = true) : (Cond.isRef (.static C n d)).before args s = true := by
  obtain ⟨cf, kf, fi, f, a, cell, h1, h2, h3, h4, h5, h6, h7, -⟩ := h
  have he : (Term.static C n d).eval args s none [] s = some v := by
    simp [Term.eval, State.fieldNamed?, h1, h2, h4, h5, h6, h7]
  simp only [Cond.before, Cond.holds, Cond.value, he]
  cases v <;> simp_all [Value.isRef]
theorem vx_isRefq {C n d : String} {A : Nat → Prop} {s : State} {args : Array Value} (h : va_Zq C n d A s s.heap) : (Cond.isRef (.static C n d)).before args s = true := by
  rcases h with h | ⟨t, h⟩
  · exact vx_isRef h rfl
  · exact vx_isRef h rfl
/-- the same frame, seen from here: as if the method were called anew in this heap -/
theorem vx_rebase {T : State} (X : Stand p l e R s m args below meth c T locs cells slots) {R' : Room} (hf : R'.frames ≤ R.frames) (hl : R'.locals ≤ R.locals) (hc : cells + R'.cells ≤ R.cells) (hs : slots + R'.slots ≤ R.slots) :
    Stand p l e R' ((T.setVm s.vm).setFrames (.invoking m args :: below)) m args below meth c T [] 0 0 := by
  have htop : (T.setVm s.vm).topJava?.isSome := X.here.top
  have hF : ((T.setVm s.vm).setFrames (.invoking m args :: below)).frames = .invoking m args :: below := State.frames_setFrames _ (State.cur_lt_of_top htop)
  obtain ⟨g₀, hg0⟩ := Option.isSome_iff_exists.mp htop
  obtain ⟨r, hr⟩ := State.topJava?_eq_some.mp hg0
  have hl9 : e.platform.stackLimits (T.setVm s.vm).me = e.platform.stackLimits s.me := X.limits
  have hb9 : (T.setVm s.vm).me.stackBytes = s.me.stackBytes := X.bytes
  refine ⟨X.admits, X.cas, X.clock, hF, ?_, X.hears, X.method, X.code, X.here, X.tail, X.warmed, ?_, ?_, ?_⟩
  · have h := X.room
    have hU : ((T.setVm s.vm).setFrames (.invoking m args :: below)).localsInUse = s.localsInUse := by
      rw [State.localsInUse_invoking hF (meth := meth) (c := c) X.method X.code, State.localsInUse_invoking X.frames X.method X.code]
    simp only [State.hasRoom, Bool.and_eq_true, decide_eq_true_eq] at h ⊢
    obtain ⟨⟨⟨⟨h1, h2, h3, h4, h5, h6⟩, h7⟩, h8⟩, h9⟩ := h
    rw [X.frames, List.length_cons] at h2 h3
    have q1 := X.heapSize
    have q2 := X.used
    simp only [hF, hU, List.length_cons, State.stackLimits_setFrames, State.stackBytes_setFrames, hl9, hb9]
    refine ⟨⟨⟨⟨by omega, by omega, by omega, by omega, by omega, h6⟩, ?_⟩, ?_⟩, X.book⟩
    · show T.heap.size + R'.cells ≤ e.platform.maxCells
      omega
    · show T.slotsUsed + R'.slots ≤ e.platform.maxSlots
      omega
  · rw [State.stackLimits_setFrames]; rfl
  · rw [State.stackBytes_setFrames]; rfl
  · refine ⟨?_, Nat.le_refl _, Nat.le_refl _, ?_, ?_, fun a c9 h9 => ⟨c9, h9, rfl, rfl, fun _ _ => rfl⟩⟩
    · obtain ⟨t, ht, -⟩ := State.frames_cons hr
      show T.setVm s.vm = { ((T.setVm s.vm).setFrames (.invoking m args :: below)).setFrames (T.setVm s.vm).frames with heap := T.heap, slotsUsed := T.slotsUsed }
      rw [State.setFrames_setFrames, State.setFrames_self ht]
      rfl
    · show T.slotsUsed = T.slotsUsed + ((T.heap.toList.drop T.heap.size).map (·.slots.size)).sum
      rw [List.drop_eq_nil_of_le (Nat.le_of_eq Array.length_toList)]
      rfl
    · show ((T.heap.toList.drop T.heap.size).map (·.slots.size)).sum ≤ 0
      rw [List.drop_eq_nil_of_le (Nat.le_of_eq Array.length_toList)]
      exact Nat.le_refl _
/-- 'throw new E()': new; dup; invokespecial; athrow -/
theorem vx_throw0 {cc : ByteArray} {pc : Nat} (hexec : p.tables.exec = Jvm.exec) (hb : c.code = cc) (hl : l.stackTraces = false) {own cls : String} {names : List String} {ik ic mc ms : Nat} {A : Nat → Prop}
    (hown : s.vm.findClass own = some m.cls) (hcls : Bundle.fit cls = true) (hnames : ∀ n ∈ names, Bundle.fit n = true)
    (hk : (Cond.classLink own ik cls).before args s = true) (hini : (Cond.initialized cls).before args s = true) (hat : ∀ w ∈ vx_at0 own ic cls names, w.before args s = true)
    (hgood : ∀ w ∈ Cond.classLink own ik cls :: Cond.initialized cls :: vx_at0 own ic cls names, vx_ot w = true)
    (hU : vx_Zq Bundle.tN "UNASSIGNED_STACK" Bundle.steD A s s.heap) (hN : vx_Zq Bundle.tN "SUPPRESSED_SENTINEL" Bundle.listD A s s.heap) (hS : va_S A s.heap H locs) (hsize : ls.size = c.maxLocals)
    (d0 : decode cc pc = .ok (.new ik, 3)) (d3 : decode cc (pc + 3) = .ok (.dup, 1)) (d4 : decode cc (pc + 4) = .ok (.invokespecial ic, 3)) (d7 : decode cc (pc + 7) = .ok (.athrow, 1))
    (hout : ∀ x ∈ c.exceptionTable.toList, covers x (pc + 7) = false)
    (hRframes : names.length + 3 < R.frames) (hRlocals : (rest.map fun v => v.category).sum + (13 * (names.length + 1) + 42) ≤ R.locals) (hRcells : cells + 1 ≤ R.cells) (hRslots : slots + 6 ≤ R.slots) (hlocks : meth.locks = false)
    (hx : ∀ t : State, s.vm.Alike t.vm → H.size ≤ t.heap.size → (∀ q : Nat, q < H.size → t.heap[q]? = H[q]?) → XC cls s t)
    (hf : ∀ z ∈ locs, free z.base) (hc : cells + 1 ≤ mc) (hs : slots + 6 ≤ ms) :
    W p l e R s m args below meth c H locs cells slots (vx_MQ below Qc XC args s mc ms free) (F0 m pc ls rest) := by
  intro T hT X
  have htr : e.platform.stackTraces = false := (show e.platform.stackTraces = l.stackTraces by rw [X.admits.platform]).trans hl
  have Y := vx_rebase X (R' := { frames := R.frames, locals := R.locals, cells := 1, slots := 6 }) (Nat.le_refl _) (Nat.le_refl _) hRcells hRslots
  obtain ⟨s', hA⟩ : ∃ z, z = (T.setVm s.vm).setFrames (.invoking m args :: below) := ⟨_, rfl⟩
  rw [← hA] at Y
  have hvm : s'.vm = s.vm := by rw [hA]; rfl
  have hhp : s'.heap = H := by rw [hA]; exact hT
  have hW0 : s.WarmedH s'.vm := by rw [hvm]; exact State.WarmedH.refl s
  have hat' : ∀ w ∈ vx_at0 own ic cls names, w.before args s' = true := fun w hw => vx_ot_at hW0 hvm.symm (hgood w (List.mem_cons_of_mem _ (List.mem_cons_of_mem _ hw))) (hat w hw)
  have hk' : (Cond.classLink own ik cls).before args s' = true := vx_ot_at hW0 hvm.symm (hgood _ List.mem_cons_self) hk
  have hini' : (Cond.initialized cls).before args s' = true := vx_ot_at hW0 hvm.symm (hgood _ (List.mem_cons_of_mem _ List.mem_cons_self)) hini
  have hU' : vx_Zq Bundle.tN "UNASSIGNED_STACK" Bundle.steD A s' s'.heap := by rw [hhp]; exact vx_Zq.moved hW0.alike (hU.kept hS.2.1)
  have hN' : vx_Zq Bundle.tN "SUPPRESSED_SENTINEL" Bundle.listD A s' s'.heap := by rw [hhp]; exact vx_Zq.moved hW0.alike (hN.kept hS.2.1)
  have h : ∀ w ∈ Bundle.ownAtoms0 own ic cls names, w.before args s' = true := vx_own hat' (vx_isRefq hU'.1) (vx_isRefq hN'.1) hU'.2.word hN'.2.word
  have hown' : s'.vm.findClass own = some m.cls := by rw [hvm]; exact hown
  have hins : (Cond.instantiable cls 6).before args s' = true := h _ (by simp [Bundle.ownAtoms0])
  obtain ⟨vm₁, cX, kX, hfX, hkX, -, -, X₁, st1⟩ := Y.newCold hexec (own := own) (C := cls) (index := ik) (n := 6) hown' hk' hins hini'
    (g := F0 m pc ls rest) rfl (by rw [hb]; exact d0) (Nat.le_refl _) (Nat.le_refl _)
  generalize hT1 : (T.setVm vm₁).pushCell { cls := cX, slots := kX.instanceTypes.map defaultValue, vm := .none } = T1 at X₁ st1
  have hcat : (Value.ref T.heap.size).category = 1 := rfl
  have hcellA : T1.heap[T.heap.size]? = some (freshCell cX kX) := by rw [← hT1]; exact State.heap_pushCell_size _ _
  have d3' : decode c.code (pc + 3) = .ok (.dup, 1) := by rw [hb]; exact d3
  obtain ⟨U, hsteps, hrun, hend, hW, hsame, ce, hce, hO⟩ := X₁.ctorThrow0 hexec htr (own := own) (cls := cls) (names := names) (ic := ic) hown' hcls hnames h (fun x hx => nomatch hx) hfX hkX hcellA (by rw [hhp, hT]; exact Nat.le_refl _)
    (g := { method := m, pc := pc + 4, locals := ls, stack := .ref T.heap.size :: .ref T.heap.size :: rest, locked := none }) rfl hsize rfl rfl (rest := rest) rfl
    (by rw [hb]; exact d4) (by rw [hb]; exact d7) hout hRframes (by simp only [List.map_cons, List.sum_cons, hcat]; omega) hlocks
  obtain ⟨f1, f2⟩ := vx_frame hsame
  rw [hhp] at f1 f2
  have hWs : s.WarmedH U.vm := State.WarmedH.trans hW0 hW
  have hcl : s.vm.findClass cls = some ce.cls := by
    have h9 := hO.cls
    rw [hvm] at h9
    exact h9
  have hall : s.sameButNew ({ U with vm := s.vm } : State) locs mc ms := by
    subst hA
    obtain ⟨e1, e2⟩ := hsame
    rw [State.setFrames_setFrames] at e1
    have h2 : (T.setVm s.vm).sameButNew ({ U with vm := s.vm } : State) [] (0 + 1) (0 + 6) := ⟨e1, e2⟩
    have h3 := X.same.trans h2
    rw [List.append_nil] at h3
    exact h3.mono hc hs
  refine ⟨U, ?_, .threw T.heap.size, hrun, hend, Or.inr ⟨T.heap.size, rfl, cls, ce, locs, hx U hWs.alike f1 (fun q hq => f2 q hq (fun z hz => nomatch hz)), hce, hO.vm, hcl, hWs, hall, hf⟩⟩
  refine st1 _ ?_
  show Steps p.tables e below (T1.setTop { method := m, pc := pc + 3, locals := ls, stack := .ref T.heap.size :: rest, locked := none }) _
  jvm_step X₁.here [X₁.here.top, hexec, d3', Value.category]
  exact hsteps
/-- 'throw new E("text")': new; dup; ldc; invokespecial; athrow -/
theorem vx_throwS {cc : ByteArray} {pc : Nat} (hexec : p.tables.exec = Jvm.exec) (hb : c.code = cc) (hl : l.stackTraces = false) {own cls text : String} {names : List String} {ik is ic mc ms sa : Nat} {A : Nat → Prop}
    (hown : s.vm.findClass own = some m.cls) (hcls : Bundle.fit cls = true) (hnames : ∀ n ∈ names, Bundle.fit n = true)
    (hk : (Cond.classLink own ik cls).before args s = true) (hini : (Cond.initialized cls).before args s = true) (hstr : vk_R own is text sa s) (hat : ∀ w ∈ vx_atS own ic cls names, w.before args s = true)
    (hgood : ∀ w ∈ Cond.classLink own ik cls :: Cond.initialized cls :: vx_atS own ic cls names, vx_ot w = true)
    (hU : vx_Zq Bundle.tN "UNASSIGNED_STACK" Bundle.steD A s s.heap) (hN : vx_Zq Bundle.tN "SUPPRESSED_SENTINEL" Bundle.listD A s s.heap) (hS : va_S A s.heap H locs) (hsize : ls.size = c.maxLocals)
    (d0 : decode cc pc = .ok (.new ik, 3)) (d3 : decode cc (pc + 3) = .ok (.dup, 1)) (d4 : decode cc (pc + 4) = .ok (.ldc is, 2)) (d6 : decode cc (pc + 6) = .ok (.invokespecial ic, 3)) (d9 : decode cc (pc + 9) = .ok (.athrow, 1))
    (hout : ∀ x ∈ c.exceptionTable.toList, covers x (pc + 9) = false)
    (hRframes : names.length + 3 < R.frames) (hRlocals : (rest.map fun v => v.category).sum + (13 * (names.length + 1) + 43) ≤ R.locals) (hRcells : cells + 1 ≤ R.cells) (hRslots : slots + 6 ≤ R.slots) (hlocks : meth.locks = false)
    (hx : ∀ t : State, s.vm.Alike t.vm → H.size ≤ t.heap.size → (∀ q : Nat, q < H.size → t.heap[q]? = H[q]?) → XC cls s t)
    (hf : ∀ z ∈ locs, free z.base) (hc : cells + 1 ≤ mc) (hs : slots + 6 ≤ ms) :
    W p l e R s m args below meth c H locs cells slots (vx_MQ below Qc XC args s mc ms free) (F0 m pc ls rest) := by
  intro T hT X
  have htr : e.platform.stackTraces = false := (show e.platform.stackTraces = l.stackTraces by rw [X.admits.platform]).trans hl
  have Y := vx_rebase X (R' := { frames := R.frames, locals := R.locals, cells := 1, slots := 6 }) (Nat.le_refl _) (Nat.le_refl _) hRcells hRslots
  obtain ⟨s', hA⟩ : ∃ z, z = (T.setVm s.vm).setFrames (.invoking m args :: below) := ⟨_, rfl⟩
  rw [← hA] at Y
  have hvm : s'.vm = s.vm := by rw [hA]; rfl
  have hhp : s'.heap = H := by rw [hA]; exact hT
  have hW0 : s.WarmedH s'.vm := by rw [hvm]; exact State.WarmedH.refl s
  have hat' : ∀ w ∈ vx_atS own ic cls names, w.before args s' = true := fun w hw => vx_ot_at hW0 hvm.symm (hgood w (List.mem_cons_of_mem _ (List.mem_cons_of_mem _ hw))) (hat w hw)
  have hk' : (Cond.classLink own ik cls).before args s' = true := vx_ot_at hW0 hvm.symm (hgood _ List.mem_cons_self) hk
  have hini' : (Cond.initialized cls).before args s' = true := vx_ot_at hW0 hvm.symm (hgood _ (List.mem_cons_of_mem _ List.mem_cons_self)) hini
  have hU' : vx_Zq Bundle.tN "UNASSIGNED_STACK" Bundle.steD A s' s'.heap := by rw [hhp]; exact vx_Zq.moved hW0.alike (hU.kept hS.2.1)
  have hN' : vx_Zq Bundle.tN "SUPPRESSED_SENTINEL" Bundle.listD A s' s'.heap := by rw [hhp]; exact vx_Zq.moved hW0.alike (hN.kept hS.2.1)
  have h : ∀ w ∈ Bundle.ownAtoms own ic cls names, w.before args s' = true := vx_own hat' (vx_isRefq hU'.1) (vx_isRefq hN'.1) hU'.2.word hN'.2.word
  have hown' : s'.vm.findClass own = some m.cls := by rw [hvm]; exact hown
  have hins : (Cond.instantiable cls 6).before args s' = true := h _ (by simp [Bundle.ownAtoms])
  obtain ⟨vm₁, cX, kX, hfX, hkX, -, -, X₁, st1⟩ := Y.newCold hexec (own := own) (C := cls) (index := ik) (n := 6) hown' hk' hins hini'
    (g := F0 m pc ls rest) rfl (by rw [hb]; exact d0) (Nat.le_refl _) (Nat.le_refl _)
  generalize hT1 : (T.setVm vm₁).pushCell { cls := cX, slots := kX.instanceTypes.map defaultValue, vm := .none } = T1 at X₁ st1
  have hcat : (Value.ref T.heap.size).category = 1 := rfl
  have hcellA : T1.heap[T.heap.size]? = some (freshCell cX kX) := by rw [← hT1]; exact State.heap_pushCell_size _ _
  have d3' : decode c.code (pc + 3) = .ok (.dup, 1) := by rw [hb]; exact d3
  have d4' : decode c.code (pc + 4) = .ok (.ldc is, 2) := by rw [hb]; exact d4
  have hstr' : vk_R own is text sa s' := vk_R.warm hW0 hstr
  obtain ⟨U, hsteps, hrun, hend, hW, hsame, ce, hce, hO⟩ := X₁.ctorThrowS hexec htr (own := own) (cls := cls) (names := names) (ic := ic) hown' hcls hnames h (fun x hx => nomatch hx) hfX hkX hcellA (by rw [hhp, hT]; exact Nat.le_refl _) (msg := .ref sa) rfl
    (g := { method := m, pc := pc + 6, locals := ls, stack := .ref sa :: .ref T.heap.size :: .ref T.heap.size :: rest, locked := none }) rfl hsize rfl rfl (rest := rest) rfl
    (by rw [hb]; exact d6) (by rw [hb]; exact d9) hout hRframes (by simp only [List.map_cons, List.sum_cons, hcat]; omega) hlocks
  obtain ⟨f1, f2⟩ := vx_frame hsame
  rw [hhp] at f1 f2
  have hWs : s.WarmedH U.vm := State.WarmedH.trans hW0 hW
  have hcl : s.vm.findClass cls = some ce.cls := by
    have h9 := hO.cls
    rw [hvm] at h9
    exact h9
  have hall : s.sameButNew ({ U with vm := s.vm } : State) locs mc ms := by
    subst hA
    obtain ⟨e1, e2⟩ := hsame
    rw [State.setFrames_setFrames] at e1
    have h2 : (T.setVm s.vm).sameButNew ({ U with vm := s.vm } : State) [] (0 + 1) (0 + 6) := ⟨e1, e2⟩
    have h3 := X.same.trans h2
    rw [List.append_nil] at h3
    exact h3.mono hc hs
  refine ⟨U, ?_, .threw T.heap.size, hrun, hend, Or.inr ⟨T.heap.size, rfl, cls, ce, locs, hx U hWs.alike f1 (fun q hq => f2 q hq (fun z hz => nomatch hz)), hce, hO.vm, hcl, hWs, hall, hf⟩⟩
  refine st1 _ ?_
  show Steps p.tables e below (T1.setTop { method := m, pc := pc + 3, locals := ls, stack := .ref T.heap.size :: rest, locked := none }) _
  jvm_step X₁.here [X₁.here.top, hexec, d3', Value.category]
  exact X₁.ldcString hexec (own := own) (text := text) (index := is) (a := sa) hown' hstr'.1 hstr'.2
    (g := { method := m, pc := pc + 4, locals := ls, stack := .ref T.heap.size :: .ref T.heap.size :: rest, locked := none }) rfl d4' _ hsteps
/-- 'throw new E("text")', the text by a wide index -/
theorem vx_throwSW {cc : ByteArray} {pc : Nat} (hexec : p.tables.exec = Jvm.exec) (hb : c.code = cc) (hl : l.stackTraces = false) {own cls text : String} {names : List String} {ik is ic mc ms sa : Nat} {A : Nat → Prop}
    (hown : s.vm.findClass own = some m.cls) (hcls : Bundle.fit cls = true) (hnames : ∀ n ∈ names, Bundle.fit n = true)
    (hk : (Cond.classLink own ik cls).before args s = true) (hini : (Cond.initialized cls).before args s = true) (hstr : vk_R own is text sa s) (hat : ∀ w ∈ vx_atS own ic cls names, w.before args s = true)
    (hgood : ∀ w ∈ Cond.classLink own ik cls :: Cond.initialized cls :: vx_atS own ic cls names, vx_ot w = true)
    (hU : vx_Zq Bundle.tN "UNASSIGNED_STACK" Bundle.steD A s s.heap) (hN : vx_Zq Bundle.tN "SUPPRESSED_SENTINEL" Bundle.listD A s s.heap) (hS : va_S A s.heap H locs) (hsize : ls.size = c.maxLocals)
    (d0 : decode cc pc = .ok (.new ik, 3)) (d3 : decode cc (pc + 3) = .ok (.dup, 1)) (d4 : decode cc (pc + 4) = .ok (.ldc_w is, 3)) (d7 : decode cc (pc + 7) = .ok (.invokespecial ic, 3)) (d10 : decode cc (pc + 10) = .ok (.athrow, 1))
    (hout : ∀ x ∈ c.exceptionTable.toList, covers x (pc + 10) = false)
    (hRframes : names.length + 3 < R.frames) (hRlocals : (rest.map fun v => v.category).sum + (13 * (names.length + 1) + 43) ≤ R.locals) (hRcells : cells + 1 ≤ R.cells) (hRslots : slots + 6 ≤ R.slots) (hlocks : meth.locks = false)
    (hx : ∀ t : State, s.vm.Alike t.vm → H.size ≤ t.heap.size → (∀ q : Nat, q < H.size → t.heap[q]? = H[q]?) → XC cls s t)
    (hf : ∀ z ∈ locs, free z.base) (hc : cells + 1 ≤ mc) (hs : slots + 6 ≤ ms) :
    W p l e R s m args below meth c H locs cells slots (vx_MQ below Qc XC args s mc ms free) (F0 m pc ls rest) := by
  intro T hT X
  have htr : e.platform.stackTraces = false := (show e.platform.stackTraces = l.stackTraces by rw [X.admits.platform]).trans hl
  have Y := vx_rebase X (R' := { frames := R.frames, locals := R.locals, cells := 1, slots := 6 }) (Nat.le_refl _) (Nat.le_refl _) hRcells hRslots
  obtain ⟨s', hA⟩ : ∃ z, z = (T.setVm s.vm).setFrames (.invoking m args :: below) := ⟨_, rfl⟩
  rw [← hA] at Y
  have hvm : s'.vm = s.vm := by rw [hA]; rfl
  have hhp : s'.heap = H := by rw [hA]; exact hT
  have hW0 : s.WarmedH s'.vm := by rw [hvm]; exact State.WarmedH.refl s
  have hat' : ∀ w ∈ vx_atS own ic cls names, w.before args s' = true := fun w hw => vx_ot_at hW0 hvm.symm (hgood w (List.mem_cons_of_mem _ (List.mem_cons_of_mem _ hw))) (hat w hw)
  have hk' : (Cond.classLink own ik cls).before args s' = true := vx_ot_at hW0 hvm.symm (hgood _ List.mem_cons_self) hk
  have hini' : (Cond.initialized cls).before args s' = true := vx_ot_at hW0 hvm.symm (hgood _ (List.mem_cons_of_mem _ List.mem_cons_self)) hini
  have hU' : vx_Zq Bundle.tN "UNASSIGNED_STACK" Bundle.steD A s' s'.heap := by rw [hhp]; exact vx_Zq.moved hW0.alike (hU.kept hS.2.1)
  have hN' : vx_Zq Bundle.tN "SUPPRESSED_SENTINEL" Bundle.listD A s' s'.heap := by rw [hhp]; exact vx_Zq.moved hW0.alike (hN.kept hS.2.1)
  have h : ∀ w ∈ Bundle.ownAtoms own ic cls names, w.before args s' = true := vx_own hat' (vx_isRefq hU'.1) (vx_isRefq hN'.1) hU'.2.word hN'.2.word
  have hown' : s'.vm.findClass own = some m.cls := by rw [hvm]; exact hown
  have hins : (Cond.instantiable cls 6).before args s' = true := h _ (by simp [Bundle.ownAtoms])
  obtain ⟨vm₁, cX, kX, hfX, hkX, -, -, X₁, st1⟩ := Y.newCold hexec (own := own) (C := cls) (index := ik) (n := 6) hown' hk' hins hini'
    (g := F0 m pc ls rest) rfl (by rw [hb]; exact d0) (Nat.le_refl _) (Nat.le_refl _)
  generalize hT1 : (T.setVm vm₁).pushCell { cls := cX, slots := kX.instanceTypes.map defaultValue, vm := .none } = T1 at X₁ st1
  have hcat : (Value.ref T.heap.size).category = 1 := rfl
  have hcellA : T1.heap[T.heap.size]? = some (freshCell cX kX) := by rw [← hT1]; exact State.heap_pushCell_size _ _
  have d3' : decode c.code (pc + 3) = .ok (.dup, 1) := by rw [hb]; exact d3
  have d4' : decode c.code (pc + 4) = .ok (.ldc_w is, 3) := by rw [hb]; exact d4
  have hstr' : vk_R own is text sa s' := vk_R.warm hW0 hstr
  obtain ⟨U, hsteps, hrun, hend, hW, hsame, ce, hce, hO⟩ := X₁.ctorThrowS hexec htr (own := own) (cls := cls) (names := names) (ic := ic) hown' hcls hnames h (fun x hx => nomatch hx) hfX hkX hcellA (by rw [hhp, hT]; exact Nat.le_refl _) (msg := .ref sa) rfl
    (g := { method := m, pc := pc + 7, locals := ls, stack := .ref sa :: .ref T.heap.size :: .ref T.heap.size :: rest, locked := none }) rfl hsize rfl rfl (rest := rest) rfl
    (by rw [hb]; exact d7) (by rw [hb]; exact d10) hout hRframes (by simp only [List.map_cons, List.sum_cons, hcat]; omega) hlocks
  obtain ⟨f1, f2⟩ := vx_frame hsame
  rw [hhp] at f1 f2
  have hWs : s.WarmedH U.vm := State.WarmedH.trans hW0 hW
  have hcl : s.vm.findClass cls = some ce.cls := by
    have h9 := hO.cls
    rw [hvm] at h9
    exact h9
  have hall : s.sameButNew ({ U with vm := s.vm } : State) locs mc ms := by
    subst hA
    obtain ⟨e1, e2⟩ := hsame
    rw [State.setFrames_setFrames] at e1
    have h2 : (T.setVm s.vm).sameButNew ({ U with vm := s.vm } : State) [] (0 + 1) (0 + 6) := ⟨e1, e2⟩
    have h3 := X.same.trans h2
    rw [List.append_nil] at h3
    exact h3.mono hc hs
  refine ⟨U, ?_, .threw T.heap.size, hrun, hend, Or.inr ⟨T.heap.size, rfl, cls, ce, locs, hx U hWs.alike f1 (fun q hq => f2 q hq (fun z hz => nomatch hz)), hce, hO.vm, hcl, hWs, hall, hf⟩⟩
  refine st1 _ ?_
  show Steps p.tables e below (T1.setTop { method := m, pc := pc + 3, locals := ls, stack := .ref T.heap.size :: rest, locked := none }) _
  jvm_step X₁.here [X₁.here.top, hexec, d3', Value.category]
  exact X₁.ldcStringW hexec (own := own) (text := text) (index := is) (a := sa) hown' hstr'.1 hstr'.2
    (g := { method := m, pc := pc + 4, locals := ls, stack := .ref T.heap.size :: .ref T.heap.size :: rest, locked := none }) rfl d4' _ hsteps
end Ends
section Bodies
variable {l : Launch}
theorem vx_ofW {y : MethodName} {ws ws' : List Cond} {rm : Room} {Pc : Array Value → State → Prop} {Qc : Array Value → State → Outcome → State → Prop} {XC : String → State → State → Prop} {mc ms : Nat} {free : Addr → Prop} {cc : ByteArray} {maxL : Nat} {ret : Option FieldType}
    (hy : plainName y.cls = true) (hw : ws = Cond.code y cc maxL ret :: ws')
    (body : ∀ p e s m args below meth c s₁, BodyLoose p l y (headSpec ws rm) cc maxL ret e s m args below meth c s₁ → c.maxLocals = maxL → (∀ x ∈ c.exceptionTable.toList, False) → Pc args s →
      W p l e (headSpec ws rm).room s m args below meth c s.heap [] 0 0 (vx_MQ below Qc XC args s mc ms free) (entryFrame m args maxL)) : vx_Met l y ws rm Pc Qc XC mc ms free := by
  refine MetFree.of_bodyS (code := cc) (maxLocals := maxL) (ret := ret) hy ?_ ?_
  · intro args s m h hn
    obtain ⟨meth, c, h1, h2, h3, h4, h5, h6, -, -⟩ := Cond.code_spec hn (atoms_spec (ws := ws) h _ (by rw [hw]; exact List.mem_cons_self))
    exact ⟨meth, c, h1, h2, h3, h4, h5, h6⟩
  · intro p e s m args below meth c s₁ B hml hP _
    have hh0 : s₁.heap = s.heap := by rw [B.state]; rfl
    have ht : ∀ x ∈ c.exceptionTable.toList, False := by
      obtain ⟨meth9, c9, h1, h2, -, -, -, -, h7, -⟩ := Cond.code_spec B.named (atoms_spec (ws := ws) B.pre _ (by rw [hw]; exact List.mem_cons_self))
      cases Option.some.inj (h1.symm.trans B.method)
      cases Option.some.inj (h2.symm.trans (Stand.of_body B).code)
      intro x hx
      rw [Array.isEmpty_iff.mp h7] at hx
      cases hx
    obtain ⟨t, a1, o, b1, b2, b3⟩ := body p e s m args below meth c s₁ B hml ht hP s₁ hh0 (Stand.of_body B)
    exact ⟨t, o, a1, b1, b2, b3⟩
/-- the table of a body with handlers -/
theorem vx_table {p : Program} {x y : MethodName} {S : Spec} {cc bytes : ByteArray} {maxL maxL' : Nat} {ret ret' : Option FieldType} {e : Env} {s s₁ : State} {m : MethodId} {args : Array Value} {below : List Frame} {meth : Method} {c : Code} {hh : List (Nat × Nat × Nat × Nat)}
    (B : BodyLoose p l y S cc maxL ret e s m args below meth c s₁) (h : (Cond.codeWith y bytes maxL' ret' hh).before args s = true) : c.exceptionTable.toList = tableOf hh := by
  obtain ⟨m9, meth9, c9, hn9, h1, h2, -, -, h6, -⟩ := Cond.codeWith_spec h
  cases Option.some.inj (hn9.symm.trans B.named)
  cases Option.some.inj (h1.symm.trans B.method)
  cases Option.some.inj (h2.symm.trans (Stand.of_body B).code)
  rw [← h6, table_eq]
end Bodies
end VXA
/-! ===== END ===== -/
/-! ===== BEGIN a static call of a method with an exception table ===== -/
section VXS
variable {p : Program} {l : Launch} {e : Env} {R : Room} {s : State} {m : MethodId} {args : Array Value} {below : List Frame} {meth : Method} {c : Code} {T : State} {H : Heap} {locs : List Loc} {cells slots : Nat}
abbrev vx_CSW (R : Room) (s : State) (args : Array Value) (own : String) (index : Nat) (y : MethodName) (bytes : ByteArray) (maxL : Nat) (ret : Option FieldType) (hh : List (Nat × Nat × Nat × Nat)) (ws : List Cond) (rm : Room) (mc ms n : Nat) : Prop :=
  (rm.cells = mc ∧ rm.slots = ms ∧ rm.frames + 1 ≤ R.frames ∧ 8 + (maxL + 11) + rm.locals ≤ R.locals ∧ (∀ w ∈ ws, ∀ (a' : Array Value) (U : State), s.WarmedH U.vm → w.before a' U = true) ∧ Cond.codeWith y bytes maxL ret hh ∈ ws) ∧
  (Cond.codeWith y bytes maxL ret hh).before args s = true ∧ (Cond.initialized y.cls).before args s = true ∧ (y.cls ≠ "java/lang/invoke/MethodHandle" ∧ y.cls ≠ "java/lang/invoke/VarHandle") ∧
  (∀ sig, parseMethodDescriptor y.desc = some sig → n = sig.parameters.length) ∧ (Cond.methodLink own index y).before args s = true ∧ (Cond.static y).before args s = true
theorem vx_cwSW {own : String} {index maxL mc ms : Nat} {y : MethodName} {bytes : ByteArray} {ret : Option FieldType} {hh : List (Nat × Nat × Nat × Nat)} {Ts ws ws' : List Cond} {rm : Room} (n : Nat) (ht : ∀ w ∈ Ts, w.before args s = true) (hT : GoodIn Ts (va_wsS own index y ws)) (hw : ws = Cond.codeWith y bytes maxL ret hh :: ws') (hrc : rm.cells = mc) (hrs : rm.slots = ms)
    (hd : y.cls ≠ "java/lang/invoke/MethodHandle" ∧ y.cls ≠ "java/lang/invoke/VarHandle" ∧ (parseMethodDescriptor y.desc).map (fun d => d.parameters.length) = some n) (hR : rm.frames + 1 ≤ R.frames ∧ 8 + (maxL + 11) + rm.locals ≤ R.locals) :
    vx_CSW R s args own index y bytes maxL ret hh ws rm mc ms n := by
  have ok : ∀ w ∈ va_wsS own index y ws, w.before args s = true := fun w h => ht w (hT w h).1
  have hG : GoodIn Ts ws := fun w h => hT w (by unfold va_wsS; exact List.mem_append_right _ h)
  have hc : Cond.codeWith y bytes maxL ret hh ∈ ws := by rw [hw]; exact List.mem_cons_self
  refine ⟨⟨hrc, hrs, hR.1, hR.2, pay_in ht hG, hc⟩, ht _ (hG _ hc).1, ok _ (by simp [va_wsS]), ⟨hd.1, hd.2.1⟩, fun sig h => ?_, ok _ (by simp [va_wsS]), ok _ (by simp [va_wsS])⟩
  have h2 := hd.2.2
  rw [h] at h2
  exact (Option.some.inj h2).symm
theorem vx_callSW (X : Stand p l e R s m args below meth c T locs cells slots) (hexec : p.tables.exec = Jvm.exec) {own : String} {index : Nat} {y : MethodName} {bytes : ByteArray} {maxL : Nat} {ret : Option FieldType} {hh : List (Nat × Nat × Nat × Nat)}
    (hown : s.vm.findClass own = some m.cls) (hlink : (Cond.methodLink own index y).before args s = true) (hstat : (Cond.static y).before args s = true) (hinit : (Cond.initialized y.cls).before args s = true)
    (hcode : (Cond.codeWith y bytes maxL ret hh).before args s = true) (hy : y.cls ≠ "java/lang/invoke/MethodHandle" ∧ y.cls ≠ "java/lang/invoke/VarHandle")
    {W9 : Nat} {Pre : Pt → Array Value → Prop} {Post : Pt → Array Value → Option Value → Pt → Prop} (hK : Back l R p e below s args y 3 W9 Pre Post)
    {g : JFrame} (hg : g.method = m) (hsize : g.locals.size = c.maxLocals) {argsL rest : List Value} (hlen : ∀ sig, parseMethodDescriptor y.desc = some sig → argsL.length = sig.parameters.length)
    (hstack : g.stack = argsL.reverse ++ rest) (hW : 2 * g.monitorRoom + (rest.map fun v => v.category).sum ≤ W9) (hdg : decode c.code g.pc = .ok (.invokestatic index, 3))
    (hpre : ∀ vm₁, s.WarmedH vm₁ → Pre ⟨T.setVm vm₁, locs, cells, slots⟩ argsL.toArray) :
    ∃ (v : Option Value) (vm₁ : Vm) (B : Pt), s.WarmedH vm₁ ∧ Stand p l e R s m args below meth c B.U B.locs B.cells B.slots ∧ Post ⟨T.setVm vm₁, locs, cells, slots⟩ argsL.toArray v B ∧
      ∀ target, Steps p.tables e below (B.U.setTop { g with pc := g.pc + 3, stack := v.toList ++ rest }) target → Steps p.tables e below (T.setTop g) target := by
  obtain ⟨mk, methM, cM, hnamed, hmethM, -, -, -, -, -, -, hsigM⟩ := Cond.codeWith_spec hcode
  have hstatic : methM.isStatic = true := Cond.static_spec hnamed hmethM hstat
  obtain ⟨kP, hkP, -⟩ := className_of_methodNamed hnamed
  have hinitP : kP.init = .initialized := Cond.initialized_spec (findClass_of_methodNamed hnamed) hkP hinit
  obtain ⟨vm₁, X₁, hstep₁⟩ := X.invokestatic hexec hown hlink hnamed hmethM hstatic hkP hinitP hy (g := g) hg (argsL := argsL) (rest := rest) (hlen _ hsigM) hstack hdg
  obtain ⟨v, B, X', hpost, hsteps⟩ := hK m meth c ⟨T.setVm vm₁, locs, cells, slots⟩ { g with stack := rest } (.invokestatic index) mk argsL.toArray X₁ hg hsize hdg hW (X₁.named hnamed) (hpre vm₁ X₁.warmed)
  exact ⟨v, vm₁, B, X₁.warmed, X', hpost, fun target h => hstep₁ _ fun acts => by rw [doInvoke_state]; exact hsteps.trans h⟩
theorem vx_runSW {y : MethodName} {bytes cc : ByteArray} {maxL nL mc ms n index : Nat} {ret : Option FieldType} {hh : List (Nat × Nat × Nat × Nat)} {ws : List Cond} {rm : Room} {Pc : Array Value → State → Prop} {Qc : Array Value → State → Outcome → State → Prop} {free : Addr → Prop} {Ts : List Cond} {own : String} {As rest : List Value} {g : JFrame}
    (S : CallFix p m c cc nL s args Ts own) (hM : Met l y ws rm Pc Qc mc ms free) (cw : vx_CSW R s args own index y bytes maxL ret hh ws rm mc ms n) (hp : PreS s H Pc As)
    (hg : g.method = m) (hn : As.length = n) (hsize : g.locals.size = nL) (hstack : g.stack = As.reverse ++ rest) (hW : 2 * g.monitorRoom + (rest.map fun v => v.category).sum ≤ 8) (hdg : decode cc g.pc = .ok (.invokestatic index, 3)) (hf : cells + mc ≤ R.cells ∧ slots + ms ≤ R.slots) :
    va_Run p l e R s m args below meth c H locs cells slots mc ms g rest (Qc As.toArray) (free) := by
  obtain ⟨⟨hrc, hrs, hfr, hlo, hws, hcw⟩, hcode, hini, hy, hlen, hl, hstt⟩ := cw
  have hK : Back l R p e below s args y 3 8 (PreOf R mc ms Pc) (PostOf Qc mc ms free) := va_backW (hh := hh) (bytes := bytes) (maxL := maxL) (ret := ret) hM hp.1 hrc hrs hfr hlo hws hcw (fun a' U hW => word_at hW (Or.inl (by first | rfl | simp [Cond.onTables, Cond.keeps, Cond.steady])) hini)
  obtain ⟨hx, hb, hml, ho, -⟩ := S
  intro T hT X
  obtain ⟨v, vm₁, ⟨U', l2, c2, s2⟩, hW₁, X', ⟨g', mk, t, L, e1, e2, hq, h1, hL, h2, h3⟩, st⟩ := vx_callSW X hx (hh := hh) (bytes := bytes) (maxL := maxL) (ret := ret) ho hl hstt hini hcode hy hK hg (hsize.trans hml.symm) (argsL := As) (rest := rest) (fun sig h => hn.trans (hlen sig h)) hstack hW (by rw [hb]; exact hdg)
    (fun vm₁ hW₁ => ⟨hf.1, hf.2, hp.2 (T.setVm vm₁) hT hW₁⟩)
  dsimp only [Pt.U, Pt.locs, Pt.cells, Pt.slots] at X' e1 e2 h1 h2 h3 st
  subst h1; subst h2; subst h3
  exact ⟨v, (T.setVm vm₁).calling g' mk As.toArray, t, U', L, hT, X', hL, e1, e2, hq, st⟩
/-- not caught here, past rows that name other classes: it goes on to the caller -/
theorem vx_outP {p : Program} {l : Launch} {e : Env} {R : Room} {s : State} {m : MethodId} {args : Array Value} {below : List Frame} {meth : Method} {c : Code} {H : Heap} {locs : List Loc} {cells slots : Nat} {free : Addr → Prop} {ls : Array Slot} {rest : List Value} {Qc : Array Value → State → Outcome → State → Prop} {XC : String → State → State → Prop}
    {pc : Nat} {own E : String} {ce : Cell} {q : Addr} {mc ms : Nat} (hown : s.vm.findClass own = some m.cls) (hlocks : meth.locks = false)
    (hpass : ∀ z ∈ c.exceptionTable.toList, covers z pc = false ∨ (z.catchType ≠ 0 ∧ ∃ nm : String, (Cond.classLink own z.catchType nm).before args s = true ∧ va_Nc E nm s)) (hcell : H[q]? = some ce) (hv : ce.vm = .none) (hcl : s.vm.findClass E = some ce.cls)
    (hx : ∀ t : State, t.heap = H → s.vm.Alike t.vm → XC E s t) (hf : ∀ z ∈ locs, free z.base) (hc : cells ≤ mc) (hs : slots ≤ ms) :
    vx_W p l e R s m args below meth c H locs cells slots (vx_MQ below Qc XC args s mc ms free) (F0 m pc ls rest) q := by
  intro T hT X
  have hpl : e.platform.magicAccessors = ({} : Platform).magicAccessors := by rw [X.admits.platform]
  obtain ⟨vm', hW', X', st⟩ := X.outThrough hlocks q (g := F0 m pc ls rest) rfl rfl rfl (cell := ce) (by rw [hT]; exact hcell) (by rw [hv]; rfl)
    (by obtain ⟨k9, h9, -⟩ := Vm.findClass_spec hcl; exact ⟨k9, h9⟩) (fun z hz => by
      rcases hpass z hz with h | ⟨hz0, nm, hl1, hn1⟩
      · exact Or.inl h
      · obtain ⟨c6, hc6, hcl6⟩ := Cond.classLink_spec hown hl1 e.platform hpl
        obtain ⟨a8, b8, h1, h2, h3⟩ := hn1
        cases Option.some.inj (h1.symm.trans hcl)
        cases Option.some.inj (h2.symm.trans hc6)
        exact Or.inr ⟨hz0, _, hcl6, h3⟩)
  obtain ⟨g₀, hfr⟩ := X'.frames_eq
  have hcell9 : ((T.setVm vm').setFrames (.throwing q :: below)).heap[q]? = some ce := by
    show T.heap[q]? = some ce
    rw [hT]; exact hcell
  have hend : Ended ((T.setVm vm').setFrames (.throwing q :: below)) below (.threw q) := State.frames_setFrames _ (State.cur_lt_of_frames hfr)
  refine ⟨(T.setVm vm').setFrames (.throwing q :: below), ?_, .threw q, X'.here.running, hend, Or.inr ⟨q, rfl, E, ce, locs, hx _ hT (X'.ends _).1.alike, hcell9, hv, hcl, (X'.ends _).1, (X'.ends _).2.mono hc hs, hf⟩⟩
  rw [X.pushThrowing_eq]
  exact st
/-- a thing of a world lies in the heap -/
theorem vx_lt {D : va_G} {cl : List vw_C} {ws : va_W} {H1 : Heap} (h : va_P D cl ws H1) {k : Nat} {q : Nat × va_E} (hk : ws[k]? = some q) : q.1 < H1.size := (h k q hk).lt
end VXS
/-! ===== END ===== -/
/-! ===== BEGIN methods with a table of their own: called by a name, returning or throwing ===== -/
section VXH
/-! vx_backW, vx_callVX, vx_callSX, vx_callVW, vx_runVW, vx_runVX, vx_runSX, vx_ofWH follow the same proofs as their sisters above (Free/Laws.lean, Shelf42/LK1.lean); vx_outP calls Shelf42/NT130.lean (outThrough). -/
section
variable {l : Launch} {R : Room} {p : Program} {e : Env} {below : List Frame} {s : State} {sargs : Array Value} {y : MethodName} {len W9 : Nat}
theorem vx_backW {ws : List Cond} {rm : Room} {Pc : Array Value → State → Prop} {Qc : Array Value → State → Outcome → State → Prop} {XC : String → State → State → Prop} {mc ms : Nat} {free : Addr → Prop} {bytes : ByteArray} {maxL : Nat} {ret : Option FieldType} {hh : List (Nat × Nat × Nat × Nat)}
    (hM : vx_Met l y ws rm Pc Qc XC mc ms free) (hblind : FrameBlind Pc) (hrc : rm.cells = mc) (hrs : rm.slots = ms)
    (hframes : rm.frames + 1 ≤ R.frames) (hlocals : W9 + (maxL + 11) + rm.locals ≤ R.locals)
    (hws : ∀ w ∈ ws, ∀ a' U, s.WarmedH U.vm → w.before a' U = true) (hcode : Cond.codeWith y bytes maxL ret hh ∈ ws) (hinit : ∀ a' U, s.WarmedH U.vm → (Cond.initialized y.cls).before a' U = true) :
    vx_Back l R p e below s sargs y len W9 (PreOf R mc ms Pc) (PostOf Qc mc ms free) (vx_Post XC mc ms free) := by
  intro m meth c A g ig mk a X hg hsize hdg hW hn hp
  have h1 : (headSpec ws rm).pre.before a A.U = true := atoms_intro fun w hw => hws w hw _ _ X.warmed
  have h2 : (Cond.codeWith y bytes maxL ret hh).before a A.U = true := hws _ hcode _ _ X.warmed
  have h3 : (Cond.initialized y.cls).before a A.U = true := hinit _ _ X.warmed
  have h4 : A.cells + (headSpec ws rm).room.cells ≤ R.cells := by rw [show (headSpec ws rm).room.cells = mc from hrc]; exact hp.1
  have h5 : A.slots + (headSpec ws rm).room.slots ≤ R.slots := by rw [show (headSpec ws rm).room.slots = ms from hrs]; exact hp.2.1
  have hPc : Pc a (A.U.calling g mk a) := hblind _ _ _ _ hp.2.2
  obtain ⟨U, Ls, c0, s0⟩ := A
  dsimp only [Pt.U, Pt.locs, Pt.cells, Pt.slots] at h1 h2 h3 h4 h5 X hn hPc ⊢
  obtain ⟨m9, methY, cY, hn9, hmY, hcY, -, hlY, -⟩ := Cond.codeWith_spec h2
  cases Option.some.inj (hn9.symm.trans hn)
  obtain ⟨kY, hkY, -⟩ := className_of_methodNamed hn
  have hinitY : kY.init = .initialized := Cond.initialized_spec (findClass_of_methodNamed hn) hkY h3
  have h : At U g.method c below := by rw [hg]; exact X.here
  have hlocals9 : W9 + (maxL + 11) + (headSpec ws rm).room.locals ≤ R.locals := hlocals
  have happ : (headSpec ws rm).appliesLoose y e.platform (U.calling g mk a) = true :=
    Spec.appliesLoose_calling (g := g) h hdg hn hkY hinitY
      (X.room_calling (g := g) (R' := (headSpec ws rm).room) hsize hmY hcY hframes (by rw [hlY]; omega) h4 h5) h1
  obtain ⟨mid, hmid⟩ := h.above
  have hfr : (U.setTop g).frames = (.java g :: mid) ++ below := by rw [State.frames_setTop' g h.top, hmid]; rfl
  obtain ⟨o, s₂, hsteps, -, hend, hq⟩ := Steps.callFree hM p X.admits X.cas X.clock (acts := []) hfr happ hPc trivial
  have hq' : vx_Q Qc XC mc ms free a (U.calling g mk a) o s₂ := hq
  rw [State.frames_setTop' g h.top] at hend
  obtain ⟨g₀, hg0⟩ := Option.isSome_iff_exists.mp h.top
  obtain ⟨r, hr⟩ := State.topJava?_eq_some.mp hg0
  have hr' : (({ U with heap := s₂.heap, slotsUsed := s₂.slotsUsed } : State).setVm s₂.vm).frames = .java g₀ :: r := hr
  rcases hq' with ⟨hqc, L, hfe, hL⟩ | ⟨q, rfl, E, ce, L, hx, hce, hcv, hcl, hW₂, hsm, hL⟩
  · obtain ⟨⟨v, rfl⟩, hW₂, e2, q2, q3, q4, q5, q6⟩ := id hfe
    have e3 : s₂ = ({ (U.calling g mk a).setFrames s₂.frames with heap := s₂.heap, slotsUsed := s₂.slotsUsed } : State).setVm s₂.vm := by
      have : s₂ = ({ s₂ with vm := (U.calling g mk a).vm } : State).setVm s₂.vm := rfl
      rw [e2] at this
      exact this
    obtain ⟨c₂, i₂, len₂, hc₂, hd₂, hf₂⟩ := hend
    have hW' : U.WarmedH s₂.vm := hW₂
    have hcc : c₂ = c := by
      have h1 : s₂.code? g.method = U.code? g.method := by
        rw [State.code?_eq, State.code?_eq, hW'.alike.method?]
      exact Option.some.inj (hc₂.symm.trans (h1.trans h.code))
    subst hcc
    have hlen : len₂ = len := by rw [hdg] at hd₂; cases hd₂; rfl
    subst hlen
    have hs₂ : s₂ = (({ U with heap := s₂.heap, slotsUsed := s₂.slotsUsed } : State).setVm s₂.vm).setTop { g with pc := g.pc + len₂, stack := v.toList ++ g.stack } := by
      refine e3.trans ?_
      rw [hf₂, State.calling_eq h.top, State.setFrames_setFrames, State.setTop_of_frames _ hr', hr]
      rfl
    have hsame : U.sameButNew ({ U with heap := s₂.heap, slotsUsed := s₂.slotsUsed } : State) L mc ms := by
      refine ⟨?_, q2, q3, q4, q5, q6⟩
      obtain ⟨t, ht, -⟩ := State.frames_cons hr
      show ({ U with heap := s₂.heap, slotsUsed := s₂.slotsUsed } : State) = { U.setFrames U.frames with heap := s₂.heap, slotsUsed := s₂.slotsUsed }
      rw [State.setFrames_self ht]
    subst hg
    refine Or.inl ⟨v, ⟨(({ U with heap := s₂.heap, slotsUsed := s₂.slotsUsed } : State).setVm s₂.vm), Ls ++ L, c0 + mc, s0 + ms⟩,
      ⟨X.admits, X.cas, X.clock, X.frames, X.room, X.hears, X.method, X.code, (X.here.setHeapUsed s₂.heap s₂.slotsUsed).setVm hW'.alike, X.tail, State.WarmedH.trans X.warmed hW', X.limits, X.bytes, X.same.trans (hsame.setVm s.vm)⟩,
      ⟨g, mk, s₂, L, rfl, rfl, hqc, rfl, hL, rfl, rfl⟩, ?_⟩
    show Steps p.tables e below _ ((({ U with heap := s₂.heap, slotsUsed := s₂.slotsUsed } : State).setVm s₂.vm).setTop { g with pc := g.pc + len₂, stack := v.toList ++ g.stack })
    rw [← hs₂]
    exact hsteps
  · obtain ⟨e2, q2, q3, q4, q5, q6⟩ := id hsm
    have e3 : s₂ = ({ (U.calling g mk a).setFrames s₂.frames with heap := s₂.heap, slotsUsed := s₂.slotsUsed } : State).setVm s₂.vm := by
      have : s₂ = ({ s₂ with vm := (U.calling g mk a).vm } : State).setVm s₂.vm := rfl
      rw [e2] at this
      exact this
    have hf₂ : s₂.frames = .throwing q :: .java g :: U.frames.tail := hend
    have hW' : U.WarmedH s₂.vm := hW₂
    have hs₂ : s₂ = ((({ U with heap := s₂.heap, slotsUsed := s₂.slotsUsed } : State).setVm s₂.vm).setTop g).pushFrame (.throwing q) := by
      refine e3.trans ?_
      rw [hf₂, State.calling_eq h.top, State.setFrames_setFrames, State.pushFrame, State.frames_setTop _ hr', State.setTop_of_frames _ hr', State.setFrames_setFrames, hr]
      rfl
    have hsame : U.sameButNew ({ U with heap := s₂.heap, slotsUsed := s₂.slotsUsed } : State) L mc ms := by
      refine ⟨?_, q2, q3, q4, q5, q6⟩
      obtain ⟨t, ht, -⟩ := State.frames_cons hr
      show ({ U with heap := s₂.heap, slotsUsed := s₂.slotsUsed } : State) = { U.setFrames U.frames with heap := s₂.heap, slotsUsed := s₂.slotsUsed }
      rw [State.setFrames_self ht]
    subst hg
    refine Or.inr ⟨q, ⟨(({ U with heap := s₂.heap, slotsUsed := s₂.slotsUsed } : State).setVm s₂.vm), Ls ++ L, c0 + mc, s0 + ms⟩,
      ⟨X.admits, X.cas, X.clock, X.frames, X.room, X.hears, X.method, X.code, (X.here.setHeapUsed s₂.heap s₂.slotsUsed).setVm hW'.alike, X.tail, State.WarmedH.trans X.warmed hW', X.limits, X.bytes, X.same.trans (hsame.setVm s.vm)⟩,
      ⟨g, mk, s₂, L, E, ce, rfl, rfl, hx, hce, hcv, hcl, rfl, hL, rfl, rfl⟩, ?_⟩
    show Steps p.tables e below _ (((({ U with heap := s₂.heap, slotsUsed := s₂.slotsUsed } : State).setVm s₂.vm).setTop g).pushFrame (.throwing q))
    rw [← hs₂]
    exact hsteps
end
variable {p : Program} {l : Launch} {e : Env} {R : Room} {s : State} {m : MethodId} {args : Array Value} {below : List Frame} {meth : Method} {c : Code} {T : State} {H : Heap} {locs : List Loc} {cells slots : Nat}
theorem vx_callVX (X : Stand p l e R s m args below meth c T locs cells slots) (hexec : p.tables.exec = Jvm.exec) {own C : String} {index : Nat} {y : MethodName} {bytes : ByteArray} {maxL : Nat} {ret : Option FieldType} {hh : List (Nat × Nat × Nat × Nat)}
    (hown : s.vm.findClass own = some m.cls) (hlink : (Cond.methodLink own index y).before args s = true) (hinst : (Cond.instanceMethod y).before args s = true) (hsel : (Cond.selects C y y).before args s = true)
    (hcode : (Cond.codeWith y bytes maxL ret hh).before args s = true) (hy : y.cls ≠ "java/lang/invoke/MethodHandle" ∧ y.cls ≠ "java/lang/invoke/VarHandle")
    {W9 : Nat} {Pre : Pt → Array Value → Prop} {Post : Pt → Array Value → Option Value → Pt → Prop} {PostX : Pt → Array Value → Addr → Pt → Prop} (hK : vx_Back l R p e below s args y 3 W9 Pre Post PostX)
    {b : Addr} {cellB : Cell} (hcell : T.heap[b]? = some cellB) (hobj : cellB.vm.isStatics = false) (hcls : s.vm.findClass C = some cellB.cls)
    {g : JFrame} (hg : g.method = m) (hsize : g.locals.size = c.maxLocals) {argsL rest : List Value} (hlen : ∀ sig, parseMethodDescriptor y.desc = some sig → argsL.length = sig.parameters.length)
    (hstack : g.stack = argsL.reverse ++ .ref b :: rest) (hW : 2 * g.monitorRoom + (rest.map fun v => v.category).sum ≤ W9) (hdg : decode c.code g.pc = .ok (.invokevirtual index, 3))
    (hpre : ∀ vm₁, s.WarmedH vm₁ → Pre ⟨T.setVm vm₁, locs, cells, slots⟩ (Value.ref b :: argsL).toArray) :
    (∃ (v : Option Value) (vm₁ : Vm) (B : Pt), s.WarmedH vm₁ ∧ Stand p l e R s m args below meth c B.U B.locs B.cells B.slots ∧ Post ⟨T.setVm vm₁, locs, cells, slots⟩ (Value.ref b :: argsL).toArray v B ∧
      ∀ target, Steps p.tables e below (B.U.setTop { g with pc := g.pc + 3, stack := v.toList ++ rest }) target → Steps p.tables e below (T.setTop g) target) ∨
    (∃ (q : Addr) (vm₁ : Vm) (B : Pt), s.WarmedH vm₁ ∧ Stand p l e R s m args below meth c B.U B.locs B.cells B.slots ∧ PostX ⟨T.setVm vm₁, locs, cells, slots⟩ (Value.ref b :: argsL).toArray q B ∧
      Steps p.tables e below (T.setTop g) ((B.U.setTop { g with stack := rest }).pushFrame (.throwing q))) := by
  obtain ⟨mk, methM, hnamed, hmethM, hstM, habM⟩ := Cond.instanceMethod_spec hinst
  obtain ⟨m8, methM', cM, hn8, hmethM', -, -, -, -, -, -, hsigM⟩ := Cond.codeWith_spec hcode
  cases Option.some.inj (hn8.symm.trans hnamed)
  cases hmethM.symm.trans hmethM'
  obtain ⟨c2, r2, m2, q1, q2, q3, q4, kP, hkP, hkPi⟩ := Cond.selects_spec hsel
  cases hcls.symm.trans q1
  cases (State.methodFound?_of_named hnamed hy).symm.trans q2
  cases hnamed.symm.trans q3
  have hselP : selectMethod e.platform s.vm cellB.cls mk = .method mk := by rw [Launch.admits_selectMethod X.admits]; exact q4
  obtain ⟨vm₁, X₁, hstep₁⟩ := X.invokevirtual hexec hown hlink hnamed hmethM hstM hkP hkPi hy (a := b) (cell := cellB) hcell
    (fun z h => by rw [h] at hobj; cases hobj) hselP hmethM habM hkP hkPi (g := g) hg (argsL := argsL) (rest := rest) (hlen _ hsigM) hstack hdg
  rcases hK m meth c ⟨T.setVm vm₁, locs, cells, slots⟩ { g with stack := rest } (.invokevirtual index) mk (Value.ref b :: argsL).toArray X₁ hg hsize hdg hW (X₁.named hnamed) (hpre vm₁ X₁.warmed) with ⟨v, B, X', hpost, hsteps⟩ | ⟨q, B, X', hpost, hsteps⟩
  · exact Or.inl ⟨v, vm₁, B, X₁.warmed, X', hpost, fun target h => hstep₁ _ fun acts => by rw [doInvoke_state]; exact hsteps.trans h⟩
  · exact Or.inr ⟨q, vm₁, B, X₁.warmed, X', hpost, hstep₁ _ fun acts => by rw [doInvoke_state]; exact hsteps⟩
theorem vx_callSX (X : Stand p l e R s m args below meth c T locs cells slots) (hexec : p.tables.exec = Jvm.exec) {own : String} {index : Nat} {y : MethodName} {bytes : ByteArray} {maxL : Nat} {ret : Option FieldType} {hh : List (Nat × Nat × Nat × Nat)}
    (hown : s.vm.findClass own = some m.cls) (hlink : (Cond.methodLink own index y).before args s = true) (hstat : (Cond.static y).before args s = true) (hinit : (Cond.initialized y.cls).before args s = true)
    (hcode : (Cond.codeWith y bytes maxL ret hh).before args s = true) (hy : y.cls ≠ "java/lang/invoke/MethodHandle" ∧ y.cls ≠ "java/lang/invoke/VarHandle")
    {W9 : Nat} {Pre : Pt → Array Value → Prop} {Post : Pt → Array Value → Option Value → Pt → Prop} {PostX : Pt → Array Value → Addr → Pt → Prop} (hK : vx_Back l R p e below s args y 3 W9 Pre Post PostX)
    {g : JFrame} (hg : g.method = m) (hsize : g.locals.size = c.maxLocals) {argsL rest : List Value} (hlen : ∀ sig, parseMethodDescriptor y.desc = some sig → argsL.length = sig.parameters.length)
    (hstack : g.stack = argsL.reverse ++ rest) (hW : 2 * g.monitorRoom + (rest.map fun v => v.category).sum ≤ W9) (hdg : decode c.code g.pc = .ok (.invokestatic index, 3))
    (hpre : ∀ vm₁, s.WarmedH vm₁ → Pre ⟨T.setVm vm₁, locs, cells, slots⟩ argsL.toArray) :
    (∃ (v : Option Value) (vm₁ : Vm) (B : Pt), s.WarmedH vm₁ ∧ Stand p l e R s m args below meth c B.U B.locs B.cells B.slots ∧ Post ⟨T.setVm vm₁, locs, cells, slots⟩ argsL.toArray v B ∧
      ∀ target, Steps p.tables e below (B.U.setTop { g with pc := g.pc + 3, stack := v.toList ++ rest }) target → Steps p.tables e below (T.setTop g) target) ∨
    (∃ (q : Addr) (vm₁ : Vm) (B : Pt), s.WarmedH vm₁ ∧ Stand p l e R s m args below meth c B.U B.locs B.cells B.slots ∧ PostX ⟨T.setVm vm₁, locs, cells, slots⟩ argsL.toArray q B ∧
      Steps p.tables e below (T.setTop g) ((B.U.setTop { g with stack := rest }).pushFrame (.throwing q))) := by
  obtain ⟨mk, methM, cM, hnamed, hmethM, -, -, -, -, -, -, hsigM⟩ := Cond.codeWith_spec hcode
  have hstatic : methM.isStatic = true := Cond.static_spec hnamed hmethM hstat
  obtain ⟨kP, hkP, -⟩ := className_of_methodNamed hnamed
  have hinitP : kP.init = .initialized := Cond.initialized_spec (findClass_of_methodNamed hnamed) hkP hinit
  obtain ⟨vm₁, X₁, hstep₁⟩ := X.invokestatic hexec hown hlink hnamed hmethM hstatic hkP hinitP hy (g := g) hg (argsL := argsL) (rest := rest) (hlen _ hsigM) hstack hdg
  rcases hK m meth c ⟨T.setVm vm₁, locs, cells, slots⟩ { g with stack := rest } (.invokestatic index) mk argsL.toArray X₁ hg hsize hdg hW (X₁.named hnamed) (hpre vm₁ X₁.warmed) with ⟨v, B, X', hpost, hsteps⟩ | ⟨q, B, X', hpost, hsteps⟩
  · exact Or.inl ⟨v, vm₁, B, X₁.warmed, X', hpost, fun target h => hstep₁ _ fun acts => by rw [doInvoke_state]; exact hsteps.trans h⟩
  · exact Or.inr ⟨q, vm₁, B, X₁.warmed, X', hpost, hstep₁ _ fun acts => by rw [doInvoke_state]; exact hsteps⟩
theorem vx_callVW (X : Stand p l e R s m args below meth c T locs cells slots) (hexec : p.tables.exec = Jvm.exec) {own C : String} {index : Nat} {y : MethodName} {bytes : ByteArray} {maxL : Nat} {ret : Option FieldType} {hh : List (Nat × Nat × Nat × Nat)}
    (hown : s.vm.findClass own = some m.cls) (hlink : (Cond.methodLink own index y).before args s = true) (hinst : (Cond.instanceMethod y).before args s = true) (hsel : (Cond.selects C y y).before args s = true)
    (hcode : (Cond.codeWith y bytes maxL ret hh).before args s = true) (hy : y.cls ≠ "java/lang/invoke/MethodHandle" ∧ y.cls ≠ "java/lang/invoke/VarHandle")
    {W9 : Nat} {Pre : Pt → Array Value → Prop} {Post : Pt → Array Value → Option Value → Pt → Prop} (hK : Back l R p e below s args y 3 W9 Pre Post)
    {b : Addr} {cellB : Cell} (hcell : T.heap[b]? = some cellB) (hobj : cellB.vm.isStatics = false) (hcls : s.vm.findClass C = some cellB.cls)
    {g : JFrame} (hg : g.method = m) (hsize : g.locals.size = c.maxLocals) {argsL rest : List Value} (hlen : ∀ sig, parseMethodDescriptor y.desc = some sig → argsL.length = sig.parameters.length)
    (hstack : g.stack = argsL.reverse ++ .ref b :: rest) (hW : 2 * g.monitorRoom + (rest.map fun v => v.category).sum ≤ W9) (hdg : decode c.code g.pc = .ok (.invokevirtual index, 3))
    (hpre : ∀ vm₁, s.WarmedH vm₁ → Pre ⟨T.setVm vm₁, locs, cells, slots⟩ (Value.ref b :: argsL).toArray) :
    ∃ (v : Option Value) (vm₁ : Vm) (B : Pt), s.WarmedH vm₁ ∧ Stand p l e R s m args below meth c B.U B.locs B.cells B.slots ∧ Post ⟨T.setVm vm₁, locs, cells, slots⟩ (Value.ref b :: argsL).toArray v B ∧
      ∀ target, Steps p.tables e below (B.U.setTop { g with pc := g.pc + 3, stack := v.toList ++ rest }) target → Steps p.tables e below (T.setTop g) target := by
  obtain ⟨mk, methM, hnamed, hmethM, hstM, habM⟩ := Cond.instanceMethod_spec hinst
  obtain ⟨m8, methM', cM, hn8, hmethM', -, -, -, -, -, -, hsigM⟩ := Cond.codeWith_spec hcode
  cases Option.some.inj (hn8.symm.trans hnamed)
  cases hmethM.symm.trans hmethM'
  obtain ⟨c2, r2, m2, q1, q2, q3, q4, kP, hkP, hkPi⟩ := Cond.selects_spec hsel
  cases hcls.symm.trans q1
  cases (State.methodFound?_of_named hnamed hy).symm.trans q2
  cases hnamed.symm.trans q3
  have hselP : selectMethod e.platform s.vm cellB.cls mk = .method mk := by rw [Launch.admits_selectMethod X.admits]; exact q4
  obtain ⟨vm₁, X₁, hstep₁⟩ := X.invokevirtual hexec hown hlink hnamed hmethM hstM hkP hkPi hy (a := b) (cell := cellB) hcell
    (fun z h => by rw [h] at hobj; cases hobj) hselP hmethM habM hkP hkPi (g := g) hg (argsL := argsL) (rest := rest) (hlen _ hsigM) hstack hdg
  obtain ⟨v, B, X', hpost, hsteps⟩ := hK m meth c ⟨T.setVm vm₁, locs, cells, slots⟩ { g with stack := rest } (.invokevirtual index) mk (Value.ref b :: argsL).toArray X₁ hg hsize hdg hW (X₁.named hnamed) (hpre vm₁ X₁.warmed)
  exact ⟨v, vm₁, B, X₁.warmed, X', hpost, fun target h => hstep₁ _ fun acts => by rw [doInvoke_state]; exact hsteps.trans h⟩
abbrev vx_CVW (R : Room) (s : State) (args : Array Value) (own C : String) (index : Nat) (y : MethodName) (bytes : ByteArray) (maxL : Nat) (ret : Option FieldType) (hh : List (Nat × Nat × Nat × Nat)) (ws : List Cond) (rm : Room) (mc ms n : Nat) : Prop :=
  (rm.cells = mc ∧ rm.slots = ms ∧ rm.frames + 1 ≤ R.frames ∧ 8 + (maxL + 11) + rm.locals ≤ R.locals ∧ (∀ w ∈ ws, ∀ (a' : Array Value) (U : State), s.WarmedH U.vm → w.before a' U = true) ∧ Cond.codeWith y bytes maxL ret hh ∈ ws) ∧
  (Cond.codeWith y bytes maxL ret hh).before args s = true ∧ (Cond.initialized y.cls).before args s = true ∧ (y.cls ≠ "java/lang/invoke/MethodHandle" ∧ y.cls ≠ "java/lang/invoke/VarHandle") ∧
  (∀ sig, parseMethodDescriptor y.desc = some sig → n = sig.parameters.length) ∧ (Cond.methodLink own index y).before args s = true ∧ (Cond.instanceMethod y).before args s = true ∧ (Cond.selects C y y).before args s = true
theorem vx_cwVW {own C : String} {index maxL mc ms : Nat} {y : MethodName} {bytes : ByteArray} {ret : Option FieldType} {hh : List (Nat × Nat × Nat × Nat)} {Ts ws ws' : List Cond} {rm : Room} (n : Nat) (ht : ∀ w ∈ Ts, w.before args s = true) (hT : GoodIn Ts (wsV own index C y ws)) (hw : ws = Cond.codeWith y bytes maxL ret hh :: ws') (hrc : rm.cells = mc) (hrs : rm.slots = ms)
    (hd : y.cls = C ∧ y.cls ≠ "java/lang/invoke/MethodHandle" ∧ y.cls ≠ "java/lang/invoke/VarHandle" ∧ (parseMethodDescriptor y.desc).map (fun d => d.parameters.length) = some n) (hR : rm.frames + 1 ≤ R.frames ∧ 8 + (maxL + 11) + rm.locals ≤ R.locals) :
    vx_CVW R s args own C index y bytes maxL ret hh ws rm mc ms n := by
  obtain ⟨hC, hd⟩ := hd
  subst hC
  have ok : ∀ w ∈ wsV own index y.cls y ws, w.before args s = true := fun w h => ht w (hT w h).1
  have hG : GoodIn Ts ws := fun w h => hT w (by unfold wsV; exact List.mem_append_right _ h)
  have hc : Cond.codeWith y bytes maxL ret hh ∈ ws := by rw [hw]; exact List.mem_cons_self
  refine ⟨⟨hrc, hrs, hR.1, hR.2, pay_in ht hG, hc⟩, ht _ (hG _ hc).1, ok _ (by simp [wsV]), ⟨hd.1, hd.2.1⟩, fun sig h => ?_, ok _ (by simp [wsV]), ok _ (by simp [wsV]), ok _ (by simp [wsV])⟩
  have h2 := hd.2.2
  rw [h] at h2
  exact (Option.some.inj h2).symm
theorem vx_runVW {y : MethodName} {bytes cc : ByteArray} {maxL nL mc ms n index : Nat} {ret : Option FieldType} {hh : List (Nat × Nat × Nat × Nat)} {ws : List Cond} {rm : Room} {Pc : Array Value → State → Prop} {Qc : Array Value → State → Outcome → State → Prop} {free : Addr → Prop} {Ts : List Cond} {own C : String} {b : Addr} {As rest : List Value} {g : JFrame}
    (S : CallFix p m c cc nL s args Ts own) (hM : Met l y ws rm Pc Qc mc ms free) (cw : vx_CVW R s args own C index y bytes maxL ret hh ws rm mc ms n) (hp : PreV s H C b Pc As)
    (hg : g.method = m) (hn : As.length = n) (hsize : g.locals.size = nL) (hstack : g.stack = As.reverse ++ .ref b :: rest) (hW : 2 * g.monitorRoom + (rest.map fun v => v.category).sum ≤ 8) (hdg : decode cc g.pc = .ok (.invokevirtual index, 3)) (hf : cells + mc ≤ R.cells ∧ slots + ms ≤ R.slots) :
    va_Run p l e R s m args below meth c H locs cells slots mc ms g rest (Qc (Value.ref b :: As).toArray) free := by
  obtain ⟨⟨hrc, hrs, hfr, hlo, hws, hcw⟩, hcode, hini, hy, hlen, hl, hin, hse⟩ := cw
  have hK : Back l R p e below s args y 3 8 (PreOf R mc ms Pc) (PostOf Qc mc ms free) := va_backW (hh := hh) (bytes := bytes) (maxL := maxL) (ret := ret) hM hp.1 hrc hrs hfr hlo hws hcw (fun a' U hW => word_at hW (Or.inl (by first | rfl | simp [Cond.onTables, Cond.keeps, Cond.steady])) hini)
  obtain ⟨hx, hb, hml, ho, -⟩ := S
  obtain ⟨-, ⟨cellB, hcB, hoB, hclB⟩, hPc⟩ := hp
  intro T hT X
  obtain ⟨v, vm₁, ⟨U', l2, c2, s2⟩, hW₁, X', ⟨g', mk, t, L, e1, e2, hq, h1, hL, h2, h3⟩, st⟩ := vx_callVW X hx (C := C) (hh := hh) (bytes := bytes) (maxL := maxL) (ret := ret) ho hl hin hse hcode hy hK (by rw [hT]; exact hcB) hoB hclB hg (hsize.trans hml.symm) (argsL := As) (rest := rest) (fun sig h => hn.trans (hlen sig h)) hstack hW (by rw [hb]; exact hdg)
    (fun vm₁ hW₁ => ⟨hf.1, hf.2, hPc (T.setVm vm₁) hT hW₁⟩)
  dsimp only [Pt.U, Pt.locs, Pt.cells, Pt.slots] at X' e1 e2 h1 h2 h3 st
  subst h1; subst h2; subst h3
  exact ⟨v, (T.setVm vm₁).calling g' mk (Value.ref b :: As).toArray, t, U', L, hT, X', hL, e1, e2, hq, st⟩
section
variable {y : MethodName} {bytes cc : ByteArray} {maxL nL mc ms n index : Nat} {ret : Option FieldType} {ws : List Cond} {rm : Room} {Pc : Array Value → State → Prop} {Qc : Array Value → State → Outcome → State → Prop} {XC : String → State → State → Prop} {free : Addr → Prop} {Ts : List Cond} {own C : String} {b : Addr} {As rest : List Value} {g : JFrame}
theorem vx_runVX {hh : List (Nat × Nat × Nat × Nat)} (S : CallFix p m c cc nL s args Ts own) (hM : vx_Met l y ws rm Pc Qc XC mc ms free) (cw : vx_CVW R s args own C index y bytes maxL ret hh ws rm mc ms n) (hp : PreV s H C b Pc As)
    (hg : g.method = m) (hn : As.length = n) (hsize : g.locals.size = nL) (hstack : g.stack = As.reverse ++ .ref b :: rest) (hW : 2 * g.monitorRoom + (rest.map fun v => v.category).sum ≤ 8) (hdg : decode cc g.pc = .ok (.invokevirtual index, 3)) (hf : cells + mc ≤ R.cells ∧ slots + ms ≤ R.slots) :
    vx_Run p l e R s m args below meth c H locs cells slots mc ms g rest (Qc (Value.ref b :: As).toArray) XC free := by
  obtain ⟨⟨hrc, hrs, hfr, hlo, hws, hcw⟩, hcode, hini, hy, hlen, hl, hin, hse⟩ := cw
  have hK : vx_Back l R p e below s args y 3 8 (PreOf R mc ms Pc) (PostOf Qc mc ms free) (vx_Post XC mc ms free) := vx_backW (hh := hh) (bytes := bytes) (maxL := maxL) (ret := ret) hM hp.1 hrc hrs hfr hlo hws hcw (fun a' U hW => word_at hW (Or.inl (by first | rfl | simp [Cond.onTables, Cond.keeps, Cond.steady])) hini)
  obtain ⟨hx, hb, hml, ho, -⟩ := S
  obtain ⟨-, ⟨cellB, hcB, hoB, hclB⟩, hPc⟩ := hp
  intro T hT X
  rcases vx_callVX X hx (C := C) (hh := hh) (bytes := bytes) (maxL := maxL) (ret := ret) ho hl hin hse hcode hy hK (by rw [hT]; exact hcB) hoB hclB hg (hsize.trans hml.symm) (argsL := As) (rest := rest) (fun sig h => hn.trans (hlen sig h)) hstack hW (by rw [hb]; exact hdg)
    (fun vm₁ hW₁ => ⟨hf.1, hf.2, hPc (T.setVm vm₁) hT hW₁⟩) with ⟨v, vm₁, ⟨U', l2, c2, s2⟩, hW₁, X', ⟨g', mk, t, L, e1, e2, hq, h1, hL, h2, h3⟩, st⟩ | ⟨q, vm₁, ⟨U', l2, c2, s2⟩, hW₁, X', ⟨g', mk, t, L, E, ce, e1, e2, hq, hce, hcv, hcl, h1, hL, h2, h3⟩, st⟩
  · dsimp only [Pt.U, Pt.locs, Pt.cells, Pt.slots] at X' e1 e2 h1 h2 h3 st
    subst h1; subst h2; subst h3
    exact Or.inl ⟨v, (T.setVm vm₁).calling g' mk (Value.ref b :: As).toArray, t, U', L, hT, X', hL, e1, e2, hq, st⟩
  · dsimp only [Pt.U, Pt.locs, Pt.cells, Pt.slots] at X' e1 e2 h1 h2 h3 st hcl
    subst h1; subst h2; subst h3
    exact Or.inr ⟨q, (T.setVm vm₁).calling g' mk (Value.ref b :: As).toArray, t, U', L, E, ce, hT, X', hL, e1, e2, hq, hce, hcv, vx_cls hW₁ hcl, st⟩
theorem vx_runSX {hh : List (Nat × Nat × Nat × Nat)} (S : CallFix p m c cc nL s args Ts own) (hM : vx_Met l y ws rm Pc Qc XC mc ms free) (cw : vx_CSW R s args own index y bytes maxL ret hh ws rm mc ms n) (hp : PreS s H Pc As)
    (hg : g.method = m) (hn : As.length = n) (hsize : g.locals.size = nL) (hstack : g.stack = As.reverse ++ rest) (hW : 2 * g.monitorRoom + (rest.map fun v => v.category).sum ≤ 8) (hdg : decode cc g.pc = .ok (.invokestatic index, 3)) (hf : cells + mc ≤ R.cells ∧ slots + ms ≤ R.slots) :
    vx_Run p l e R s m args below meth c H locs cells slots mc ms g rest (Qc As.toArray) XC free := by
  obtain ⟨⟨hrc, hrs, hfr, hlo, hws, hcw⟩, hcode, hini, hy, hlen, hl, hstt⟩ := cw
  have hK : vx_Back l R p e below s args y 3 8 (PreOf R mc ms Pc) (PostOf Qc mc ms free) (vx_Post XC mc ms free) := vx_backW (hh := hh) (bytes := bytes) (maxL := maxL) (ret := ret) hM hp.1 hrc hrs hfr hlo hws hcw (fun a' U hW => word_at hW (Or.inl (by first | rfl | simp [Cond.onTables, Cond.keeps, Cond.steady])) hini)
  obtain ⟨hx, hb, hml, ho, -⟩ := S
  intro T hT X
  rcases vx_callSX X hx (hh := hh) (bytes := bytes) (maxL := maxL) (ret := ret) ho hl hstt hini hcode hy hK hg (hsize.trans hml.symm) (argsL := As) (rest := rest) (fun sig h => hn.trans (hlen sig h)) hstack hW (by rw [hb]; exact hdg)
    (fun vm₁ hW₁ => ⟨hf.1, hf.2, hp.2 (T.setVm vm₁) hT hW₁⟩) with ⟨v, vm₁, ⟨U', l2, c2, s2⟩, hW₁, X', ⟨g', mk, t, L, e1, e2, hq, h1, hL, h2, h3⟩, st⟩ | ⟨q, vm₁, ⟨U', l2, c2, s2⟩, hW₁, X', ⟨g', mk, t, L, E, ce, e1, e2, hq, hce, hcv, hcl, h1, hL, h2, h3⟩, st⟩
  · dsimp only [Pt.U, Pt.locs, Pt.cells, Pt.slots] at X' e1 e2 h1 h2 h3 st
    subst h1; subst h2; subst h3
    exact Or.inl ⟨v, (T.setVm vm₁).calling g' mk As.toArray, t, U', L, hT, X', hL, e1, e2, hq, st⟩
  · dsimp only [Pt.U, Pt.locs, Pt.cells, Pt.slots] at X' e1 e2 h1 h2 h3 st hcl
    subst h1; subst h2; subst h3
    exact Or.inr ⟨q, (T.setVm vm₁).calling g' mk As.toArray, t, U', L, E, ce, hT, X', hL, e1, e2, hq, hce, hcv, vx_cls hW₁ hcl, st⟩
end
end VXH
theorem vx_ofWH {l : Launch} {y : MethodName} {ws ws' : List Cond} {rm : Room} {Pc : Array Value → State → Prop} {Qc : Array Value → State → Outcome → State → Prop} {XC : String → State → State → Prop} {mc ms : Nat} {free : Addr → Prop} {cc : ByteArray} {maxL : Nat} {ret : Option FieldType} {hh : List (Nat × Nat × Nat × Nat)}
    (hy : plainName y.cls = true) (hw : ws = Cond.codeWith y cc maxL ret hh :: ws')
    (body : ∀ p e s m args below meth c s₁, BodyLoose p l y (headSpec ws rm) cc maxL ret e s m args below meth c s₁ → c.maxLocals = maxL → Pc args s →
      W p l e (headSpec ws rm).room s m args below meth c s.heap [] 0 0 (vx_MQ below Qc XC args s mc ms free) (entryFrame m args maxL)) : vx_Met l y ws rm Pc Qc XC mc ms free := by
  refine MetFree.of_bodyS (code := cc) (maxLocals := maxL) (ret := ret) hy ?_ ?_
  · intro args s m h hn
    obtain ⟨m9, meth, c, hn9, h1, h2, h3, h4, -, h5, h6, -⟩ := Cond.codeWith_spec (atoms_spec (ws := ws) h _ (by rw [hw]; exact List.mem_cons_self))
    cases hn.symm.trans hn9
    exact ⟨meth, c, h1, h2, h3, h4, h5, h6⟩
  · intro p e s m args below meth c s₁ B hml hP _
    have hh0 : s₁.heap = s.heap := by rw [B.state]; rfl
    obtain ⟨t, a1, o, b1, b2, b3⟩ := body p e s m args below meth c s₁ B hml hP s₁ hh0 (Stand.of_body B)
    exact ⟨t, o, a1, b1, b2, b3⟩
/-! ===== END ===== -/
end
section
/-! ===== BEGIN printed: names, fields, word lists, decode rows ===== -/
def RX0 : String := "WallChapels$Acts"
def TX0 : u_T := fun k => match k with
  | 0 => ("WallChapels$Acts", "kept", "[LWallChapels$Scene;", true)
  | 1 => ("WallChapels$Acts", "next", "I", false)
  | _ => ("WallChapels$Acts", "held", "I", false)
def tyX0 : Nat → FieldType := fun k => match k with
  | 0 => .array (.object "WallChapels$Scene")
  | 1 => .int
  | _ => .int
abbrev wsX00 : List Cond := u_ws RX0 TX0 3
theorem nmX0 : ∀ a, a < 3 → ∀ b, b < 3 → a ≠ b → (TX0 a).2.1 ≠ (TX0 b).2.1 := by decide +kernel
theorem tyX0_ok : ∀ k, k < 3 → parseFieldDescriptor (TX0 k).2.2.1 = some (tyX0 k) := by decide +kernel
abbrev cX0_init : ByteArray := prog_2_method_1_code
def yX0_init : MethodName := ⟨RX0, "<init>", "()V"⟩
abbrev cX0_keep : ByteArray := prog_2_method_2_code
def yX0_keep : MethodName := ⟨RX0, "keep", "(LWallChapels$Scene;)V"⟩
abbrev cX0_takeBack : ByteArray := prog_2_method_3_code
def yX0_takeBack : MethodName := ⟨RX0, "takeBack", "(LWallChapels$Scene;)Z"⟩
abbrev cX0_forgetAll : ByteArray := prog_2_method_4_code
def yX0_forgetAll : MethodName := ⟨RX0, "forgetAll", "()V"⟩
def RX1 : String := "WallChapels$Custom"
def TX1 : u_T := fun k => match k with
  | 0 => ("WallChapels$Custom", "plan", "LWallChapels$Plan;", true)
  | 1 => ("WallChapels$Custom", "ways", "LWallChapels$Ways;", true)
  | 2 => ("WallChapels$Custom", "laws", "LWallChapels$Laws;", true)
  | 3 => ("WallChapels$Custom", "chapels", "I", false)
  | 4 => ("WallChapels$Custom", "visited", "I", false)
  | 5 => ("WallChapels$Custom", "lapsed", "I", false)
  | _ => ("WallChapels$Custom", "went", "I", false)
def tyX1 : Nat → FieldType := fun k => match k with
  | 0 => .object "WallChapels$Plan"
  | 1 => .object "WallChapels$Ways"
  | 2 => .object "WallChapels$Laws"
  | 3 => .int
  | 4 => .int
  | 5 => .int
  | _ => .int
abbrev wsX10 : List Cond := u_ws RX1 TX1 7
theorem nmX1 : ∀ a, a < 7 → ∀ b, b < 7 → a ≠ b → (TX1 a).2.1 ≠ (TX1 b).2.1 := by decide +kernel
theorem tyX1_ok : ∀ k, k < 7 → parseFieldDescriptor (TX1 k).2.2.1 = some (tyX1 k) := by decide +kernel
abbrev cX1_init : ByteArray := prog_3_method_1_code
def yX1_init : MethodName := ⟨RX1, "<init>", "(LWallChapels$Plan;LWallChapels$Ways;LWallChapels$Laws;)V"⟩
abbrev cX1_lookAt : ByteArray := prog_3_method_2_code
def yX1_lookAt : MethodName := ⟨RX1, "lookAt", "(LWallChapels$Scene;)V"⟩
abbrev cX1_canCome : ByteArray := prog_3_method_3_code
def yX1_canCome : MethodName := ⟨RX1, "canCome", "(LWallChapels$Scene;II)Z"⟩
abbrev cX1_pullOn : ByteArray := prog_3_method_4_code
def yX1_pullOn : MethodName := ⟨RX1, "pullOn", "(LWallChapels$Scene;II)I"⟩
abbrev cX1_goalOf : ByteArray := prog_3_method_5_code
def yX1_goalOf : MethodName := ⟨RX1, "goalOf", "(LWallChapels$Scene;I)I"⟩
abbrev cX1_passDay : ByteArray := prog_3_method_6_code
def yX1_passDay : MethodName := ⟨RX1, "passDay", "(LWallChapels$Scene;)V"⟩
abbrev cX1_hasAt : ByteArray := prog_3_method_7_code
def yX1_hasAt : MethodName := ⟨RX1, "hasAt", "(LWallChapels$Scene;III)I"⟩
abbrev cX1_stays : ByteArray := prog_3_method_8_code
def yX1_stays : MethodName := ⟨RX1, "stays", "(LWallChapels$Scene;III)Z"⟩
def RX2 : String := "WallChapels$LawReader"
def TX2 : u_T := fun k => match k with
  | 0 => ("WallChapels$LawReader", "tape", "LWallChapels$Tape;", true)
  | 1 => ("WallChapels$LawReader", "steps", "[I", true)
  | _ => ("WallChapels$LawReader", "size", "I", false)
def tyX2 : Nat → FieldType := fun k => match k with
  | 0 => .object "WallChapels$Tape"
  | 1 => .array .int
  | _ => .int
abbrev wsX20 : List Cond := u_ws RX2 TX2 3
theorem nmX2 : ∀ a, a < 3 → ∀ b, b < 3 → a ≠ b → (TX2 a).2.1 ≠ (TX2 b).2.1 := by decide +kernel
theorem tyX2_ok : ∀ k, k < 3 → parseFieldDescriptor (TX2 k).2.2.1 = some (tyX2 k) := by decide +kernel
abbrev cX2_init : ByteArray := prog_4_method_1_code
def yX2_init : MethodName := ⟨RX2, "<init>", "(LWallChapels$Tape;)V"⟩
abbrev cX2_readLaw : ByteArray := prog_4_method_2_code
def yX2_readLaw : MethodName := ⟨RX2, "readLaw", "()I"⟩
abbrev cX2_readClause : ByteArray := prog_4_method_3_code
def yX2_readClause : MethodName := ⟨RX2, "readClause", "()Z"⟩
abbrev cX2_readCondition : ByteArray := prog_4_method_4_code
def yX2_readCondition : MethodName := ⟨RX2, "readCondition", "(IZ)Z"⟩
abbrev cX2_readTruth : ByteArray := prog_4_method_5_code
def yX2_readTruth : MethodName := ⟨RX2, "readTruth", "(IZ)Z"⟩
abbrev cX2_readUnit : ByteArray := prog_4_method_6_code
def yX2_readUnit : MethodName := ⟨RX2, "readUnit", "(IZ)Z"⟩
abbrev cX2_readNested : ByteArray := prog_4_method_7_code
def yX2_readNested : MethodName := ⟨RX2, "readNested", "(II)Z"⟩
abbrev cX2_readSum : ByteArray := prog_4_method_8_code
def yX2_readSum : MethodName := ⟨RX2, "readSum", "(I)Z"⟩
abbrev cX2_readTerm : ByteArray := prog_4_method_9_code
def yX2_readTerm : MethodName := ⟨RX2, "readTerm", "(I)Z"⟩
abbrev cX2_readAtom : ByteArray := prog_4_method_10_code
def yX2_readAtom : MethodName := ⟨RX2, "readAtom", "(I)Z"⟩
abbrev cX2_isLetter : ByteArray := prog_4_method_11_code
def yX2_isLetter : MethodName := ⟨RX2, "isLetter", "(I)Z"⟩
abbrev cX2_isRelation : ByteArray := prog_4_method_12_code
def yX2_isRelation : MethodName := ⟨RX2, "isRelation", "(I)Z"⟩
abbrev cX2_emit : ByteArray := prog_4_method_13_code
def yX2_emit : MethodName := ⟨RX2, "emit", "(I)V"⟩
def RX3 : String := "WallChapels$Laws"
def TX3 : u_T := fun k => match k with
  | 0 => ("WallChapels$Laws", "rows", "[[I", true)
  | 1 => ("WallChapels$Laws", "sizes", "[I", true)
  | 2 => ("WallChapels$Laws", "stack", "[I", true)
  | 3 => ("WallChapels$Laws", "height", "I", false)
  | 4 => ("WallChapels$Laws", "number", "I", false)
  | 5 => ("WallChapels$Laws", "holding", "I", false)
  | 6 => ("WallChapels$Laws", "yards", "I", false)
  | 7 => ("WallChapels$Laws", "mark", "I", false)
  | 8 => ("WallChapels$Laws", "faith", "I", false)
  | 9 => ("WallChapels$Laws", "lamps", "I", false)
  | 10 => ("WallChapels$Laws", "chapels", "I", false)
  | _ => ("WallChapels$Laws", "day", "I", false)
def tyX3 : Nat → FieldType := fun k => match k with
  | 0 => .array (.array .int)
  | 1 => .array .int
  | 2 => .array .int
  | 3 => .int
  | 4 => .int
  | 5 => .int
  | 6 => .int
  | 7 => .int
  | 8 => .int
  | 9 => .int
  | 10 => .int
  | _ => .int
abbrev wsX30 : List Cond := u_ws RX3 TX3 12
theorem nmX3 : ∀ a, a < 12 → ∀ b, b < 12 → a ≠ b → (TX3 a).2.1 ≠ (TX3 b).2.1 := by decide +kernel
theorem tyX3_ok : ∀ k, k < 12 → parseFieldDescriptor (TX3 k).2.2.1 = some (tyX3 k) := by decide +kernel
abbrev cX3_init : ByteArray := prog_5_method_1_code
def yX3_init : MethodName := ⟨RX3, "<init>", "()V"⟩
abbrev cX3_addFrom : ByteArray := prog_5_method_2_code
def yX3_addFrom : MethodName := ⟨RX3, "addFrom", "(LWallChapels$LawReader;)I"⟩
abbrev cX3_tellTown : ByteArray := prog_5_method_3_code
def yX3_tellTown : MethodName := ⟨RX3, "tellTown", "(II)V"⟩
abbrev cX3_tellChapel : ByteArray := prog_5_method_4_code
def yX3_tellChapel : MethodName := ⟨RX3, "tellChapel", "(IIII)V"⟩
abbrev cX3_worth : ByteArray := prog_5_method_5_code
def yX3_worth : MethodName := ⟨RX3, "worth", "()I"⟩
abbrev cX3_letter : ByteArray := prog_5_method_6_code
def yX3_letter : MethodName := ⟨RX3, "letter", "(I)I"⟩
abbrev cX3_joined : ByteArray := prog_5_method_7_code
def yX3_joined : MethodName := ⟨RX3, "joined", "(JIJ)I"⟩
abbrev cX3_bounded : ByteArray := prog_5_method_8_code
def yX3_bounded : MethodName := ⟨RX3, "bounded", "(J)I"⟩
abbrev cX3_push : ByteArray := prog_5_method_9_code
def yX3_push : MethodName := ⟨RX3, "push", "(I)V"⟩
abbrev cX3_pop : ByteArray := prog_5_method_10_code
def yX3_pop : MethodName := ⟨RX3, "pop", "()I"⟩
def RX4 : String := "WallChapels$LogBook"
def TX4 : u_T := fun k => match k with
  | 0 => ("WallChapels$LogBook", "visited", "[I", true)
  | 1 => ("WallChapels$LogBook", "lapsed", "[I", true)
  | _ => ("WallChapels$LogBook", "coins", "[I", true)
def tyX4 : Nat → FieldType := fun k => match k with
  | 0 => .array .int
  | 1 => .array .int
  | _ => .array .int
abbrev wsX40 : List Cond := u_ws RX4 TX4 3
theorem nmX4 : ∀ a, a < 3 → ∀ b, b < 3 → a ≠ b → (TX4 a).2.1 ≠ (TX4 b).2.1 := by decide +kernel
theorem tyX4_ok : ∀ k, k < 3 → parseFieldDescriptor (TX4 k).2.2.1 = some (tyX4 k) := by decide +kernel
abbrev cX4_init : ByteArray := prog_6_method_1_code
def yX4_init : MethodName := ⟨RX4, "<init>", "()V"⟩
abbrev cX4_write : ByteArray := prog_6_method_2_code
def yX4_write : MethodName := ⟨RX4, "write", "(IIII)V"⟩
abbrev cX4_entry : ByteArray := prog_6_method_3_code
def yX4_entry : MethodName := ⟨RX4, "entry", "(II)I"⟩
abbrev cX4_become : ByteArray := prog_6_method_4_code
def yX4_become : MethodName := ⟨RX4, "become", "(LWallChapels$LogBook;)V"⟩
def RX5 : String := "WallChapels$Plan"
def TX5 : u_T := fun k => match k with
  | 0 => ("WallChapels$Plan", "corners", "I", false)
  | 1 => ("WallChapels$Plan", "streets", "I", false)
  | 2 => ("WallChapels$Plan", "walkers", "I", false)
  | 3 => ("WallChapels$Plan", "ruled", "Z", false)
  | 4 => ("WallChapels$Plan", "rules", "[I", true)
  | 5 => ("WallChapels$Plan", "streetRows", "[[I", true)
  | 6 => ("WallChapels$Plan", "walkerRows", "[[I", true)
  | _ => ("WallChapels$Plan", "touching", "[I", true)
def tyX5 : Nat → FieldType := fun k => match k with
  | 0 => .int
  | 1 => .int
  | 2 => .int
  | 3 => .boolean
  | 4 => .array .int
  | 5 => .array (.array .int)
  | 6 => .array (.array .int)
  | _ => .array .int
abbrev wsX50 : List Cond := u_ws RX5 TX5 8
theorem nmX5 : ∀ a, a < 8 → ∀ b, b < 8 → a ≠ b → (TX5 a).2.1 ≠ (TX5 b).2.1 := by decide +kernel
theorem tyX5_ok : ∀ k, k < 8 → parseFieldDescriptor (TX5 k).2.2.1 = some (tyX5 k) := by decide +kernel
abbrev cX5_init : ByteArray := prog_7_method_1_code
def yX5_init : MethodName := ⟨RX5, "<init>", "()V"⟩
abbrev cX5_become : ByteArray := prog_7_method_2_code
def yX5_become : MethodName := ⟨RX5, "become", "(LWallChapels$Plan;)V"⟩
abbrev cX5_readFrom : ByteArray := prog_7_method_3_code
def yX5_readFrom : MethodName := ⟨RX5, "readFrom", "(LWallChapels$Tape;)I"⟩
abbrev cX5_begin : ByteArray := prog_7_method_4_code
def yX5_begin : MethodName := ⟨RX5, "begin", "()V"⟩
abbrev cX5_readClause : ByteArray := prog_7_method_5_code
def yX5_readClause : MethodName := ⟨RX5, "readClause", "(LWallChapels$Tape;)Z"⟩
abbrev cX5_readItems : ByteArray := prog_7_method_6_code
def yX5_readItems : MethodName := ⟨RX5, "readItems", "(LWallChapels$Tape;[C[I[I[I)Z"⟩
abbrev cX5_placeOf : ByteArray := prog_7_method_7_code
def yX5_placeOf : MethodName := ⟨RX5, "placeOf", "([CI)I"⟩
abbrev cX5_isSound : ByteArray := prog_7_method_8_code
def yX5_isSound : MethodName := ⟨RX5, "isSound", "()Z"⟩
abbrev cX5_noteTouching : ByteArray := prog_7_method_9_code
def yX5_noteTouching : MethodName := ⟨RX5, "noteTouching", "()V"⟩
abbrev cX5_endA : ByteArray := prog_7_method_10_code
def yX5_endA : MethodName := ⟨RX5, "endA", "(I)I"⟩
abbrev cX5_endB : ByteArray := prog_7_method_11_code
def yX5_endB : MethodName := ⟨RX5, "endB", "(I)I"⟩
abbrev cX5_yardsOf : ByteArray := prog_7_method_12_code
def yX5_yardsOf : MethodName := ⟨RX5, "yardsOf", "(I)I"⟩
abbrev cX5_wallsTold : ByteArray := prog_7_method_13_code
def yX5_wallsTold : MethodName := ⟨RX5, "wallsTold", "()I"⟩
abbrev cX5_openBehind : ByteArray := prog_7_method_14_code
def yX5_openBehind : MethodName := ⟨RX5, "openBehind", "(I)I"⟩
abbrev cX5_chapelsAmong : ByteArray := prog_7_method_15_code
def yX5_chapelsAmong : MethodName := ⟨RX5, "chapelsAmong", "(I)I"⟩
abbrev cX5_reachedFrom : ByteArray := prog_7_method_16_code
def yX5_reachedFrom : MethodName := ⟨RX5, "reachedFrom", "(II)I"⟩
abbrev cX5_bridgesAmong : ByteArray := prog_7_method_17_code
def yX5_bridgesAmong : MethodName := ⟨RX5, "bridgesAmong", "(I)I"⟩
abbrev cX5_partsBy : ByteArray := prog_7_method_18_code
def yX5_partsBy : MethodName := ⟨RX5, "partsBy", "(I)I"⟩
abbrev cX5_lengthOf : ByteArray := prog_7_method_19_code
def yX5_lengthOf : MethodName := ⟨RX5, "lengthOf", "(I)I"⟩
def RX6 : String := "WallChapels$Scene"
def TX6 : u_T := fun k => match k with
  | 0 => ("WallChapels$Scene", "walls", "I", false)
  | 1 => ("WallChapels$Scene", "coins", "I", false)
  | 2 => ("WallChapels$Scene", "day", "I", false)
  | 3 => ("WallChapels$Scene", "marks", "[I", true)
  | 4 => ("WallChapels$Scene", "lamps", "[I", true)
  | 5 => ("WallChapels$Scene", "homes", "[I", true)
  | _ => ("WallChapels$Scene", "faith", "[I", true)
def tyX6 : Nat → FieldType := fun k => match k with
  | 0 => .int
  | 1 => .int
  | 2 => .int
  | 3 => .array .int
  | 4 => .array .int
  | 5 => .array .int
  | _ => .array .int
abbrev wsX60 : List Cond := u_ws RX6 TX6 7
theorem nmX6 : ∀ a, a < 7 → ∀ b, b < 7 → a ≠ b → (TX6 a).2.1 ≠ (TX6 b).2.1 := by decide +kernel
theorem tyX6_ok : ∀ k, k < 7 → parseFieldDescriptor (TX6 k).2.2.1 = some (tyX6 k) := by decide +kernel
abbrev cX6_init : ByteArray := prog_8_method_1_code
def yX6_init : MethodName := ⟨RX6, "<init>", "()V"⟩
abbrev cX6_begin : ByteArray := prog_8_method_2_code
def yX6_begin : MethodName := ⟨RX6, "begin", "(LWallChapels$Plan;)V"⟩
abbrev cX6_become : ByteArray := prog_8_method_3_code
def yX6_become : MethodName := ⟨RX6, "become", "(LWallChapels$Scene;)V"⟩
def RX7 : String := "WallChapels$Sightings"
def TX7 : u_T := fun k => match k with
  | 0 => ("WallChapels$Sightings", "corners", "[I", true)
  | 1 => ("WallChapels$Sightings", "chapels", "[Z", true)
  | 2 => ("WallChapels$Sightings", "fitting", "[I", true)
  | 3 => ("WallChapels$Sightings", "fittingChapels", "[I", true)
  | 4 => ("WallChapels$Sightings", "number", "I", false)
  | _ => ("WallChapels$Sightings", "found", "I", false)
def tyX7 : Nat → FieldType := fun k => match k with
  | 0 => .array .int
  | 1 => .array .boolean
  | 2 => .array .int
  | 3 => .array .int
  | 4 => .int
  | _ => .int
abbrev wsX70 : List Cond := u_ws RX7 TX7 6
theorem nmX7 : ∀ a, a < 6 → ∀ b, b < 6 → a ≠ b → (TX7 a).2.1 ≠ (TX7 b).2.1 := by decide +kernel
theorem tyX7_ok : ∀ k, k < 6 → parseFieldDescriptor (TX7 k).2.2.1 = some (tyX7 k) := by decide +kernel
abbrev cX7_init : ByteArray := prog_9_method_1_code
def yX7_init : MethodName := ⟨RX7, "<init>", "()V"⟩
abbrev cX7_add : ByteArray := prog_9_method_2_code
def yX7_add : MethodName := ⟨RX7, "add", "(IZ)I"⟩
abbrev cX7_gather : ByteArray := prog_9_method_3_code
def yX7_gather : MethodName := ⟨RX7, "gather", "(LWallChapels$Plan;I)I"⟩
abbrev cX7_gatherIfFits : ByteArray := prog_9_method_4_code
def yX7_gatherIfFits : MethodName := ⟨RX7, "gatherIfFits", "(II)V"⟩
abbrev cX7_apartBy : ByteArray := prog_9_method_5_code
def yX7_apartBy : MethodName := ⟨RX7, "apartBy", "(I)I"⟩
def RX8 : String := "WallChapels$Tape"
def TX8 : u_T := fun k => match k with
  | 0 => ("WallChapels$Tape", "bytes", "[I", true)
  | 1 => ("WallChapels$Tape", "length", "I", false)
  | 2 => ("WallChapels$Tape", "head", "I", false)
  | _ => ("WallChapels$Tape", "wrong", "I", false)
def tyX8 : Nat → FieldType := fun k => match k with
  | 0 => .array .int
  | 1 => .int
  | 2 => .int
  | _ => .int
abbrev wsX80 : List Cond := u_ws RX8 TX8 4
theorem nmX8 : ∀ a, a < 4 → ∀ b, b < 4 → a ≠ b → (TX8 a).2.1 ≠ (TX8 b).2.1 := by decide +kernel
theorem tyX8_ok : ∀ k, k < 4 → parseFieldDescriptor (TX8 k).2.2.1 = some (tyX8 k) := by decide +kernel
abbrev cX8_init : ByteArray := prog_10_method_1_code
def yX8_init : MethodName := ⟨RX8, "<init>", "()V"⟩
abbrev cX8_bytesOf : ByteArray := prog_10_method_2_code
def yX8_bytesOf : MethodName := ⟨RX8, "bytesOf", "(I)I"⟩
abbrev cX8_append : ByteArray := prog_10_method_3_code
def yX8_append : MethodName := ⟨RX8, "append", "(I)V"⟩
abbrev cX8_rewind : ByteArray := prog_10_method_4_code
def yX8_rewind : MethodName := ⟨RX8, "rewind", "()V"⟩
abbrev cX8_isDigit : ByteArray := prog_10_method_5_code
def yX8_isDigit : MethodName := ⟨RX8, "isDigit", "(I)Z"⟩
abbrev cX8_byteAtHead : ByteArray := prog_10_method_6_code
def yX8_byteAtHead : MethodName := ⟨RX8, "byteAtHead", "()I"⟩
abbrev cX8_ahead : ByteArray := prog_10_method_7_code
def yX8_ahead : MethodName := ⟨RX8, "ahead", "()I"⟩
abbrev cX8_step : ByteArray := prog_10_method_8_code
def yX8_step : MethodName := ⟨RX8, "step", "()V"⟩
abbrev cX8_refuseHere : ByteArray := prog_10_method_9_code
def yX8_refuseHere : MethodName := ⟨RX8, "refuseHere", "()Z"⟩
abbrev cX8_take : ByteArray := prog_10_method_10_code
def yX8_take : MethodName := ⟨RX8, "take", "(I)Z"⟩
abbrev cX8_takeNumber : ByteArray := prog_10_method_11_code
def yX8_takeNumber : MethodName := ⟨RX8, "takeNumber", "(III)I"⟩
def RX9 : String := "WallChapels$Walks"
def TX9 : u_T := fun k => match k with
  | 0 => ("WallChapels$Walks", "stops", "[[I", true)
  | 1 => ("WallChapels$Walks", "lengths", "[I", true)
  | 2 => ("WallChapels$Walks", "draftStops", "[I", true)
  | 3 => ("WallChapels$Walks", "draftLength", "I", false)
  | _ => ("WallChapels$Walks", "number", "I", false)
def tyX9 : Nat → FieldType := fun k => match k with
  | 0 => .array (.array .int)
  | 1 => .array .int
  | 2 => .array .int
  | 3 => .int
  | _ => .int
abbrev wsX90 : List Cond := u_ws RX9 TX9 5
theorem nmX9 : ∀ a, a < 5 → ∀ b, b < 5 → a ≠ b → (TX9 a).2.1 ≠ (TX9 b).2.1 := by decide +kernel
theorem tyX9_ok : ∀ k, k < 5 → parseFieldDescriptor (TX9 k).2.2.1 = some (tyX9 k) := by decide +kernel
abbrev cX9_init : ByteArray := prog_11_method_1_code
def yX9_init : MethodName := ⟨RX9, "<init>", "()V"⟩
abbrev cX9_readFrom : ByteArray := prog_11_method_2_code
def yX9_readFrom : MethodName := ⟨RX9, "readFrom", "(LWallChapels$Tape;)I"⟩
abbrev cX9_addDraft : ByteArray := prog_11_method_3_code
def yX9_addDraft : MethodName := ⟨RX9, "addDraft", "()I"⟩
def RX10 : String := "WallChapels$Ways"
def TX10 : u_T := fun k => match k with
  | 0 => ("WallChapels$Ways", "steps", "[[I", true)
  | 1 => ("WallChapels$Ways", "costs", "[[I", true)
  | 2 => ("WallChapels$Ways", "feasts", "[I", true)
  | _ => ("WallChapels$Ways", "corners", "I", false)
def tyX10 : Nat → FieldType := fun k => match k with
  | 0 => .array (.array .int)
  | 1 => .array (.array .int)
  | 2 => .array .int
  | _ => .int
abbrev wsX100 : List Cond := u_ws RX10 TX10 4
theorem nmX10 : ∀ a, a < 4 → ∀ b, b < 4 → a ≠ b → (TX10 a).2.1 ≠ (TX10 b).2.1 := by decide +kernel
theorem tyX10_ok : ∀ k, k < 4 → parseFieldDescriptor (TX10 k).2.2.1 = some (tyX10 k) := by decide +kernel
abbrev cX10_init : ByteArray := prog_12_method_1_code
def yX10_init : MethodName := ⟨RX10, "<init>", "()V"⟩
abbrev cX10_measure : ByteArray := prog_12_method_2_code
def yX10_measure : MethodName := ⟨RX10, "measure", "(LWallChapels$Plan;I)V"⟩
abbrev cX10_noteStreet : ByteArray := prog_12_method_3_code
def yX10_noteStreet : MethodName := ⟨RX10, "noteStreet", "(III)V"⟩
abbrev cX10_isMeasured : ByteArray := prog_12_method_4_code
def yX10_isMeasured : MethodName := ⟨RX10, "isMeasured", "(I)Z"⟩
abbrev cX10_stepYards : ByteArray := prog_12_method_5_code
def yX10_stepYards : MethodName := ⟨RX10, "stepYards", "(II)I"⟩
abbrev cX10_yardsBetween : ByteArray := prog_12_method_6_code
def yX10_yardsBetween : MethodName := ⟨RX10, "yardsBetween", "(II)I"⟩
abbrev cX10_farthestFrom : ByteArray := prog_12_method_7_code
def yX10_farthestFrom : MethodName := ⟨RX10, "farthestFrom", "(I)I"⟩
abbrev cX10_leastRow : ByteArray := prog_12_method_8_code
def yX10_leastRow : MethodName := ⟨RX10, "leastRow", "(II)I"⟩
abbrev cX10_nextTowards : ByteArray := prog_12_method_9_code
def yX10_nextTowards : MethodName := ⟨RX10, "nextTowards", "(II)I"⟩
abbrev cX10_planFeast : ByteArray := prog_12_method_10_code
def yX10_planFeast : MethodName := ⟨RX10, "planFeast", "(I)V"⟩
abbrev cX10_fewestYards : ByteArray := prog_12_method_11_code
def yX10_fewestYards : MethodName := ⟨RX10, "fewestYards", "(II)I"⟩
abbrev cX10_yardsByNext : ByteArray := prog_12_method_12_code
def yX10_yardsByNext : MethodName := ⟨RX10, "yardsByNext", "(III)I"⟩
abbrev cX10_feastOf : ByteArray := prog_12_method_13_code
def yX10_feastOf : MethodName := ⟨RX10, "feastOf", "(II)I"⟩
abbrev cX10_feastYards : ByteArray := prog_12_method_14_code
def yX10_feastYards : MethodName := ⟨RX10, "feastYards", "(II)I"⟩
abbrev cX10_feastRow : ByteArray := prog_12_method_15_code
def yX10_feastRow : MethodName := ⟨RX10, "feastRow", "(II)I"⟩
def RX11 : String := "WallChapels"
def TX11 : u_T := fun k => match k with
  | 0 => ("WallChapels", "tape", "LWallChapels$Tape;", true)
  | 1 => ("WallChapels", "town", "LWallChapels$Plan;", true)
  | 2 => ("WallChapels", "draft", "LWallChapels$Plan;", true)
  | 3 => ("WallChapels", "lawReader", "LWallChapels$LawReader;", true)
  | 4 => ("WallChapels", "laws", "LWallChapels$Laws;", true)
  | 5 => ("WallChapels", "walks", "LWallChapels$Walks;", true)
  | 6 => ("WallChapels", "ways", "LWallChapels$Ways;", true)
  | 7 => ("WallChapels", "custom", "LWallChapels$Custom;", true)
  | 8 => ("WallChapels", "sightings", "LWallChapels$Sightings;", true)
  | 9 => ("WallChapels", "now", "LWallChapels$Scene;", true)
  | 10 => ("WallChapels", "trial", "LWallChapels$Scene;", true)
  | 11 => ("WallChapels", "acts", "LWallChapels$Acts;", true)
  | 12 => ("WallChapels", "book", "LWallChapels$LogBook;", true)
  | 13 => ("WallChapels", "imageScene", "LWallChapels$Scene;", true)
  | 14 => ("WallChapels", "imageBook", "LWallChapels$LogBook;", true)
  | 15 => ("WallChapels", "imaged", "Z", false)
  | _ => ("WallChapels", "councilShare", "I", false)
def tyX11 : Nat → FieldType := fun k => match k with
  | 0 => .object "WallChapels$Tape"
  | 1 => .object "WallChapels$Plan"
  | 2 => .object "WallChapels$Plan"
  | 3 => .object "WallChapels$LawReader"
  | 4 => .object "WallChapels$Laws"
  | 5 => .object "WallChapels$Walks"
  | 6 => .object "WallChapels$Ways"
  | 7 => .object "WallChapels$Custom"
  | 8 => .object "WallChapels$Sightings"
  | 9 => .object "WallChapels$Scene"
  | 10 => .object "WallChapels$Scene"
  | 11 => .object "WallChapels$Acts"
  | 12 => .object "WallChapels$LogBook"
  | 13 => .object "WallChapels$Scene"
  | 14 => .object "WallChapels$LogBook"
  | 15 => .boolean
  | _ => .int
abbrev wsX110 : List Cond := u_ws RX11 TX11 17
theorem nmX11 : ∀ a, a < 17 → ∀ b, b < 17 → a ≠ b → (TX11 a).2.1 ≠ (TX11 b).2.1 := by decide +kernel
theorem tyX11_ok : ∀ k, k < 17 → parseFieldDescriptor (TX11 k).2.2.1 = some (tyX11 k) := by decide +kernel
abbrev cX11_init : ByteArray := prog_1_method_1_code
def yX11_init : MethodName := ⟨RX11, "<init>", "()V"⟩
abbrev cX11_feed : ByteArray := prog_1_method_2_code
def yX11_feed : MethodName := ⟨RX11, "feed", "(IIIII)I"⟩
abbrev cX11_end : ByteArray := prog_1_method_3_code
def yX11_end : MethodName := ⟨RX11, "end", "(I)Z"⟩
abbrev cX11_fault : ByteArray := prog_1_method_4_code
def yX11_fault : MethodName := ⟨RX11, "fault", "(I)I"⟩
abbrev cX11_text : ByteArray := prog_1_method_5_code
def yX11_text : MethodName := ⟨RX11, "text", "(I)I"⟩
abbrev cX11_settleTown : ByteArray := prog_1_method_6_code
def yX11_settleTown : MethodName := ⟨RX11, "settleTown", "()I"⟩
abbrev cX11_corner : ByteArray := prog_1_method_7_code
def yX11_corner : MethodName := ⟨RX11, "corner", "(II)I"⟩
abbrev cX11_street : ByteArray := prog_1_method_8_code
def yX11_street : MethodName := ⟨RX11, "street", "(II)I"⟩
abbrev cX11_walker : ByteArray := prog_1_method_9_code
def yX11_walker : MethodName := ⟨RX11, "walker", "(II)I"⟩
abbrev cX11_law : ByteArray := prog_1_method_10_code
def yX11_law : MethodName := ⟨RX11, "law", "(I)Z"⟩
abbrev cX11_council : ByteArray := prog_1_method_11_code
def yX11_council : MethodName := ⟨RX11, "council", "(I)Z"⟩
abbrev cX11_count : ByteArray := prog_1_method_12_code
def yX11_count : MethodName := ⟨RX11, "count", "(I)I"⟩
abbrev cX11_hasTown : ByteArray := prog_1_method_13_code
def yX11_hasTown : MethodName := ⟨RX11, "hasTown", "()Z"⟩
abbrev cX11_isCorner : ByteArray := prog_1_method_14_code
def yX11_isCorner : MethodName := ⟨RX11, "isCorner", "(I)Z"⟩
abbrev cX11_isStreet : ByteArray := prog_1_method_15_code
def yX11_isStreet : MethodName := ⟨RX11, "isStreet", "(I)Z"⟩
abbrev cX11_isWalker : ByteArray := prog_1_method_16_code
def yX11_isWalker : MethodName := ⟨RX11, "isWalker", "(I)Z"⟩
abbrev cX11_areTwoWalkers : ByteArray := prog_1_method_17_code
def yX11_areTwoWalkers : MethodName := ⟨RX11, "areTwoWalkers", "(II)Z"⟩
abbrev cX11_openNow : ByteArray := prog_1_method_18_code
def yX11_openNow : MethodName := ⟨RX11, "openNow", "()I"⟩
abbrev cX11_day : ByteArray := prog_1_method_19_code
def yX11_day : MethodName := ⟨RX11, "day", "()I"⟩
abbrev cX11_liveDay : ByteArray := prog_1_method_20_code
def yX11_liveDay : MethodName := ⟨RX11, "liveDay", "()V"⟩
abbrev cX11_wall : ByteArray := prog_1_method_21_code
def yX11_wall : MethodName := ⟨RX11, "wall", "(I)I"⟩
abbrev cX11_lamp : ByteArray := prog_1_method_22_code
def yX11_lamp : MethodName := ⟨RX11, "lamp", "(I)I"⟩
abbrev cX11_moves : ByteArray := prog_1_method_23_code
def yX11_moves : MethodName := ⟨RX11, "moves", "(II)I"⟩
abbrev cX11_preach : ByteArray := prog_1_method_24_code
def yX11_preach : MethodName := ⟨RX11, "preach", "(I)I"⟩
abbrev cX11_give : ByteArray := prog_1_method_25_code
def yX11_give : MethodName := ⟨RX11, "give", "(I)I"⟩
abbrev cX11_years : ByteArray := prog_1_method_26_code
def yX11_years : MethodName := ⟨RX11, "years", "(IJ)I"⟩
abbrev cX11_shuffled : ByteArray := prog_1_method_27_code
def yX11_shuffled : MethodName := ⟨RX11, "shuffled", "(J)J"⟩
abbrev cX11_drawn : ByteArray := prog_1_method_28_code
def yX11_drawn : MethodName := ⟨RX11, "drawn", "(JI)I"⟩
abbrev cX11_undo : ByteArray := prog_1_method_29_code
def yX11_undo : MethodName := ⟨RX11, "undo", "()I"⟩
abbrev cX11_log : ByteArray := prog_1_method_30_code
def yX11_log : MethodName := ⟨RX11, "log", "(II)I"⟩
abbrev cX11_logLength : ByteArray := prog_1_method_31_code
def yX11_logLength : MethodName := ⟨RX11, "logLength", "()I"⟩
abbrev cX11_image : ByteArray := prog_1_method_32_code
def yX11_image : MethodName := ⟨RX11, "image", "()I"⟩
abbrev cX11_back : ByteArray := prog_1_method_33_code
def yX11_back : MethodName := ⟨RX11, "back", "()I"⟩
abbrev cX11_walk : ByteArray := prog_1_method_34_code
def yX11_walk : MethodName := ⟨RX11, "walk", "(II)I"⟩
abbrev cX11_check : ByteArray := prog_1_method_35_code
def yX11_check : MethodName := ⟨RX11, "check", "(II)I"⟩
abbrev cX11_far : ByteArray := prog_1_method_36_code
def yX11_far : MethodName := ⟨RX11, "far", "(II)I"⟩
abbrev cX11_way : ByteArray := prog_1_method_37_code
def yX11_way : MethodName := ⟨RX11, "way", "(II)I"⟩
abbrev cX11_feast : ByteArray := prog_1_method_38_code
def yX11_feast : MethodName := ⟨RX11, "feast", "(II)I"⟩
abbrev cX11_around : ByteArray := prog_1_method_39_code
def yX11_around : MethodName := ⟨RX11, "around", "(II)I"⟩
abbrev cX11_soon : ByteArray := prog_1_method_40_code
def yX11_soon : MethodName := ⟨RX11, "soon", "(I)I"⟩
abbrev cX11_worn : ByteArray := prog_1_method_41_code
def yX11_worn : MethodName := ⟨RX11, "worn", "(II)I"⟩
abbrev cX11_seen : ByteArray := prog_1_method_42_code
def yX11_seen : MethodName := ⟨RX11, "seen", "(IZ)I"⟩
abbrev cX11_knocked : ByteArray := prog_1_method_43_code
def yX11_knocked : MethodName := ⟨RX11, "knocked", "(I)I"⟩
abbrev cX11_ask : ByteArray := prog_1_method_44_code
def yX11_ask : MethodName := ⟨RX11, "ask", "()I"⟩
abbrev cX11_walls : ByteArray := prog_1_method_45_code
def yX11_walls : MethodName := ⟨RX11, "walls", "(I)I"⟩
abbrev cX11_parted : ByteArray := prog_1_method_46_code
def yX11_parted : MethodName := ⟨RX11, "parted", "(II)I"⟩
abbrev cX11_draws : ByteArray := prog_1_method_47_code
def yX11_draws : MethodName := ⟨RX11, "draws", "(II)I"⟩
abbrev cX11_goes : ByteArray := prog_1_method_48_code
def yX11_goes : MethodName := ⟨RX11, "goes", "(I)I"⟩
abbrev cX11_goers : ByteArray := prog_1_method_49_code
def yX11_goers : MethodName := ⟨RX11, "goers", "(I)I"⟩
abbrev cX11_game : ByteArray := prog_1_method_50_code
def yX11_game : MethodName := ⟨RX11, "game", "(IIIII)I"⟩
abbrev cX11_rests : ByteArray := prog_1_method_51_code
def yX11_rests : MethodName := ⟨RX11, "rests", "(III)I"⟩
abbrev cX11_odds : ByteArray := prog_1_method_52_code
def yX11_odds : MethodName := ⟨RX11, "odds", "(II)I"⟩
abbrev cX11_shares : ByteArray := prog_1_method_53_code
def yX11_shares : MethodName := ⟨RX11, "shares", "(II)I"⟩
abbrev cX11_all : ByteArray := prog_1_method_54_code
def yX11_all : MethodName := ⟨RX11, "all", "(I)I"⟩
abbrev cX11_deepest : ByteArray := prog_1_method_55_code
def yX11_deepest : MethodName := ⟨RX11, "deepest", "()I"⟩
abbrev cX11_faithful : ByteArray := prog_1_method_56_code
def yX11_faithful : MethodName := ⟨RX11, "faithful", "()I"⟩
abbrev cX11_byStreets : ByteArray := prog_1_method_57_code
def yX11_byStreets : MethodName := ⟨RX11, "byStreets", "(II)I"⟩
abbrev cX11_byFarthest : ByteArray := prog_1_method_58_code
def yX11_byFarthest : MethodName := ⟨RX11, "byFarthest", "(II)I"⟩
abbrev cX11_lit : ByteArray := prog_1_method_59_code
def yX11_lit : MethodName := ⟨RX11, "lit", "()I"⟩
def RX12 : String := "WallChapelsModel"
def TX12 : u_T := fun k => match k with
  | 0 => ("WallChapelsModel", "thrown", "I", false)
  | 1 => ("WallChapelsModel", "tape", "[B", true)
  | 2 => ("WallChapelsModel", "texts", "[B", true)
  | 3 => ("WallChapelsModel", "textLong", "[I", true)
  | 4 => ("WallChapelsModel", "letters", "[I", true)
  | 5 => ("WallChapelsModel", "text", "[B", false)
  | 6 => ("WallChapelsModel", "length", "I", false)
  | 7 => ("WallChapelsModel", "lawMany", "I", false)
  | 8 => ("WallChapelsModel", "begins", "I", false)
  | 9 => ("WallChapelsModel", "ends", "I", false)
  | 10 => ("WallChapelsModel", "at", "I", false)
  | 11 => ("WallChapelsModel", "fault", "I", false)
  | 12 => ("WallChapelsModel", "deep", "I", false)
  | 13 => ("WallChapelsModel", "label", "I", false)
  | 14 => ("WallChapelsModel", "found", "I", false)
  | 15 => ("WallChapelsModel", "labels", "Ljava/lang/String;", true)
  | 16 => ("WallChapelsModel", "allowed", "Ljava/lang/String;", true)
  | 17 => ("WallChapelsModel", "hasFound", "Z", false)
  | 18 => ("WallChapelsModel", "ruleRead", "[I", true)
  | 19 => ("WallChapelsModel", "road", "[I", true)
  | 20 => ("WallChapelsModel", "roadRead", "[I", true)
  | 21 => ("WallChapelsModel", "folk", "[I", true)
  | 22 => ("WallChapelsModel", "folkRead", "[I", true)
  | 23 => ("WallChapelsModel", "walk", "[I", true)
  | 24 => ("WallChapelsModel", "walkLong", "[I", true)
  | 25 => ("WallChapelsModel", "corners", "I", false)
  | 26 => ("WallChapelsModel", "streets", "I", false)
  | 27 => ("WallChapelsModel", "walkers", "I", false)
  | 28 => ("WallChapelsModel", "streetsRead", "I", false)
  | 29 => ("WallChapelsModel", "walkersRead", "I", false)
  | 30 => ("WallChapelsModel", "walks", "I", false)
  | 31 => ("WallChapelsModel", "hasRules", "Z", false)
  | 32 => ("WallChapelsModel", "now", "[I", true)
  | 33 => ("WallChapelsModel", "trial", "[I", true)
  | 34 => ("WallChapelsModel", "law", "I", false)
  | 35 => ("WallChapelsModel", "busy", "I", false)
  | 36 => ("WallChapelsModel", "yards", "[I", true)
  | 37 => ("WallChapelsModel", "memoKey", "[J", true)
  | 38 => ("WallChapelsModel", "memoWorth", "[I", true)
  | 39 => ("WallChapelsModel", "lapsed", "I", false)
  | 40 => ("WallChapelsModel", "went", "I", false)
  | 41 => ("WallChapelsModel", "undoRow", "[I", true)
  | 42 => ("WallChapelsModel", "acts", "I", false)
  | 43 => ("WallChapelsModel", "x", "J", false)
  | 44 => ("WallChapelsModel", "wayYards", "I", false)
  | 45 => ("WallChapelsModel", "wayMany", "I", false)
  | 46 => ("WallChapelsModel", "wayRow", "I", false)
  | 47 => ("WallChapelsModel", "at0", "I", false)
  | 48 => ("WallChapelsModel", "feastYards", "I", false)
  | 49 => ("WallChapelsModel", "feastRow", "I", false)
  | 50 => ("WallChapelsModel", "sight", "[I", true)
  | 51 => ("WallChapelsModel", "sights", "I", false)
  | 52 => ("WallChapelsModel", "imageRow", "[I", true)
  | _ => ("WallChapelsModel", "hasImage", "Z", false)
def tyX12 : Nat → FieldType := fun k => match k with
  | 0 => .int
  | 1 => .array .byte
  | 2 => .array .byte
  | 3 => .array .int
  | 4 => .array .int
  | 5 => .array .byte
  | 6 => .int
  | 7 => .int
  | 8 => .int
  | 9 => .int
  | 10 => .int
  | 11 => .int
  | 12 => .int
  | 13 => .int
  | 14 => .int
  | 15 => .object "java/lang/String"
  | 16 => .object "java/lang/String"
  | 17 => .boolean
  | 18 => .array .int
  | 19 => .array .int
  | 20 => .array .int
  | 21 => .array .int
  | 22 => .array .int
  | 23 => .array .int
  | 24 => .array .int
  | 25 => .int
  | 26 => .int
  | 27 => .int
  | 28 => .int
  | 29 => .int
  | 30 => .int
  | 31 => .boolean
  | 32 => .array .int
  | 33 => .array .int
  | 34 => .int
  | 35 => .int
  | 36 => .array .int
  | 37 => .array .long
  | 38 => .array .int
  | 39 => .int
  | 40 => .int
  | 41 => .array .int
  | 42 => .int
  | 43 => .long
  | 44 => .int
  | 45 => .int
  | 46 => .int
  | 47 => .int
  | 48 => .int
  | 49 => .int
  | 50 => .array .int
  | 51 => .int
  | 52 => .array .int
  | _ => .boolean
abbrev wsX120 : List Cond := u_ws RX12 TX12 54
theorem nmX12 : ∀ a, a < 54 → ∀ b, b < 54 → a ≠ b → (TX12 a).2.1 ≠ (TX12 b).2.1 := by decide +kernel
theorem tyX12_ok : ∀ k, k < 54 → parseFieldDescriptor (TX12 k).2.2.1 = some (tyX12 k) := by decide +kernel
abbrev cX12_init : ByteArray := prog_14_method_1_code
def yX12_init : MethodName := ⟨RX12, "<init>", "()V"⟩
abbrev cX12_thrown : ByteArray := prog_14_method_2_code
def yX12_thrown : MethodName := ⟨RX12, "thrown", "()I"⟩
abbrev cX12_isIn : ByteArray := prog_14_method_3_code
def yX12_isIn : MethodName := ⟨RX12, "isIn", "(JJJ)Z"⟩
abbrev cX12_has : ByteArray := prog_14_method_4_code
def yX12_has : MethodName := ⟨RX12, "has", "(II)Z"⟩
abbrev cX12_isAmong : ByteArray := prog_14_method_5_code
def yX12_isAmong : MethodName := ⟨RX12, "isAmong", "(Ljava/lang/String;I)Z"⟩
abbrev cX12_bytesIn : ByteArray := prog_14_method_6_code
def yX12_bytesIn : MethodName := ⟨RX12, "bytesIn", "(I)I"⟩
abbrev cX12_put : ByteArray := prog_14_method_7_code
def yX12_put : MethodName := ⟨RX12, "put", "(I)V"⟩
abbrev cX12_feed : ByteArray := prog_14_method_8_code
def yX12_feed : MethodName := ⟨RX12, "feed", "(IIIII)I"⟩
abbrev cX12_end : ByteArray := prog_14_method_9_code
def yX12_end : MethodName := ⟨RX12, "end", "(I)Z"⟩
abbrev cX12_look : ByteArray := prog_14_method_10_code
def yX12_look : MethodName := ⟨RX12, "look", "()I"⟩
abbrev cX12_fails : ByteArray := prog_14_method_11_code
def yX12_fails : MethodName := ⟨RX12, "fails", "()Z"⟩
abbrev cX12_goesIn : ByteArray := prog_14_method_12_code
def yX12_goesIn : MethodName := ⟨RX12, "goesIn", "()Z"⟩
abbrev cX12_takes : ByteArray := prog_14_method_13_code
def yX12_takes : MethodName := ⟨RX12, "takes", "(I)Z"⟩
abbrev cX12_isDigit : ByteArray := prog_14_method_14_code
def yX12_isDigit : MethodName := ⟨RX12, "isDigit", "()Z"⟩
abbrev cX12_within : ByteArray := prog_14_method_15_code
def yX12_within : MethodName := ⟨RX12, "within", "(J)I"⟩
abbrev cX12_atom : ByteArray := prog_14_method_16_code
def yX12_atom : MethodName := ⟨RX12, "atom", "()I"⟩
abbrev cX12_term : ByteArray := prog_14_method_17_code
def yX12_term : MethodName := ⟨RX12, "term", "()I"⟩
abbrev cX12_sum : ByteArray := prog_14_method_18_code
def yX12_sum : MethodName := ⟨RX12, "sum", "()I"⟩
abbrev cX12_isSign : ByteArray := prog_14_method_19_code
def yX12_isSign : MethodName := ⟨RX12, "isSign", "(I)Z"⟩
abbrev cX12_compares : ByteArray := prog_14_method_20_code
def yX12_compares : MethodName := ⟨RX12, "compares", "(ZI)Z"⟩
abbrev cX12_unit : ByteArray := prog_14_method_21_code
def yX12_unit : MethodName := ⟨RX12, "unit", "()Z"⟩
abbrev cX12_part : ByteArray := prog_14_method_22_code
def yX12_part : MethodName := ⟨RX12, "part", "(ZI)Z"⟩
abbrev cX12_condition : ByteArray := prog_14_method_23_code
def yX12_condition : MethodName := ⟨RX12, "condition", "(ZI)Z"⟩
abbrev cX12_clause : ByteArray := prog_14_method_24_code
def yX12_clause : MethodName := ⟨RX12, "clause", "()V"⟩
abbrev cX12_starts : ByteArray := prog_14_method_25_code
def yX12_starts : MethodName := ⟨RX12, "starts", "([BII)V"⟩
abbrev cX12_goThrough : ByteArray := prog_14_method_26_code
def yX12_goThrough : MethodName := ⟨RX12, "goThrough", "([BII)V"⟩
abbrev cX12_here : ByteArray := prog_14_method_27_code
def yX12_here : MethodName := ⟨RX12, "here", "()I"⟩
abbrev cX12_spotOf : ByteArray := prog_14_method_28_code
def yX12_spotOf : MethodName := ⟨RX12, "spotOf", "(Ljava/lang/String;I)I"⟩
abbrev cX12_number : ByteArray := prog_14_method_29_code
def yX12_number : MethodName := ⟨RX12, "number", "(II)I"⟩
abbrev cX12_mostOf : ByteArray := prog_14_method_30_code
def yX12_mostOf : MethodName := ⟨RX12, "mostOf", "(II)I"⟩
abbrev cX12_leastOf : ByteArray := prog_14_method_31_code
def yX12_leastOf : MethodName := ⟨RX12, "leastOf", "(II)I"⟩
abbrev cX12_usual : ByteArray := prog_14_method_32_code
def yX12_usual : MethodName := ⟨RX12, "usual", "(II)I"⟩
abbrev cX12_readItems : ByteArray := prog_14_method_33_code
def yX12_readItems : MethodName := ⟨RX12, "readItems", "(I[IILjava/lang/String;)V"⟩
abbrev cX12_readClause : ByteArray := prog_14_method_34_code
def yX12_readClause : MethodName := ⟨RX12, "readClause", "()V"⟩
abbrev cX12_isWhole : ByteArray := prog_14_method_35_code
def yX12_isWhole : MethodName := ⟨RX12, "isWhole", "()Z"⟩
abbrev cX12_readTown : ByteArray := prog_14_method_36_code
def yX12_readTown : MethodName := ⟨RX12, "readTown", "()V"⟩
abbrev cX12_readWalk : ByteArray := prog_14_method_37_code
def yX12_readWalk : MethodName := ⟨RX12, "readWalk", "()V"⟩
abbrev cX12_fault : ByteArray := prog_14_method_38_code
def yX12_fault : MethodName := ⟨RX12, "fault", "(I)I"⟩
abbrev cX12_text : ByteArray := prog_14_method_39_code
def yX12_text : MethodName := ⟨RX12, "text", "(I)I"⟩
abbrev cX12_copy : ByteArray := prog_14_method_40_code
def yX12_copy : MethodName := ⟨RX12, "copy", "([I[I)V"⟩
abbrev cX12_isCorner : ByteArray := prog_14_method_41_code
def yX12_isCorner : MethodName := ⟨RX12, "isCorner", "(I)Z"⟩
abbrev cX12_isStreet : ByteArray := prog_14_method_42_code
def yX12_isStreet : MethodName := ⟨RX12, "isStreet", "(I)Z"⟩
abbrev cX12_isWalker : ByteArray := prog_14_method_43_code
def yX12_isWalker : MethodName := ⟨RX12, "isWalker", "(I)Z"⟩
abbrev cX12_openAt : ByteArray := prog_14_method_44_code
def yX12_openAt : MethodName := ⟨RX12, "openAt", "(II)I"⟩
abbrev cX12_chapels : ByteArray := prog_14_method_45_code
def yX12_chapels : MethodName := ⟨RX12, "chapels", "(I)I"⟩
abbrev cX12_laysYards : ByteArray := prog_14_method_46_code
def yX12_laysYards : MethodName := ⟨RX12, "laysYards", "(I)V"⟩
abbrev cX12_far0 : ByteArray := prog_14_method_47_code
def yX12_far0 : MethodName := ⟨RX12, "far0", "(II)I"⟩
abbrev cX12_canCome : ByteArray := prog_14_method_48_code
def yX12_canCome : MethodName := ⟨RX12, "canCome", "(II)Z"⟩
abbrev cX12_worthOf : ByteArray := prog_14_method_49_code
def yX12_worthOf : MethodName := ⟨RX12, "worthOf", "(IIIIII)I"⟩
abbrev cX12_drawsOf : ByteArray := prog_14_method_50_code
def yX12_drawsOf : MethodName := ⟨RX12, "drawsOf", "([III)I"⟩
abbrev cX12_goesOf : ByteArray := prog_14_method_51_code
def yX12_goesOf : MethodName := ⟨RX12, "goesOf", "([II)I"⟩
abbrev cX12_goDay : ByteArray := prog_14_method_52_code
def yX12_goDay : MethodName := ⟨RX12, "goDay", "([I)I"⟩
abbrev cX12_corner : ByteArray := prog_14_method_53_code
def yX12_corner : MethodName := ⟨RX12, "corner", "(II)I"⟩
abbrev cX12_street : ByteArray := prog_14_method_54_code
def yX12_street : MethodName := ⟨RX12, "street", "(II)I"⟩
abbrev cX12_walker : ByteArray := prog_14_method_55_code
def yX12_walker : MethodName := ⟨RX12, "walker", "(II)I"⟩
abbrev cX12_law : ByteArray := prog_14_method_56_code
def yX12_law : MethodName := ⟨RX12, "law", "(I)Z"⟩
abbrev cX12_council : ByteArray := prog_14_method_57_code
def yX12_council : MethodName := ⟨RX12, "council", "(I)Z"⟩
abbrev cX12_remember : ByteArray := prog_14_method_58_code
def yX12_remember : MethodName := ⟨RX12, "remember", "()V"⟩
abbrev cX12_pays : ByteArray := prog_14_method_59_code
def yX12_pays : MethodName := ⟨RX12, "pays", "(I)Z"⟩
abbrev cX12_day : ByteArray := prog_14_method_60_code
def yX12_day : MethodName := ⟨RX12, "day", "()I"⟩
abbrev cX12_wall : ByteArray := prog_14_method_61_code
def yX12_wall : MethodName := ⟨RX12, "wall", "(I)I"⟩
abbrev cX12_lamp : ByteArray := prog_14_method_62_code
def yX12_lamp : MethodName := ⟨RX12, "lamp", "(I)I"⟩
abbrev cX12_moves : ByteArray := prog_14_method_63_code
def yX12_moves : MethodName := ⟨RX12, "moves", "(II)I"⟩
abbrev cX12_preach : ByteArray := prog_14_method_64_code
def yX12_preach : MethodName := ⟨RX12, "preach", "(I)I"⟩
abbrev cX12_give : ByteArray := prog_14_method_65_code
def yX12_give : MethodName := ⟨RX12, "give", "(I)I"⟩
abbrev cX12_draw : ByteArray := prog_14_method_66_code
def yX12_draw : MethodName := ⟨RX12, "draw", "(I)I"⟩
abbrev cX12_years : ByteArray := prog_14_method_67_code
def yX12_years : MethodName := ⟨RX12, "years", "(IJ)I"⟩
abbrev cX12_undo : ByteArray := prog_14_method_68_code
def yX12_undo : MethodName := ⟨RX12, "undo", "()I"⟩
abbrev cX12_log : ByteArray := prog_14_method_69_code
def yX12_log : MethodName := ⟨RX12, "log", "(II)I"⟩
abbrev cX12_isWalk : ByteArray := prog_14_method_70_code
def yX12_isWalk : MethodName := ⟨RX12, "isWalk", "(I)Z"⟩
abbrev cX12_walk : ByteArray := prog_14_method_71_code
def yX12_walk : MethodName := ⟨RX12, "walk", "(II)I"⟩
abbrev cX12_between : ByteArray := prog_14_method_72_code
def yX12_between : MethodName := ⟨RX12, "between", "(II)I"⟩
abbrev cX12_check : ByteArray := prog_14_method_73_code
def yX12_check : MethodName := ⟨RX12, "check", "(II)I"⟩
abbrev cX12_far : ByteArray := prog_14_method_74_code
def yX12_far : MethodName := ⟨RX12, "far", "(II)I"⟩
abbrev cX12_goWay : ByteArray := prog_14_method_75_code
def yX12_goWay : MethodName := ⟨RX12, "goWay", "(IIIIII)V"⟩
abbrev cX12_way : ByteArray := prog_14_method_76_code
def yX12_way : MethodName := ⟨RX12, "way", "(II)I"⟩
abbrev cX12_goFeast : ByteArray := prog_14_method_77_code
def yX12_goFeast : MethodName := ⟨RX12, "goFeast", "(IIII)V"⟩
abbrev cX12_feast : ByteArray := prog_14_method_78_code
def yX12_feast : MethodName := ⟨RX12, "feast", "(II)I"⟩
abbrev cX12_soon : ByteArray := prog_14_method_79_code
def yX12_soon : MethodName := ⟨RX12, "soon", "(I)I"⟩
abbrev cX12_worn : ByteArray := prog_14_method_80_code
def yX12_worn : MethodName := ⟨RX12, "worn", "(II)I"⟩
abbrev cX12_seen : ByteArray := prog_14_method_81_code
def yX12_seen : MethodName := ⟨RX12, "seen", "(IZ)I"⟩
abbrev cX12_isSo : ByteArray := prog_14_method_82_code
def yX12_isSo : MethodName := ⟨RX12, "isSo", "(I)Z"⟩
abbrev cX12_wallsBy : ByteArray := prog_14_method_83_code
def yX12_wallsBy : MethodName := ⟨RX12, "wallsBy", "(I)I"⟩
abbrev cX12_couldBe : ByteArray := prog_14_method_84_code
def yX12_couldBe : MethodName := ⟨RX12, "couldBe", "(I)Z"⟩
abbrev cX12_knocked : ByteArray := prog_14_method_85_code
def yX12_knocked : MethodName := ⟨RX12, "knocked", "(I)I"⟩
abbrev cX12_ask : ByteArray := prog_14_method_86_code
def yX12_ask : MethodName := ⟨RX12, "ask", "()I"⟩
abbrev cX12_walls : ByteArray := prog_14_method_87_code
def yX12_walls : MethodName := ⟨RX12, "walls", "(I)I"⟩
abbrev cX12_reached : ByteArray := prog_14_method_88_code
def yX12_reached : MethodName := ⟨RX12, "reached", "(II)I"⟩
abbrev cX12_parted : ByteArray := prog_14_method_89_code
def yX12_parted : MethodName := ⟨RX12, "parted", "(II)I"⟩
abbrev cX12_draws : ByteArray := prog_14_method_90_code
def yX12_draws : MethodName := ⟨RX12, "draws", "(II)I"⟩
abbrev cX12_goes : ByteArray := prog_14_method_91_code
def yX12_goes : MethodName := ⟨RX12, "goes", "(I)I"⟩
abbrev cX12_goers : ByteArray := prog_14_method_92_code
def yX12_goers : MethodName := ⟨RX12, "goers", "(I)I"⟩
abbrev cX12_isGame : ByteArray := prog_14_method_93_code
def yX12_isGame : MethodName := ⟨RX12, "isGame", "(II)Z"⟩
abbrev cX12_gameOf : ByteArray := prog_14_method_94_code
def yX12_gameOf : MethodName := ⟨RX12, "gameOf", "(IIIII)I"⟩
abbrev cX12_game : ByteArray := prog_14_method_95_code
def yX12_game : MethodName := ⟨RX12, "game", "(IIIII)I"⟩
abbrev cX12_rests : ByteArray := prog_14_method_96_code
def yX12_rests : MethodName := ⟨RX12, "rests", "(III)I"⟩
abbrev cX12_odds : ByteArray := prog_14_method_97_code
def yX12_odds : MethodName := ⟨RX12, "odds", "(II)I"⟩
abbrev cX12_shares : ByteArray := prog_14_method_98_code
def yX12_shares : MethodName := ⟨RX12, "shares", "(II)I"⟩
abbrev cX12_bridges : ByteArray := prog_14_method_99_code
def yX12_bridges : MethodName := ⟨RX12, "bridges", "()I"⟩
abbrev cX12_parts : ByteArray := prog_14_method_100_code
def yX12_parts : MethodName := ⟨RX12, "parts", "()I"⟩
abbrev cX12_farthest : ByteArray := prog_14_method_101_code
def yX12_farthest : MethodName := ⟨RX12, "farthest", "(I)I"⟩
abbrev cX12_valueOf : ByteArray := prog_14_method_102_code
def yX12_valueOf : MethodName := ⟨RX12, "valueOf", "(II)I"⟩
abbrev cX12_greatest : ByteArray := prog_14_method_103_code
def yX12_greatest : MethodName := ⟨RX12, "greatest", "(I)I"⟩
abbrev cX12_openStreets : ByteArray := prog_14_method_104_code
def yX12_openStreets : MethodName := ⟨RX12, "openStreets", "()I"⟩
abbrev cX12_openYards : ByteArray := prog_14_method_105_code
def yX12_openYards : MethodName := ⟨RX12, "openYards", "()I"⟩
abbrev cX12_dark : ByteArray := prog_14_method_106_code
def yX12_dark : MethodName := ⟨RX12, "dark", "()I"⟩
abbrev cX12_all : ByteArray := prog_14_method_107_code
def yX12_all : MethodName := ⟨RX12, "all", "(I)I"⟩
abbrev cX12_around : ByteArray := prog_14_method_108_code
def yX12_around : MethodName := ⟨RX12, "around", "(II)I"⟩
abbrev cX12_image : ByteArray := prog_14_method_109_code
def yX12_image : MethodName := ⟨RX12, "image", "()I"⟩
abbrev cX12_back : ByteArray := prog_14_method_110_code
def yX12_back : MethodName := ⟨RX12, "back", "()I"⟩
abbrev cX12_count : ByteArray := prog_14_method_111_code
def yX12_count : MethodName := ⟨RX12, "count", "(I)I"⟩
def RJx145de : String := "java/io/Serializable"
def TJx145de : u_T := fun k => match k with
  | _ => ("", "", "", false)
def tyJx145de : Nat → FieldType := fun k => match k with
  | _ => .int
abbrev wsJx145de0 : List Cond := u_ws RJx145de TJx145de 0
theorem nmJx145de : ∀ a, a < 0 → ∀ b, b < 0 → a ≠ b → (TJx145de a).2.1 ≠ (TJx145de b).2.1 := by decide +kernel
theorem tyJx145de_ok : ∀ k, k < 0 → parseFieldDescriptor (TJx145de k).2.2.1 = some (tyJx145de k) := by decide +kernel
def RJx9f9b0 : String := "java/lang/CharSequence"
def TJx9f9b0 : u_T := fun k => match k with
  | _ => ("", "", "", false)
def tyJx9f9b0 : Nat → FieldType := fun k => match k with
  | _ => .int
abbrev wsJx9f9b00 : List Cond := u_ws RJx9f9b0 TJx9f9b0 0
theorem nmJx9f9b0 : ∀ a, a < 0 → ∀ b, b < 0 → a ≠ b → (TJx9f9b0 a).2.1 ≠ (TJx9f9b0 b).2.1 := by decide +kernel
theorem tyJx9f9b0_ok : ∀ k, k < 0 → parseFieldDescriptor (TJx9f9b0 k).2.2.1 = some (tyJx9f9b0 k) := by decide +kernel
def RJxb160c : String := "java/lang/Comparable"
def TJxb160c : u_T := fun k => match k with
  | _ => ("", "", "", false)
def tyJxb160c : Nat → FieldType := fun k => match k with
  | _ => .int
abbrev wsJxb160c0 : List Cond := u_ws RJxb160c TJxb160c 0
theorem nmJxb160c : ∀ a, a < 0 → ∀ b, b < 0 → a ≠ b → (TJxb160c a).2.1 ≠ (TJxb160c b).2.1 := by decide +kernel
theorem tyJxb160c_ok : ∀ k, k < 0 → parseFieldDescriptor (TJxb160c k).2.2.1 = some (tyJxb160c k) := by decide +kernel
def RJ6 : String := "java/lang/Integer"
def TJ6 : u_T := fun k => match k with
  | _ => ("", "", "", false)
def tyJ6 : Nat → FieldType := fun k => match k with
  | _ => .int
abbrev wsJ60 : List Cond := u_ws RJ6 TJ6 0
theorem nmJ6 : ∀ a, a < 0 → ∀ b, b < 0 → a ≠ b → (TJ6 a).2.1 ≠ (TJ6 b).2.1 := by decide +kernel
theorem tyJ6_ok : ∀ k, k < 0 → parseFieldDescriptor (TJ6 k).2.2.1 = some (tyJ6 k) := by decide +kernel
abbrev cJ6_bitCount_0f7a4 : ByteArray := prog_19_method_49_code
def yJ6_bitCount_0f7a4 : MethodName := ⟨RJ6, "bitCount", "(I)I"⟩
def RJ9 : String := "java/lang/Math"
def TJ9 : u_T := fun k => match k with
  | _ => ("", "", "", false)
def tyJ9 : Nat → FieldType := fun k => match k with
  | _ => .int
abbrev wsJ90 : List Cond := u_ws RJ9 TJ9 0
theorem nmJ9 : ∀ a, a < 0 → ∀ b, b < 0 → a ≠ b → (TJ9 a).2.1 ≠ (TJ9 b).2.1 := by decide +kernel
theorem tyJ9_ok : ∀ k, k < 0 → parseFieldDescriptor (TJ9 k).2.2.1 = some (tyJ9 k) := by decide +kernel
abbrev cJ9_floorMod_7cf53 : ByteArray := prog_20_method_50_code
def yJ9_floorMod_7cf53 : MethodName := ⟨RJ9, "floorMod", "(II)I"⟩
abbrev cJ9_abs_0f7a4 : ByteArray := prog_20_method_59_code
def yJ9_abs_0f7a4 : MethodName := ⟨RJ9, "abs", "(I)I"⟩
abbrev cJ9_max_7cf53 : ByteArray := prog_20_method_65_code
def yJ9_max_7cf53 : MethodName := ⟨RJ9, "max", "(II)I"⟩
abbrev cJ9_max_f86c9 : ByteArray := prog_20_method_66_code
def yJ9_max_f86c9 : MethodName := ⟨RJ9, "max", "(JJ)J"⟩
abbrev cJ9_min_7cf53 : ByteArray := prog_20_method_69_code
def yJ9_min_7cf53 : MethodName := ⟨RJ9, "min", "(II)I"⟩
abbrev cJ9_min_f86c9 : ByteArray := prog_20_method_70_code
def yJ9_min_f86c9 : MethodName := ⟨RJ9, "min", "(JJ)J"⟩
def RJ0 : String := "java/lang/String"
def TJ0 : u_T := fun k => match k with
  | _ => ("", "", "", false)
def tyJ0 : Nat → FieldType := fun k => match k with
  | _ => .int
abbrev wsJ00 : List Cond := u_ws RJ0 TJ0 0
theorem nmJ0 : ∀ a, a < 0 → ∀ b, b < 0 → a ≠ b → (TJ0 a).2.1 ≠ (TJ0 b).2.1 := by decide +kernel
theorem tyJ0_ok : ∀ k, k < 0 → parseFieldDescriptor (TJ0 k).2.2.1 = some (tyJ0 k) := by decide +kernel
abbrev cJ0_length_8abf5 : ByteArray := prog_22_method_54_code
def yJ0_length_8abf5 : MethodName := ⟨RJ0, "length", "()I"⟩
abbrev cJ0_charAt_5068e : ByteArray := prog_22_method_56_code
def yJ0_charAt_5068e : MethodName := ⟨RJ0, "charAt", "(I)C"⟩
abbrev cJ0_coder_7d493 : ByteArray := prog_22_method_152_code
def yJ0_coder_7d493 : MethodName := ⟨RJ0, "coder", "()B"⟩
abbrev cJ0_isLatin1_aae02 : ByteArray := prog_22_method_154_code
def yJ0_isLatin1_aae02 : MethodName := ⟨RJ0, "isLatin1", "()Z"⟩
abbrev cJ0_checkIndex_df160 : ByteArray := prog_22_method_155_code
def yJ0_checkIndex_df160 : MethodName := ⟨RJ0, "checkIndex", "(II)V"⟩
def RJ1 : String := "java/lang/StringLatin1"
def TJ1 : u_T := fun k => match k with
  | _ => ("", "", "", false)
def tyJ1 : Nat → FieldType := fun k => match k with
  | _ => .int
abbrev wsJ10 : List Cond := u_ws RJ1 TJ1 0
theorem nmJ1 : ∀ a, a < 0 → ∀ b, b < 0 → a ≠ b → (TJ1 a).2.1 ≠ (TJ1 b).2.1 := by decide +kernel
theorem tyJ1_ok : ∀ k, k < 0 → parseFieldDescriptor (TJ1 k).2.2.1 = some (tyJ1 k) := by decide +kernel
abbrev cJ1_charAt_3b067 : ByteArray := prog_23_method_2_code
def yJ1_charAt_3b067 : MethodName := ⟨RJ1, "charAt", "([BI)C"⟩
def RJ2 : String := "java/lang/StringUTF16"
def TJ2 : u_T := fun k => match k with
  | _ => ("", "", "", false)
def tyJ2 : Nat → FieldType := fun k => match k with
  | _ => .int
abbrev wsJ20 : List Cond := u_ws RJ2 TJ2 0
theorem nmJ2 : ∀ a, a < 0 → ∀ b, b < 0 → a ≠ b → (TJ2 a).2.1 ≠ (TJ2 b).2.1 := by decide +kernel
theorem tyJ2_ok : ∀ k, k < 0 → parseFieldDescriptor (TJ2 k).2.2.1 = some (tyJ2 k) := by decide +kernel
abbrev cJ2_getChar_3b067 : ByteArray := prog_24_method_5_code
def yJ2_getChar_3b067 : MethodName := ⟨RJ2, "getChar", "([BI)C"⟩
abbrev cJ2_length_9d52b : ByteArray := prog_24_method_6_code
def yJ2_length_9d52b : MethodName := ⟨RJ2, "length", "([B)I"⟩
abbrev cJ2_charAt_3b067 : ByteArray := prog_24_method_83_code
def yJ2_charAt_3b067 : MethodName := ⟨RJ2, "charAt", "([BI)C"⟩
abbrev cJ2_checkIndex_2214a : ByteArray := prog_24_method_91_code
def yJ2_checkIndex_2214a : MethodName := ⟨RJ2, "checkIndex", "(I[B)V"⟩
def RJ10 : String := "java/lang/System"
def TJ10 : u_T := fun k => match k with
  | _ => ("", "", "", false)
def tyJ10 : Nat → FieldType := fun k => match k with
  | _ => .int
abbrev wsJ100 : List Cond := u_ws RJ10 TJ10 0
theorem nmJ10 : ∀ a, a < 0 → ∀ b, b < 0 → a ≠ b → (TJ10 a).2.1 ≠ (TJ10 b).2.1 := by decide +kernel
theorem tyJ10_ok : ∀ k, k < 0 → parseFieldDescriptor (TJ10 k).2.2.1 = some (tyJ10 k) := by decide +kernel
def RJxfd54e : String := "java/lang/constant/Constable"
def TJxfd54e : u_T := fun k => match k with
  | _ => ("", "", "", false)
def tyJxfd54e : Nat → FieldType := fun k => match k with
  | _ => .int
abbrev wsJxfd54e0 : List Cond := u_ws RJxfd54e TJxfd54e 0
theorem nmJxfd54e : ∀ a, a < 0 → ∀ b, b < 0 → a ≠ b → (TJxfd54e a).2.1 ≠ (TJxfd54e b).2.1 := by decide +kernel
theorem tyJxfd54e_ok : ∀ k, k < 0 → parseFieldDescriptor (TJxfd54e k).2.2.1 = some (tyJxfd54e k) := by decide +kernel
def RJx3cf43 : String := "java/lang/constant/ConstantDesc"
def TJx3cf43 : u_T := fun k => match k with
  | _ => ("", "", "", false)
def tyJx3cf43 : Nat → FieldType := fun k => match k with
  | _ => .int
abbrev wsJx3cf430 : List Cond := u_ws RJx3cf43 TJx3cf43 0
theorem nmJx3cf43 : ∀ a, a < 0 → ∀ b, b < 0 → a ≠ b → (TJx3cf43 a).2.1 ≠ (TJx3cf43 b).2.1 := by decide +kernel
theorem tyJx3cf43_ok : ∀ k, k < 0 → parseFieldDescriptor (TJx3cf43 k).2.2.1 = some (tyJx3cf43 k) := by decide +kernel
def RJ3 : String := "jdk/internal/util/Preconditions"
def TJ3 : u_T := fun k => match k with
  | _ => ("", "", "", false)
def tyJ3 : Nat → FieldType := fun k => match k with
  | _ => .int
abbrev wsJ30 : List Cond := u_ws RJ3 TJ3 0
theorem nmJ3 : ∀ a, a < 0 → ∀ b, b < 0 → a ≠ b → (TJ3 a).2.1 ≠ (TJ3 b).2.1 := by decide +kernel
theorem tyJ3_ok : ∀ k, k < 0 → parseFieldDescriptor (TJ3 k).2.2.1 = some (tyJ3 k) := by decide +kernel
abbrev cJ3_checkIndex_8e157 : ByteArray := prog_30_method_11_code
def yJ3_checkIndex_8e157 : MethodName := ⟨RJ3, "checkIndex", "(IILjava/util/function/BiFunction;)I"⟩
def RL : String := "WallChapelsLaw"
abbrev cL_walker : ByteArray := method_3_code
def yL_walker : MethodName := ⟨RL, "walker", "(LWallChapels;II[J)I"⟩
abbrev cL_law : ByteArray := code
def yL_law : MethodName := ⟨RL, "law", "([I)Z"⟩
abbrev vwCl : List vw_C := [(RX0, TX0, 3), (RX1, TX1, 7), (RX2, TX2, 3), (RX3, TX3, 12), (RX4, TX4, 3), (RX5, TX5, 8), (RX6, TX6, 7), (RX7, TX7, 6), (RX8, TX8, 4), (RX9, TX9, 5), (RX10, TX10, 4), (RX11, TX11, 17), (RX12, TX12, 54)]
end
section
/-! the nest links of the tables, carried from state to state; worlds in two words; facts of ints -/
def gxL : List Cond := [.methodLinkNest RX11 9 yX8_init "WallChapels", .fieldLinkNest RX11 110 "WallChapels$Tape" "length" "I" "WallChapels", .fieldLinkNest RX2 43 "WallChapels$Tape" "length" "I" "WallChapels", .fieldLinkNest RX5 69 "WallChapels$Tape" "length" "I" "WallChapels", .fieldLinkNest RX9 39 "WallChapels$Tape" "head" "I" "WallChapels", .fieldLinkNest RX2 32 "WallChapels$Tape" "wrong" "I" "WallChapels", .fieldLinkNest RX5 54 "WallChapels$Tape" "wrong" "I" "WallChapels", .methodLinkNest RX11 18 yX5_init "WallChapels", .fieldLinkNest RX10 23 "WallChapels$Plan" "corners" "I" "WallChapels", .fieldLinkNest RX1 102 "WallChapels$Plan" "corners" "I" "WallChapels", .fieldLinkNest RX11 216 "WallChapels$Plan" "corners" "I" "WallChapels", .fieldLinkNest RX10 31 "WallChapels$Plan" "streets" "I" "WallChapels", .fieldLinkNest RX7 38 "WallChapels$Plan" "streets" "I" "WallChapels", .fieldLinkNest RX11 156 "WallChapels$Plan" "streets" "I" "WallChapels", .fieldLinkNest RX6 43 "WallChapels$Plan" "walkers" "I" "WallChapels", .fieldLinkNest RX1 118 "WallChapels$Plan" "walkers" "I" "WallChapels", .fieldLinkNest RX11 219 "WallChapels$Plan" "walkers" "I" "WallChapels", .fieldLinkNest RX6 34 "WallChapels$Plan" "rules" "[I" "WallChapels", .fieldLinkNest RX6 46 "WallChapels$Plan" "walkerRows" "[[I" "WallChapels", .fieldLinkNest RX11 173 "WallChapels$Plan" "touching" "[I" "WallChapels", .methodLinkNest RX11 28 yX2_init "WallChapels", .fieldLinkNest RX3 30 "WallChapels$LawReader" "steps" "[I" "WallChapels", .fieldLinkNest RX3 35 "WallChapels$LawReader" "size" "I" "WallChapels", .methodLinkNest RX11 37 yX3_init "WallChapels", .fieldLinkNest RX11 212 "WallChapels$Laws" "number" "I" "WallChapels", .fieldLinkNest RX1 63 "WallChapels$Laws" "holding" "I" "WallChapels", .fieldLinkNest RX11 213 "WallChapels$Laws" "holding" "I" "WallChapels", .methodLinkNest RX11 44 yX9_init "WallChapels", .fieldLinkNest RX11 302 "WallChapels$Walks" "stops" "[[I" "WallChapels", .fieldLinkNest RX11 299 "WallChapels$Walks" "lengths" "[I" "WallChapels", .fieldLinkNest RX11 222 "WallChapels$Walks" "number" "I" "WallChapels", .methodLinkNest RX11 51 yX10_init "WallChapels", .methodLinkNest RX11 58 yX1_init "WallChapels", .fieldLinkNest RX11 309 "WallChapels$Custom" "chapels" "I" "WallChapels", .fieldLinkNest RX11 259 "WallChapels$Custom" "visited" "I" "WallChapels", .fieldLinkNest RX11 262 "WallChapels$Custom" "lapsed" "I" "WallChapels", .fieldLinkNest RX11 250 "WallChapels$Custom" "went" "I" "WallChapels", .methodLinkNest RX11 67 yX7_init "WallChapels", .fieldLinkNest RX11 342 "WallChapels$Sightings" "fitting" "[I" "WallChapels", .fieldLinkNest RX11 146 "WallChapels$Sightings" "number" "I" "WallChapels", .methodLinkNest RX11 74 yX6_init "WallChapels", .fieldLinkNest RX1 23 "WallChapels$Scene" "walls" "I" "WallChapels", .fieldLinkNest RX11 193 "WallChapels$Scene" "walls" "I" "WallChapels", .fieldLinkNest RX1 125 "WallChapels$Scene" "coins" "I" "WallChapels", .fieldLinkNest RX11 226 "WallChapels$Scene" "coins" "I" "WallChapels", .fieldLinkNest RX1 79 "WallChapels$Scene" "day" "I" "WallChapels", .fieldLinkNest RX11 223 "WallChapels$Scene" "day" "I" "WallChapels", .fieldLinkNest RX1 60 "WallChapels$Scene" "marks" "[I" "WallChapels", .fieldLinkNest RX11 163 "WallChapels$Scene" "marks" "[I" "WallChapels", .fieldLinkNest RX1 71 "WallChapels$Scene" "lamps" "[I" "WallChapels", .fieldLinkNest RX11 167 "WallChapels$Scene" "lamps" "[I" "WallChapels", .fieldLinkNest RX1 47 "WallChapels$Scene" "homes" "[I" "WallChapels", .fieldLinkNest RX11 206 "WallChapels$Scene" "homes" "[I" "WallChapels", .fieldLinkNest RX1 68 "WallChapels$Scene" "faith" "[I" "WallChapels", .fieldLinkNest RX11 209 "WallChapels$Scene" "faith" "[I" "WallChapels", .methodLinkNest RX11 84 yX0_init "WallChapels", .methodLinkNest RX0 17 yX6_init "WallChapels", .fieldLinkNest RX11 232 "WallChapels$Acts" "held" "I" "WallChapels", .methodLinkNest RX11 91 yX4_init "WallChapels", .methodLinkNest RX11 106 yX8_bytesOf "WallChapels", .methodLinkNest RX11 113 yX8_append "WallChapels", .methodLinkNest RX11 117 yX5_readFrom "WallChapels", .methodLinkNest RX5 45 yX8_rewind "WallChapels", .methodLinkNest RX5 57 yX8_ahead "WallChapels", .methodLinkNest RX5 82 yX8_step "WallChapels", .methodLinkNest RX5 123 yX8_refuseHere "WallChapels", .methodLinkNest RX5 130 yX8_takeNumber "WallChapels", .methodLinkNest RX5 61 yX8_take "WallChapels", .methodLinkNest RX11 121 yX2_readLaw "WallChapels", .methodLinkNest RX2 23 yX8_rewind "WallChapels", .methodLinkNest RX2 39 yX8_take "WallChapels", .methodLinkNest RX2 35 yX8_ahead "WallChapels", .methodLinkNest RX2 82 yX8_isDigit "WallChapels", .methodLinkNest RX2 85 yX8_takeNumber "WallChapels", .methodLinkNest RX2 63 yX8_step "WallChapels", .methodLinkNest RX2 73 yX8_refuseHere "WallChapels", .methodLinkNest RX11 125 yX9_readFrom "WallChapels", .methodLinkNest RX9 23 yX8_rewind "WallChapels", .methodLinkNest RX9 32 yX8_ahead "WallChapels", .methodLinkNest RX9 36 yX8_step "WallChapels", .methodLinkNest RX11 139 yX5_become "WallChapels", .methodLinkNest RX11 143 yX6_begin "WallChapels", .methodLinkNest RX6 24 yX5_wallsTold "WallChapels", .methodLinkNest RX11 149 yX0_forgetAll "WallChapels", .methodLinkNest RX11 132 yX3_addFrom "WallChapels", .methodLinkNest RX11 136 yX9_addDraft "WallChapels", .methodLinkNest RX11 236 yX5_openBehind "WallChapels", .methodLinkNest RX11 184 yX5_endA "WallChapels", .methodLinkNest RX11 187 yX5_endB "WallChapels", .methodLinkNest RX11 190 yX5_yardsOf "WallChapels", .methodLinkNest RX11 243 yX0_keep "WallChapels", .methodLinkNest RX0 22 yX6_become "WallChapels", .methodLinkNest RX11 253 yX1_lookAt "WallChapels", .methodLinkNest RX1 29 yX5_openBehind "WallChapels", .methodLinkNest RX1 35 yX5_chapelsAmong "WallChapels", .methodLinkNest RX1 41 yX10_measure "WallChapels", .methodLinkNest RX10 34 yX5_endA "WallChapels", .methodLinkNest RX10 38 yX5_endB "WallChapels", .methodLinkNest RX10 41 yX5_yardsOf "WallChapels", .methodLinkNest RX11 256 yX1_passDay "WallChapels", .methodLinkNest RX1 51 yX10_yardsBetween "WallChapels", .methodLinkNest RX1 82 yX3_tellTown "WallChapels", .methodLinkNest RX1 86 yX3_tellChapel "WallChapels", .methodLinkNest RX1 90 yX3_worth "WallChapels", .methodLinkNest RX3 73 yX2_isLetter "WallChapels", .methodLinkNest RX11 265 yX4_write "WallChapels", .methodLinkNest RX11 281 yX0_takeBack "WallChapels", .methodLinkNest RX11 285 yX4_entry "WallChapels", .methodLinkNest RX11 294 yX6_become "WallChapels", .methodLinkNest RX11 296 yX4_become "WallChapels", .methodLinkNest RX11 306 yX10_stepYards "WallChapels", .methodLinkNest RX11 312 yX10_measure "WallChapels", .methodLinkNest RX11 316 yX10_yardsBetween "WallChapels", .methodLinkNest RX11 319 yX10_leastRow "WallChapels", .methodLinkNest RX11 322 yX5_reachedFrom "WallChapels", .methodLinkNest RX11 325 yX10_planFeast "WallChapels", .methodLinkNest RX11 328 yX10_feastYards "WallChapels", .methodLinkNest RX11 331 yX10_feastRow "WallChapels", .methodLinkNest RX11 334 yX7_add "WallChapels", .methodLinkNest RX11 338 yX7_gather "WallChapels", .methodLinkNest RX7 32 yX5_openBehind "WallChapels", .methodLinkNest RX7 41 yX5_chapelsAmong "WallChapels", .methodLinkNest RX11 345 yX7_apartBy "WallChapels", .methodLinkNest RX11 348 yX5_chapelsAmong "WallChapels", .methodLinkNest RX11 351 yX1_pullOn "WallChapels", .methodLinkNest RX11 355 yX1_goalOf "WallChapels", .methodLinkNest RX11 363 yX1_hasAt "WallChapels", .methodLinkNest RX11 367 yX1_stays "WallChapels", .methodLinkNest RX11 373 yX1_canCome "WallChapels", .methodLinkNest RX11 379 yX5_bridgesAmong "WallChapels", .methodLinkNest RX11 382 yX5_partsBy "WallChapels", .methodLinkNest RX11 403 yX10_farthestFrom "WallChapels", .methodLinkNest RX11 397 yX5_lengthOf "WallChapels"]
def gx_is : Cond → Bool
  | .fieldLinkNest .. => true
  | .methodLinkNest .. => true
  | _ => false
theorem gx_is_on : ∀ w : Cond, gx_is w = true → w.onTables = true := by
  intro w
  cases w <;> first | (intro h; cases h; done) | (intro _; rfl)
theorem gx_is_warm {s U : State} (hW : s.WarmedH U.vm) : ∀ w : Cond, gx_is w = true → va_Nw w s → va_Nw w U := by
  intro w
  cases w <;> first | (intro h; cases h; done) | exact fun _ hZ => va_Nw.warmF hW hZ | exact fun _ hZ => va_Nw.warmM hW hZ
theorem gxL_is : ∀ w ∈ gxL, gx_is w = true := List.all_eq_true.mp (by decide +kernel)
def gxP (U : State) : Prop := (∀ w ∈ gxL, va_Nw w U) ∧ va_AOA .int U ∧ va_AO "WallChapels$Scene" U
theorem gx_same {u U : State} (h : u.vm = U.vm) (hG : gxP u) : gxP U := ⟨fun w hw => va_Nw.same (gx_is_on w (gxL_is w hw)) h (hG.1 w hw), aoa_moved (by rw [h]; exact Vm.Alike.refl _) hG.2.1, va_AO.moved (by rw [h]; exact Vm.Alike.refl _) hG.2.2⟩
theorem gx_warm {s U : State} (hW : s.WarmedH U.vm) (hG : gxP s) : gxP U := ⟨fun w hw => gx_is_warm hW w (gxL_is w hw) (hG.1 w hw), aoa_moved hW.alike hG.2.1, va_AO.moved hW.alike hG.2.2⟩
theorem gx_n {U : State} (hG : gxP U) (i : Nat) {w : Cond} (hi : gxL[i]? = some w) : va_Nw w U := hG.1 w (List.mem_of_getElem? hi)
theorem gx_u {U : State} (hG : gxP U) {A : Array Value} (i : Nat) {w : Cond} (hi : gxL[i]? = some w) (hw : w.onTables = true) : w.before A U = true := va_Nw.use hw (gx_n hG i hi)
def cW (dC : Nat → ClassId) (dI : Nat → Nat → Nat) (W : va_W) (T : List (ClassId × FieldType)) (sz : Nat) (U : State) : Prop := U.heap.size = sz ∧ va_P (dC, dI) vwCl W U.heap ∧ va_K (dC, dI) vwCl T U ∧ va_D (fun _ => True) W ∧ gxP U
def cB (dC : Nat → ClassId) (dI : Nat → Nat → Nat) (A : Nat → Prop) (W : va_W) (T : List (ClassId × FieldType)) (t : State) : Prop := va_P (dC, dI) vwCl W t.heap ∧ va_K (dC, dI) vwCl T t ∧ va_D A W
theorem cW_blind {dC : Nat → ClassId} {dI : Nat → Nat → Nat} {W : va_W} {T : List (ClassId × FieldType)} {sz : Nat} {av : List Value} : FrameBlind (va_Pc av (cW dC dI W T sz)) := fun a U g mk q => by
  obtain ⟨q0, q1, qP, qK, qD, qG⟩ := q
  exact ⟨q0, q1, qP, va_K.moved (u := U) (U := U.calling g mk a) (Vm.Alike.refl U.vm) qK, qD, gx_same (u := U) (U := U.calling g mk a) rfl qG⟩
theorem cW_use {dC : Nat → ClassId} {dI : Nat → Nat → Nat} {W : va_W} {T : List (ClassId × FieldType)} {A : Nat → Prop} {s U : State} {H : Heap} (hU : U.heap = H) (hW : s.WarmedH U.vm) (hP : va_P (dC, dI) vwCl W H) (hK : va_K (dC, dI) vwCl T s) (hD : va_D A W) (hG : gxP s) : cW dC dI W T H.size U :=
  ⟨by rw [hU], by rw [hU]; exact hP, va_K.moved hW.alike hK, hD.weaken (fun _ _ _ _ => trivial), gx_warm hW hG⟩
section MNA
variable {p : Program} {l : Launch} {e : Env} {R : Room} {s : State} {m : MethodId} {args : Array Value} {below : List Frame} {meth : Method} {c : Code} {H : Heap} {locs : List Loc} {cells slots : Nat} {Q : State → Prop}
variable {pc : Nat} {ls : Array Slot} {rest : List Value} {D : va_G} {cl : List vw_C} {A : Nat → Prop} {tys : List (ClassId × FieldType)} {H0 : Heap}
/-- new int[n][k], of which nothing is kept but that it is there -/
theorem mna0 {X : va_W} {cc : ByteArray} (hexec : p.tables.exec = Jvm.exec) (hb : c.code = cc) {own : String} {index : Nat} (hown : s.vm.findClass own = some m.cls) (hclink : (Cond.classLink own index "[[I").before args s = true) (hG : gxP s) (harr : (Cond.arrayClass .int).before args s = true)
    (hK : va_K D cl tys s) (hP : va_P D cl X H) (hD : va_D A X) (hS : va_S A H0 H locs) (hA : ∀ q, H0.size ≤ q → A q) {n k : Int32} {N' K' : Nat} (hn : ¬ n < 0) (hk : ¬ k < 0) (hN : n.toNatClampNeg = N') (hM : k.toNatClampNeg = K')
    (hb1 : N' * 4 ≤ 536870912) (hb2 : K' * 4 ≤ 536870912) (hb3 : K' ≤ 536870912) (hcells : cells + (1 + N') ≤ R.cells) (hslots : slots + (N' + N' * K') ≤ R.slots) (hdg : decode cc pc = .ok (.multianewarray index 2, 4))
    (kk : ∀ (q : Nat) (H1 : Heap), va_P D cl X H1 → va_D A X → va_S A H0 H1 locs → W p l e R s m args below meth c H1 locs (cells + 1 + N') (slots + N' + N' * K') Q (F0 m (pc + 4) ls (.ref q :: rest))) : W p l e R s m args below meth c H locs cells slots Q (F0 m pc ls (.int k :: .int n :: rest)) := by
  obtain ⟨cy, kA, comp, h1, h2, h3⟩ := Cond.arrayClass_spec harr
  have hnil : ∀ f : Nat → va_E, X ++ va_pl [] f = X := fun f => List.append_nil X
  have e : ("[" ++ (FieldType.array .int).toString) = "[[I" := by decide +kernel
  refine va_mna (X := X) (L := []) (f := fun _ => .inl (0, 0, .inl (fun _ => 0))) (ty := .int) (cy := cy) (z := (K', .inl (fun _ => 0))) hexec hb hown (by rw [e]; exact hclink) hG.2.1 harr h1 hK (by rw [hnil]; exact hP) (by rw [hnil]; exact hD) hS hA hn hk hN hM hb1 hb2 hb3 rfl rfl hcells hslots (fun c9 => ?_) hdg (fun q r cA H1 _ _ _ hP1 hD1 hS1 => ?_)
  · show Jvm.Free.Multi.innerC c9 K' (.int 0) = arrV c9 K' (fun _ => .int 0)
    rw [← arrV_new]
    rfl
  · refine kk q H1 (fun i x hx => hP1 i x ?_) ⟨fun i j x y hx hy hxy => hD1.1 i j x y ?_ ?_ hxy, fun i x hx => hD1.2 i x ?_⟩ hS1 <;> (rw [List.append_assoc]; rw [List.getElem?_append_left (List.getElem?_eq_some_iff.mp (by assumption)).1]; assumption)
end MNA
theorem va_P_nil {D : va_G} {cl : List vw_C} (H : Heap) : va_P D cl [] H := fun k q h => by simp at h
theorem va_D_nil {A : Nat → Prop} : va_D A [] := ⟨fun i j p q h => by simp at h, fun k q h => by simp at h⟩
theorem i_lt (x y : Int32) : x < y ↔ x.toInt < y.toInt := Int32.lt_iff_toInt_lt
theorem i_le (x y : Int32) : x ≤ y ↔ x.toInt ≤ y.toInt := Int32.le_iff_toInt_le
theorem i_eq (x y : Int32) : x = y ↔ x.toInt = y.toInt := Int32.toInt_inj.symm
def mF (r : Nat → Nat) (v0 v6 v8 v9 v10 v11 v12 v13 v14 v17 v28 v29 v31 v34 v35 : Int32) : List Value := [.int v0, .ref (r 1), .ref (r 2), .ref (r 3), .ref (r 4), .ref (r 1), .int v6, .int 0, .int v8, .int v9, .int v10, .int v11, .int v12, .int v13, .int v14, .ref (r 15), .ref (r 16), .int v17, .ref (r 18), .ref (r 19), .ref (r 20), .ref (r 21), .ref (r 22), .ref (r 23), .ref (r 24), .int 0, .int 0, .int 0, .int v28, .int v29, .int 0, .int v31, .ref (r 32), .ref (r 33), .int v34, .int v35, .ref (r 36), .ref (r 37), .ref (r 38), .int 0, .int 0, .ref (r 41), .int 0, .long 0, .int 0, .int 0, .int 0, .int 0, .int 0, .int 0, .ref (r 50), .int 0, .ref (r 52), .int 0]
def xF (q : Nat → Nat) (v15 v16 : Int32) : List Value := [.ref (q 0), .ref (q 1), .ref (q 2), .ref (q 3), .ref (q 4), .ref (q 5), .ref (q 6), .ref (q 7), .ref (q 8), .ref (q 9), .ref (q 10), .ref (q 11), .ref (q 12), .ref (q 13), .ref (q 14), .int v15, .int v16]
theorem i_zm1000000 : (-1000000 : Int32).toInt = -1000000 := by decide
theorem i_zm30 : (-30 : Int32).toInt = -30 := by decide
theorem i_zm20 : (-20 : Int32).toInt = -20 := by decide
theorem i_zm2 : (-2 : Int32).toInt = -2 := by decide
theorem i_zm1 : (-1 : Int32).toInt = -1 := by decide
theorem i_z0 : (0 : Int32).toInt = 0 := by decide
theorem i_z1 : (1 : Int32).toInt = 1 := by decide
theorem i_z2 : (2 : Int32).toInt = 2 := by decide
theorem i_z3 : (3 : Int32).toInt = 3 := by decide
theorem i_z4 : (4 : Int32).toInt = 4 := by decide
theorem i_z5 : (5 : Int32).toInt = 5 := by decide
theorem i_z6 : (6 : Int32).toInt = 6 := by decide
theorem i_z7 : (7 : Int32).toInt = 7 := by decide
theorem i_z8 : (8 : Int32).toInt = 8 := by decide
theorem i_z9 : (9 : Int32).toInt = 9 := by decide
theorem i_z10 : (10 : Int32).toInt = 10 := by decide
theorem i_z11 : (11 : Int32).toInt = 11 := by decide
theorem i_z12 : (12 : Int32).toInt = 12 := by decide
theorem i_z13 : (13 : Int32).toInt = 13 := by decide
theorem i_z14 : (14 : Int32).toInt = 14 := by decide
theorem i_z15 : (15 : Int32).toInt = 15 := by decide
theorem i_z16 : (16 : Int32).toInt = 16 := by decide
theorem i_z17 : (17 : Int32).toInt = 17 := by decide
theorem i_z18 : (18 : Int32).toInt = 18 := by decide
theorem i_z19 : (19 : Int32).toInt = 19 := by decide
theorem i_z20 : (20 : Int32).toInt = 20 := by decide
theorem i_z21 : (21 : Int32).toInt = 21 := by decide
theorem i_z22 : (22 : Int32).toInt = 22 := by decide
theorem i_z23 : (23 : Int32).toInt = 23 := by decide
theorem i_z24 : (24 : Int32).toInt = 24 := by decide
theorem i_z30 : (30 : Int32).toInt = 30 := by decide
theorem i_z32 : (32 : Int32).toInt = 32 := by decide
theorem i_z40 : (40 : Int32).toInt = 40 := by decide
theorem i_z41 : (41 : Int32).toInt = 41 := by decide
theorem i_z50 : (50 : Int32).toInt = 50 := by decide
theorem i_z58 : (58 : Int32).toInt = 58 := by decide
theorem i_z59 : (59 : Int32).toInt = 59 := by decide
theorem i_z60 : (60 : Int32).toInt = 60 := by decide
theorem i_z63 : (63 : Int32).toInt = 63 := by decide
theorem i_z99 : (99 : Int32).toInt = 99 := by decide
theorem i_z100 : (100 : Int32).toInt = 100 := by decide
theorem i_z240 : (240 : Int32).toInt = 240 := by decide
theorem i_z255 : (255 : Int32).toInt = 255 := by decide
theorem i_z999 : (999 : Int32).toInt = 999 := by decide
end
section
set_option maxRecDepth 20000 in
theorem dX11_isCorner_0 : decode cX11_isCorner 0 = .ok (.iload_n 1, 1) := by decide +kernel
set_option maxRecDepth 20000 in
theorem dX11_isCorner_1 : decode cX11_isCorner 1 = .ok (.ifCond .lt 18, 3) := by decide +kernel
set_option maxRecDepth 20000 in
theorem dX11_isCorner_19 : decode cX11_isCorner 19 = .ok (.iconst 0, 1) := by decide +kernel
set_option maxRecDepth 20000 in
theorem dX11_isCorner_20 : decode cX11_isCorner 20 = .ok (.ireturn, 1) := by decide +kernel
set_option maxRecDepth 20000 in
theorem dX11_isCorner_4 : decode cX11_isCorner 4 = .ok (.iload_n 1, 1) := by decide +kernel
set_option maxRecDepth 20000 in
theorem dX11_isCorner_5 : decode cX11_isCorner 5 = .ok (.aload_n 0, 1) := by decide +kernel
set_option maxRecDepth 20000 in
theorem dX11_isCorner_6 : decode cX11_isCorner 6 = .ok (.getfield 19, 3) := by decide +kernel
set_option maxRecDepth 20000 in
theorem dX11_isCorner_9 : decode cX11_isCorner 9 = .ok (.getfield 216, 3) := by decide +kernel
set_option maxRecDepth 20000 in
theorem dX11_isCorner_12 : decode cX11_isCorner 12 = .ok (.if_icmp .ge 7, 3) := by decide +kernel
set_option maxRecDepth 20000 in
theorem dX11_isStreet_0 : decode cX11_isStreet 0 = .ok (.iload_n 1, 1) := by decide +kernel
set_option maxRecDepth 20000 in
theorem dX11_isStreet_1 : decode cX11_isStreet 1 = .ok (.ifCond .lt 18, 3) := by decide +kernel
set_option maxRecDepth 20000 in
theorem dX11_isStreet_19 : decode cX11_isStreet 19 = .ok (.iconst 0, 1) := by decide +kernel
set_option maxRecDepth 20000 in
theorem dX11_isStreet_20 : decode cX11_isStreet 20 = .ok (.ireturn, 1) := by decide +kernel
set_option maxRecDepth 20000 in
theorem dX11_isStreet_4 : decode cX11_isStreet 4 = .ok (.iload_n 1, 1) := by decide +kernel
set_option maxRecDepth 20000 in
theorem dX11_isStreet_5 : decode cX11_isStreet 5 = .ok (.aload_n 0, 1) := by decide +kernel
set_option maxRecDepth 20000 in
theorem dX11_isStreet_6 : decode cX11_isStreet 6 = .ok (.getfield 19, 3) := by decide +kernel
set_option maxRecDepth 20000 in
theorem dX11_isStreet_9 : decode cX11_isStreet 9 = .ok (.getfield 156, 3) := by decide +kernel
set_option maxRecDepth 20000 in
theorem dX11_isStreet_12 : decode cX11_isStreet 12 = .ok (.if_icmp .ge 7, 3) := by decide +kernel
set_option maxRecDepth 20000 in
theorem dX11_isWalker_0 : decode cX11_isWalker 0 = .ok (.iload_n 1, 1) := by decide +kernel
set_option maxRecDepth 20000 in
theorem dX11_isWalker_1 : decode cX11_isWalker 1 = .ok (.ifCond .lt 18, 3) := by decide +kernel
set_option maxRecDepth 20000 in
theorem dX11_isWalker_19 : decode cX11_isWalker 19 = .ok (.iconst 0, 1) := by decide +kernel
set_option maxRecDepth 20000 in
theorem dX11_isWalker_20 : decode cX11_isWalker 20 = .ok (.ireturn, 1) := by decide +kernel
set_option maxRecDepth 20000 in
theorem dX11_isWalker_4 : decode cX11_isWalker 4 = .ok (.iload_n 1, 1) := by decide +kernel
set_option maxRecDepth 20000 in
theorem dX11_isWalker_5 : decode cX11_isWalker 5 = .ok (.aload_n 0, 1) := by decide +kernel
set_option maxRecDepth 20000 in
theorem dX11_isWalker_6 : decode cX11_isWalker 6 = .ok (.getfield 19, 3) := by decide +kernel
set_option maxRecDepth 20000 in
theorem dX11_isWalker_9 : decode cX11_isWalker 9 = .ok (.getfield 219, 3) := by decide +kernel
set_option maxRecDepth 20000 in
theorem dX11_isWalker_12 : decode cX11_isWalker 12 = .ok (.if_icmp .ge 7, 3) := by decide +kernel
set_option maxRecDepth 20000 in
theorem dX11_hasTown_0 : decode cX11_hasTown 0 = .ok (.aload_n 0, 1) := by decide +kernel
set_option maxRecDepth 20000 in
theorem dX11_hasTown_1 : decode cX11_hasTown 1 = .ok (.getfield 19, 3) := by decide +kernel
set_option maxRecDepth 20000 in
theorem dX11_hasTown_4 : decode cX11_hasTown 4 = .ok (.getfield 216, 3) := by decide +kernel
set_option maxRecDepth 20000 in
theorem dX11_hasTown_7 : decode cX11_hasTown 7 = .ok (.ifCond .le 7, 3) := by decide +kernel
set_option maxRecDepth 20000 in
theorem dX11_hasTown_14 : decode cX11_hasTown 14 = .ok (.iconst 0, 1) := by decide +kernel
set_option maxRecDepth 20000 in
theorem dX11_hasTown_15 : decode cX11_hasTown 15 = .ok (.ireturn, 1) := by decide +kernel
set_option maxRecDepth 20000 in
theorem dX11_areTwoWalkers_0 : decode cX11_areTwoWalkers 0 = .ok (.aload_n 0, 1) := by decide +kernel
set_option maxRecDepth 20000 in
theorem dX11_areTwoWalkers_1 : decode cX11_areTwoWalkers 1 = .ok (.iload_n 1, 1) := by decide +kernel
set_option maxRecDepth 20000 in
theorem dX11_areTwoWalkers_2 : decode cX11_areTwoWalkers 2 = .ok (.invokevirtual 196, 3) := by decide +kernel
set_option maxRecDepth 20000 in
theorem dX11_areTwoWalkers_5 : decode cX11_areTwoWalkers 5 = .ok (.ifCond .eq 20, 3) := by decide +kernel
set_option maxRecDepth 20000 in
theorem dX11_areTwoWalkers_25 : decode cX11_areTwoWalkers 25 = .ok (.iconst 0, 1) := by decide +kernel
set_option maxRecDepth 20000 in
theorem dX11_areTwoWalkers_26 : decode cX11_areTwoWalkers 26 = .ok (.ireturn, 1) := by decide +kernel
set_option maxRecDepth 20000 in
theorem dX11_logLength_0 : decode cX11_logLength 0 = .ok (.bipush 60, 2) := by decide +kernel
set_option maxRecDepth 20000 in
theorem dX11_logLength_2 : decode cX11_logLength 2 = .ok (.aload_n 0, 1) := by decide +kernel
set_option maxRecDepth 20000 in
theorem dX11_logLength_3 : decode cX11_logLength 3 = .ok (.getfield 75, 3) := by decide +kernel
set_option maxRecDepth 20000 in
theorem dX11_logLength_6 : decode cX11_logLength 6 = .ok (.getfield 223, 3) := by decide +kernel
set_option maxRecDepth 20000 in
theorem dX11_logLength_9 : decode cX11_logLength 9 = .ok (.invokestatic 289, 3) := by decide +kernel
set_option maxRecDepth 20000 in
theorem dX11_logLength_12 : decode cX11_logLength 12 = .ok (.ireturn, 1) := by decide +kernel
set_option maxRecDepth 20000 in
theorem dX11_corner_0 : decode cX11_corner 0 = .ok (.aload_n 0, 1) := by decide +kernel
set_option maxRecDepth 20000 in
theorem dX11_corner_1 : decode cX11_corner 1 = .ok (.iload_n 1, 1) := by decide +kernel
set_option maxRecDepth 20000 in
theorem dX11_corner_2 : decode cX11_corner 2 = .ok (.invokevirtual 159, 3) := by decide +kernel
set_option maxRecDepth 20000 in
theorem dX11_corner_5 : decode cX11_corner 5 = .ok (.ifCond .ne 5, 3) := by decide +kernel
set_option maxRecDepth 20000 in
theorem dX11_corner_8 : decode cX11_corner 8 = .ok (.iconst (-1), 1) := by decide +kernel
set_option maxRecDepth 20000 in
theorem dX11_corner_9 : decode cX11_corner 9 = .ok (.ireturn, 1) := by decide +kernel
set_option maxRecDepth 20000 in
theorem dX11_day_0 : decode cX11_day 0 = .ok (.aload_n 0, 1) := by decide +kernel
set_option maxRecDepth 20000 in
theorem dX11_day_1 : decode cX11_day 1 = .ok (.invokevirtual 239, 3) := by decide +kernel
set_option maxRecDepth 20000 in
theorem dX11_day_4 : decode cX11_day 4 = .ok (.ifCond .eq 16, 3) := by decide +kernel
set_option maxRecDepth 20000 in
theorem dX11_day_20 : decode cX11_day 20 = .ok (.iconst (-1), 1) := by decide +kernel
set_option maxRecDepth 20000 in
theorem dX11_day_21 : decode cX11_day 21 = .ok (.ireturn, 1) := by decide +kernel
set_option maxRecDepth 20000 in
theorem dX11_wall_0 : decode cX11_wall 0 = .ok (.aload_n 0, 1) := by decide +kernel
set_option maxRecDepth 20000 in
theorem dX11_wall_1 : decode cX11_wall 1 = .ok (.iload_n 1, 1) := by decide +kernel
set_option maxRecDepth 20000 in
theorem dX11_wall_2 : decode cX11_wall 2 = .ok (.invokevirtual 181, 3) := by decide +kernel
set_option maxRecDepth 20000 in
theorem dX11_wall_5 : decode cX11_wall 5 = .ok (.ifCond .eq 14, 3) := by decide +kernel
set_option maxRecDepth 20000 in
theorem dX11_wall_19 : decode cX11_wall 19 = .ok (.iconst (-1), 1) := by decide +kernel
set_option maxRecDepth 20000 in
theorem dX11_wall_20 : decode cX11_wall 20 = .ok (.ireturn, 1) := by decide +kernel
set_option maxRecDepth 20000 in
theorem dX11_lamp_0 : decode cX11_lamp 0 = .ok (.aload_n 0, 1) := by decide +kernel
set_option maxRecDepth 20000 in
theorem dX11_lamp_1 : decode cX11_lamp 1 = .ok (.iload_n 1, 1) := by decide +kernel
set_option maxRecDepth 20000 in
theorem dX11_lamp_2 : decode cX11_lamp 2 = .ok (.invokevirtual 159, 3) := by decide +kernel
set_option maxRecDepth 20000 in
theorem dX11_lamp_5 : decode cX11_lamp 5 = .ok (.ifCond .eq 27, 3) := by decide +kernel
set_option maxRecDepth 20000 in
theorem dX11_lamp_32 : decode cX11_lamp 32 = .ok (.iconst (-1), 1) := by decide +kernel
set_option maxRecDepth 20000 in
theorem dX11_lamp_33 : decode cX11_lamp 33 = .ok (.ireturn, 1) := by decide +kernel
set_option maxRecDepth 20000 in
theorem dX11_moves_0 : decode cX11_moves 0 = .ok (.aload_n 0, 1) := by decide +kernel
set_option maxRecDepth 20000 in
theorem dX11_moves_1 : decode cX11_moves 1 = .ok (.iload_n 1, 1) := by decide +kernel
set_option maxRecDepth 20000 in
theorem dX11_moves_2 : decode cX11_moves 2 = .ok (.invokevirtual 196, 3) := by decide +kernel
set_option maxRecDepth 20000 in
theorem dX11_moves_5 : decode cX11_moves 5 = .ok (.ifCond .eq 35, 3) := by decide +kernel
set_option maxRecDepth 20000 in
theorem dX11_moves_40 : decode cX11_moves 40 = .ok (.iconst (-1), 1) := by decide +kernel
set_option maxRecDepth 20000 in
theorem dX11_moves_41 : decode cX11_moves 41 = .ok (.ireturn, 1) := by decide +kernel
set_option maxRecDepth 20000 in
theorem dX11_preach_0 : decode cX11_preach 0 = .ok (.aload_n 0, 1) := by decide +kernel
set_option maxRecDepth 20000 in
theorem dX11_preach_1 : decode cX11_preach 1 = .ok (.iload_n 1, 1) := by decide +kernel
set_option maxRecDepth 20000 in
theorem dX11_preach_2 : decode cX11_preach 2 = .ok (.invokevirtual 196, 3) := by decide +kernel
set_option maxRecDepth 20000 in
theorem dX11_preach_5 : decode cX11_preach 5 = .ok (.ifCond .eq 28, 3) := by decide +kernel
set_option maxRecDepth 20000 in
theorem dX11_preach_33 : decode cX11_preach 33 = .ok (.iconst (-1), 1) := by decide +kernel
set_option maxRecDepth 20000 in
theorem dX11_preach_34 : decode cX11_preach 34 = .ok (.ireturn, 1) := by decide +kernel
set_option maxRecDepth 20000 in
theorem dX11_give_0 : decode cX11_give 0 = .ok (.aload_n 0, 1) := by decide +kernel
set_option maxRecDepth 20000 in
theorem dX11_give_1 : decode cX11_give 1 = .ok (.invokevirtual 239, 3) := by decide +kernel
set_option maxRecDepth 20000 in
theorem dX11_give_4 : decode cX11_give 4 = .ok (.ifCond .eq 29, 3) := by decide +kernel
set_option maxRecDepth 20000 in
theorem dX11_give_33 : decode cX11_give 33 = .ok (.iconst (-1), 1) := by decide +kernel
set_option maxRecDepth 20000 in
theorem dX11_give_34 : decode cX11_give 34 = .ok (.ireturn, 1) := by decide +kernel
set_option maxRecDepth 20000 in
theorem dX11_years_0 : decode cX11_years 0 = .ok (.aload_n 0, 1) := by decide +kernel
set_option maxRecDepth 20000 in
theorem dX11_years_1 : decode cX11_years 1 = .ok (.invokevirtual 239, 3) := by decide +kernel
set_option maxRecDepth 20000 in
theorem dX11_years_4 : decode cX11_years 4 = .ok (.ifCond .eq 29, 3) := by decide +kernel
set_option maxRecDepth 20000 in
theorem dX11_years_33 : decode cX11_years 33 = .ok (.iconst (-1), 1) := by decide +kernel
set_option maxRecDepth 20000 in
theorem dX11_years_34 : decode cX11_years 34 = .ok (.ireturn, 1) := by decide +kernel
set_option maxRecDepth 20000 in
theorem dX11_image_0 : decode cX11_image 0 = .ok (.aload_n 0, 1) := by decide +kernel
set_option maxRecDepth 20000 in
theorem dX11_image_1 : decode cX11_image 1 = .ok (.invokevirtual 239, 3) := by decide +kernel
set_option maxRecDepth 20000 in
theorem dX11_image_4 : decode cX11_image 4 = .ok (.ifCond .ne 5, 3) := by decide +kernel
set_option maxRecDepth 20000 in
theorem dX11_image_7 : decode cX11_image 7 = .ok (.iconst (-1), 1) := by decide +kernel
set_option maxRecDepth 20000 in
theorem dX11_image_8 : decode cX11_image 8 = .ok (.ireturn, 1) := by decide +kernel
set_option maxRecDepth 20000 in
theorem dX11_far_0 : decode cX11_far 0 = .ok (.aload_n 0, 1) := by decide +kernel
set_option maxRecDepth 20000 in
theorem dX11_far_1 : decode cX11_far 1 = .ok (.iload_n 1, 1) := by decide +kernel
set_option maxRecDepth 20000 in
theorem dX11_far_2 : decode cX11_far 2 = .ok (.invokevirtual 159, 3) := by decide +kernel
set_option maxRecDepth 20000 in
theorem dX11_far_5 : decode cX11_far 5 = .ok (.ifCond .eq 11, 3) := by decide +kernel
set_option maxRecDepth 20000 in
theorem dX11_far_16 : decode cX11_far 16 = .ok (.iconst (-1), 1) := by decide +kernel
set_option maxRecDepth 20000 in
theorem dX11_far_17 : decode cX11_far 17 = .ok (.ireturn, 1) := by decide +kernel
set_option maxRecDepth 20000 in
theorem dX11_way_0 : decode cX11_way 0 = .ok (.aload_n 0, 1) := by decide +kernel
set_option maxRecDepth 20000 in
theorem dX11_way_1 : decode cX11_way 1 = .ok (.iload_n 1, 1) := by decide +kernel
set_option maxRecDepth 20000 in
theorem dX11_way_2 : decode cX11_way 2 = .ok (.invokevirtual 159, 3) := by decide +kernel
set_option maxRecDepth 20000 in
theorem dX11_way_5 : decode cX11_way 5 = .ok (.ifCond .eq 11, 3) := by decide +kernel
set_option maxRecDepth 20000 in
theorem dX11_way_16 : decode cX11_way 16 = .ok (.iconst (-1), 1) := by decide +kernel
set_option maxRecDepth 20000 in
theorem dX11_way_17 : decode cX11_way 17 = .ok (.ireturn, 1) := by decide +kernel
set_option maxRecDepth 20000 in
theorem dX11_feast_0 : decode cX11_feast 0 = .ok (.aload_n 0, 1) := by decide +kernel
set_option maxRecDepth 20000 in
theorem dX11_feast_1 : decode cX11_feast 1 = .ok (.iload_n 1, 1) := by decide +kernel
set_option maxRecDepth 20000 in
theorem dX11_feast_2 : decode cX11_feast 2 = .ok (.invokevirtual 159, 3) := by decide +kernel
set_option maxRecDepth 20000 in
theorem dX11_feast_5 : decode cX11_feast 5 = .ok (.ifCond .eq 12, 3) := by decide +kernel
set_option maxRecDepth 20000 in
theorem dX11_feast_17 : decode cX11_feast 17 = .ok (.iconst (-1), 1) := by decide +kernel
set_option maxRecDepth 20000 in
theorem dX11_feast_18 : decode cX11_feast 18 = .ok (.ireturn, 1) := by decide +kernel
set_option maxRecDepth 20000 in
theorem dX11_around_0 : decode cX11_around 0 = .ok (.aload_n 0, 1) := by decide +kernel
set_option maxRecDepth 20000 in
theorem dX11_around_1 : decode cX11_around 1 = .ok (.iload_n 1, 1) := by decide +kernel
set_option maxRecDepth 20000 in
theorem dX11_around_2 : decode cX11_around 2 = .ok (.invokevirtual 159, 3) := by decide +kernel
set_option maxRecDepth 20000 in
theorem dX11_around_5 : decode cX11_around 5 = .ok (.ifCond .eq 13, 3) := by decide +kernel
set_option maxRecDepth 20000 in
theorem dX11_around_18 : decode cX11_around 18 = .ok (.iconst (-1), 1) := by decide +kernel
set_option maxRecDepth 20000 in
theorem dX11_around_19 : decode cX11_around 19 = .ok (.ireturn, 1) := by decide +kernel
set_option maxRecDepth 20000 in
theorem dX11_soon_0 : decode cX11_soon 0 = .ok (.aload_n 0, 1) := by decide +kernel
set_option maxRecDepth 20000 in
theorem dX11_soon_1 : decode cX11_soon 1 = .ok (.iload_n 1, 1) := by decide +kernel
set_option maxRecDepth 20000 in
theorem dX11_soon_2 : decode cX11_soon 2 = .ok (.invokevirtual 196, 3) := by decide +kernel
set_option maxRecDepth 20000 in
theorem dX11_soon_5 : decode cX11_soon 5 = .ok (.ifCond .ne 5, 3) := by decide +kernel
set_option maxRecDepth 20000 in
theorem dX11_soon_8 : decode cX11_soon 8 = .ok (.iconst (-1), 1) := by decide +kernel
set_option maxRecDepth 20000 in
theorem dX11_soon_9 : decode cX11_soon 9 = .ok (.ireturn, 1) := by decide +kernel
set_option maxRecDepth 20000 in
theorem dX11_worn_0 : decode cX11_worn 0 = .ok (.aload_n 0, 1) := by decide +kernel
set_option maxRecDepth 20000 in
theorem dX11_worn_1 : decode cX11_worn 1 = .ok (.iload_n 1, 1) := by decide +kernel
set_option maxRecDepth 20000 in
theorem dX11_worn_2 : decode cX11_worn 2 = .ok (.invokevirtual 159, 3) := by decide +kernel
set_option maxRecDepth 20000 in
theorem dX11_worn_5 : decode cX11_worn 5 = .ok (.ifCond .eq 15, 3) := by decide +kernel
set_option maxRecDepth 20000 in
theorem dX11_worn_20 : decode cX11_worn 20 = .ok (.iconst (-1), 1) := by decide +kernel
set_option maxRecDepth 20000 in
theorem dX11_worn_21 : decode cX11_worn 21 = .ok (.ireturn, 1) := by decide +kernel
set_option maxRecDepth 20000 in
theorem dX11_seen_0 : decode cX11_seen 0 = .ok (.aload_n 0, 1) := by decide +kernel
set_option maxRecDepth 20000 in
theorem dX11_seen_1 : decode cX11_seen 1 = .ok (.iload_n 1, 1) := by decide +kernel
set_option maxRecDepth 20000 in
theorem dX11_seen_2 : decode cX11_seen 2 = .ok (.invokevirtual 159, 3) := by decide +kernel
set_option maxRecDepth 20000 in
theorem dX11_seen_5 : decode cX11_seen 5 = .ok (.ifCond .ne 5, 3) := by decide +kernel
set_option maxRecDepth 20000 in
theorem dX11_seen_8 : decode cX11_seen 8 = .ok (.iconst (-1), 1) := by decide +kernel
set_option maxRecDepth 20000 in
theorem dX11_seen_9 : decode cX11_seen 9 = .ok (.ireturn, 1) := by decide +kernel
set_option maxRecDepth 20000 in
theorem dX11_knocked_0 : decode cX11_knocked 0 = .ok (.aload_n 0, 1) := by decide +kernel
set_option maxRecDepth 20000 in
theorem dX11_knocked_1 : decode cX11_knocked 1 = .ok (.invokevirtual 239, 3) := by decide +kernel
set_option maxRecDepth 20000 in
theorem dX11_knocked_4 : decode cX11_knocked 4 = .ok (.ifCond .ne 5, 3) := by decide +kernel
set_option maxRecDepth 20000 in
theorem dX11_knocked_7 : decode cX11_knocked 7 = .ok (.iconst (-1), 1) := by decide +kernel
set_option maxRecDepth 20000 in
theorem dX11_knocked_8 : decode cX11_knocked 8 = .ok (.ireturn, 1) := by decide +kernel
set_option maxRecDepth 20000 in
theorem dX11_ask_0 : decode cX11_ask 0 = .ok (.aload_n 0, 1) := by decide +kernel
set_option maxRecDepth 20000 in
theorem dX11_ask_1 : decode cX11_ask 1 = .ok (.invokevirtual 239, 3) := by decide +kernel
set_option maxRecDepth 20000 in
theorem dX11_ask_4 : decode cX11_ask 4 = .ok (.ifCond .eq 24, 3) := by decide +kernel
set_option maxRecDepth 20000 in
theorem dX11_ask_28 : decode cX11_ask 28 = .ok (.iconst (-1), 1) := by decide +kernel
set_option maxRecDepth 20000 in
theorem dX11_ask_29 : decode cX11_ask 29 = .ok (.ireturn, 1) := by decide +kernel
set_option maxRecDepth 20000 in
theorem dX11_walls_0 : decode cX11_walls 0 = .ok (.iload_n 1, 1) := by decide +kernel
set_option maxRecDepth 20000 in
theorem dX11_walls_1 : decode cX11_walls 1 = .ok (.iconst 1, 1) := by decide +kernel
set_option maxRecDepth 20000 in
theorem dX11_walls_2 : decode cX11_walls 2 = .ok (.if_icmp .lt 16, 3) := by decide +kernel
set_option maxRecDepth 20000 in
theorem dX11_walls_18 : decode cX11_walls 18 = .ok (.iconst (-1), 1) := by decide +kernel
set_option maxRecDepth 20000 in
theorem dX11_walls_19 : decode cX11_walls 19 = .ok (.ireturn, 1) := by decide +kernel
set_option maxRecDepth 20000 in
theorem dX11_walls_5 : decode cX11_walls 5 = .ok (.iload_n 1, 1) := by decide +kernel
set_option maxRecDepth 20000 in
theorem dX11_walls_6 : decode cX11_walls 6 = .ok (.iconst 1, 1) := by decide +kernel
set_option maxRecDepth 20000 in
theorem dX11_walls_7 : decode cX11_walls 7 = .ok (.aload_n 0, 1) := by decide +kernel
set_option maxRecDepth 20000 in
theorem dX11_walls_8 : decode cX11_walls 8 = .ok (.getfield 19, 3) := by decide +kernel
set_option maxRecDepth 20000 in
theorem dX11_walls_11 : decode cX11_walls 11 = .ok (.getfield 216, 3) := by decide +kernel
set_option maxRecDepth 20000 in
theorem dX11_walls_14 : decode cX11_walls 14 = .ok (.ishl, 1) := by decide +kernel
set_option maxRecDepth 20000 in
theorem dX11_walls_15 : decode cX11_walls 15 = .ok (.if_icmp .lt 5, 3) := by decide +kernel
set_option maxRecDepth 20000 in
theorem dX11_parted_0 : decode cX11_parted 0 = .ok (.aload_n 0, 1) := by decide +kernel
set_option maxRecDepth 20000 in
theorem dX11_parted_1 : decode cX11_parted 1 = .ok (.iload_n 1, 1) := by decide +kernel
set_option maxRecDepth 20000 in
theorem dX11_parted_2 : decode cX11_parted 2 = .ok (.invokevirtual 159, 3) := by decide +kernel
set_option maxRecDepth 20000 in
theorem dX11_parted_5 : decode cX11_parted 5 = .ok (.ifCond .eq 16, 3) := by decide +kernel
set_option maxRecDepth 20000 in
theorem dX11_parted_21 : decode cX11_parted 21 = .ok (.iconst (-1), 1) := by decide +kernel
set_option maxRecDepth 20000 in
theorem dX11_parted_22 : decode cX11_parted 22 = .ok (.ireturn, 1) := by decide +kernel
set_option maxRecDepth 20000 in
theorem dX11_goes_0 : decode cX11_goes 0 = .ok (.aload_n 0, 1) := by decide +kernel
set_option maxRecDepth 20000 in
theorem dX11_goes_1 : decode cX11_goes 1 = .ok (.iload_n 1, 1) := by decide +kernel
set_option maxRecDepth 20000 in
theorem dX11_goes_2 : decode cX11_goes 2 = .ok (.invokevirtual 196, 3) := by decide +kernel
set_option maxRecDepth 20000 in
theorem dX11_goes_5 : decode cX11_goes 5 = .ok (.ifCond .ne 5, 3) := by decide +kernel
set_option maxRecDepth 20000 in
theorem dX11_goes_8 : decode cX11_goes 8 = .ok (.iconst (-1), 1) := by decide +kernel
set_option maxRecDepth 20000 in
theorem dX11_goes_9 : decode cX11_goes 9 = .ok (.ireturn, 1) := by decide +kernel
set_option maxRecDepth 20000 in
theorem dX11_goers_0 : decode cX11_goers 0 = .ok (.aload_n 0, 1) := by decide +kernel
set_option maxRecDepth 20000 in
theorem dX11_goers_1 : decode cX11_goers 1 = .ok (.iload_n 1, 1) := by decide +kernel
set_option maxRecDepth 20000 in
theorem dX11_goers_2 : decode cX11_goers 2 = .ok (.invokevirtual 159, 3) := by decide +kernel
set_option maxRecDepth 20000 in
theorem dX11_goers_5 : decode cX11_goers 5 = .ok (.ifCond .ne 5, 3) := by decide +kernel
set_option maxRecDepth 20000 in
theorem dX11_goers_8 : decode cX11_goers 8 = .ok (.iconst (-1), 1) := by decide +kernel
set_option maxRecDepth 20000 in
theorem dX11_goers_9 : decode cX11_goers 9 = .ok (.ireturn, 1) := by decide +kernel
set_option maxRecDepth 20000 in
theorem dX11_rests_0 : decode cX11_rests 0 = .ok (.aload_n 0, 1) := by decide +kernel
set_option maxRecDepth 20000 in
theorem dX11_rests_1 : decode cX11_rests 1 = .ok (.iload_n 1, 1) := by decide +kernel
set_option maxRecDepth 20000 in
theorem dX11_rests_2 : decode cX11_rests 2 = .ok (.iload_n 2, 1) := by decide +kernel
set_option maxRecDepth 20000 in
theorem dX11_rests_3 : decode cX11_rests 3 = .ok (.invokevirtual 359, 3) := by decide +kernel
set_option maxRecDepth 20000 in
theorem dX11_rests_6 : decode cX11_rests 6 = .ok (.ifCond .eq 8, 3) := by decide +kernel
set_option maxRecDepth 20000 in
theorem dX11_rests_14 : decode cX11_rests 14 = .ok (.iconst (-1), 1) := by decide +kernel
set_option maxRecDepth 20000 in
theorem dX11_rests_15 : decode cX11_rests 15 = .ok (.ireturn, 1) := by decide +kernel
set_option maxRecDepth 20000 in
theorem dX11_odds_0 : decode cX11_odds 0 = .ok (.aload_n 0, 1) := by decide +kernel
set_option maxRecDepth 20000 in
theorem dX11_odds_1 : decode cX11_odds 1 = .ok (.iload_n 1, 1) := by decide +kernel
set_option maxRecDepth 20000 in
theorem dX11_odds_2 : decode cX11_odds 2 = .ok (.invokevirtual 196, 3) := by decide +kernel
set_option maxRecDepth 20000 in
theorem dX11_odds_5 : decode cX11_odds 5 = .ok (.ifCond .eq 13, 3) := by decide +kernel
set_option maxRecDepth 20000 in
theorem dX11_odds_18 : decode cX11_odds 18 = .ok (.iconst (-1), 1) := by decide +kernel
set_option maxRecDepth 20000 in
theorem dX11_odds_19 : decode cX11_odds 19 = .ok (.ireturn, 1) := by decide +kernel
set_option maxRecDepth 20000 in
theorem dX11_shares_0 : decode cX11_shares 0 = .ok (.aload_n 0, 1) := by decide +kernel
set_option maxRecDepth 20000 in
theorem dX11_shares_1 : decode cX11_shares 1 = .ok (.iload_n 1, 1) := by decide +kernel
set_option maxRecDepth 20000 in
theorem dX11_shares_2 : decode cX11_shares 2 = .ok (.invokevirtual 159, 3) := by decide +kernel
set_option maxRecDepth 20000 in
theorem dX11_shares_5 : decode cX11_shares 5 = .ok (.ifCond .eq 14, 3) := by decide +kernel
set_option maxRecDepth 20000 in
theorem dX11_shares_19 : decode cX11_shares 19 = .ok (.iconst (-1), 1) := by decide +kernel
set_option maxRecDepth 20000 in
theorem dX11_shares_20 : decode cX11_shares 20 = .ok (.ireturn, 1) := by decide +kernel
set_option maxRecDepth 20000 in
theorem dX11_all_0 : decode cX11_all 0 = .ok (.aload_n 0, 1) := by decide +kernel
set_option maxRecDepth 20000 in
theorem dX11_all_1 : decode cX11_all 1 = .ok (.invokevirtual 239, 3) := by decide +kernel
set_option maxRecDepth 20000 in
theorem dX11_all_4 : decode cX11_all 4 = .ok (.ifCond .ne 5, 3) := by decide +kernel
set_option maxRecDepth 20000 in
theorem dX11_all_7 : decode cX11_all 7 = .ok (.iconst (-1), 1) := by decide +kernel
set_option maxRecDepth 20000 in
theorem dX11_all_8 : decode cX11_all 8 = .ok (.ireturn, 1) := by decide +kernel
set_option maxRecDepth 20000 in
theorem dX11_street_0 : decode cX11_street 0 = .ok (.aload_n 0, 1) := by decide +kernel
set_option maxRecDepth 20000 in
theorem dX11_street_1 : decode cX11_street 1 = .ok (.iload_n 1, 1) := by decide +kernel
set_option maxRecDepth 20000 in
theorem dX11_street_2 : decode cX11_street 2 = .ok (.invokevirtual 181, 3) := by decide +kernel
set_option maxRecDepth 20000 in
theorem dX11_street_5 : decode cX11_street 5 = .ok (.ifCond .ne 5, 3) := by decide +kernel
set_option maxRecDepth 20000 in
theorem dX11_street_8 : decode cX11_street 8 = .ok (.iconst (-1), 1) := by decide +kernel
set_option maxRecDepth 20000 in
theorem dX11_street_9 : decode cX11_street 9 = .ok (.ireturn, 1) := by decide +kernel
set_option maxRecDepth 20000 in
theorem dX11_check_0 : decode cX11_check 0 = .ok (.aload_n 0, 1) := by decide +kernel
set_option maxRecDepth 20000 in
theorem dX11_check_1 : decode cX11_check 1 = .ok (.invokevirtual 239, 3) := by decide +kernel
set_option maxRecDepth 20000 in
theorem dX11_check_4 : decode cX11_check 4 = .ok (.ifCond .eq 27, 3) := by decide +kernel
set_option maxRecDepth 20000 in
theorem dX11_check_31 : decode cX11_check 31 = .ok (.ldc 235, 2) := by decide +kernel
set_option maxRecDepth 20000 in
theorem dX11_check_33 : decode cX11_check 33 = .ok (.ireturn, 1) := by decide +kernel
set_option maxRecDepth 20000 in
theorem dX11_draws_0 : decode cX11_draws 0 = .ok (.aload_n 0, 1) := by decide +kernel
set_option maxRecDepth 20000 in
theorem dX11_draws_1 : decode cX11_draws 1 = .ok (.iload_n 1, 1) := by decide +kernel
set_option maxRecDepth 20000 in
theorem dX11_draws_2 : decode cX11_draws 2 = .ok (.invokevirtual 196, 3) := by decide +kernel
set_option maxRecDepth 20000 in
theorem dX11_draws_5 : decode cX11_draws 5 = .ok (.ifCond .eq 11, 3) := by decide +kernel
set_option maxRecDepth 20000 in
theorem dX11_draws_16 : decode cX11_draws 16 = .ok (.ldc 235, 2) := by decide +kernel
set_option maxRecDepth 20000 in
theorem dX11_draws_18 : decode cX11_draws 18 = .ok (.ireturn, 1) := by decide +kernel
set_option maxRecDepth 20000 in
theorem dX11_game_0 : decode cX11_game 0 = .ok (.aload_n 0, 1) := by decide +kernel
set_option maxRecDepth 20000 in
theorem dX11_game_1 : decode cX11_game 1 = .ok (.iload_n 1, 1) := by decide +kernel
set_option maxRecDepth 20000 in
theorem dX11_game_2 : decode cX11_game 2 = .ok (.iload_n 2, 1) := by decide +kernel
set_option maxRecDepth 20000 in
theorem dX11_game_3 : decode cX11_game 3 = .ok (.invokevirtual 359, 3) := by decide +kernel
set_option maxRecDepth 20000 in
theorem dX11_game_6 : decode cX11_game 6 = .ok (.ifCond .eq 36, 3) := by decide +kernel
set_option maxRecDepth 20000 in
theorem dX11_game_42 : decode cX11_game 42 = .ok (.ldc 235, 2) := by decide +kernel
set_option maxRecDepth 20000 in
theorem dX11_game_44 : decode cX11_game 44 = .ok (.ireturn, 1) := by decide +kernel
def vs_f_X11_isCorner : List Cond := .code yX11_isCorner cX11_isCorner 2 (some .boolean) :: ([.fieldLink RX11 19 "WallChapels" "town" "LWallChapels$Plan;"] ++ (u_ws RX11 TX11 17 ++ (u_ws RX5 TX5 8)))
theorem vs_f_X11_isCorner_uX11 : ∀ w ∈ u_ws RX11 TX11 17, w ∈ vs_f_X11_isCorner := fun _ h => List.mem_cons_of_mem _ (List.mem_append_right _ (List.mem_append_left _ h))
theorem vs_f_X11_isCorner_uX5 : ∀ w ∈ u_ws RX5 TX5 8, w ∈ vs_f_X11_isCorner := fun _ h => List.mem_cons_of_mem _ (List.mem_append_right _ (List.mem_append_right _ (h)))
set_option maxHeartbeats 4000000 in
set_option maxRecDepth 100000 in
theorem f_X11_isCorner (l : Launch) (dC : Nat → ClassId) (dI : Nat → Nat → Nat) (sz : Nat) (q : Nat → Nat) (p0 : Int32) : Met l yX11_isCorner vs_f_X11_isCorner ({ frames := 0, cells := 0, slots := 0, locals := 0 }) (va_Pc [.ref (q 15), .int p0] (cW dC dI [((q 15), .inr (11, xF q 0 1)), ((q 1), .inr (5, [.int 0, .int 0, .int 0, .int 0, .ref (q 20), .ref (q 21), .ref (q 22), .ref (q 23)]))] [] sz)) (va_Qi (fun (r : Int32) (_ : Unit) => r = 0) (fun (_ : Unit) (t : State) => True) (va_A [((q 15), .inr (11, xF q 0 1)), ((q 1), .inr (5, [.int 0, .int 0, .int 0, .int 0, .ref (q 20), .ref (q 21), .ref (q 22), .ref (q 23)]))] sz)) 0 0 (va_A [((q 15), .inr (11, xF q 0 1)), ((q 1), .inr (5, [.int 0, .int 0, .int 0, .int 0, .ref (q 20), .ref (q 21), .ref (q 22), .ref (q 23)]))] sz) := by
  refine Met.ofW (cc := cX11_isCorner) (maxL := 2) (ret := (some .boolean)) (by decide) rfl ?_
  intro p e s m args below meth c s₁ B hml hv
  obtain ⟨rfl, hsz, hP, hK, hD0, hG⟩ := hv
  have hx := B.exec
  have hb := B.bytes
  have hr := B.returns
  have hts := atoms_spec (ws := vs_f_X11_isCorner) B.pre
  have hown : s.vm.findClass RX11 = some m.cls := findClass_of_methodNamed B.named
  have hlocks := B.notSynchronized
  have hiX11 : ∀ w ∈ u_ws RX11 TX11 17, w ∈ vs_f_X11_isCorner := vs_f_X11_isCorner_uX11
  have hiX5 : ∀ w ∈ u_ws RX5 TX5 8, w ∈ vs_f_X11_isCorner := vs_f_X11_isCorner_uX5
  subst hsz
  have hD := hD0.self (sz := s.heap.size)
  generalize hAe : va_A [((q 15), .inr (11, xF q 0 1)), ((q 1), .inr (5, [.int 0, .int 0, .int 0, .int 0, .ref (q 20), .ref (q 21), .ref (q 22), .ref (q 23)]))] s.heap.size = A at hD ⊢
  have hA : ∀ q : Nat, s.heap.size ≤ q → A q := fun q h => by rw [← hAe]; exact Or.inr h
  have hS : va_S A s.heap s.heap [] := va_S.rf
  have hP : va_P (dC, dI) vwCl [((q 15), .inr (11, xF q 0 1)), ((q 1), .inr (5, [.int 0, .int 0, .int 0, .int 0, .ref (q 20), .ref (q 21), .ref (q 22), .ref (q 23)]))] s.heap := hP
  have hl := lv_entry ([.ref (q 15), .int p0]) (n := 2) (Nat.le_of_ble_eq_true rfl)
  rw [lg_entry_eq]
  generalize (lg_sl ([.ref (q 15), .int p0]) ++ List.replicate (2 - (lg_sl ([.ref (q 15), .int p0])).length) Slot.unset).toArray = ls at hl ⊢
  have hl : lv_has ls 2 [(0, .ref (q 15)), (1, .int p0)] := hl
  refine lv_iload_n hx hb dX11_isCorner_0 rfl (lv_at hl 1 rfl) ?_
  refine lv_if_lt (tgt := 19) hx hb dX11_isCorner_1 (by decide) (fun c_1 => ?_) (fun c_1 => ?_)
  · refine lv_iconst (v := 0) hx hb dX11_isCorner_19 (by decide) ?_
    exact W.zret (v := 0) hx hb hr rfl (fun t ht hW => ⟨⟨0, (), rfl, rfl, trivial⟩, hS.F ht⟩) hS.2.2 dX11_isCorner_20
  · refine lv_iload_n hx hb dX11_isCorner_4 rfl (lv_at hl 1 rfl) ?_
    refine lv_aload_n hx hb dX11_isCorner_5 rfl (lv_at hl 0 rfl) ?_
    refine va_get (D := (dC, dI)) (ci := 11) (v := .ref (q 1)) (C := RX11) (T := TX11) (N := 17) hx hb hts hiX11 hown hK hP 0 rfl rfl 1 (by decide) (hts (.fieldLink RX11 19 "WallChapels" "town" "LWallChapels$Plan;") (by decide +kernel)) (fun _ h9 => h9) rfl dX11_isCorner_6 ?_
    refine va_getN (D := (dC, dI)) (ci := 5) (v := .int 0) (C := RX5) (T := TX5) (N := 8) hx hb hts hiX5 hown hK hP 1 rfl rfl 0 (by decide) (gx_u hG 10 rfl rfl) (fun _ h9 => h9) rfl dX11_isCorner_9 ?_
    refine lv_icmp_ge (tgt := 19) hx hb dX11_isCorner_12 (by decide) (fun c_2 => ?_) (fun c_2 => by have z0 := c_1; have z1 := c_2; simp only [i_lt, i_le, i_eq, i_zm1000000, i_zm30, i_zm20, i_zm2, i_zm1, i_z0, i_z1, i_z2, i_z3, i_z4, i_z5, i_z6, i_z7, i_z8, i_z9, i_z10, i_z11, i_z12, i_z13, i_z14, i_z15, i_z16, i_z17, i_z18, i_z19, i_z20, i_z21, i_z22, i_z23, i_z24, i_z30, i_z32, i_z40, i_z41, i_z50, i_z58, i_z59, i_z60, i_z63, i_z99, i_z100, i_z240, i_z255, i_z999] at z0 z1; omega)
    refine lv_iconst (v := 0) hx hb dX11_isCorner_19 (by decide) ?_
    exact W.zret (v := 0) hx hb hr rfl (fun t ht hW => ⟨⟨0, (), rfl, rfl, trivial⟩, hS.F ht⟩) hS.2.2 dX11_isCorner_20
def vs_f_X11_isStreet : List Cond := .code yX11_isStreet cX11_isStreet 2 (some .boolean) :: ([.fieldLink RX11 19 "WallChapels" "town" "LWallChapels$Plan;"] ++ (u_ws RX11 TX11 17 ++ (u_ws RX5 TX5 8)))
theorem vs_f_X11_isStreet_uX11 : ∀ w ∈ u_ws RX11 TX11 17, w ∈ vs_f_X11_isStreet := fun _ h => List.mem_cons_of_mem _ (List.mem_append_right _ (List.mem_append_left _ h))
theorem vs_f_X11_isStreet_uX5 : ∀ w ∈ u_ws RX5 TX5 8, w ∈ vs_f_X11_isStreet := fun _ h => List.mem_cons_of_mem _ (List.mem_append_right _ (List.mem_append_right _ (h)))
set_option maxHeartbeats 4000000 in
set_option maxRecDepth 100000 in
theorem f_X11_isStreet (l : Launch) (dC : Nat → ClassId) (dI : Nat → Nat → Nat) (sz : Nat) (q : Nat → Nat) (p0 : Int32) : Met l yX11_isStreet vs_f_X11_isStreet ({ frames := 0, cells := 0, slots := 0, locals := 0 }) (va_Pc [.ref (q 15), .int p0] (cW dC dI [((q 15), .inr (11, xF q 0 1)), ((q 1), .inr (5, [.int 0, .int 0, .int 0, .int 0, .ref (q 20), .ref (q 21), .ref (q 22), .ref (q 23)]))] [] sz)) (va_Qi (fun (r : Int32) (_ : Unit) => r = 0) (fun (_ : Unit) (t : State) => True) (va_A [((q 15), .inr (11, xF q 0 1)), ((q 1), .inr (5, [.int 0, .int 0, .int 0, .int 0, .ref (q 20), .ref (q 21), .ref (q 22), .ref (q 23)]))] sz)) 0 0 (va_A [((q 15), .inr (11, xF q 0 1)), ((q 1), .inr (5, [.int 0, .int 0, .int 0, .int 0, .ref (q 20), .ref (q 21), .ref (q 22), .ref (q 23)]))] sz) := by
  refine Met.ofW (cc := cX11_isStreet) (maxL := 2) (ret := (some .boolean)) (by decide) rfl ?_
  intro p e s m args below meth c s₁ B hml hv
  obtain ⟨rfl, hsz, hP, hK, hD0, hG⟩ := hv
  have hx := B.exec
  have hb := B.bytes
  have hr := B.returns
  have hts := atoms_spec (ws := vs_f_X11_isStreet) B.pre
  have hown : s.vm.findClass RX11 = some m.cls := findClass_of_methodNamed B.named
  have hlocks := B.notSynchronized
  have hiX11 : ∀ w ∈ u_ws RX11 TX11 17, w ∈ vs_f_X11_isStreet := vs_f_X11_isStreet_uX11
  have hiX5 : ∀ w ∈ u_ws RX5 TX5 8, w ∈ vs_f_X11_isStreet := vs_f_X11_isStreet_uX5
  subst hsz
  have hD := hD0.self (sz := s.heap.size)
  generalize hAe : va_A [((q 15), .inr (11, xF q 0 1)), ((q 1), .inr (5, [.int 0, .int 0, .int 0, .int 0, .ref (q 20), .ref (q 21), .ref (q 22), .ref (q 23)]))] s.heap.size = A at hD ⊢
  have hA : ∀ q : Nat, s.heap.size ≤ q → A q := fun q h => by rw [← hAe]; exact Or.inr h
  have hS : va_S A s.heap s.heap [] := va_S.rf
  have hP : va_P (dC, dI) vwCl [((q 15), .inr (11, xF q 0 1)), ((q 1), .inr (5, [.int 0, .int 0, .int 0, .int 0, .ref (q 20), .ref (q 21), .ref (q 22), .ref (q 23)]))] s.heap := hP
  have hl := lv_entry ([.ref (q 15), .int p0]) (n := 2) (Nat.le_of_ble_eq_true rfl)
  rw [lg_entry_eq]
  generalize (lg_sl ([.ref (q 15), .int p0]) ++ List.replicate (2 - (lg_sl ([.ref (q 15), .int p0])).length) Slot.unset).toArray = ls at hl ⊢
  have hl : lv_has ls 2 [(0, .ref (q 15)), (1, .int p0)] := hl
  refine lv_iload_n hx hb dX11_isStreet_0 rfl (lv_at hl 1 rfl) ?_
  refine lv_if_lt (tgt := 19) hx hb dX11_isStreet_1 (by decide) (fun c_1 => ?_) (fun c_1 => ?_)
  · refine lv_iconst (v := 0) hx hb dX11_isStreet_19 (by decide) ?_
    exact W.zret (v := 0) hx hb hr rfl (fun t ht hW => ⟨⟨0, (), rfl, rfl, trivial⟩, hS.F ht⟩) hS.2.2 dX11_isStreet_20
  · refine lv_iload_n hx hb dX11_isStreet_4 rfl (lv_at hl 1 rfl) ?_
    refine lv_aload_n hx hb dX11_isStreet_5 rfl (lv_at hl 0 rfl) ?_
    refine va_get (D := (dC, dI)) (ci := 11) (v := .ref (q 1)) (C := RX11) (T := TX11) (N := 17) hx hb hts hiX11 hown hK hP 0 rfl rfl 1 (by decide) (hts (.fieldLink RX11 19 "WallChapels" "town" "LWallChapels$Plan;") (by decide +kernel)) (fun _ h9 => h9) rfl dX11_isStreet_6 ?_
    refine va_getN (D := (dC, dI)) (ci := 5) (v := .int 0) (C := RX5) (T := TX5) (N := 8) hx hb hts hiX5 hown hK hP 1 rfl rfl 1 (by decide) (gx_u hG 13 rfl rfl) (fun _ h9 => h9) rfl dX11_isStreet_9 ?_
    refine lv_icmp_ge (tgt := 19) hx hb dX11_isStreet_12 (by decide) (fun c_2 => ?_) (fun c_2 => by have z0 := c_1; have z1 := c_2; simp only [i_lt, i_le, i_eq, i_zm1000000, i_zm30, i_zm20, i_zm2, i_zm1, i_z0, i_z1, i_z2, i_z3, i_z4, i_z5, i_z6, i_z7, i_z8, i_z9, i_z10, i_z11, i_z12, i_z13, i_z14, i_z15, i_z16, i_z17, i_z18, i_z19, i_z20, i_z21, i_z22, i_z23, i_z24, i_z30, i_z32, i_z40, i_z41, i_z50, i_z58, i_z59, i_z60, i_z63, i_z99, i_z100, i_z240, i_z255, i_z999] at z0 z1; omega)
    refine lv_iconst (v := 0) hx hb dX11_isStreet_19 (by decide) ?_
    exact W.zret (v := 0) hx hb hr rfl (fun t ht hW => ⟨⟨0, (), rfl, rfl, trivial⟩, hS.F ht⟩) hS.2.2 dX11_isStreet_20
def vs_f_X11_isWalker : List Cond := .code yX11_isWalker cX11_isWalker 2 (some .boolean) :: ([.fieldLink RX11 19 "WallChapels" "town" "LWallChapels$Plan;"] ++ (u_ws RX11 TX11 17 ++ (u_ws RX5 TX5 8)))
theorem vs_f_X11_isWalker_uX11 : ∀ w ∈ u_ws RX11 TX11 17, w ∈ vs_f_X11_isWalker := fun _ h => List.mem_cons_of_mem _ (List.mem_append_right _ (List.mem_append_left _ h))
theorem vs_f_X11_isWalker_uX5 : ∀ w ∈ u_ws RX5 TX5 8, w ∈ vs_f_X11_isWalker := fun _ h => List.mem_cons_of_mem _ (List.mem_append_right _ (List.mem_append_right _ (h)))
set_option maxHeartbeats 4000000 in
set_option maxRecDepth 100000 in
theorem f_X11_isWalker (l : Launch) (dC : Nat → ClassId) (dI : Nat → Nat → Nat) (sz : Nat) (q : Nat → Nat) (p0 : Int32) : Met l yX11_isWalker vs_f_X11_isWalker ({ frames := 0, cells := 0, slots := 0, locals := 0 }) (va_Pc [.ref (q 15), .int p0] (cW dC dI [((q 15), .inr (11, xF q 0 1)), ((q 1), .inr (5, [.int 0, .int 0, .int 0, .int 0, .ref (q 20), .ref (q 21), .ref (q 22), .ref (q 23)]))] [] sz)) (va_Qi (fun (r : Int32) (_ : Unit) => r = 0) (fun (_ : Unit) (t : State) => True) (va_A [((q 15), .inr (11, xF q 0 1)), ((q 1), .inr (5, [.int 0, .int 0, .int 0, .int 0, .ref (q 20), .ref (q 21), .ref (q 22), .ref (q 23)]))] sz)) 0 0 (va_A [((q 15), .inr (11, xF q 0 1)), ((q 1), .inr (5, [.int 0, .int 0, .int 0, .int 0, .ref (q 20), .ref (q 21), .ref (q 22), .ref (q 23)]))] sz) := by
  refine Met.ofW (cc := cX11_isWalker) (maxL := 2) (ret := (some .boolean)) (by decide) rfl ?_
  intro p e s m args below meth c s₁ B hml hv
  obtain ⟨rfl, hsz, hP, hK, hD0, hG⟩ := hv
  have hx := B.exec
  have hb := B.bytes
  have hr := B.returns
  have hts := atoms_spec (ws := vs_f_X11_isWalker) B.pre
  have hown : s.vm.findClass RX11 = some m.cls := findClass_of_methodNamed B.named
  have hlocks := B.notSynchronized
  have hiX11 : ∀ w ∈ u_ws RX11 TX11 17, w ∈ vs_f_X11_isWalker := vs_f_X11_isWalker_uX11
  have hiX5 : ∀ w ∈ u_ws RX5 TX5 8, w ∈ vs_f_X11_isWalker := vs_f_X11_isWalker_uX5
  subst hsz
  have hD := hD0.self (sz := s.heap.size)
  generalize hAe : va_A [((q 15), .inr (11, xF q 0 1)), ((q 1), .inr (5, [.int 0, .int 0, .int 0, .int 0, .ref (q 20), .ref (q 21), .ref (q 22), .ref (q 23)]))] s.heap.size = A at hD ⊢
  have hA : ∀ q : Nat, s.heap.size ≤ q → A q := fun q h => by rw [← hAe]; exact Or.inr h
  have hS : va_S A s.heap s.heap [] := va_S.rf
  have hP : va_P (dC, dI) vwCl [((q 15), .inr (11, xF q 0 1)), ((q 1), .inr (5, [.int 0, .int 0, .int 0, .int 0, .ref (q 20), .ref (q 21), .ref (q 22), .ref (q 23)]))] s.heap := hP
  have hl := lv_entry ([.ref (q 15), .int p0]) (n := 2) (Nat.le_of_ble_eq_true rfl)
  rw [lg_entry_eq]
  generalize (lg_sl ([.ref (q 15), .int p0]) ++ List.replicate (2 - (lg_sl ([.ref (q 15), .int p0])).length) Slot.unset).toArray = ls at hl ⊢
  have hl : lv_has ls 2 [(0, .ref (q 15)), (1, .int p0)] := hl
  refine lv_iload_n hx hb dX11_isWalker_0 rfl (lv_at hl 1 rfl) ?_
  refine lv_if_lt (tgt := 19) hx hb dX11_isWalker_1 (by decide) (fun c_1 => ?_) (fun c_1 => ?_)
  · refine lv_iconst (v := 0) hx hb dX11_isWalker_19 (by decide) ?_
    exact W.zret (v := 0) hx hb hr rfl (fun t ht hW => ⟨⟨0, (), rfl, rfl, trivial⟩, hS.F ht⟩) hS.2.2 dX11_isWalker_20
  · refine lv_iload_n hx hb dX11_isWalker_4 rfl (lv_at hl 1 rfl) ?_
    refine lv_aload_n hx hb dX11_isWalker_5 rfl (lv_at hl 0 rfl) ?_
    refine va_get (D := (dC, dI)) (ci := 11) (v := .ref (q 1)) (C := RX11) (T := TX11) (N := 17) hx hb hts hiX11 hown hK hP 0 rfl rfl 1 (by decide) (hts (.fieldLink RX11 19 "WallChapels" "town" "LWallChapels$Plan;") (by decide +kernel)) (fun _ h9 => h9) rfl dX11_isWalker_6 ?_
    refine va_getN (D := (dC, dI)) (ci := 5) (v := .int 0) (C := RX5) (T := TX5) (N := 8) hx hb hts hiX5 hown hK hP 1 rfl rfl 2 (by decide) (gx_u hG 16 rfl rfl) (fun _ h9 => h9) rfl dX11_isWalker_9 ?_
    refine lv_icmp_ge (tgt := 19) hx hb dX11_isWalker_12 (by decide) (fun c_2 => ?_) (fun c_2 => by have z0 := c_1; have z1 := c_2; simp only [i_lt, i_le, i_eq, i_zm1000000, i_zm30, i_zm20, i_zm2, i_zm1, i_z0, i_z1, i_z2, i_z3, i_z4, i_z5, i_z6, i_z7, i_z8, i_z9, i_z10, i_z11, i_z12, i_z13, i_z14, i_z15, i_z16, i_z17, i_z18, i_z19, i_z20, i_z21, i_z22, i_z23, i_z24, i_z30, i_z32, i_z40, i_z41, i_z50, i_z58, i_z59, i_z60, i_z63, i_z99, i_z100, i_z240, i_z255, i_z999] at z0 z1; omega)
    refine lv_iconst (v := 0) hx hb dX11_isWalker_19 (by decide) ?_
    exact W.zret (v := 0) hx hb hr rfl (fun t ht hW => ⟨⟨0, (), rfl, rfl, trivial⟩, hS.F ht⟩) hS.2.2 dX11_isWalker_20
def vs_f_X11_hasTown : List Cond := .code yX11_hasTown cX11_hasTown 1 (some .boolean) :: ([.fieldLink RX11 19 "WallChapels" "town" "LWallChapels$Plan;"] ++ (u_ws RX11 TX11 17 ++ (u_ws RX5 TX5 8)))
theorem vs_f_X11_hasTown_uX11 : ∀ w ∈ u_ws RX11 TX11 17, w ∈ vs_f_X11_hasTown := fun _ h => List.mem_cons_of_mem _ (List.mem_append_right _ (List.mem_append_left _ h))
theorem vs_f_X11_hasTown_uX5 : ∀ w ∈ u_ws RX5 TX5 8, w ∈ vs_f_X11_hasTown := fun _ h => List.mem_cons_of_mem _ (List.mem_append_right _ (List.mem_append_right _ (h)))
set_option maxHeartbeats 4000000 in
set_option maxRecDepth 100000 in
theorem f_X11_hasTown (l : Launch) (dC : Nat → ClassId) (dI : Nat → Nat → Nat) (sz : Nat) (q : Nat → Nat) : Met l yX11_hasTown vs_f_X11_hasTown ({ frames := 0, cells := 0, slots := 0, locals := 0 }) (va_Pc [.ref (q 15)] (cW dC dI [((q 15), .inr (11, xF q 0 1)), ((q 1), .inr (5, [.int 0, .int 0, .int 0, .int 0, .ref (q 20), .ref (q 21), .ref (q 22), .ref (q 23)]))] [] sz)) (va_Qi (fun (r : Int32) (_ : Unit) => r = 0) (fun (_ : Unit) (t : State) => True) (va_A [((q 15), .inr (11, xF q 0 1)), ((q 1), .inr (5, [.int 0, .int 0, .int 0, .int 0, .ref (q 20), .ref (q 21), .ref (q 22), .ref (q 23)]))] sz)) 0 0 (va_A [((q 15), .inr (11, xF q 0 1)), ((q 1), .inr (5, [.int 0, .int 0, .int 0, .int 0, .ref (q 20), .ref (q 21), .ref (q 22), .ref (q 23)]))] sz) := by
  refine Met.ofW (cc := cX11_hasTown) (maxL := 1) (ret := (some .boolean)) (by decide) rfl ?_
  intro p e s m args below meth c s₁ B hml hv
  obtain ⟨rfl, hsz, hP, hK, hD0, hG⟩ := hv
  have hx := B.exec
  have hb := B.bytes
  have hr := B.returns
  have hts := atoms_spec (ws := vs_f_X11_hasTown) B.pre
  have hown : s.vm.findClass RX11 = some m.cls := findClass_of_methodNamed B.named
  have hlocks := B.notSynchronized
  have hiX11 : ∀ w ∈ u_ws RX11 TX11 17, w ∈ vs_f_X11_hasTown := vs_f_X11_hasTown_uX11
  have hiX5 : ∀ w ∈ u_ws RX5 TX5 8, w ∈ vs_f_X11_hasTown := vs_f_X11_hasTown_uX5
  subst hsz
  have hD := hD0.self (sz := s.heap.size)
  generalize hAe : va_A [((q 15), .inr (11, xF q 0 1)), ((q 1), .inr (5, [.int 0, .int 0, .int 0, .int 0, .ref (q 20), .ref (q 21), .ref (q 22), .ref (q 23)]))] s.heap.size = A at hD ⊢
  have hA : ∀ q : Nat, s.heap.size ≤ q → A q := fun q h => by rw [← hAe]; exact Or.inr h
  have hS : va_S A s.heap s.heap [] := va_S.rf
  have hP : va_P (dC, dI) vwCl [((q 15), .inr (11, xF q 0 1)), ((q 1), .inr (5, [.int 0, .int 0, .int 0, .int 0, .ref (q 20), .ref (q 21), .ref (q 22), .ref (q 23)]))] s.heap := hP
  have hl := lv_entry ([.ref (q 15)]) (n := 1) (Nat.le_of_ble_eq_true rfl)
  rw [lg_entry_eq]
  generalize (lg_sl ([.ref (q 15)]) ++ List.replicate (1 - (lg_sl ([.ref (q 15)])).length) Slot.unset).toArray = ls at hl ⊢
  have hl : lv_has ls 1 [(0, .ref (q 15))] := hl
  refine lv_aload_n hx hb dX11_hasTown_0 rfl (lv_at hl 0 rfl) ?_
  refine va_get (D := (dC, dI)) (ci := 11) (v := .ref (q 1)) (C := RX11) (T := TX11) (N := 17) hx hb hts hiX11 hown hK hP 0 rfl rfl 1 (by decide) (hts (.fieldLink RX11 19 "WallChapels" "town" "LWallChapels$Plan;") (by decide +kernel)) (fun _ h9 => h9) rfl dX11_hasTown_1 ?_
  refine va_getN (D := (dC, dI)) (ci := 5) (v := .int 0) (C := RX5) (T := TX5) (N := 8) hx hb hts hiX5 hown hK hP 1 rfl rfl 0 (by decide) (gx_u hG 10 rfl rfl) (fun _ h9 => h9) rfl dX11_hasTown_4 ?_
  refine lv_if_le (tgt := 14) hx hb dX11_hasTown_7 (by decide) (fun c_1 => ?_) (fun c_1 => absurd (by decide) c_1)
  refine lv_iconst (v := 0) hx hb dX11_hasTown_14 (by decide) ?_
  exact W.zret (v := 0) hx hb hr rfl (fun t ht hW => ⟨⟨0, (), rfl, rfl, trivial⟩, hS.F ht⟩) hS.2.2 dX11_hasTown_15
def vs_f_X11_areTwoWalkers : List Cond := .code yX11_areTwoWalkers cX11_areTwoWalkers 3 (some .boolean) :: ([.initialized RX11, .instanceMethod yX11_isWalker, .selects RX11 yX11_isWalker yX11_isWalker, .fieldLink RX11 19 "WallChapels" "town" "LWallChapels$Plan;", .code yX11_isWalker cX11_isWalker 2 (some .boolean), .methodLink RX11 196 yX11_isWalker] ++ (u_ws RX11 TX11 17 ++ (u_ws RX5 TX5 8)))
theorem vs_f_X11_areTwoWalkers_uX11 : ∀ w ∈ u_ws RX11 TX11 17, w ∈ vs_f_X11_areTwoWalkers := fun _ h => List.mem_cons_of_mem _ (List.mem_append_right _ (List.mem_append_left _ h))
theorem vs_f_X11_areTwoWalkers_uX5 : ∀ w ∈ u_ws RX5 TX5 8, w ∈ vs_f_X11_areTwoWalkers := fun _ h => List.mem_cons_of_mem _ (List.mem_append_right _ (List.mem_append_right _ (h)))
set_option maxRecDepth 20000 in
theorem g_f_X11_areTwoWalkers_f_X11_isWalker : GoodIn vs_f_X11_areTwoWalkers (wsV RX11 196 RX11 yX11_isWalker vs_f_X11_isWalker) := goodIn_r _ [6, 2, 3, 1, 5, 4, 7, 8, 9, 10, 11, 12, 13, 14, 15, 16, 17, 18, 19, 20, 21, 22, 23, 24, 25, 26, 27, 28, 29, 30, 31] (by decide +kernel) (by decide +kernel)
set_option maxHeartbeats 4000000 in
set_option maxRecDepth 100000 in
theorem f_X11_areTwoWalkers (l : Launch) (dC : Nat → ClassId) (dI : Nat → Nat → Nat) (sz : Nat) (q : Nat → Nat) (p0 : Int32) (p1 : Int32) : Met l yX11_areTwoWalkers vs_f_X11_areTwoWalkers ({ frames := 1, cells := 0, slots := 0, locals := 21 }) (va_Pc [.ref (q 15), .int p0, .int p1] (cW dC dI [((q 15), .inr (11, xF q 0 1)), ((q 1), .inr (5, [.int 0, .int 0, .int 0, .int 0, .ref (q 20), .ref (q 21), .ref (q 22), .ref (q 23)]))] [] sz)) (va_Qi (fun (r : Int32) (_ : Unit) => r = 0) (fun (_ : Unit) (t : State) => True) (va_A [((q 15), .inr (11, xF q 0 1)), ((q 1), .inr (5, [.int 0, .int 0, .int 0, .int 0, .ref (q 20), .ref (q 21), .ref (q 22), .ref (q 23)]))] sz)) 0 0 (va_A [((q 15), .inr (11, xF q 0 1)), ((q 1), .inr (5, [.int 0, .int 0, .int 0, .int 0, .ref (q 20), .ref (q 21), .ref (q 22), .ref (q 23)]))] sz) := by
  refine Met.ofW (cc := cX11_areTwoWalkers) (maxL := 3) (ret := (some .boolean)) (by decide) rfl ?_
  intro p e s m args below meth c s₁ B hml hv
  obtain ⟨rfl, hsz, hP, hK, hD0, hG⟩ := hv
  have hx := B.exec
  have hb := B.bytes
  have hr := B.returns
  have hts := atoms_spec (ws := vs_f_X11_areTwoWalkers) B.pre
  have hown : s.vm.findClass RX11 = some m.cls := findClass_of_methodNamed B.named
  have hlocks := B.notSynchronized
  have hiX11 : ∀ w ∈ u_ws RX11 TX11 17, w ∈ vs_f_X11_areTwoWalkers := vs_f_X11_areTwoWalkers_uX11
  have hiX5 : ∀ w ∈ u_ws RX5 TX5 8, w ∈ vs_f_X11_areTwoWalkers := vs_f_X11_areTwoWalkers_uX5
  subst hsz
  have hD := hD0.self (sz := s.heap.size)
  generalize hAe : va_A [((q 15), .inr (11, xF q 0 1)), ((q 1), .inr (5, [.int 0, .int 0, .int 0, .int 0, .ref (q 20), .ref (q 21), .ref (q 22), .ref (q 23)]))] s.heap.size = A at hD ⊢
  have hA : ∀ q : Nat, s.heap.size ≤ q → A q := fun q h => by rw [← hAe]; exact Or.inr h
  have hS : va_S A s.heap s.heap [] := va_S.rf
  have hP : va_P (dC, dI) vwCl [((q 15), .inr (11, xF q 0 1)), ((q 1), .inr (5, [.int 0, .int 0, .int 0, .int 0, .ref (q 20), .ref (q 21), .ref (q 22), .ref (q 23)]))] s.heap := hP
  have hl := lv_entry ([.ref (q 15), .int p0, .int p1]) (n := 3) (Nat.le_of_ble_eq_true rfl)
  rw [lg_entry_eq]
  generalize (lg_sl ([.ref (q 15), .int p0, .int p1]) ++ List.replicate (3 - (lg_sl ([.ref (q 15), .int p0, .int p1])).length) Slot.unset).toArray = ls at hl ⊢
  have hl : lv_has ls 3 [(0, .ref (q 15)), (1, .int p0), (2, .int p1)] := hl
  refine lv_aload_n hx hb dX11_areTwoWalkers_0 rfl (lv_at hl 0 rfl) ?_
  refine lv_iload_n hx hb dX11_areTwoWalkers_1 rfl (lv_at hl 1 rfl) ?_
  have hPc := hP.sub (ws' := [((q 15), .inr (11, xF q 0 1)), ((q 1), .inr (5, [.int 0, .int 0, .int 0, .int 0, .ref (q 20), .ref (q 21), .ref (q 22), .ref (q 23)]))]) [0, 1] rfl
  have hDc := hD.sub (ws' := [((q 15), .inr (11, xF q 0 1)), ((q 1), .inr (5, [.int 0, .int 0, .int 0, .int 0, .ref (q 20), .ref (q 21), .ref (q 22), .ref (q 23)]))]) [0, 1] (by decide) rfl
  have hKc := hK.sub (tys' := []) [] rfl
  have hFc := va_free (wc := [((q 15), .inr (11, xF q 0 1)), ((q 1), .inr (5, [.int 0, .int 0, .int 0, .int 0, .ref (q 20), .ref (q 21), .ref (q 22), .ref (q 23)]))]) hD hS hA [0, 1] rfl
  refine va_calli (va_runV (As := [.int p0]) (rest := []) ⟨hx, hb, hml, hown, hts⟩ (f_X11_isWalker l dC dI s.heap.size q p0) (cwV 1 hts g_f_X11_areTwoWalkers_f_X11_isWalker rfl rfl rfl (by decide +kernel) ⟨Nat.le_of_ble_eq_true rfl, Nat.le_of_ble_eq_true rfl⟩) ⟨cW_blind, va_recv hKc hPc (ci := 11) (q0 := 0) rfl rfl, fun U hU hW => ⟨rfl, cW_use hU hW hPc hKc hDc hG⟩⟩ rfl rfl hl.1 rfl (lv_room (Nat.le_of_ble_eq_true rfl)) dX11_areTwoWalkers_2 ⟨Nat.le_of_ble_eq_true rfl, Nat.le_of_ble_eq_true rfl⟩) hS (fun q _ h => hFc q h) hFc (fun r_1 u t H1 locs ht hvm hw hB hz1 hk1 hS => ?_)
  obtain ⟨hP, hD⟩ := va_join (wr := []) (w1 := []) hP hD [0, 1] [] rfl rfl (by decide) (by decide) hk1 hFc (va_P_nil H1) va_D_nil
  generalize H1 = H at hP hS ⊢
  have hP : va_P (dC, dI) vwCl [] H := hP
  have hD : va_D A [] := hD
  refine W.widen (k := 0) (n := 0) (Nat.le_of_ble_eq_true rfl) (Nat.le_of_ble_eq_true rfl) ?_
  obtain rfl : r_1 = 0 := hw
  refine lv_if_eq (tgt := 25) hx hb dX11_areTwoWalkers_5 (by decide) (fun c_2 => ?_) (fun c_2 => absurd (by decide) c_2)
  refine lv_iconst (v := 0) hx hb dX11_areTwoWalkers_25 (by decide) ?_
  exact W.zret (v := 0) hx hb hr rfl (fun t ht hW => ⟨⟨0, (), rfl, rfl, trivial⟩, hS.F ht⟩) hS.2.2 dX11_areTwoWalkers_26
def vs_f_X11_logLength : List Cond := .code yX11_logLength cX11_logLength 1 (some .int) :: ([.fieldLink RX11 75 "WallChapels" "now" "LWallChapels$Scene;", .methodLink RX11 289 yJ9_min_7cf53, .static yJ9_min_7cf53, .initialized RJ9, .code yJ9_min_7cf53 cJ9_min_7cf53 2 (some .int)] ++ (u_ws RX11 TX11 17 ++ (u_ws RX6 TX6 7)))
theorem vs_f_X11_logLength_uX11 : ∀ w ∈ u_ws RX11 TX11 17, w ∈ vs_f_X11_logLength := fun _ h => List.mem_cons_of_mem _ (List.mem_append_right _ (List.mem_append_left _ h))
theorem vs_f_X11_logLength_uX6 : ∀ w ∈ u_ws RX6 TX6 7, w ∈ vs_f_X11_logLength := fun _ h => List.mem_cons_of_mem _ (List.mem_append_right _ (List.mem_append_right _ (h)))
set_option maxHeartbeats 4000000 in
set_option maxRecDepth 100000 in
theorem f_X11_logLength (l : Launch) (dC : Nat → ClassId) (dI : Nat → Nat → Nat) (sz : Nat) (q : Nat → Nat) : Met l yX11_logLength vs_f_X11_logLength ({ frames := 1, cells := 0, slots := 0, locals := 13 }) (va_Pc [.ref (q 15)] (cW dC dI [((q 15), .inr (11, xF q 0 1)), ((q 9), .inr (6, [.int 0, .int 0, .int 0, .ref (q 40), .ref (q 41), .ref (q 42), .ref (q 43)]))] [] sz)) (va_Qi (fun (r : Int32) (_ : Unit) => r = 0) (fun (_ : Unit) (t : State) => True) (va_A [((q 15), .inr (11, xF q 0 1)), ((q 9), .inr (6, [.int 0, .int 0, .int 0, .ref (q 40), .ref (q 41), .ref (q 42), .ref (q 43)]))] sz)) 0 0 (va_A [((q 15), .inr (11, xF q 0 1)), ((q 9), .inr (6, [.int 0, .int 0, .int 0, .ref (q 40), .ref (q 41), .ref (q 42), .ref (q 43)]))] sz) := by
  refine Met.ofW (cc := cX11_logLength) (maxL := 1) (ret := (some .int)) (by decide) rfl ?_
  intro p e s m args below meth c s₁ B hml hv
  obtain ⟨rfl, hsz, hP, hK, hD0, hG⟩ := hv
  have hx := B.exec
  have hb := B.bytes
  have hr := B.returns
  have hts := atoms_spec (ws := vs_f_X11_logLength) B.pre
  have hown : s.vm.findClass RX11 = some m.cls := findClass_of_methodNamed B.named
  have hlocks := B.notSynchronized
  have hiX11 : ∀ w ∈ u_ws RX11 TX11 17, w ∈ vs_f_X11_logLength := vs_f_X11_logLength_uX11
  have hiX6 : ∀ w ∈ u_ws RX6 TX6 7, w ∈ vs_f_X11_logLength := vs_f_X11_logLength_uX6
  subst hsz
  have hD := hD0.self (sz := s.heap.size)
  generalize hAe : va_A [((q 15), .inr (11, xF q 0 1)), ((q 9), .inr (6, [.int 0, .int 0, .int 0, .ref (q 40), .ref (q 41), .ref (q 42), .ref (q 43)]))] s.heap.size = A at hD ⊢
  have hA : ∀ q : Nat, s.heap.size ≤ q → A q := fun q h => by rw [← hAe]; exact Or.inr h
  have hS : va_S A s.heap s.heap [] := va_S.rf
  have hP : va_P (dC, dI) vwCl [((q 15), .inr (11, xF q 0 1)), ((q 9), .inr (6, [.int 0, .int 0, .int 0, .ref (q 40), .ref (q 41), .ref (q 42), .ref (q 43)]))] s.heap := hP
  have hl := lv_entry ([.ref (q 15)]) (n := 1) (Nat.le_of_ble_eq_true rfl)
  rw [lg_entry_eq]
  generalize (lg_sl ([.ref (q 15)]) ++ List.replicate (1 - (lg_sl ([.ref (q 15)])).length) Slot.unset).toArray = ls at hl ⊢
  have hl : lv_has ls 1 [(0, .ref (q 15))] := hl
  refine lv_bipush (v := 60) hx hb dX11_logLength_0 (by decide) ?_
  refine lv_aload_n hx hb dX11_logLength_2 rfl (lv_at hl 0 rfl) ?_
  refine va_get (D := (dC, dI)) (ci := 11) (v := .ref (q 9)) (C := RX11) (T := TX11) (N := 17) hx hb hts hiX11 hown hK hP 0 rfl rfl 9 (by decide) (hts (.fieldLink RX11 75 "WallChapels" "now" "LWallChapels$Scene;") (by decide +kernel)) (fun _ h9 => h9) rfl dX11_logLength_3 ?_
  refine va_getN (D := (dC, dI)) (ci := 6) (v := .int 0) (C := RX6) (T := TX6) (N := 7) hx hb hts hiX6 hown hK hP 1 rfl rfl 2 (by decide) (gx_u hG 46 rfl rfl) (fun _ h9 => h9) rfl dX11_logLength_6 ?_
  refine va_mmin hx hb (hml.trans hl.1.symm) hown (hts (.methodLink RX11 289 Lib.Math.min.name) (by decide +kernel)) (hts (.static Lib.Math.min.name) (by decide +kernel)) (hts (.initialized "java/lang/Math") (by decide +kernel)) (hts (.code Lib.Math.min.name Lib.Math.min.code 2 (some .int)) (by decide +kernel)) (Nat.le_of_ble_eq_true rfl) (Nat.le_of_ble_eq_true rfl) (Nat.le_of_ble_eq_true rfl) (Nat.le_of_ble_eq_true rfl) dX11_logLength_9 ?_
  refine lv_topi (fun v_1 e_1 => ?_)
  obtain rfl : v_1 = 0 := by rw [e_1]; decide
  exact W.iret (v := 0) hx hb hr (fun t ht hW => ⟨⟨0, (), rfl, rfl, trivial⟩, hS.F ht⟩) hS.2.2 dX11_logLength_12
def vs_f_X11_corner : List Cond := .code yX11_corner cX11_corner 3 (some .int) :: ([.initialized RX11, .instanceMethod yX11_isCorner, .selects RX11 yX11_isCorner yX11_isCorner, .fieldLink RX11 19 "WallChapels" "town" "LWallChapels$Plan;", .code yX11_isCorner cX11_isCorner 2 (some .boolean), .methodLink RX11 159 yX11_isCorner] ++ (u_ws RX11 TX11 17 ++ (u_ws RX5 TX5 8)))
theorem vs_f_X11_corner_uX11 : ∀ w ∈ u_ws RX11 TX11 17, w ∈ vs_f_X11_corner := fun _ h => List.mem_cons_of_mem _ (List.mem_append_right _ (List.mem_append_left _ h))
theorem vs_f_X11_corner_uX5 : ∀ w ∈ u_ws RX5 TX5 8, w ∈ vs_f_X11_corner := fun _ h => List.mem_cons_of_mem _ (List.mem_append_right _ (List.mem_append_right _ (h)))
set_option maxRecDepth 20000 in
theorem g_f_X11_corner_f_X11_isCorner : GoodIn vs_f_X11_corner (wsV RX11 159 RX11 yX11_isCorner vs_f_X11_isCorner) := goodIn_r _ [6, 2, 3, 1, 5, 4, 7, 8, 9, 10, 11, 12, 13, 14, 15, 16, 17, 18, 19, 20, 21, 22, 23, 24, 25, 26, 27, 28, 29, 30, 31] (by decide +kernel) (by decide +kernel)
set_option maxHeartbeats 4000000 in
set_option maxRecDepth 100000 in
theorem f_X11_corner (l : Launch) (dC : Nat → ClassId) (dI : Nat → Nat → Nat) (sz : Nat) (q : Nat → Nat) (p0 : Int32) (p1 : Int32) : Met l yX11_corner vs_f_X11_corner ({ frames := 1, cells := 0, slots := 0, locals := 21 }) (va_Pc [.ref (q 15), .int p0, .int p1] (cW dC dI [((q 15), .inr (11, xF q 0 1)), ((q 1), .inr (5, [.int 0, .int 0, .int 0, .int 0, .ref (q 20), .ref (q 21), .ref (q 22), .ref (q 23)]))] [] sz)) (va_Qi (fun (r : Int32) (_ : Unit) => r = (-1)) (fun (_ : Unit) (t : State) => True) (va_A [((q 15), .inr (11, xF q 0 1)), ((q 1), .inr (5, [.int 0, .int 0, .int 0, .int 0, .ref (q 20), .ref (q 21), .ref (q 22), .ref (q 23)]))] sz)) 0 0 (va_A [((q 15), .inr (11, xF q 0 1)), ((q 1), .inr (5, [.int 0, .int 0, .int 0, .int 0, .ref (q 20), .ref (q 21), .ref (q 22), .ref (q 23)]))] sz) := by
  refine Met.ofW (cc := cX11_corner) (maxL := 3) (ret := (some .int)) (by decide) rfl ?_
  intro p e s m args below meth c s₁ B hml hv
  obtain ⟨rfl, hsz, hP, hK, hD0, hG⟩ := hv
  have hx := B.exec
  have hb := B.bytes
  have hr := B.returns
  have hts := atoms_spec (ws := vs_f_X11_corner) B.pre
  have hown : s.vm.findClass RX11 = some m.cls := findClass_of_methodNamed B.named
  have hlocks := B.notSynchronized
  have hiX11 : ∀ w ∈ u_ws RX11 TX11 17, w ∈ vs_f_X11_corner := vs_f_X11_corner_uX11
  have hiX5 : ∀ w ∈ u_ws RX5 TX5 8, w ∈ vs_f_X11_corner := vs_f_X11_corner_uX5
  subst hsz
  have hD := hD0.self (sz := s.heap.size)
  generalize hAe : va_A [((q 15), .inr (11, xF q 0 1)), ((q 1), .inr (5, [.int 0, .int 0, .int 0, .int 0, .ref (q 20), .ref (q 21), .ref (q 22), .ref (q 23)]))] s.heap.size = A at hD ⊢
  have hA : ∀ q : Nat, s.heap.size ≤ q → A q := fun q h => by rw [← hAe]; exact Or.inr h
  have hS : va_S A s.heap s.heap [] := va_S.rf
  have hP : va_P (dC, dI) vwCl [((q 15), .inr (11, xF q 0 1)), ((q 1), .inr (5, [.int 0, .int 0, .int 0, .int 0, .ref (q 20), .ref (q 21), .ref (q 22), .ref (q 23)]))] s.heap := hP
  have hl := lv_entry ([.ref (q 15), .int p0, .int p1]) (n := 3) (Nat.le_of_ble_eq_true rfl)
  rw [lg_entry_eq]
  generalize (lg_sl ([.ref (q 15), .int p0, .int p1]) ++ List.replicate (3 - (lg_sl ([.ref (q 15), .int p0, .int p1])).length) Slot.unset).toArray = ls at hl ⊢
  have hl : lv_has ls 3 [(0, .ref (q 15)), (1, .int p0), (2, .int p1)] := hl
  refine lv_aload_n hx hb dX11_corner_0 rfl (lv_at hl 0 rfl) ?_
  refine lv_iload_n hx hb dX11_corner_1 rfl (lv_at hl 1 rfl) ?_
  have hPc := hP.sub (ws' := [((q 15), .inr (11, xF q 0 1)), ((q 1), .inr (5, [.int 0, .int 0, .int 0, .int 0, .ref (q 20), .ref (q 21), .ref (q 22), .ref (q 23)]))]) [0, 1] rfl
  have hDc := hD.sub (ws' := [((q 15), .inr (11, xF q 0 1)), ((q 1), .inr (5, [.int 0, .int 0, .int 0, .int 0, .ref (q 20), .ref (q 21), .ref (q 22), .ref (q 23)]))]) [0, 1] (by decide) rfl
  have hKc := hK.sub (tys' := []) [] rfl
  have hFc := va_free (wc := [((q 15), .inr (11, xF q 0 1)), ((q 1), .inr (5, [.int 0, .int 0, .int 0, .int 0, .ref (q 20), .ref (q 21), .ref (q 22), .ref (q 23)]))]) hD hS hA [0, 1] rfl
  refine va_calli (va_runV (As := [.int p0]) (rest := []) ⟨hx, hb, hml, hown, hts⟩ (f_X11_isCorner l dC dI s.heap.size q p0) (cwV 1 hts g_f_X11_corner_f_X11_isCorner rfl rfl rfl (by decide +kernel) ⟨Nat.le_of_ble_eq_true rfl, Nat.le_of_ble_eq_true rfl⟩) ⟨cW_blind, va_recv hKc hPc (ci := 11) (q0 := 0) rfl rfl, fun U hU hW => ⟨rfl, cW_use hU hW hPc hKc hDc hG⟩⟩ rfl rfl hl.1 rfl (lv_room (Nat.le_of_ble_eq_true rfl)) dX11_corner_2 ⟨Nat.le_of_ble_eq_true rfl, Nat.le_of_ble_eq_true rfl⟩) hS (fun q _ h => hFc q h) hFc (fun r_1 u t H1 locs ht hvm hw hB hz1 hk1 hS => ?_)
  obtain ⟨hP, hD⟩ := va_join (wr := []) (w1 := []) hP hD [0, 1] [] rfl rfl (by decide) (by decide) hk1 hFc (va_P_nil H1) va_D_nil
  generalize H1 = H at hP hS ⊢
  have hP : va_P (dC, dI) vwCl [] H := hP
  have hD : va_D A [] := hD
  refine W.widen (k := 0) (n := 0) (Nat.le_of_ble_eq_true rfl) (Nat.le_of_ble_eq_true rfl) ?_
  obtain rfl : r_1 = 0 := hw
  refine lv_if_ne (tgt := 10) hx hb dX11_corner_5 (by decide) (fun c_2 => absurd c_2 (by decide)) (fun c_2 => ?_)
  refine lv_iconst (v := (-1)) hx hb dX11_corner_8 (by decide) ?_
  exact W.iret (v := (-1)) hx hb hr (fun t ht hW => ⟨⟨(-1), (), rfl, rfl, trivial⟩, hS.F ht⟩) hS.2.2 dX11_corner_9
def vs_f_X11_day : List Cond := .code yX11_day cX11_day 1 (some .int) :: ([.initialized RX11, .instanceMethod yX11_hasTown, .selects RX11 yX11_hasTown yX11_hasTown, .fieldLink RX11 19 "WallChapels" "town" "LWallChapels$Plan;", .code yX11_hasTown cX11_hasTown 1 (some .boolean), .methodLink RX11 239 yX11_hasTown] ++ (u_ws RX11 TX11 17 ++ (u_ws RX5 TX5 8)))
theorem vs_f_X11_day_uX11 : ∀ w ∈ u_ws RX11 TX11 17, w ∈ vs_f_X11_day := fun _ h => List.mem_cons_of_mem _ (List.mem_append_right _ (List.mem_append_left _ h))
theorem vs_f_X11_day_uX5 : ∀ w ∈ u_ws RX5 TX5 8, w ∈ vs_f_X11_day := fun _ h => List.mem_cons_of_mem _ (List.mem_append_right _ (List.mem_append_right _ (h)))
set_option maxRecDepth 20000 in
theorem g_f_X11_day_f_X11_hasTown : GoodIn vs_f_X11_day (wsV RX11 239 RX11 yX11_hasTown vs_f_X11_hasTown) := goodIn_r _ [6, 2, 3, 1, 5, 4, 7, 8, 9, 10, 11, 12, 13, 14, 15, 16, 17, 18, 19, 20, 21, 22, 23, 24, 25, 26, 27, 28, 29, 30, 31] (by decide +kernel) (by decide +kernel)
set_option maxHeartbeats 4000000 in
set_option maxRecDepth 100000 in
theorem f_X11_day (l : Launch) (dC : Nat → ClassId) (dI : Nat → Nat → Nat) (sz : Nat) (q : Nat → Nat) : Met l yX11_day vs_f_X11_day ({ frames := 1, cells := 0, slots := 0, locals := 20 }) (va_Pc [.ref (q 15)] (cW dC dI [((q 15), .inr (11, xF q 0 1)), ((q 1), .inr (5, [.int 0, .int 0, .int 0, .int 0, .ref (q 20), .ref (q 21), .ref (q 22), .ref (q 23)]))] [] sz)) (va_Qi (fun (r : Int32) (_ : Unit) => r = (-1)) (fun (_ : Unit) (t : State) => True) (va_A [((q 15), .inr (11, xF q 0 1)), ((q 1), .inr (5, [.int 0, .int 0, .int 0, .int 0, .ref (q 20), .ref (q 21), .ref (q 22), .ref (q 23)]))] sz)) 0 0 (va_A [((q 15), .inr (11, xF q 0 1)), ((q 1), .inr (5, [.int 0, .int 0, .int 0, .int 0, .ref (q 20), .ref (q 21), .ref (q 22), .ref (q 23)]))] sz) := by
  refine Met.ofW (cc := cX11_day) (maxL := 1) (ret := (some .int)) (by decide) rfl ?_
  intro p e s m args below meth c s₁ B hml hv
  obtain ⟨rfl, hsz, hP, hK, hD0, hG⟩ := hv
  have hx := B.exec
  have hb := B.bytes
  have hr := B.returns
  have hts := atoms_spec (ws := vs_f_X11_day) B.pre
  have hown : s.vm.findClass RX11 = some m.cls := findClass_of_methodNamed B.named
  have hlocks := B.notSynchronized
  have hiX11 : ∀ w ∈ u_ws RX11 TX11 17, w ∈ vs_f_X11_day := vs_f_X11_day_uX11
  have hiX5 : ∀ w ∈ u_ws RX5 TX5 8, w ∈ vs_f_X11_day := vs_f_X11_day_uX5
  subst hsz
  have hD := hD0.self (sz := s.heap.size)
  generalize hAe : va_A [((q 15), .inr (11, xF q 0 1)), ((q 1), .inr (5, [.int 0, .int 0, .int 0, .int 0, .ref (q 20), .ref (q 21), .ref (q 22), .ref (q 23)]))] s.heap.size = A at hD ⊢
  have hA : ∀ q : Nat, s.heap.size ≤ q → A q := fun q h => by rw [← hAe]; exact Or.inr h
  have hS : va_S A s.heap s.heap [] := va_S.rf
  have hP : va_P (dC, dI) vwCl [((q 15), .inr (11, xF q 0 1)), ((q 1), .inr (5, [.int 0, .int 0, .int 0, .int 0, .ref (q 20), .ref (q 21), .ref (q 22), .ref (q 23)]))] s.heap := hP
  have hl := lv_entry ([.ref (q 15)]) (n := 1) (Nat.le_of_ble_eq_true rfl)
  rw [lg_entry_eq]
  generalize (lg_sl ([.ref (q 15)]) ++ List.replicate (1 - (lg_sl ([.ref (q 15)])).length) Slot.unset).toArray = ls at hl ⊢
  have hl : lv_has ls 1 [(0, .ref (q 15))] := hl
  refine lv_aload_n hx hb dX11_day_0 rfl (lv_at hl 0 rfl) ?_
  have hPc := hP.sub (ws' := [((q 15), .inr (11, xF q 0 1)), ((q 1), .inr (5, [.int 0, .int 0, .int 0, .int 0, .ref (q 20), .ref (q 21), .ref (q 22), .ref (q 23)]))]) [0, 1] rfl
  have hDc := hD.sub (ws' := [((q 15), .inr (11, xF q 0 1)), ((q 1), .inr (5, [.int 0, .int 0, .int 0, .int 0, .ref (q 20), .ref (q 21), .ref (q 22), .ref (q 23)]))]) [0, 1] (by decide) rfl
  have hKc := hK.sub (tys' := []) [] rfl
  have hFc := va_free (wc := [((q 15), .inr (11, xF q 0 1)), ((q 1), .inr (5, [.int 0, .int 0, .int 0, .int 0, .ref (q 20), .ref (q 21), .ref (q 22), .ref (q 23)]))]) hD hS hA [0, 1] rfl
  refine va_calli (va_runV (As := []) (rest := []) ⟨hx, hb, hml, hown, hts⟩ (f_X11_hasTown l dC dI s.heap.size q ) (cwV 0 hts g_f_X11_day_f_X11_hasTown rfl rfl rfl (by decide +kernel) ⟨Nat.le_of_ble_eq_true rfl, Nat.le_of_ble_eq_true rfl⟩) ⟨cW_blind, va_recv hKc hPc (ci := 11) (q0 := 0) rfl rfl, fun U hU hW => ⟨rfl, cW_use hU hW hPc hKc hDc hG⟩⟩ rfl rfl hl.1 rfl (lv_room (Nat.le_of_ble_eq_true rfl)) dX11_day_1 ⟨Nat.le_of_ble_eq_true rfl, Nat.le_of_ble_eq_true rfl⟩) hS (fun q _ h => hFc q h) hFc (fun r_1 u t H1 locs ht hvm hw hB hz1 hk1 hS => ?_)
  obtain ⟨hP, hD⟩ := va_join (wr := []) (w1 := []) hP hD [0, 1] [] rfl rfl (by decide) (by decide) hk1 hFc (va_P_nil H1) va_D_nil
  generalize H1 = H at hP hS ⊢
  have hP : va_P (dC, dI) vwCl [] H := hP
  have hD : va_D A [] := hD
  refine W.widen (k := 0) (n := 0) (Nat.le_of_ble_eq_true rfl) (Nat.le_of_ble_eq_true rfl) ?_
  obtain rfl : r_1 = 0 := hw
  refine lv_if_eq (tgt := 20) hx hb dX11_day_4 (by decide) (fun c_2 => ?_) (fun c_2 => absurd (by decide) c_2)
  refine lv_iconst (v := (-1)) hx hb dX11_day_20 (by decide) ?_
  exact W.iret (v := (-1)) hx hb hr (fun t ht hW => ⟨⟨(-1), (), rfl, rfl, trivial⟩, hS.F ht⟩) hS.2.2 dX11_day_21
def vs_f_X11_wall : List Cond := .code yX11_wall cX11_wall 2 (some .int) :: ([.initialized RX11, .instanceMethod yX11_isStreet, .selects RX11 yX11_isStreet yX11_isStreet, .fieldLink RX11 19 "WallChapels" "town" "LWallChapels$Plan;", .code yX11_isStreet cX11_isStreet 2 (some .boolean), .methodLink RX11 181 yX11_isStreet] ++ (u_ws RX11 TX11 17 ++ (u_ws RX5 TX5 8)))
theorem vs_f_X11_wall_uX11 : ∀ w ∈ u_ws RX11 TX11 17, w ∈ vs_f_X11_wall := fun _ h => List.mem_cons_of_mem _ (List.mem_append_right _ (List.mem_append_left _ h))
theorem vs_f_X11_wall_uX5 : ∀ w ∈ u_ws RX5 TX5 8, w ∈ vs_f_X11_wall := fun _ h => List.mem_cons_of_mem _ (List.mem_append_right _ (List.mem_append_right _ (h)))
set_option maxRecDepth 20000 in
theorem g_f_X11_wall_f_X11_isStreet : GoodIn vs_f_X11_wall (wsV RX11 181 RX11 yX11_isStreet vs_f_X11_isStreet) := goodIn_r _ [6, 2, 3, 1, 5, 4, 7, 8, 9, 10, 11, 12, 13, 14, 15, 16, 17, 18, 19, 20, 21, 22, 23, 24, 25, 26, 27, 28, 29, 30, 31] (by decide +kernel) (by decide +kernel)
set_option maxHeartbeats 4000000 in
set_option maxRecDepth 100000 in
theorem f_X11_wall (l : Launch) (dC : Nat → ClassId) (dI : Nat → Nat → Nat) (sz : Nat) (q : Nat → Nat) (p0 : Int32) : Met l yX11_wall vs_f_X11_wall ({ frames := 1, cells := 0, slots := 0, locals := 21 }) (va_Pc [.ref (q 15), .int p0] (cW dC dI [((q 15), .inr (11, xF q 0 1)), ((q 1), .inr (5, [.int 0, .int 0, .int 0, .int 0, .ref (q 20), .ref (q 21), .ref (q 22), .ref (q 23)]))] [] sz)) (va_Qi (fun (r : Int32) (_ : Unit) => r = (-1)) (fun (_ : Unit) (t : State) => True) (va_A [((q 15), .inr (11, xF q 0 1)), ((q 1), .inr (5, [.int 0, .int 0, .int 0, .int 0, .ref (q 20), .ref (q 21), .ref (q 22), .ref (q 23)]))] sz)) 0 0 (va_A [((q 15), .inr (11, xF q 0 1)), ((q 1), .inr (5, [.int 0, .int 0, .int 0, .int 0, .ref (q 20), .ref (q 21), .ref (q 22), .ref (q 23)]))] sz) := by
  refine Met.ofW (cc := cX11_wall) (maxL := 2) (ret := (some .int)) (by decide) rfl ?_
  intro p e s m args below meth c s₁ B hml hv
  obtain ⟨rfl, hsz, hP, hK, hD0, hG⟩ := hv
  have hx := B.exec
  have hb := B.bytes
  have hr := B.returns
  have hts := atoms_spec (ws := vs_f_X11_wall) B.pre
  have hown : s.vm.findClass RX11 = some m.cls := findClass_of_methodNamed B.named
  have hlocks := B.notSynchronized
  have hiX11 : ∀ w ∈ u_ws RX11 TX11 17, w ∈ vs_f_X11_wall := vs_f_X11_wall_uX11
  have hiX5 : ∀ w ∈ u_ws RX5 TX5 8, w ∈ vs_f_X11_wall := vs_f_X11_wall_uX5
  subst hsz
  have hD := hD0.self (sz := s.heap.size)
  generalize hAe : va_A [((q 15), .inr (11, xF q 0 1)), ((q 1), .inr (5, [.int 0, .int 0, .int 0, .int 0, .ref (q 20), .ref (q 21), .ref (q 22), .ref (q 23)]))] s.heap.size = A at hD ⊢
  have hA : ∀ q : Nat, s.heap.size ≤ q → A q := fun q h => by rw [← hAe]; exact Or.inr h
  have hS : va_S A s.heap s.heap [] := va_S.rf
  have hP : va_P (dC, dI) vwCl [((q 15), .inr (11, xF q 0 1)), ((q 1), .inr (5, [.int 0, .int 0, .int 0, .int 0, .ref (q 20), .ref (q 21), .ref (q 22), .ref (q 23)]))] s.heap := hP
  have hl := lv_entry ([.ref (q 15), .int p0]) (n := 2) (Nat.le_of_ble_eq_true rfl)
  rw [lg_entry_eq]
  generalize (lg_sl ([.ref (q 15), .int p0]) ++ List.replicate (2 - (lg_sl ([.ref (q 15), .int p0])).length) Slot.unset).toArray = ls at hl ⊢
  have hl : lv_has ls 2 [(0, .ref (q 15)), (1, .int p0)] := hl
  refine lv_aload_n hx hb dX11_wall_0 rfl (lv_at hl 0 rfl) ?_
  refine lv_iload_n hx hb dX11_wall_1 rfl (lv_at hl 1 rfl) ?_
  have hPc := hP.sub (ws' := [((q 15), .inr (11, xF q 0 1)), ((q 1), .inr (5, [.int 0, .int 0, .int 0, .int 0, .ref (q 20), .ref (q 21), .ref (q 22), .ref (q 23)]))]) [0, 1] rfl
  have hDc := hD.sub (ws' := [((q 15), .inr (11, xF q 0 1)), ((q 1), .inr (5, [.int 0, .int 0, .int 0, .int 0, .ref (q 20), .ref (q 21), .ref (q 22), .ref (q 23)]))]) [0, 1] (by decide) rfl
  have hKc := hK.sub (tys' := []) [] rfl
  have hFc := va_free (wc := [((q 15), .inr (11, xF q 0 1)), ((q 1), .inr (5, [.int 0, .int 0, .int 0, .int 0, .ref (q 20), .ref (q 21), .ref (q 22), .ref (q 23)]))]) hD hS hA [0, 1] rfl
  refine va_calli (va_runV (As := [.int p0]) (rest := []) ⟨hx, hb, hml, hown, hts⟩ (f_X11_isStreet l dC dI s.heap.size q p0) (cwV 1 hts g_f_X11_wall_f_X11_isStreet rfl rfl rfl (by decide +kernel) ⟨Nat.le_of_ble_eq_true rfl, Nat.le_of_ble_eq_true rfl⟩) ⟨cW_blind, va_recv hKc hPc (ci := 11) (q0 := 0) rfl rfl, fun U hU hW => ⟨rfl, cW_use hU hW hPc hKc hDc hG⟩⟩ rfl rfl hl.1 rfl (lv_room (Nat.le_of_ble_eq_true rfl)) dX11_wall_2 ⟨Nat.le_of_ble_eq_true rfl, Nat.le_of_ble_eq_true rfl⟩) hS (fun q _ h => hFc q h) hFc (fun r_1 u t H1 locs ht hvm hw hB hz1 hk1 hS => ?_)
  obtain ⟨hP, hD⟩ := va_join (wr := []) (w1 := []) hP hD [0, 1] [] rfl rfl (by decide) (by decide) hk1 hFc (va_P_nil H1) va_D_nil
  generalize H1 = H at hP hS ⊢
  have hP : va_P (dC, dI) vwCl [] H := hP
  have hD : va_D A [] := hD
  refine W.widen (k := 0) (n := 0) (Nat.le_of_ble_eq_true rfl) (Nat.le_of_ble_eq_true rfl) ?_
  obtain rfl : r_1 = 0 := hw
  refine lv_if_eq (tgt := 19) hx hb dX11_wall_5 (by decide) (fun c_2 => ?_) (fun c_2 => absurd (by decide) c_2)
  refine lv_iconst (v := (-1)) hx hb dX11_wall_19 (by decide) ?_
  exact W.iret (v := (-1)) hx hb hr (fun t ht hW => ⟨⟨(-1), (), rfl, rfl, trivial⟩, hS.F ht⟩) hS.2.2 dX11_wall_20
def vs_f_X11_lamp : List Cond := .code yX11_lamp cX11_lamp 2 (some .int) :: ([.initialized RX11, .instanceMethod yX11_isCorner, .selects RX11 yX11_isCorner yX11_isCorner, .fieldLink RX11 19 "WallChapels" "town" "LWallChapels$Plan;", .code yX11_isCorner cX11_isCorner 2 (some .boolean), .methodLink RX11 159 yX11_isCorner] ++ (u_ws RX11 TX11 17 ++ (u_ws RX5 TX5 8)))
theorem vs_f_X11_lamp_uX11 : ∀ w ∈ u_ws RX11 TX11 17, w ∈ vs_f_X11_lamp := fun _ h => List.mem_cons_of_mem _ (List.mem_append_right _ (List.mem_append_left _ h))
theorem vs_f_X11_lamp_uX5 : ∀ w ∈ u_ws RX5 TX5 8, w ∈ vs_f_X11_lamp := fun _ h => List.mem_cons_of_mem _ (List.mem_append_right _ (List.mem_append_right _ (h)))
set_option maxRecDepth 20000 in
theorem g_f_X11_lamp_f_X11_isCorner : GoodIn vs_f_X11_lamp (wsV RX11 159 RX11 yX11_isCorner vs_f_X11_isCorner) := goodIn_r _ [6, 2, 3, 1, 5, 4, 7, 8, 9, 10, 11, 12, 13, 14, 15, 16, 17, 18, 19, 20, 21, 22, 23, 24, 25, 26, 27, 28, 29, 30, 31] (by decide +kernel) (by decide +kernel)
set_option maxHeartbeats 4000000 in
set_option maxRecDepth 100000 in
theorem f_X11_lamp (l : Launch) (dC : Nat → ClassId) (dI : Nat → Nat → Nat) (sz : Nat) (q : Nat → Nat) (p0 : Int32) : Met l yX11_lamp vs_f_X11_lamp ({ frames := 1, cells := 0, slots := 0, locals := 21 }) (va_Pc [.ref (q 15), .int p0] (cW dC dI [((q 15), .inr (11, xF q 0 1)), ((q 1), .inr (5, [.int 0, .int 0, .int 0, .int 0, .ref (q 20), .ref (q 21), .ref (q 22), .ref (q 23)]))] [] sz)) (va_Qi (fun (r : Int32) (_ : Unit) => r = (-1)) (fun (_ : Unit) (t : State) => True) (va_A [((q 15), .inr (11, xF q 0 1)), ((q 1), .inr (5, [.int 0, .int 0, .int 0, .int 0, .ref (q 20), .ref (q 21), .ref (q 22), .ref (q 23)]))] sz)) 0 0 (va_A [((q 15), .inr (11, xF q 0 1)), ((q 1), .inr (5, [.int 0, .int 0, .int 0, .int 0, .ref (q 20), .ref (q 21), .ref (q 22), .ref (q 23)]))] sz) := by
  refine Met.ofW (cc := cX11_lamp) (maxL := 2) (ret := (some .int)) (by decide) rfl ?_
  intro p e s m args below meth c s₁ B hml hv
  obtain ⟨rfl, hsz, hP, hK, hD0, hG⟩ := hv
  have hx := B.exec
  have hb := B.bytes
  have hr := B.returns
  have hts := atoms_spec (ws := vs_f_X11_lamp) B.pre
  have hown : s.vm.findClass RX11 = some m.cls := findClass_of_methodNamed B.named
  have hlocks := B.notSynchronized
  have hiX11 : ∀ w ∈ u_ws RX11 TX11 17, w ∈ vs_f_X11_lamp := vs_f_X11_lamp_uX11
  have hiX5 : ∀ w ∈ u_ws RX5 TX5 8, w ∈ vs_f_X11_lamp := vs_f_X11_lamp_uX5
  subst hsz
  have hD := hD0.self (sz := s.heap.size)
  generalize hAe : va_A [((q 15), .inr (11, xF q 0 1)), ((q 1), .inr (5, [.int 0, .int 0, .int 0, .int 0, .ref (q 20), .ref (q 21), .ref (q 22), .ref (q 23)]))] s.heap.size = A at hD ⊢
  have hA : ∀ q : Nat, s.heap.size ≤ q → A q := fun q h => by rw [← hAe]; exact Or.inr h
  have hS : va_S A s.heap s.heap [] := va_S.rf
  have hP : va_P (dC, dI) vwCl [((q 15), .inr (11, xF q 0 1)), ((q 1), .inr (5, [.int 0, .int 0, .int 0, .int 0, .ref (q 20), .ref (q 21), .ref (q 22), .ref (q 23)]))] s.heap := hP
  have hl := lv_entry ([.ref (q 15), .int p0]) (n := 2) (Nat.le_of_ble_eq_true rfl)
  rw [lg_entry_eq]
  generalize (lg_sl ([.ref (q 15), .int p0]) ++ List.replicate (2 - (lg_sl ([.ref (q 15), .int p0])).length) Slot.unset).toArray = ls at hl ⊢
  have hl : lv_has ls 2 [(0, .ref (q 15)), (1, .int p0)] := hl
  refine lv_aload_n hx hb dX11_lamp_0 rfl (lv_at hl 0 rfl) ?_
  refine lv_iload_n hx hb dX11_lamp_1 rfl (lv_at hl 1 rfl) ?_
  have hPc := hP.sub (ws' := [((q 15), .inr (11, xF q 0 1)), ((q 1), .inr (5, [.int 0, .int 0, .int 0, .int 0, .ref (q 20), .ref (q 21), .ref (q 22), .ref (q 23)]))]) [0, 1] rfl
  have hDc := hD.sub (ws' := [((q 15), .inr (11, xF q 0 1)), ((q 1), .inr (5, [.int 0, .int 0, .int 0, .int 0, .ref (q 20), .ref (q 21), .ref (q 22), .ref (q 23)]))]) [0, 1] (by decide) rfl
  have hKc := hK.sub (tys' := []) [] rfl
  have hFc := va_free (wc := [((q 15), .inr (11, xF q 0 1)), ((q 1), .inr (5, [.int 0, .int 0, .int 0, .int 0, .ref (q 20), .ref (q 21), .ref (q 22), .ref (q 23)]))]) hD hS hA [0, 1] rfl
  refine va_calli (va_runV (As := [.int p0]) (rest := []) ⟨hx, hb, hml, hown, hts⟩ (f_X11_isCorner l dC dI s.heap.size q p0) (cwV 1 hts g_f_X11_lamp_f_X11_isCorner rfl rfl rfl (by decide +kernel) ⟨Nat.le_of_ble_eq_true rfl, Nat.le_of_ble_eq_true rfl⟩) ⟨cW_blind, va_recv hKc hPc (ci := 11) (q0 := 0) rfl rfl, fun U hU hW => ⟨rfl, cW_use hU hW hPc hKc hDc hG⟩⟩ rfl rfl hl.1 rfl (lv_room (Nat.le_of_ble_eq_true rfl)) dX11_lamp_2 ⟨Nat.le_of_ble_eq_true rfl, Nat.le_of_ble_eq_true rfl⟩) hS (fun q _ h => hFc q h) hFc (fun r_1 u t H1 locs ht hvm hw hB hz1 hk1 hS => ?_)
  obtain ⟨hP, hD⟩ := va_join (wr := []) (w1 := []) hP hD [0, 1] [] rfl rfl (by decide) (by decide) hk1 hFc (va_P_nil H1) va_D_nil
  generalize H1 = H at hP hS ⊢
  have hP : va_P (dC, dI) vwCl [] H := hP
  have hD : va_D A [] := hD
  refine W.widen (k := 0) (n := 0) (Nat.le_of_ble_eq_true rfl) (Nat.le_of_ble_eq_true rfl) ?_
  obtain rfl : r_1 = 0 := hw
  refine lv_if_eq (tgt := 32) hx hb dX11_lamp_5 (by decide) (fun c_2 => ?_) (fun c_2 => absurd (by decide) c_2)
  refine lv_iconst (v := (-1)) hx hb dX11_lamp_32 (by decide) ?_
  exact W.iret (v := (-1)) hx hb hr (fun t ht hW => ⟨⟨(-1), (), rfl, rfl, trivial⟩, hS.F ht⟩) hS.2.2 dX11_lamp_33
def vs_f_X11_moves : List Cond := .code yX11_moves cX11_moves 4 (some .int) :: ([.initialized RX11, .instanceMethod yX11_isWalker, .selects RX11 yX11_isWalker yX11_isWalker, .fieldLink RX11 19 "WallChapels" "town" "LWallChapels$Plan;", .code yX11_isWalker cX11_isWalker 2 (some .boolean), .methodLink RX11 196 yX11_isWalker] ++ (u_ws RX11 TX11 17 ++ (u_ws RX5 TX5 8)))
theorem vs_f_X11_moves_uX11 : ∀ w ∈ u_ws RX11 TX11 17, w ∈ vs_f_X11_moves := fun _ h => List.mem_cons_of_mem _ (List.mem_append_right _ (List.mem_append_left _ h))
theorem vs_f_X11_moves_uX5 : ∀ w ∈ u_ws RX5 TX5 8, w ∈ vs_f_X11_moves := fun _ h => List.mem_cons_of_mem _ (List.mem_append_right _ (List.mem_append_right _ (h)))
set_option maxRecDepth 20000 in
theorem g_f_X11_moves_f_X11_isWalker : GoodIn vs_f_X11_moves (wsV RX11 196 RX11 yX11_isWalker vs_f_X11_isWalker) := goodIn_r _ [6, 2, 3, 1, 5, 4, 7, 8, 9, 10, 11, 12, 13, 14, 15, 16, 17, 18, 19, 20, 21, 22, 23, 24, 25, 26, 27, 28, 29, 30, 31] (by decide +kernel) (by decide +kernel)
set_option maxHeartbeats 4000000 in
set_option maxRecDepth 100000 in
theorem f_X11_moves (l : Launch) (dC : Nat → ClassId) (dI : Nat → Nat → Nat) (sz : Nat) (q : Nat → Nat) (p0 : Int32) (p1 : Int32) : Met l yX11_moves vs_f_X11_moves ({ frames := 1, cells := 0, slots := 0, locals := 21 }) (va_Pc [.ref (q 15), .int p0, .int p1] (cW dC dI [((q 15), .inr (11, xF q 0 1)), ((q 1), .inr (5, [.int 0, .int 0, .int 0, .int 0, .ref (q 20), .ref (q 21), .ref (q 22), .ref (q 23)]))] [] sz)) (va_Qi (fun (r : Int32) (_ : Unit) => r = (-1)) (fun (_ : Unit) (t : State) => True) (va_A [((q 15), .inr (11, xF q 0 1)), ((q 1), .inr (5, [.int 0, .int 0, .int 0, .int 0, .ref (q 20), .ref (q 21), .ref (q 22), .ref (q 23)]))] sz)) 0 0 (va_A [((q 15), .inr (11, xF q 0 1)), ((q 1), .inr (5, [.int 0, .int 0, .int 0, .int 0, .ref (q 20), .ref (q 21), .ref (q 22), .ref (q 23)]))] sz) := by
  refine Met.ofW (cc := cX11_moves) (maxL := 4) (ret := (some .int)) (by decide) rfl ?_
  intro p e s m args below meth c s₁ B hml hv
  obtain ⟨rfl, hsz, hP, hK, hD0, hG⟩ := hv
  have hx := B.exec
  have hb := B.bytes
  have hr := B.returns
  have hts := atoms_spec (ws := vs_f_X11_moves) B.pre
  have hown : s.vm.findClass RX11 = some m.cls := findClass_of_methodNamed B.named
  have hlocks := B.notSynchronized
  have hiX11 : ∀ w ∈ u_ws RX11 TX11 17, w ∈ vs_f_X11_moves := vs_f_X11_moves_uX11
  have hiX5 : ∀ w ∈ u_ws RX5 TX5 8, w ∈ vs_f_X11_moves := vs_f_X11_moves_uX5
  subst hsz
  have hD := hD0.self (sz := s.heap.size)
  generalize hAe : va_A [((q 15), .inr (11, xF q 0 1)), ((q 1), .inr (5, [.int 0, .int 0, .int 0, .int 0, .ref (q 20), .ref (q 21), .ref (q 22), .ref (q 23)]))] s.heap.size = A at hD ⊢
  have hA : ∀ q : Nat, s.heap.size ≤ q → A q := fun q h => by rw [← hAe]; exact Or.inr h
  have hS : va_S A s.heap s.heap [] := va_S.rf
  have hP : va_P (dC, dI) vwCl [((q 15), .inr (11, xF q 0 1)), ((q 1), .inr (5, [.int 0, .int 0, .int 0, .int 0, .ref (q 20), .ref (q 21), .ref (q 22), .ref (q 23)]))] s.heap := hP
  have hl := lv_entry ([.ref (q 15), .int p0, .int p1]) (n := 4) (Nat.le_of_ble_eq_true rfl)
  rw [lg_entry_eq]
  generalize (lg_sl ([.ref (q 15), .int p0, .int p1]) ++ List.replicate (4 - (lg_sl ([.ref (q 15), .int p0, .int p1])).length) Slot.unset).toArray = ls at hl ⊢
  have hl : lv_has ls 4 [(0, .ref (q 15)), (1, .int p0), (2, .int p1)] := hl
  refine lv_aload_n hx hb dX11_moves_0 rfl (lv_at hl 0 rfl) ?_
  refine lv_iload_n hx hb dX11_moves_1 rfl (lv_at hl 1 rfl) ?_
  have hPc := hP.sub (ws' := [((q 15), .inr (11, xF q 0 1)), ((q 1), .inr (5, [.int 0, .int 0, .int 0, .int 0, .ref (q 20), .ref (q 21), .ref (q 22), .ref (q 23)]))]) [0, 1] rfl
  have hDc := hD.sub (ws' := [((q 15), .inr (11, xF q 0 1)), ((q 1), .inr (5, [.int 0, .int 0, .int 0, .int 0, .ref (q 20), .ref (q 21), .ref (q 22), .ref (q 23)]))]) [0, 1] (by decide) rfl
  have hKc := hK.sub (tys' := []) [] rfl
  have hFc := va_free (wc := [((q 15), .inr (11, xF q 0 1)), ((q 1), .inr (5, [.int 0, .int 0, .int 0, .int 0, .ref (q 20), .ref (q 21), .ref (q 22), .ref (q 23)]))]) hD hS hA [0, 1] rfl
  refine va_calli (va_runV (As := [.int p0]) (rest := []) ⟨hx, hb, hml, hown, hts⟩ (f_X11_isWalker l dC dI s.heap.size q p0) (cwV 1 hts g_f_X11_moves_f_X11_isWalker rfl rfl rfl (by decide +kernel) ⟨Nat.le_of_ble_eq_true rfl, Nat.le_of_ble_eq_true rfl⟩) ⟨cW_blind, va_recv hKc hPc (ci := 11) (q0 := 0) rfl rfl, fun U hU hW => ⟨rfl, cW_use hU hW hPc hKc hDc hG⟩⟩ rfl rfl hl.1 rfl (lv_room (Nat.le_of_ble_eq_true rfl)) dX11_moves_2 ⟨Nat.le_of_ble_eq_true rfl, Nat.le_of_ble_eq_true rfl⟩) hS (fun q _ h => hFc q h) hFc (fun r_1 u t H1 locs ht hvm hw hB hz1 hk1 hS => ?_)
  obtain ⟨hP, hD⟩ := va_join (wr := []) (w1 := []) hP hD [0, 1] [] rfl rfl (by decide) (by decide) hk1 hFc (va_P_nil H1) va_D_nil
  generalize H1 = H at hP hS ⊢
  have hP : va_P (dC, dI) vwCl [] H := hP
  have hD : va_D A [] := hD
  refine W.widen (k := 0) (n := 0) (Nat.le_of_ble_eq_true rfl) (Nat.le_of_ble_eq_true rfl) ?_
  obtain rfl : r_1 = 0 := hw
  refine lv_if_eq (tgt := 40) hx hb dX11_moves_5 (by decide) (fun c_2 => ?_) (fun c_2 => absurd (by decide) c_2)
  refine lv_iconst (v := (-1)) hx hb dX11_moves_40 (by decide) ?_
  exact W.iret (v := (-1)) hx hb hr (fun t ht hW => ⟨⟨(-1), (), rfl, rfl, trivial⟩, hS.F ht⟩) hS.2.2 dX11_moves_41
def vs_f_X11_preach : List Cond := .code yX11_preach cX11_preach 2 (some .int) :: ([.initialized RX11, .instanceMethod yX11_isWalker, .selects RX11 yX11_isWalker yX11_isWalker, .fieldLink RX11 19 "WallChapels" "town" "LWallChapels$Plan;", .code yX11_isWalker cX11_isWalker 2 (some .boolean), .methodLink RX11 196 yX11_isWalker] ++ (u_ws RX11 TX11 17 ++ (u_ws RX5 TX5 8)))
theorem vs_f_X11_preach_uX11 : ∀ w ∈ u_ws RX11 TX11 17, w ∈ vs_f_X11_preach := fun _ h => List.mem_cons_of_mem _ (List.mem_append_right _ (List.mem_append_left _ h))
theorem vs_f_X11_preach_uX5 : ∀ w ∈ u_ws RX5 TX5 8, w ∈ vs_f_X11_preach := fun _ h => List.mem_cons_of_mem _ (List.mem_append_right _ (List.mem_append_right _ (h)))
set_option maxRecDepth 20000 in
theorem g_f_X11_preach_f_X11_isWalker : GoodIn vs_f_X11_preach (wsV RX11 196 RX11 yX11_isWalker vs_f_X11_isWalker) := goodIn_r _ [6, 2, 3, 1, 5, 4, 7, 8, 9, 10, 11, 12, 13, 14, 15, 16, 17, 18, 19, 20, 21, 22, 23, 24, 25, 26, 27, 28, 29, 30, 31] (by decide +kernel) (by decide +kernel)
set_option maxHeartbeats 4000000 in
set_option maxRecDepth 100000 in
theorem f_X11_preach (l : Launch) (dC : Nat → ClassId) (dI : Nat → Nat → Nat) (sz : Nat) (q : Nat → Nat) (p0 : Int32) : Met l yX11_preach vs_f_X11_preach ({ frames := 1, cells := 0, slots := 0, locals := 21 }) (va_Pc [.ref (q 15), .int p0] (cW dC dI [((q 15), .inr (11, xF q 0 1)), ((q 1), .inr (5, [.int 0, .int 0, .int 0, .int 0, .ref (q 20), .ref (q 21), .ref (q 22), .ref (q 23)]))] [] sz)) (va_Qi (fun (r : Int32) (_ : Unit) => r = (-1)) (fun (_ : Unit) (t : State) => True) (va_A [((q 15), .inr (11, xF q 0 1)), ((q 1), .inr (5, [.int 0, .int 0, .int 0, .int 0, .ref (q 20), .ref (q 21), .ref (q 22), .ref (q 23)]))] sz)) 0 0 (va_A [((q 15), .inr (11, xF q 0 1)), ((q 1), .inr (5, [.int 0, .int 0, .int 0, .int 0, .ref (q 20), .ref (q 21), .ref (q 22), .ref (q 23)]))] sz) := by
  refine Met.ofW (cc := cX11_preach) (maxL := 2) (ret := (some .int)) (by decide) rfl ?_
  intro p e s m args below meth c s₁ B hml hv
  obtain ⟨rfl, hsz, hP, hK, hD0, hG⟩ := hv
  have hx := B.exec
  have hb := B.bytes
  have hr := B.returns
  have hts := atoms_spec (ws := vs_f_X11_preach) B.pre
  have hown : s.vm.findClass RX11 = some m.cls := findClass_of_methodNamed B.named
  have hlocks := B.notSynchronized
  have hiX11 : ∀ w ∈ u_ws RX11 TX11 17, w ∈ vs_f_X11_preach := vs_f_X11_preach_uX11
  have hiX5 : ∀ w ∈ u_ws RX5 TX5 8, w ∈ vs_f_X11_preach := vs_f_X11_preach_uX5
  subst hsz
  have hD := hD0.self (sz := s.heap.size)
  generalize hAe : va_A [((q 15), .inr (11, xF q 0 1)), ((q 1), .inr (5, [.int 0, .int 0, .int 0, .int 0, .ref (q 20), .ref (q 21), .ref (q 22), .ref (q 23)]))] s.heap.size = A at hD ⊢
  have hA : ∀ q : Nat, s.heap.size ≤ q → A q := fun q h => by rw [← hAe]; exact Or.inr h
  have hS : va_S A s.heap s.heap [] := va_S.rf
  have hP : va_P (dC, dI) vwCl [((q 15), .inr (11, xF q 0 1)), ((q 1), .inr (5, [.int 0, .int 0, .int 0, .int 0, .ref (q 20), .ref (q 21), .ref (q 22), .ref (q 23)]))] s.heap := hP
  have hl := lv_entry ([.ref (q 15), .int p0]) (n := 2) (Nat.le_of_ble_eq_true rfl)
  rw [lg_entry_eq]
  generalize (lg_sl ([.ref (q 15), .int p0]) ++ List.replicate (2 - (lg_sl ([.ref (q 15), .int p0])).length) Slot.unset).toArray = ls at hl ⊢
  have hl : lv_has ls 2 [(0, .ref (q 15)), (1, .int p0)] := hl
  refine lv_aload_n hx hb dX11_preach_0 rfl (lv_at hl 0 rfl) ?_
  refine lv_iload_n hx hb dX11_preach_1 rfl (lv_at hl 1 rfl) ?_
  have hPc := hP.sub (ws' := [((q 15), .inr (11, xF q 0 1)), ((q 1), .inr (5, [.int 0, .int 0, .int 0, .int 0, .ref (q 20), .ref (q 21), .ref (q 22), .ref (q 23)]))]) [0, 1] rfl
  have hDc := hD.sub (ws' := [((q 15), .inr (11, xF q 0 1)), ((q 1), .inr (5, [.int 0, .int 0, .int 0, .int 0, .ref (q 20), .ref (q 21), .ref (q 22), .ref (q 23)]))]) [0, 1] (by decide) rfl
  have hKc := hK.sub (tys' := []) [] rfl
  have hFc := va_free (wc := [((q 15), .inr (11, xF q 0 1)), ((q 1), .inr (5, [.int 0, .int 0, .int 0, .int 0, .ref (q 20), .ref (q 21), .ref (q 22), .ref (q 23)]))]) hD hS hA [0, 1] rfl
  refine va_calli (va_runV (As := [.int p0]) (rest := []) ⟨hx, hb, hml, hown, hts⟩ (f_X11_isWalker l dC dI s.heap.size q p0) (cwV 1 hts g_f_X11_preach_f_X11_isWalker rfl rfl rfl (by decide +kernel) ⟨Nat.le_of_ble_eq_true rfl, Nat.le_of_ble_eq_true rfl⟩) ⟨cW_blind, va_recv hKc hPc (ci := 11) (q0 := 0) rfl rfl, fun U hU hW => ⟨rfl, cW_use hU hW hPc hKc hDc hG⟩⟩ rfl rfl hl.1 rfl (lv_room (Nat.le_of_ble_eq_true rfl)) dX11_preach_2 ⟨Nat.le_of_ble_eq_true rfl, Nat.le_of_ble_eq_true rfl⟩) hS (fun q _ h => hFc q h) hFc (fun r_1 u t H1 locs ht hvm hw hB hz1 hk1 hS => ?_)
  obtain ⟨hP, hD⟩ := va_join (wr := []) (w1 := []) hP hD [0, 1] [] rfl rfl (by decide) (by decide) hk1 hFc (va_P_nil H1) va_D_nil
  generalize H1 = H at hP hS ⊢
  have hP : va_P (dC, dI) vwCl [] H := hP
  have hD : va_D A [] := hD
  refine W.widen (k := 0) (n := 0) (Nat.le_of_ble_eq_true rfl) (Nat.le_of_ble_eq_true rfl) ?_
  obtain rfl : r_1 = 0 := hw
  refine lv_if_eq (tgt := 33) hx hb dX11_preach_5 (by decide) (fun c_2 => ?_) (fun c_2 => absurd (by decide) c_2)
  refine lv_iconst (v := (-1)) hx hb dX11_preach_33 (by decide) ?_
  exact W.iret (v := (-1)) hx hb hr (fun t ht hW => ⟨⟨(-1), (), rfl, rfl, trivial⟩, hS.F ht⟩) hS.2.2 dX11_preach_34
def vs_f_X11_give : List Cond := .code yX11_give cX11_give 2 (some .int) :: ([.initialized RX11, .instanceMethod yX11_hasTown, .selects RX11 yX11_hasTown yX11_hasTown, .fieldLink RX11 19 "WallChapels" "town" "LWallChapels$Plan;", .code yX11_hasTown cX11_hasTown 1 (some .boolean), .methodLink RX11 239 yX11_hasTown] ++ (u_ws RX11 TX11 17 ++ (u_ws RX5 TX5 8)))
theorem vs_f_X11_give_uX11 : ∀ w ∈ u_ws RX11 TX11 17, w ∈ vs_f_X11_give := fun _ h => List.mem_cons_of_mem _ (List.mem_append_right _ (List.mem_append_left _ h))
theorem vs_f_X11_give_uX5 : ∀ w ∈ u_ws RX5 TX5 8, w ∈ vs_f_X11_give := fun _ h => List.mem_cons_of_mem _ (List.mem_append_right _ (List.mem_append_right _ (h)))
set_option maxRecDepth 20000 in
theorem g_f_X11_give_f_X11_hasTown : GoodIn vs_f_X11_give (wsV RX11 239 RX11 yX11_hasTown vs_f_X11_hasTown) := goodIn_r _ [6, 2, 3, 1, 5, 4, 7, 8, 9, 10, 11, 12, 13, 14, 15, 16, 17, 18, 19, 20, 21, 22, 23, 24, 25, 26, 27, 28, 29, 30, 31] (by decide +kernel) (by decide +kernel)
set_option maxHeartbeats 4000000 in
set_option maxRecDepth 100000 in
theorem f_X11_give (l : Launch) (dC : Nat → ClassId) (dI : Nat → Nat → Nat) (sz : Nat) (q : Nat → Nat) (p0 : Int32) : Met l yX11_give vs_f_X11_give ({ frames := 1, cells := 0, slots := 0, locals := 20 }) (va_Pc [.ref (q 15), .int p0] (cW dC dI [((q 15), .inr (11, xF q 0 1)), ((q 1), .inr (5, [.int 0, .int 0, .int 0, .int 0, .ref (q 20), .ref (q 21), .ref (q 22), .ref (q 23)]))] [] sz)) (va_Qi (fun (r : Int32) (_ : Unit) => r = (-1)) (fun (_ : Unit) (t : State) => True) (va_A [((q 15), .inr (11, xF q 0 1)), ((q 1), .inr (5, [.int 0, .int 0, .int 0, .int 0, .ref (q 20), .ref (q 21), .ref (q 22), .ref (q 23)]))] sz)) 0 0 (va_A [((q 15), .inr (11, xF q 0 1)), ((q 1), .inr (5, [.int 0, .int 0, .int 0, .int 0, .ref (q 20), .ref (q 21), .ref (q 22), .ref (q 23)]))] sz) := by
  refine Met.ofW (cc := cX11_give) (maxL := 2) (ret := (some .int)) (by decide) rfl ?_
  intro p e s m args below meth c s₁ B hml hv
  obtain ⟨rfl, hsz, hP, hK, hD0, hG⟩ := hv
  have hx := B.exec
  have hb := B.bytes
  have hr := B.returns
  have hts := atoms_spec (ws := vs_f_X11_give) B.pre
  have hown : s.vm.findClass RX11 = some m.cls := findClass_of_methodNamed B.named
  have hlocks := B.notSynchronized
  have hiX11 : ∀ w ∈ u_ws RX11 TX11 17, w ∈ vs_f_X11_give := vs_f_X11_give_uX11
  have hiX5 : ∀ w ∈ u_ws RX5 TX5 8, w ∈ vs_f_X11_give := vs_f_X11_give_uX5
  subst hsz
  have hD := hD0.self (sz := s.heap.size)
  generalize hAe : va_A [((q 15), .inr (11, xF q 0 1)), ((q 1), .inr (5, [.int 0, .int 0, .int 0, .int 0, .ref (q 20), .ref (q 21), .ref (q 22), .ref (q 23)]))] s.heap.size = A at hD ⊢
  have hA : ∀ q : Nat, s.heap.size ≤ q → A q := fun q h => by rw [← hAe]; exact Or.inr h
  have hS : va_S A s.heap s.heap [] := va_S.rf
  have hP : va_P (dC, dI) vwCl [((q 15), .inr (11, xF q 0 1)), ((q 1), .inr (5, [.int 0, .int 0, .int 0, .int 0, .ref (q 20), .ref (q 21), .ref (q 22), .ref (q 23)]))] s.heap := hP
  have hl := lv_entry ([.ref (q 15), .int p0]) (n := 2) (Nat.le_of_ble_eq_true rfl)
  rw [lg_entry_eq]
  generalize (lg_sl ([.ref (q 15), .int p0]) ++ List.replicate (2 - (lg_sl ([.ref (q 15), .int p0])).length) Slot.unset).toArray = ls at hl ⊢
  have hl : lv_has ls 2 [(0, .ref (q 15)), (1, .int p0)] := hl
  refine lv_aload_n hx hb dX11_give_0 rfl (lv_at hl 0 rfl) ?_
  have hPc := hP.sub (ws' := [((q 15), .inr (11, xF q 0 1)), ((q 1), .inr (5, [.int 0, .int 0, .int 0, .int 0, .ref (q 20), .ref (q 21), .ref (q 22), .ref (q 23)]))]) [0, 1] rfl
  have hDc := hD.sub (ws' := [((q 15), .inr (11, xF q 0 1)), ((q 1), .inr (5, [.int 0, .int 0, .int 0, .int 0, .ref (q 20), .ref (q 21), .ref (q 22), .ref (q 23)]))]) [0, 1] (by decide) rfl
  have hKc := hK.sub (tys' := []) [] rfl
  have hFc := va_free (wc := [((q 15), .inr (11, xF q 0 1)), ((q 1), .inr (5, [.int 0, .int 0, .int 0, .int 0, .ref (q 20), .ref (q 21), .ref (q 22), .ref (q 23)]))]) hD hS hA [0, 1] rfl
  refine va_calli (va_runV (As := []) (rest := []) ⟨hx, hb, hml, hown, hts⟩ (f_X11_hasTown l dC dI s.heap.size q ) (cwV 0 hts g_f_X11_give_f_X11_hasTown rfl rfl rfl (by decide +kernel) ⟨Nat.le_of_ble_eq_true rfl, Nat.le_of_ble_eq_true rfl⟩) ⟨cW_blind, va_recv hKc hPc (ci := 11) (q0 := 0) rfl rfl, fun U hU hW => ⟨rfl, cW_use hU hW hPc hKc hDc hG⟩⟩ rfl rfl hl.1 rfl (lv_room (Nat.le_of_ble_eq_true rfl)) dX11_give_1 ⟨Nat.le_of_ble_eq_true rfl, Nat.le_of_ble_eq_true rfl⟩) hS (fun q _ h => hFc q h) hFc (fun r_1 u t H1 locs ht hvm hw hB hz1 hk1 hS => ?_)
  obtain ⟨hP, hD⟩ := va_join (wr := []) (w1 := []) hP hD [0, 1] [] rfl rfl (by decide) (by decide) hk1 hFc (va_P_nil H1) va_D_nil
  generalize H1 = H at hP hS ⊢
  have hP : va_P (dC, dI) vwCl [] H := hP
  have hD : va_D A [] := hD
  refine W.widen (k := 0) (n := 0) (Nat.le_of_ble_eq_true rfl) (Nat.le_of_ble_eq_true rfl) ?_
  obtain rfl : r_1 = 0 := hw
  refine lv_if_eq (tgt := 33) hx hb dX11_give_4 (by decide) (fun c_2 => ?_) (fun c_2 => absurd (by decide) c_2)
  refine lv_iconst (v := (-1)) hx hb dX11_give_33 (by decide) ?_
  exact W.iret (v := (-1)) hx hb hr (fun t ht hW => ⟨⟨(-1), (), rfl, rfl, trivial⟩, hS.F ht⟩) hS.2.2 dX11_give_34
def vs_f_X11_years : List Cond := .code yX11_years cX11_years 9 (some .int) :: ([.initialized RX11, .instanceMethod yX11_hasTown, .selects RX11 yX11_hasTown yX11_hasTown, .fieldLink RX11 19 "WallChapels" "town" "LWallChapels$Plan;", .code yX11_hasTown cX11_hasTown 1 (some .boolean), .methodLink RX11 239 yX11_hasTown] ++ (u_ws RX11 TX11 17 ++ (u_ws RX5 TX5 8)))
theorem vs_f_X11_years_uX11 : ∀ w ∈ u_ws RX11 TX11 17, w ∈ vs_f_X11_years := fun _ h => List.mem_cons_of_mem _ (List.mem_append_right _ (List.mem_append_left _ h))
theorem vs_f_X11_years_uX5 : ∀ w ∈ u_ws RX5 TX5 8, w ∈ vs_f_X11_years := fun _ h => List.mem_cons_of_mem _ (List.mem_append_right _ (List.mem_append_right _ (h)))
set_option maxRecDepth 20000 in
theorem g_f_X11_years_f_X11_hasTown : GoodIn vs_f_X11_years (wsV RX11 239 RX11 yX11_hasTown vs_f_X11_hasTown) := goodIn_r _ [6, 2, 3, 1, 5, 4, 7, 8, 9, 10, 11, 12, 13, 14, 15, 16, 17, 18, 19, 20, 21, 22, 23, 24, 25, 26, 27, 28, 29, 30, 31] (by decide +kernel) (by decide +kernel)
set_option maxHeartbeats 4000000 in
set_option maxRecDepth 100000 in
theorem f_X11_years (l : Launch) (dC : Nat → ClassId) (dI : Nat → Nat → Nat) (sz : Nat) (q : Nat → Nat) (p0 : Int32) (p1 : Int64) : Met l yX11_years vs_f_X11_years ({ frames := 1, cells := 0, slots := 0, locals := 20 }) (va_Pc [.ref (q 15), .int p0, .long p1] (cW dC dI [((q 15), .inr (11, xF q 0 1)), ((q 1), .inr (5, [.int 0, .int 0, .int 0, .int 0, .ref (q 20), .ref (q 21), .ref (q 22), .ref (q 23)]))] [] sz)) (va_Qi (fun (r : Int32) (_ : Unit) => r = (-1)) (fun (_ : Unit) (t : State) => True) (va_A [((q 15), .inr (11, xF q 0 1)), ((q 1), .inr (5, [.int 0, .int 0, .int 0, .int 0, .ref (q 20), .ref (q 21), .ref (q 22), .ref (q 23)]))] sz)) 0 0 (va_A [((q 15), .inr (11, xF q 0 1)), ((q 1), .inr (5, [.int 0, .int 0, .int 0, .int 0, .ref (q 20), .ref (q 21), .ref (q 22), .ref (q 23)]))] sz) := by
  refine Met.ofW (cc := cX11_years) (maxL := 9) (ret := (some .int)) (by decide) rfl ?_
  intro p e s m args below meth c s₁ B hml hv
  obtain ⟨rfl, hsz, hP, hK, hD0, hG⟩ := hv
  have hx := B.exec
  have hb := B.bytes
  have hr := B.returns
  have hts := atoms_spec (ws := vs_f_X11_years) B.pre
  have hown : s.vm.findClass RX11 = some m.cls := findClass_of_methodNamed B.named
  have hlocks := B.notSynchronized
  have hiX11 : ∀ w ∈ u_ws RX11 TX11 17, w ∈ vs_f_X11_years := vs_f_X11_years_uX11
  have hiX5 : ∀ w ∈ u_ws RX5 TX5 8, w ∈ vs_f_X11_years := vs_f_X11_years_uX5
  subst hsz
  have hD := hD0.self (sz := s.heap.size)
  generalize hAe : va_A [((q 15), .inr (11, xF q 0 1)), ((q 1), .inr (5, [.int 0, .int 0, .int 0, .int 0, .ref (q 20), .ref (q 21), .ref (q 22), .ref (q 23)]))] s.heap.size = A at hD ⊢
  have hA : ∀ q : Nat, s.heap.size ≤ q → A q := fun q h => by rw [← hAe]; exact Or.inr h
  have hS : va_S A s.heap s.heap [] := va_S.rf
  have hP : va_P (dC, dI) vwCl [((q 15), .inr (11, xF q 0 1)), ((q 1), .inr (5, [.int 0, .int 0, .int 0, .int 0, .ref (q 20), .ref (q 21), .ref (q 22), .ref (q 23)]))] s.heap := hP
  have hl := lv_entry ([.ref (q 15), .int p0, .long p1]) (n := 9) (Nat.le_of_ble_eq_true rfl)
  rw [lg_entry_eq]
  generalize (lg_sl ([.ref (q 15), .int p0, .long p1]) ++ List.replicate (9 - (lg_sl ([.ref (q 15), .int p0, .long p1])).length) Slot.unset).toArray = ls at hl ⊢
  have hl : lv_has ls 9 [(0, .ref (q 15)), (1, .int p0), (2, .long p1)] := hl
  refine lv_aload_n hx hb dX11_years_0 rfl (lv_at hl 0 rfl) ?_
  have hPc := hP.sub (ws' := [((q 15), .inr (11, xF q 0 1)), ((q 1), .inr (5, [.int 0, .int 0, .int 0, .int 0, .ref (q 20), .ref (q 21), .ref (q 22), .ref (q 23)]))]) [0, 1] rfl
  have hDc := hD.sub (ws' := [((q 15), .inr (11, xF q 0 1)), ((q 1), .inr (5, [.int 0, .int 0, .int 0, .int 0, .ref (q 20), .ref (q 21), .ref (q 22), .ref (q 23)]))]) [0, 1] (by decide) rfl
  have hKc := hK.sub (tys' := []) [] rfl
  have hFc := va_free (wc := [((q 15), .inr (11, xF q 0 1)), ((q 1), .inr (5, [.int 0, .int 0, .int 0, .int 0, .ref (q 20), .ref (q 21), .ref (q 22), .ref (q 23)]))]) hD hS hA [0, 1] rfl
  refine va_calli (va_runV (As := []) (rest := []) ⟨hx, hb, hml, hown, hts⟩ (f_X11_hasTown l dC dI s.heap.size q ) (cwV 0 hts g_f_X11_years_f_X11_hasTown rfl rfl rfl (by decide +kernel) ⟨Nat.le_of_ble_eq_true rfl, Nat.le_of_ble_eq_true rfl⟩) ⟨cW_blind, va_recv hKc hPc (ci := 11) (q0 := 0) rfl rfl, fun U hU hW => ⟨rfl, cW_use hU hW hPc hKc hDc hG⟩⟩ rfl rfl hl.1 rfl (lv_room (Nat.le_of_ble_eq_true rfl)) dX11_years_1 ⟨Nat.le_of_ble_eq_true rfl, Nat.le_of_ble_eq_true rfl⟩) hS (fun q _ h => hFc q h) hFc (fun r_1 u t H1 locs ht hvm hw hB hz1 hk1 hS => ?_)
  obtain ⟨hP, hD⟩ := va_join (wr := []) (w1 := []) hP hD [0, 1] [] rfl rfl (by decide) (by decide) hk1 hFc (va_P_nil H1) va_D_nil
  generalize H1 = H at hP hS ⊢
  have hP : va_P (dC, dI) vwCl [] H := hP
  have hD : va_D A [] := hD
  refine W.widen (k := 0) (n := 0) (Nat.le_of_ble_eq_true rfl) (Nat.le_of_ble_eq_true rfl) ?_
  obtain rfl : r_1 = 0 := hw
  refine lv_if_eq (tgt := 33) hx hb dX11_years_4 (by decide) (fun c_2 => ?_) (fun c_2 => absurd (by decide) c_2)
  refine lv_iconst (v := (-1)) hx hb dX11_years_33 (by decide) ?_
  exact W.iret (v := (-1)) hx hb hr (fun t ht hW => ⟨⟨(-1), (), rfl, rfl, trivial⟩, hS.F ht⟩) hS.2.2 dX11_years_34
def vs_f_X11_image : List Cond := .code yX11_image cX11_image 1 (some .int) :: ([.initialized RX11, .instanceMethod yX11_hasTown, .selects RX11 yX11_hasTown yX11_hasTown, .fieldLink RX11 19 "WallChapels" "town" "LWallChapels$Plan;", .code yX11_hasTown cX11_hasTown 1 (some .boolean), .methodLink RX11 239 yX11_hasTown] ++ (u_ws RX11 TX11 17 ++ (u_ws RX5 TX5 8)))
theorem vs_f_X11_image_uX11 : ∀ w ∈ u_ws RX11 TX11 17, w ∈ vs_f_X11_image := fun _ h => List.mem_cons_of_mem _ (List.mem_append_right _ (List.mem_append_left _ h))
theorem vs_f_X11_image_uX5 : ∀ w ∈ u_ws RX5 TX5 8, w ∈ vs_f_X11_image := fun _ h => List.mem_cons_of_mem _ (List.mem_append_right _ (List.mem_append_right _ (h)))
set_option maxRecDepth 20000 in
theorem g_f_X11_image_f_X11_hasTown : GoodIn vs_f_X11_image (wsV RX11 239 RX11 yX11_hasTown vs_f_X11_hasTown) := goodIn_r _ [6, 2, 3, 1, 5, 4, 7, 8, 9, 10, 11, 12, 13, 14, 15, 16, 17, 18, 19, 20, 21, 22, 23, 24, 25, 26, 27, 28, 29, 30, 31] (by decide +kernel) (by decide +kernel)
set_option maxHeartbeats 4000000 in
set_option maxRecDepth 100000 in
theorem f_X11_image (l : Launch) (dC : Nat → ClassId) (dI : Nat → Nat → Nat) (sz : Nat) (q : Nat → Nat) : Met l yX11_image vs_f_X11_image ({ frames := 1, cells := 0, slots := 0, locals := 20 }) (va_Pc [.ref (q 15)] (cW dC dI [((q 15), .inr (11, xF q 0 1)), ((q 1), .inr (5, [.int 0, .int 0, .int 0, .int 0, .ref (q 20), .ref (q 21), .ref (q 22), .ref (q 23)]))] [] sz)) (va_Qi (fun (r : Int32) (_ : Unit) => r = (-1)) (fun (_ : Unit) (t : State) => True) (va_A [((q 15), .inr (11, xF q 0 1)), ((q 1), .inr (5, [.int 0, .int 0, .int 0, .int 0, .ref (q 20), .ref (q 21), .ref (q 22), .ref (q 23)]))] sz)) 0 0 (va_A [((q 15), .inr (11, xF q 0 1)), ((q 1), .inr (5, [.int 0, .int 0, .int 0, .int 0, .ref (q 20), .ref (q 21), .ref (q 22), .ref (q 23)]))] sz) := by
  refine Met.ofW (cc := cX11_image) (maxL := 1) (ret := (some .int)) (by decide) rfl ?_
  intro p e s m args below meth c s₁ B hml hv
  obtain ⟨rfl, hsz, hP, hK, hD0, hG⟩ := hv
  have hx := B.exec
  have hb := B.bytes
  have hr := B.returns
  have hts := atoms_spec (ws := vs_f_X11_image) B.pre
  have hown : s.vm.findClass RX11 = some m.cls := findClass_of_methodNamed B.named
  have hlocks := B.notSynchronized
  have hiX11 : ∀ w ∈ u_ws RX11 TX11 17, w ∈ vs_f_X11_image := vs_f_X11_image_uX11
  have hiX5 : ∀ w ∈ u_ws RX5 TX5 8, w ∈ vs_f_X11_image := vs_f_X11_image_uX5
  subst hsz
  have hD := hD0.self (sz := s.heap.size)
  generalize hAe : va_A [((q 15), .inr (11, xF q 0 1)), ((q 1), .inr (5, [.int 0, .int 0, .int 0, .int 0, .ref (q 20), .ref (q 21), .ref (q 22), .ref (q 23)]))] s.heap.size = A at hD ⊢
  have hA : ∀ q : Nat, s.heap.size ≤ q → A q := fun q h => by rw [← hAe]; exact Or.inr h
  have hS : va_S A s.heap s.heap [] := va_S.rf
  have hP : va_P (dC, dI) vwCl [((q 15), .inr (11, xF q 0 1)), ((q 1), .inr (5, [.int 0, .int 0, .int 0, .int 0, .ref (q 20), .ref (q 21), .ref (q 22), .ref (q 23)]))] s.heap := hP
  have hl := lv_entry ([.ref (q 15)]) (n := 1) (Nat.le_of_ble_eq_true rfl)
  rw [lg_entry_eq]
  generalize (lg_sl ([.ref (q 15)]) ++ List.replicate (1 - (lg_sl ([.ref (q 15)])).length) Slot.unset).toArray = ls at hl ⊢
  have hl : lv_has ls 1 [(0, .ref (q 15))] := hl
  refine lv_aload_n hx hb dX11_image_0 rfl (lv_at hl 0 rfl) ?_
  have hPc := hP.sub (ws' := [((q 15), .inr (11, xF q 0 1)), ((q 1), .inr (5, [.int 0, .int 0, .int 0, .int 0, .ref (q 20), .ref (q 21), .ref (q 22), .ref (q 23)]))]) [0, 1] rfl
  have hDc := hD.sub (ws' := [((q 15), .inr (11, xF q 0 1)), ((q 1), .inr (5, [.int 0, .int 0, .int 0, .int 0, .ref (q 20), .ref (q 21), .ref (q 22), .ref (q 23)]))]) [0, 1] (by decide) rfl
  have hKc := hK.sub (tys' := []) [] rfl
  have hFc := va_free (wc := [((q 15), .inr (11, xF q 0 1)), ((q 1), .inr (5, [.int 0, .int 0, .int 0, .int 0, .ref (q 20), .ref (q 21), .ref (q 22), .ref (q 23)]))]) hD hS hA [0, 1] rfl
  refine va_calli (va_runV (As := []) (rest := []) ⟨hx, hb, hml, hown, hts⟩ (f_X11_hasTown l dC dI s.heap.size q ) (cwV 0 hts g_f_X11_image_f_X11_hasTown rfl rfl rfl (by decide +kernel) ⟨Nat.le_of_ble_eq_true rfl, Nat.le_of_ble_eq_true rfl⟩) ⟨cW_blind, va_recv hKc hPc (ci := 11) (q0 := 0) rfl rfl, fun U hU hW => ⟨rfl, cW_use hU hW hPc hKc hDc hG⟩⟩ rfl rfl hl.1 rfl (lv_room (Nat.le_of_ble_eq_true rfl)) dX11_image_1 ⟨Nat.le_of_ble_eq_true rfl, Nat.le_of_ble_eq_true rfl⟩) hS (fun q _ h => hFc q h) hFc (fun r_1 u t H1 locs ht hvm hw hB hz1 hk1 hS => ?_)
  obtain ⟨hP, hD⟩ := va_join (wr := []) (w1 := []) hP hD [0, 1] [] rfl rfl (by decide) (by decide) hk1 hFc (va_P_nil H1) va_D_nil
  generalize H1 = H at hP hS ⊢
  have hP : va_P (dC, dI) vwCl [] H := hP
  have hD : va_D A [] := hD
  refine W.widen (k := 0) (n := 0) (Nat.le_of_ble_eq_true rfl) (Nat.le_of_ble_eq_true rfl) ?_
  obtain rfl : r_1 = 0 := hw
  refine lv_if_ne (tgt := 9) hx hb dX11_image_4 (by decide) (fun c_2 => absurd c_2 (by decide)) (fun c_2 => ?_)
  refine lv_iconst (v := (-1)) hx hb dX11_image_7 (by decide) ?_
  exact W.iret (v := (-1)) hx hb hr (fun t ht hW => ⟨⟨(-1), (), rfl, rfl, trivial⟩, hS.F ht⟩) hS.2.2 dX11_image_8
def vs_f_X11_far : List Cond := .code yX11_far cX11_far 3 (some .int) :: ([.initialized RX11, .instanceMethod yX11_isCorner, .selects RX11 yX11_isCorner yX11_isCorner, .fieldLink RX11 19 "WallChapels" "town" "LWallChapels$Plan;", .code yX11_isCorner cX11_isCorner 2 (some .boolean), .methodLink RX11 159 yX11_isCorner] ++ (u_ws RX11 TX11 17 ++ (u_ws RX5 TX5 8)))
theorem vs_f_X11_far_uX11 : ∀ w ∈ u_ws RX11 TX11 17, w ∈ vs_f_X11_far := fun _ h => List.mem_cons_of_mem _ (List.mem_append_right _ (List.mem_append_left _ h))
theorem vs_f_X11_far_uX5 : ∀ w ∈ u_ws RX5 TX5 8, w ∈ vs_f_X11_far := fun _ h => List.mem_cons_of_mem _ (List.mem_append_right _ (List.mem_append_right _ (h)))
set_option maxRecDepth 20000 in
theorem g_f_X11_far_f_X11_isCorner : GoodIn vs_f_X11_far (wsV RX11 159 RX11 yX11_isCorner vs_f_X11_isCorner) := goodIn_r _ [6, 2, 3, 1, 5, 4, 7, 8, 9, 10, 11, 12, 13, 14, 15, 16, 17, 18, 19, 20, 21, 22, 23, 24, 25, 26, 27, 28, 29, 30, 31] (by decide +kernel) (by decide +kernel)
set_option maxHeartbeats 4000000 in
set_option maxRecDepth 100000 in
theorem f_X11_far (l : Launch) (dC : Nat → ClassId) (dI : Nat → Nat → Nat) (sz : Nat) (q : Nat → Nat) (p0 : Int32) (p1 : Int32) : Met l yX11_far vs_f_X11_far ({ frames := 1, cells := 0, slots := 0, locals := 21 }) (va_Pc [.ref (q 15), .int p0, .int p1] (cW dC dI [((q 15), .inr (11, xF q 0 1)), ((q 1), .inr (5, [.int 0, .int 0, .int 0, .int 0, .ref (q 20), .ref (q 21), .ref (q 22), .ref (q 23)]))] [] sz)) (va_Qi (fun (r : Int32) (_ : Unit) => r = (-1)) (fun (_ : Unit) (t : State) => True) (va_A [((q 15), .inr (11, xF q 0 1)), ((q 1), .inr (5, [.int 0, .int 0, .int 0, .int 0, .ref (q 20), .ref (q 21), .ref (q 22), .ref (q 23)]))] sz)) 0 0 (va_A [((q 15), .inr (11, xF q 0 1)), ((q 1), .inr (5, [.int 0, .int 0, .int 0, .int 0, .ref (q 20), .ref (q 21), .ref (q 22), .ref (q 23)]))] sz) := by
  refine Met.ofW (cc := cX11_far) (maxL := 3) (ret := (some .int)) (by decide) rfl ?_
  intro p e s m args below meth c s₁ B hml hv
  obtain ⟨rfl, hsz, hP, hK, hD0, hG⟩ := hv
  have hx := B.exec
  have hb := B.bytes
  have hr := B.returns
  have hts := atoms_spec (ws := vs_f_X11_far) B.pre
  have hown : s.vm.findClass RX11 = some m.cls := findClass_of_methodNamed B.named
  have hlocks := B.notSynchronized
  have hiX11 : ∀ w ∈ u_ws RX11 TX11 17, w ∈ vs_f_X11_far := vs_f_X11_far_uX11
  have hiX5 : ∀ w ∈ u_ws RX5 TX5 8, w ∈ vs_f_X11_far := vs_f_X11_far_uX5
  subst hsz
  have hD := hD0.self (sz := s.heap.size)
  generalize hAe : va_A [((q 15), .inr (11, xF q 0 1)), ((q 1), .inr (5, [.int 0, .int 0, .int 0, .int 0, .ref (q 20), .ref (q 21), .ref (q 22), .ref (q 23)]))] s.heap.size = A at hD ⊢
  have hA : ∀ q : Nat, s.heap.size ≤ q → A q := fun q h => by rw [← hAe]; exact Or.inr h
  have hS : va_S A s.heap s.heap [] := va_S.rf
  have hP : va_P (dC, dI) vwCl [((q 15), .inr (11, xF q 0 1)), ((q 1), .inr (5, [.int 0, .int 0, .int 0, .int 0, .ref (q 20), .ref (q 21), .ref (q 22), .ref (q 23)]))] s.heap := hP
  have hl := lv_entry ([.ref (q 15), .int p0, .int p1]) (n := 3) (Nat.le_of_ble_eq_true rfl)
  rw [lg_entry_eq]
  generalize (lg_sl ([.ref (q 15), .int p0, .int p1]) ++ List.replicate (3 - (lg_sl ([.ref (q 15), .int p0, .int p1])).length) Slot.unset).toArray = ls at hl ⊢
  have hl : lv_has ls 3 [(0, .ref (q 15)), (1, .int p0), (2, .int p1)] := hl
  refine lv_aload_n hx hb dX11_far_0 rfl (lv_at hl 0 rfl) ?_
  refine lv_iload_n hx hb dX11_far_1 rfl (lv_at hl 1 rfl) ?_
  have hPc := hP.sub (ws' := [((q 15), .inr (11, xF q 0 1)), ((q 1), .inr (5, [.int 0, .int 0, .int 0, .int 0, .ref (q 20), .ref (q 21), .ref (q 22), .ref (q 23)]))]) [0, 1] rfl
  have hDc := hD.sub (ws' := [((q 15), .inr (11, xF q 0 1)), ((q 1), .inr (5, [.int 0, .int 0, .int 0, .int 0, .ref (q 20), .ref (q 21), .ref (q 22), .ref (q 23)]))]) [0, 1] (by decide) rfl
  have hKc := hK.sub (tys' := []) [] rfl
  have hFc := va_free (wc := [((q 15), .inr (11, xF q 0 1)), ((q 1), .inr (5, [.int 0, .int 0, .int 0, .int 0, .ref (q 20), .ref (q 21), .ref (q 22), .ref (q 23)]))]) hD hS hA [0, 1] rfl
  refine va_calli (va_runV (As := [.int p0]) (rest := []) ⟨hx, hb, hml, hown, hts⟩ (f_X11_isCorner l dC dI s.heap.size q p0) (cwV 1 hts g_f_X11_far_f_X11_isCorner rfl rfl rfl (by decide +kernel) ⟨Nat.le_of_ble_eq_true rfl, Nat.le_of_ble_eq_true rfl⟩) ⟨cW_blind, va_recv hKc hPc (ci := 11) (q0 := 0) rfl rfl, fun U hU hW => ⟨rfl, cW_use hU hW hPc hKc hDc hG⟩⟩ rfl rfl hl.1 rfl (lv_room (Nat.le_of_ble_eq_true rfl)) dX11_far_2 ⟨Nat.le_of_ble_eq_true rfl, Nat.le_of_ble_eq_true rfl⟩) hS (fun q _ h => hFc q h) hFc (fun r_1 u t H1 locs ht hvm hw hB hz1 hk1 hS => ?_)
  obtain ⟨hP, hD⟩ := va_join (wr := []) (w1 := []) hP hD [0, 1] [] rfl rfl (by decide) (by decide) hk1 hFc (va_P_nil H1) va_D_nil
  generalize H1 = H at hP hS ⊢
  have hP : va_P (dC, dI) vwCl [] H := hP
  have hD : va_D A [] := hD
  refine W.widen (k := 0) (n := 0) (Nat.le_of_ble_eq_true rfl) (Nat.le_of_ble_eq_true rfl) ?_
  obtain rfl : r_1 = 0 := hw
  refine lv_if_eq (tgt := 16) hx hb dX11_far_5 (by decide) (fun c_2 => ?_) (fun c_2 => absurd (by decide) c_2)
  refine lv_iconst (v := (-1)) hx hb dX11_far_16 (by decide) ?_
  exact W.iret (v := (-1)) hx hb hr (fun t ht hW => ⟨⟨(-1), (), rfl, rfl, trivial⟩, hS.F ht⟩) hS.2.2 dX11_far_17
def vs_f_X11_way : List Cond := .code yX11_way cX11_way 3 (some .int) :: ([.initialized RX11, .instanceMethod yX11_isCorner, .selects RX11 yX11_isCorner yX11_isCorner, .fieldLink RX11 19 "WallChapels" "town" "LWallChapels$Plan;", .code yX11_isCorner cX11_isCorner 2 (some .boolean), .methodLink RX11 159 yX11_isCorner] ++ (u_ws RX11 TX11 17 ++ (u_ws RX5 TX5 8)))
theorem vs_f_X11_way_uX11 : ∀ w ∈ u_ws RX11 TX11 17, w ∈ vs_f_X11_way := fun _ h => List.mem_cons_of_mem _ (List.mem_append_right _ (List.mem_append_left _ h))
theorem vs_f_X11_way_uX5 : ∀ w ∈ u_ws RX5 TX5 8, w ∈ vs_f_X11_way := fun _ h => List.mem_cons_of_mem _ (List.mem_append_right _ (List.mem_append_right _ (h)))
set_option maxRecDepth 20000 in
theorem g_f_X11_way_f_X11_isCorner : GoodIn vs_f_X11_way (wsV RX11 159 RX11 yX11_isCorner vs_f_X11_isCorner) := goodIn_r _ [6, 2, 3, 1, 5, 4, 7, 8, 9, 10, 11, 12, 13, 14, 15, 16, 17, 18, 19, 20, 21, 22, 23, 24, 25, 26, 27, 28, 29, 30, 31] (by decide +kernel) (by decide +kernel)
set_option maxHeartbeats 4000000 in
set_option maxRecDepth 100000 in
theorem f_X11_way (l : Launch) (dC : Nat → ClassId) (dI : Nat → Nat → Nat) (sz : Nat) (q : Nat → Nat) (p0 : Int32) (p1 : Int32) : Met l yX11_way vs_f_X11_way ({ frames := 1, cells := 0, slots := 0, locals := 21 }) (va_Pc [.ref (q 15), .int p0, .int p1] (cW dC dI [((q 15), .inr (11, xF q 0 1)), ((q 1), .inr (5, [.int 0, .int 0, .int 0, .int 0, .ref (q 20), .ref (q 21), .ref (q 22), .ref (q 23)]))] [] sz)) (va_Qi (fun (r : Int32) (_ : Unit) => r = (-1)) (fun (_ : Unit) (t : State) => True) (va_A [((q 15), .inr (11, xF q 0 1)), ((q 1), .inr (5, [.int 0, .int 0, .int 0, .int 0, .ref (q 20), .ref (q 21), .ref (q 22), .ref (q 23)]))] sz)) 0 0 (va_A [((q 15), .inr (11, xF q 0 1)), ((q 1), .inr (5, [.int 0, .int 0, .int 0, .int 0, .ref (q 20), .ref (q 21), .ref (q 22), .ref (q 23)]))] sz) := by
  refine Met.ofW (cc := cX11_way) (maxL := 3) (ret := (some .int)) (by decide) rfl ?_
  intro p e s m args below meth c s₁ B hml hv
  obtain ⟨rfl, hsz, hP, hK, hD0, hG⟩ := hv
  have hx := B.exec
  have hb := B.bytes
  have hr := B.returns
  have hts := atoms_spec (ws := vs_f_X11_way) B.pre
  have hown : s.vm.findClass RX11 = some m.cls := findClass_of_methodNamed B.named
  have hlocks := B.notSynchronized
  have hiX11 : ∀ w ∈ u_ws RX11 TX11 17, w ∈ vs_f_X11_way := vs_f_X11_way_uX11
  have hiX5 : ∀ w ∈ u_ws RX5 TX5 8, w ∈ vs_f_X11_way := vs_f_X11_way_uX5
  subst hsz
  have hD := hD0.self (sz := s.heap.size)
  generalize hAe : va_A [((q 15), .inr (11, xF q 0 1)), ((q 1), .inr (5, [.int 0, .int 0, .int 0, .int 0, .ref (q 20), .ref (q 21), .ref (q 22), .ref (q 23)]))] s.heap.size = A at hD ⊢
  have hA : ∀ q : Nat, s.heap.size ≤ q → A q := fun q h => by rw [← hAe]; exact Or.inr h
  have hS : va_S A s.heap s.heap [] := va_S.rf
  have hP : va_P (dC, dI) vwCl [((q 15), .inr (11, xF q 0 1)), ((q 1), .inr (5, [.int 0, .int 0, .int 0, .int 0, .ref (q 20), .ref (q 21), .ref (q 22), .ref (q 23)]))] s.heap := hP
  have hl := lv_entry ([.ref (q 15), .int p0, .int p1]) (n := 3) (Nat.le_of_ble_eq_true rfl)
  rw [lg_entry_eq]
  generalize (lg_sl ([.ref (q 15), .int p0, .int p1]) ++ List.replicate (3 - (lg_sl ([.ref (q 15), .int p0, .int p1])).length) Slot.unset).toArray = ls at hl ⊢
  have hl : lv_has ls 3 [(0, .ref (q 15)), (1, .int p0), (2, .int p1)] := hl
  refine lv_aload_n hx hb dX11_way_0 rfl (lv_at hl 0 rfl) ?_
  refine lv_iload_n hx hb dX11_way_1 rfl (lv_at hl 1 rfl) ?_
  have hPc := hP.sub (ws' := [((q 15), .inr (11, xF q 0 1)), ((q 1), .inr (5, [.int 0, .int 0, .int 0, .int 0, .ref (q 20), .ref (q 21), .ref (q 22), .ref (q 23)]))]) [0, 1] rfl
  have hDc := hD.sub (ws' := [((q 15), .inr (11, xF q 0 1)), ((q 1), .inr (5, [.int 0, .int 0, .int 0, .int 0, .ref (q 20), .ref (q 21), .ref (q 22), .ref (q 23)]))]) [0, 1] (by decide) rfl
  have hKc := hK.sub (tys' := []) [] rfl
  have hFc := va_free (wc := [((q 15), .inr (11, xF q 0 1)), ((q 1), .inr (5, [.int 0, .int 0, .int 0, .int 0, .ref (q 20), .ref (q 21), .ref (q 22), .ref (q 23)]))]) hD hS hA [0, 1] rfl
  refine va_calli (va_runV (As := [.int p0]) (rest := []) ⟨hx, hb, hml, hown, hts⟩ (f_X11_isCorner l dC dI s.heap.size q p0) (cwV 1 hts g_f_X11_way_f_X11_isCorner rfl rfl rfl (by decide +kernel) ⟨Nat.le_of_ble_eq_true rfl, Nat.le_of_ble_eq_true rfl⟩) ⟨cW_blind, va_recv hKc hPc (ci := 11) (q0 := 0) rfl rfl, fun U hU hW => ⟨rfl, cW_use hU hW hPc hKc hDc hG⟩⟩ rfl rfl hl.1 rfl (lv_room (Nat.le_of_ble_eq_true rfl)) dX11_way_2 ⟨Nat.le_of_ble_eq_true rfl, Nat.le_of_ble_eq_true rfl⟩) hS (fun q _ h => hFc q h) hFc (fun r_1 u t H1 locs ht hvm hw hB hz1 hk1 hS => ?_)
  obtain ⟨hP, hD⟩ := va_join (wr := []) (w1 := []) hP hD [0, 1] [] rfl rfl (by decide) (by decide) hk1 hFc (va_P_nil H1) va_D_nil
  generalize H1 = H at hP hS ⊢
  have hP : va_P (dC, dI) vwCl [] H := hP
  have hD : va_D A [] := hD
  refine W.widen (k := 0) (n := 0) (Nat.le_of_ble_eq_true rfl) (Nat.le_of_ble_eq_true rfl) ?_
  obtain rfl : r_1 = 0 := hw
  refine lv_if_eq (tgt := 16) hx hb dX11_way_5 (by decide) (fun c_2 => ?_) (fun c_2 => absurd (by decide) c_2)
  refine lv_iconst (v := (-1)) hx hb dX11_way_16 (by decide) ?_
  exact W.iret (v := (-1)) hx hb hr (fun t ht hW => ⟨⟨(-1), (), rfl, rfl, trivial⟩, hS.F ht⟩) hS.2.2 dX11_way_17
def vs_f_X11_feast : List Cond := .code yX11_feast cX11_feast 4 (some .int) :: ([.initialized RX11, .instanceMethod yX11_isCorner, .selects RX11 yX11_isCorner yX11_isCorner, .fieldLink RX11 19 "WallChapels" "town" "LWallChapels$Plan;", .code yX11_isCorner cX11_isCorner 2 (some .boolean), .methodLink RX11 159 yX11_isCorner] ++ (u_ws RX11 TX11 17 ++ (u_ws RX5 TX5 8)))
theorem vs_f_X11_feast_uX11 : ∀ w ∈ u_ws RX11 TX11 17, w ∈ vs_f_X11_feast := fun _ h => List.mem_cons_of_mem _ (List.mem_append_right _ (List.mem_append_left _ h))
theorem vs_f_X11_feast_uX5 : ∀ w ∈ u_ws RX5 TX5 8, w ∈ vs_f_X11_feast := fun _ h => List.mem_cons_of_mem _ (List.mem_append_right _ (List.mem_append_right _ (h)))
set_option maxRecDepth 20000 in
theorem g_f_X11_feast_f_X11_isCorner : GoodIn vs_f_X11_feast (wsV RX11 159 RX11 yX11_isCorner vs_f_X11_isCorner) := goodIn_r _ [6, 2, 3, 1, 5, 4, 7, 8, 9, 10, 11, 12, 13, 14, 15, 16, 17, 18, 19, 20, 21, 22, 23, 24, 25, 26, 27, 28, 29, 30, 31] (by decide +kernel) (by decide +kernel)
set_option maxHeartbeats 4000000 in
set_option maxRecDepth 100000 in
theorem f_X11_feast (l : Launch) (dC : Nat → ClassId) (dI : Nat → Nat → Nat) (sz : Nat) (q : Nat → Nat) (p0 : Int32) (p1 : Int32) : Met l yX11_feast vs_f_X11_feast ({ frames := 1, cells := 0, slots := 0, locals := 21 }) (va_Pc [.ref (q 15), .int p0, .int p1] (cW dC dI [((q 15), .inr (11, xF q 0 1)), ((q 1), .inr (5, [.int 0, .int 0, .int 0, .int 0, .ref (q 20), .ref (q 21), .ref (q 22), .ref (q 23)]))] [] sz)) (va_Qi (fun (r : Int32) (_ : Unit) => r = (-1)) (fun (_ : Unit) (t : State) => True) (va_A [((q 15), .inr (11, xF q 0 1)), ((q 1), .inr (5, [.int 0, .int 0, .int 0, .int 0, .ref (q 20), .ref (q 21), .ref (q 22), .ref (q 23)]))] sz)) 0 0 (va_A [((q 15), .inr (11, xF q 0 1)), ((q 1), .inr (5, [.int 0, .int 0, .int 0, .int 0, .ref (q 20), .ref (q 21), .ref (q 22), .ref (q 23)]))] sz) := by
  refine Met.ofW (cc := cX11_feast) (maxL := 4) (ret := (some .int)) (by decide) rfl ?_
  intro p e s m args below meth c s₁ B hml hv
  obtain ⟨rfl, hsz, hP, hK, hD0, hG⟩ := hv
  have hx := B.exec
  have hb := B.bytes
  have hr := B.returns
  have hts := atoms_spec (ws := vs_f_X11_feast) B.pre
  have hown : s.vm.findClass RX11 = some m.cls := findClass_of_methodNamed B.named
  have hlocks := B.notSynchronized
  have hiX11 : ∀ w ∈ u_ws RX11 TX11 17, w ∈ vs_f_X11_feast := vs_f_X11_feast_uX11
  have hiX5 : ∀ w ∈ u_ws RX5 TX5 8, w ∈ vs_f_X11_feast := vs_f_X11_feast_uX5
  subst hsz
  have hD := hD0.self (sz := s.heap.size)
  generalize hAe : va_A [((q 15), .inr (11, xF q 0 1)), ((q 1), .inr (5, [.int 0, .int 0, .int 0, .int 0, .ref (q 20), .ref (q 21), .ref (q 22), .ref (q 23)]))] s.heap.size = A at hD ⊢
  have hA : ∀ q : Nat, s.heap.size ≤ q → A q := fun q h => by rw [← hAe]; exact Or.inr h
  have hS : va_S A s.heap s.heap [] := va_S.rf
  have hP : va_P (dC, dI) vwCl [((q 15), .inr (11, xF q 0 1)), ((q 1), .inr (5, [.int 0, .int 0, .int 0, .int 0, .ref (q 20), .ref (q 21), .ref (q 22), .ref (q 23)]))] s.heap := hP
  have hl := lv_entry ([.ref (q 15), .int p0, .int p1]) (n := 4) (Nat.le_of_ble_eq_true rfl)
  rw [lg_entry_eq]
  generalize (lg_sl ([.ref (q 15), .int p0, .int p1]) ++ List.replicate (4 - (lg_sl ([.ref (q 15), .int p0, .int p1])).length) Slot.unset).toArray = ls at hl ⊢
  have hl : lv_has ls 4 [(0, .ref (q 15)), (1, .int p0), (2, .int p1)] := hl
  refine lv_aload_n hx hb dX11_feast_0 rfl (lv_at hl 0 rfl) ?_
  refine lv_iload_n hx hb dX11_feast_1 rfl (lv_at hl 1 rfl) ?_
  have hPc := hP.sub (ws' := [((q 15), .inr (11, xF q 0 1)), ((q 1), .inr (5, [.int 0, .int 0, .int 0, .int 0, .ref (q 20), .ref (q 21), .ref (q 22), .ref (q 23)]))]) [0, 1] rfl
  have hDc := hD.sub (ws' := [((q 15), .inr (11, xF q 0 1)), ((q 1), .inr (5, [.int 0, .int 0, .int 0, .int 0, .ref (q 20), .ref (q 21), .ref (q 22), .ref (q 23)]))]) [0, 1] (by decide) rfl
  have hKc := hK.sub (tys' := []) [] rfl
  have hFc := va_free (wc := [((q 15), .inr (11, xF q 0 1)), ((q 1), .inr (5, [.int 0, .int 0, .int 0, .int 0, .ref (q 20), .ref (q 21), .ref (q 22), .ref (q 23)]))]) hD hS hA [0, 1] rfl
  refine va_calli (va_runV (As := [.int p0]) (rest := []) ⟨hx, hb, hml, hown, hts⟩ (f_X11_isCorner l dC dI s.heap.size q p0) (cwV 1 hts g_f_X11_feast_f_X11_isCorner rfl rfl rfl (by decide +kernel) ⟨Nat.le_of_ble_eq_true rfl, Nat.le_of_ble_eq_true rfl⟩) ⟨cW_blind, va_recv hKc hPc (ci := 11) (q0 := 0) rfl rfl, fun U hU hW => ⟨rfl, cW_use hU hW hPc hKc hDc hG⟩⟩ rfl rfl hl.1 rfl (lv_room (Nat.le_of_ble_eq_true rfl)) dX11_feast_2 ⟨Nat.le_of_ble_eq_true rfl, Nat.le_of_ble_eq_true rfl⟩) hS (fun q _ h => hFc q h) hFc (fun r_1 u t H1 locs ht hvm hw hB hz1 hk1 hS => ?_)
  obtain ⟨hP, hD⟩ := va_join (wr := []) (w1 := []) hP hD [0, 1] [] rfl rfl (by decide) (by decide) hk1 hFc (va_P_nil H1) va_D_nil
  generalize H1 = H at hP hS ⊢
  have hP : va_P (dC, dI) vwCl [] H := hP
  have hD : va_D A [] := hD
  refine W.widen (k := 0) (n := 0) (Nat.le_of_ble_eq_true rfl) (Nat.le_of_ble_eq_true rfl) ?_
  obtain rfl : r_1 = 0 := hw
  refine lv_if_eq (tgt := 17) hx hb dX11_feast_5 (by decide) (fun c_2 => ?_) (fun c_2 => absurd (by decide) c_2)
  refine lv_iconst (v := (-1)) hx hb dX11_feast_17 (by decide) ?_
  exact W.iret (v := (-1)) hx hb hr (fun t ht hW => ⟨⟨(-1), (), rfl, rfl, trivial⟩, hS.F ht⟩) hS.2.2 dX11_feast_18
def vs_f_X11_around : List Cond := .code yX11_around cX11_around 6 (some .int) :: ([.initialized RX11, .instanceMethod yX11_isCorner, .selects RX11 yX11_isCorner yX11_isCorner, .fieldLink RX11 19 "WallChapels" "town" "LWallChapels$Plan;", .code yX11_isCorner cX11_isCorner 2 (some .boolean), .methodLink RX11 159 yX11_isCorner] ++ (u_ws RX11 TX11 17 ++ (u_ws RX5 TX5 8)))
theorem vs_f_X11_around_uX11 : ∀ w ∈ u_ws RX11 TX11 17, w ∈ vs_f_X11_around := fun _ h => List.mem_cons_of_mem _ (List.mem_append_right _ (List.mem_append_left _ h))
theorem vs_f_X11_around_uX5 : ∀ w ∈ u_ws RX5 TX5 8, w ∈ vs_f_X11_around := fun _ h => List.mem_cons_of_mem _ (List.mem_append_right _ (List.mem_append_right _ (h)))
set_option maxRecDepth 20000 in
theorem g_f_X11_around_f_X11_isCorner : GoodIn vs_f_X11_around (wsV RX11 159 RX11 yX11_isCorner vs_f_X11_isCorner) := goodIn_r _ [6, 2, 3, 1, 5, 4, 7, 8, 9, 10, 11, 12, 13, 14, 15, 16, 17, 18, 19, 20, 21, 22, 23, 24, 25, 26, 27, 28, 29, 30, 31] (by decide +kernel) (by decide +kernel)
set_option maxHeartbeats 4000000 in
set_option maxRecDepth 100000 in
theorem f_X11_around (l : Launch) (dC : Nat → ClassId) (dI : Nat → Nat → Nat) (sz : Nat) (q : Nat → Nat) (p0 : Int32) (p1 : Int32) : Met l yX11_around vs_f_X11_around ({ frames := 1, cells := 0, slots := 0, locals := 21 }) (va_Pc [.ref (q 15), .int p0, .int p1] (cW dC dI [((q 15), .inr (11, xF q 0 1)), ((q 1), .inr (5, [.int 0, .int 0, .int 0, .int 0, .ref (q 20), .ref (q 21), .ref (q 22), .ref (q 23)]))] [] sz)) (va_Qi (fun (r : Int32) (_ : Unit) => r = (-1)) (fun (_ : Unit) (t : State) => True) (va_A [((q 15), .inr (11, xF q 0 1)), ((q 1), .inr (5, [.int 0, .int 0, .int 0, .int 0, .ref (q 20), .ref (q 21), .ref (q 22), .ref (q 23)]))] sz)) 0 0 (va_A [((q 15), .inr (11, xF q 0 1)), ((q 1), .inr (5, [.int 0, .int 0, .int 0, .int 0, .ref (q 20), .ref (q 21), .ref (q 22), .ref (q 23)]))] sz) := by
  refine Met.ofW (cc := cX11_around) (maxL := 6) (ret := (some .int)) (by decide) rfl ?_
  intro p e s m args below meth c s₁ B hml hv
  obtain ⟨rfl, hsz, hP, hK, hD0, hG⟩ := hv
  have hx := B.exec
  have hb := B.bytes
  have hr := B.returns
  have hts := atoms_spec (ws := vs_f_X11_around) B.pre
  have hown : s.vm.findClass RX11 = some m.cls := findClass_of_methodNamed B.named
  have hlocks := B.notSynchronized
  have hiX11 : ∀ w ∈ u_ws RX11 TX11 17, w ∈ vs_f_X11_around := vs_f_X11_around_uX11
  have hiX5 : ∀ w ∈ u_ws RX5 TX5 8, w ∈ vs_f_X11_around := vs_f_X11_around_uX5
  subst hsz
  have hD := hD0.self (sz := s.heap.size)
  generalize hAe : va_A [((q 15), .inr (11, xF q 0 1)), ((q 1), .inr (5, [.int 0, .int 0, .int 0, .int 0, .ref (q 20), .ref (q 21), .ref (q 22), .ref (q 23)]))] s.heap.size = A at hD ⊢
  have hA : ∀ q : Nat, s.heap.size ≤ q → A q := fun q h => by rw [← hAe]; exact Or.inr h
  have hS : va_S A s.heap s.heap [] := va_S.rf
  have hP : va_P (dC, dI) vwCl [((q 15), .inr (11, xF q 0 1)), ((q 1), .inr (5, [.int 0, .int 0, .int 0, .int 0, .ref (q 20), .ref (q 21), .ref (q 22), .ref (q 23)]))] s.heap := hP
  have hl := lv_entry ([.ref (q 15), .int p0, .int p1]) (n := 6) (Nat.le_of_ble_eq_true rfl)
  rw [lg_entry_eq]
  generalize (lg_sl ([.ref (q 15), .int p0, .int p1]) ++ List.replicate (6 - (lg_sl ([.ref (q 15), .int p0, .int p1])).length) Slot.unset).toArray = ls at hl ⊢
  have hl : lv_has ls 6 [(0, .ref (q 15)), (1, .int p0), (2, .int p1)] := hl
  refine lv_aload_n hx hb dX11_around_0 rfl (lv_at hl 0 rfl) ?_
  refine lv_iload_n hx hb dX11_around_1 rfl (lv_at hl 1 rfl) ?_
  have hPc := hP.sub (ws' := [((q 15), .inr (11, xF q 0 1)), ((q 1), .inr (5, [.int 0, .int 0, .int 0, .int 0, .ref (q 20), .ref (q 21), .ref (q 22), .ref (q 23)]))]) [0, 1] rfl
  have hDc := hD.sub (ws' := [((q 15), .inr (11, xF q 0 1)), ((q 1), .inr (5, [.int 0, .int 0, .int 0, .int 0, .ref (q 20), .ref (q 21), .ref (q 22), .ref (q 23)]))]) [0, 1] (by decide) rfl
  have hKc := hK.sub (tys' := []) [] rfl
  have hFc := va_free (wc := [((q 15), .inr (11, xF q 0 1)), ((q 1), .inr (5, [.int 0, .int 0, .int 0, .int 0, .ref (q 20), .ref (q 21), .ref (q 22), .ref (q 23)]))]) hD hS hA [0, 1] rfl
  refine va_calli (va_runV (As := [.int p0]) (rest := []) ⟨hx, hb, hml, hown, hts⟩ (f_X11_isCorner l dC dI s.heap.size q p0) (cwV 1 hts g_f_X11_around_f_X11_isCorner rfl rfl rfl (by decide +kernel) ⟨Nat.le_of_ble_eq_true rfl, Nat.le_of_ble_eq_true rfl⟩) ⟨cW_blind, va_recv hKc hPc (ci := 11) (q0 := 0) rfl rfl, fun U hU hW => ⟨rfl, cW_use hU hW hPc hKc hDc hG⟩⟩ rfl rfl hl.1 rfl (lv_room (Nat.le_of_ble_eq_true rfl)) dX11_around_2 ⟨Nat.le_of_ble_eq_true rfl, Nat.le_of_ble_eq_true rfl⟩) hS (fun q _ h => hFc q h) hFc (fun r_1 u t H1 locs ht hvm hw hB hz1 hk1 hS => ?_)
  obtain ⟨hP, hD⟩ := va_join (wr := []) (w1 := []) hP hD [0, 1] [] rfl rfl (by decide) (by decide) hk1 hFc (va_P_nil H1) va_D_nil
  generalize H1 = H at hP hS ⊢
  have hP : va_P (dC, dI) vwCl [] H := hP
  have hD : va_D A [] := hD
  refine W.widen (k := 0) (n := 0) (Nat.le_of_ble_eq_true rfl) (Nat.le_of_ble_eq_true rfl) ?_
  obtain rfl : r_1 = 0 := hw
  refine lv_if_eq (tgt := 18) hx hb dX11_around_5 (by decide) (fun c_2 => ?_) (fun c_2 => absurd (by decide) c_2)
  refine lv_iconst (v := (-1)) hx hb dX11_around_18 (by decide) ?_
  exact W.iret (v := (-1)) hx hb hr (fun t ht hW => ⟨⟨(-1), (), rfl, rfl, trivial⟩, hS.F ht⟩) hS.2.2 dX11_around_19
def vs_f_X11_soon : List Cond := .code yX11_soon cX11_soon 3 (some .int) :: ([.initialized RX11, .instanceMethod yX11_isWalker, .selects RX11 yX11_isWalker yX11_isWalker, .fieldLink RX11 19 "WallChapels" "town" "LWallChapels$Plan;", .code yX11_isWalker cX11_isWalker 2 (some .boolean), .methodLink RX11 196 yX11_isWalker] ++ (u_ws RX11 TX11 17 ++ (u_ws RX5 TX5 8)))
theorem vs_f_X11_soon_uX11 : ∀ w ∈ u_ws RX11 TX11 17, w ∈ vs_f_X11_soon := fun _ h => List.mem_cons_of_mem _ (List.mem_append_right _ (List.mem_append_left _ h))
theorem vs_f_X11_soon_uX5 : ∀ w ∈ u_ws RX5 TX5 8, w ∈ vs_f_X11_soon := fun _ h => List.mem_cons_of_mem _ (List.mem_append_right _ (List.mem_append_right _ (h)))
set_option maxRecDepth 20000 in
theorem g_f_X11_soon_f_X11_isWalker : GoodIn vs_f_X11_soon (wsV RX11 196 RX11 yX11_isWalker vs_f_X11_isWalker) := goodIn_r _ [6, 2, 3, 1, 5, 4, 7, 8, 9, 10, 11, 12, 13, 14, 15, 16, 17, 18, 19, 20, 21, 22, 23, 24, 25, 26, 27, 28, 29, 30, 31] (by decide +kernel) (by decide +kernel)
set_option maxHeartbeats 4000000 in
set_option maxRecDepth 100000 in
theorem f_X11_soon (l : Launch) (dC : Nat → ClassId) (dI : Nat → Nat → Nat) (sz : Nat) (q : Nat → Nat) (p0 : Int32) : Met l yX11_soon vs_f_X11_soon ({ frames := 1, cells := 0, slots := 0, locals := 21 }) (va_Pc [.ref (q 15), .int p0] (cW dC dI [((q 15), .inr (11, xF q 0 1)), ((q 1), .inr (5, [.int 0, .int 0, .int 0, .int 0, .ref (q 20), .ref (q 21), .ref (q 22), .ref (q 23)]))] [] sz)) (va_Qi (fun (r : Int32) (_ : Unit) => r = (-1)) (fun (_ : Unit) (t : State) => True) (va_A [((q 15), .inr (11, xF q 0 1)), ((q 1), .inr (5, [.int 0, .int 0, .int 0, .int 0, .ref (q 20), .ref (q 21), .ref (q 22), .ref (q 23)]))] sz)) 0 0 (va_A [((q 15), .inr (11, xF q 0 1)), ((q 1), .inr (5, [.int 0, .int 0, .int 0, .int 0, .ref (q 20), .ref (q 21), .ref (q 22), .ref (q 23)]))] sz) := by
  refine Met.ofW (cc := cX11_soon) (maxL := 3) (ret := (some .int)) (by decide) rfl ?_
  intro p e s m args below meth c s₁ B hml hv
  obtain ⟨rfl, hsz, hP, hK, hD0, hG⟩ := hv
  have hx := B.exec
  have hb := B.bytes
  have hr := B.returns
  have hts := atoms_spec (ws := vs_f_X11_soon) B.pre
  have hown : s.vm.findClass RX11 = some m.cls := findClass_of_methodNamed B.named
  have hlocks := B.notSynchronized
  have hiX11 : ∀ w ∈ u_ws RX11 TX11 17, w ∈ vs_f_X11_soon := vs_f_X11_soon_uX11
  have hiX5 : ∀ w ∈ u_ws RX5 TX5 8, w ∈ vs_f_X11_soon := vs_f_X11_soon_uX5
  subst hsz
  have hD := hD0.self (sz := s.heap.size)
  generalize hAe : va_A [((q 15), .inr (11, xF q 0 1)), ((q 1), .inr (5, [.int 0, .int 0, .int 0, .int 0, .ref (q 20), .ref (q 21), .ref (q 22), .ref (q 23)]))] s.heap.size = A at hD ⊢
  have hA : ∀ q : Nat, s.heap.size ≤ q → A q := fun q h => by rw [← hAe]; exact Or.inr h
  have hS : va_S A s.heap s.heap [] := va_S.rf
  have hP : va_P (dC, dI) vwCl [((q 15), .inr (11, xF q 0 1)), ((q 1), .inr (5, [.int 0, .int 0, .int 0, .int 0, .ref (q 20), .ref (q 21), .ref (q 22), .ref (q 23)]))] s.heap := hP
  have hl := lv_entry ([.ref (q 15), .int p0]) (n := 3) (Nat.le_of_ble_eq_true rfl)
  rw [lg_entry_eq]
  generalize (lg_sl ([.ref (q 15), .int p0]) ++ List.replicate (3 - (lg_sl ([.ref (q 15), .int p0])).length) Slot.unset).toArray = ls at hl ⊢
  have hl : lv_has ls 3 [(0, .ref (q 15)), (1, .int p0)] := hl
  refine lv_aload_n hx hb dX11_soon_0 rfl (lv_at hl 0 rfl) ?_
  refine lv_iload_n hx hb dX11_soon_1 rfl (lv_at hl 1 rfl) ?_
  have hPc := hP.sub (ws' := [((q 15), .inr (11, xF q 0 1)), ((q 1), .inr (5, [.int 0, .int 0, .int 0, .int 0, .ref (q 20), .ref (q 21), .ref (q 22), .ref (q 23)]))]) [0, 1] rfl
  have hDc := hD.sub (ws' := [((q 15), .inr (11, xF q 0 1)), ((q 1), .inr (5, [.int 0, .int 0, .int 0, .int 0, .ref (q 20), .ref (q 21), .ref (q 22), .ref (q 23)]))]) [0, 1] (by decide) rfl
  have hKc := hK.sub (tys' := []) [] rfl
  have hFc := va_free (wc := [((q 15), .inr (11, xF q 0 1)), ((q 1), .inr (5, [.int 0, .int 0, .int 0, .int 0, .ref (q 20), .ref (q 21), .ref (q 22), .ref (q 23)]))]) hD hS hA [0, 1] rfl
  refine va_calli (va_runV (As := [.int p0]) (rest := []) ⟨hx, hb, hml, hown, hts⟩ (f_X11_isWalker l dC dI s.heap.size q p0) (cwV 1 hts g_f_X11_soon_f_X11_isWalker rfl rfl rfl (by decide +kernel) ⟨Nat.le_of_ble_eq_true rfl, Nat.le_of_ble_eq_true rfl⟩) ⟨cW_blind, va_recv hKc hPc (ci := 11) (q0 := 0) rfl rfl, fun U hU hW => ⟨rfl, cW_use hU hW hPc hKc hDc hG⟩⟩ rfl rfl hl.1 rfl (lv_room (Nat.le_of_ble_eq_true rfl)) dX11_soon_2 ⟨Nat.le_of_ble_eq_true rfl, Nat.le_of_ble_eq_true rfl⟩) hS (fun q _ h => hFc q h) hFc (fun r_1 u t H1 locs ht hvm hw hB hz1 hk1 hS => ?_)
  obtain ⟨hP, hD⟩ := va_join (wr := []) (w1 := []) hP hD [0, 1] [] rfl rfl (by decide) (by decide) hk1 hFc (va_P_nil H1) va_D_nil
  generalize H1 = H at hP hS ⊢
  have hP : va_P (dC, dI) vwCl [] H := hP
  have hD : va_D A [] := hD
  refine W.widen (k := 0) (n := 0) (Nat.le_of_ble_eq_true rfl) (Nat.le_of_ble_eq_true rfl) ?_
  obtain rfl : r_1 = 0 := hw
  refine lv_if_ne (tgt := 10) hx hb dX11_soon_5 (by decide) (fun c_2 => absurd c_2 (by decide)) (fun c_2 => ?_)
  refine lv_iconst (v := (-1)) hx hb dX11_soon_8 (by decide) ?_
  exact W.iret (v := (-1)) hx hb hr (fun t ht hW => ⟨⟨(-1), (), rfl, rfl, trivial⟩, hS.F ht⟩) hS.2.2 dX11_soon_9
def vs_f_X11_worn : List Cond := .code yX11_worn cX11_worn 4 (some .int) :: ([.initialized RX11, .instanceMethod yX11_isCorner, .selects RX11 yX11_isCorner yX11_isCorner, .fieldLink RX11 19 "WallChapels" "town" "LWallChapels$Plan;", .code yX11_isCorner cX11_isCorner 2 (some .boolean), .methodLink RX11 159 yX11_isCorner] ++ (u_ws RX11 TX11 17 ++ (u_ws RX5 TX5 8)))
theorem vs_f_X11_worn_uX11 : ∀ w ∈ u_ws RX11 TX11 17, w ∈ vs_f_X11_worn := fun _ h => List.mem_cons_of_mem _ (List.mem_append_right _ (List.mem_append_left _ h))
theorem vs_f_X11_worn_uX5 : ∀ w ∈ u_ws RX5 TX5 8, w ∈ vs_f_X11_worn := fun _ h => List.mem_cons_of_mem _ (List.mem_append_right _ (List.mem_append_right _ (h)))
set_option maxRecDepth 20000 in
theorem g_f_X11_worn_f_X11_isCorner : GoodIn vs_f_X11_worn (wsV RX11 159 RX11 yX11_isCorner vs_f_X11_isCorner) := goodIn_r _ [6, 2, 3, 1, 5, 4, 7, 8, 9, 10, 11, 12, 13, 14, 15, 16, 17, 18, 19, 20, 21, 22, 23, 24, 25, 26, 27, 28, 29, 30, 31] (by decide +kernel) (by decide +kernel)
set_option maxHeartbeats 4000000 in
set_option maxRecDepth 100000 in
theorem f_X11_worn (l : Launch) (dC : Nat → ClassId) (dI : Nat → Nat → Nat) (sz : Nat) (q : Nat → Nat) (p0 : Int32) (p1 : Int32) : Met l yX11_worn vs_f_X11_worn ({ frames := 1, cells := 0, slots := 0, locals := 21 }) (va_Pc [.ref (q 15), .int p0, .int p1] (cW dC dI [((q 15), .inr (11, xF q 0 1)), ((q 1), .inr (5, [.int 0, .int 0, .int 0, .int 0, .ref (q 20), .ref (q 21), .ref (q 22), .ref (q 23)]))] [] sz)) (va_Qi (fun (r : Int32) (_ : Unit) => r = (-1)) (fun (_ : Unit) (t : State) => True) (va_A [((q 15), .inr (11, xF q 0 1)), ((q 1), .inr (5, [.int 0, .int 0, .int 0, .int 0, .ref (q 20), .ref (q 21), .ref (q 22), .ref (q 23)]))] sz)) 0 0 (va_A [((q 15), .inr (11, xF q 0 1)), ((q 1), .inr (5, [.int 0, .int 0, .int 0, .int 0, .ref (q 20), .ref (q 21), .ref (q 22), .ref (q 23)]))] sz) := by
  refine Met.ofW (cc := cX11_worn) (maxL := 4) (ret := (some .int)) (by decide) rfl ?_
  intro p e s m args below meth c s₁ B hml hv
  obtain ⟨rfl, hsz, hP, hK, hD0, hG⟩ := hv
  have hx := B.exec
  have hb := B.bytes
  have hr := B.returns
  have hts := atoms_spec (ws := vs_f_X11_worn) B.pre
  have hown : s.vm.findClass RX11 = some m.cls := findClass_of_methodNamed B.named
  have hlocks := B.notSynchronized
  have hiX11 : ∀ w ∈ u_ws RX11 TX11 17, w ∈ vs_f_X11_worn := vs_f_X11_worn_uX11
  have hiX5 : ∀ w ∈ u_ws RX5 TX5 8, w ∈ vs_f_X11_worn := vs_f_X11_worn_uX5
  subst hsz
  have hD := hD0.self (sz := s.heap.size)
  generalize hAe : va_A [((q 15), .inr (11, xF q 0 1)), ((q 1), .inr (5, [.int 0, .int 0, .int 0, .int 0, .ref (q 20), .ref (q 21), .ref (q 22), .ref (q 23)]))] s.heap.size = A at hD ⊢
  have hA : ∀ q : Nat, s.heap.size ≤ q → A q := fun q h => by rw [← hAe]; exact Or.inr h
  have hS : va_S A s.heap s.heap [] := va_S.rf
  have hP : va_P (dC, dI) vwCl [((q 15), .inr (11, xF q 0 1)), ((q 1), .inr (5, [.int 0, .int 0, .int 0, .int 0, .ref (q 20), .ref (q 21), .ref (q 22), .ref (q 23)]))] s.heap := hP
  have hl := lv_entry ([.ref (q 15), .int p0, .int p1]) (n := 4) (Nat.le_of_ble_eq_true rfl)
  rw [lg_entry_eq]
  generalize (lg_sl ([.ref (q 15), .int p0, .int p1]) ++ List.replicate (4 - (lg_sl ([.ref (q 15), .int p0, .int p1])).length) Slot.unset).toArray = ls at hl ⊢
  have hl : lv_has ls 4 [(0, .ref (q 15)), (1, .int p0), (2, .int p1)] := hl
  refine lv_aload_n hx hb dX11_worn_0 rfl (lv_at hl 0 rfl) ?_
  refine lv_iload_n hx hb dX11_worn_1 rfl (lv_at hl 1 rfl) ?_
  have hPc := hP.sub (ws' := [((q 15), .inr (11, xF q 0 1)), ((q 1), .inr (5, [.int 0, .int 0, .int 0, .int 0, .ref (q 20), .ref (q 21), .ref (q 22), .ref (q 23)]))]) [0, 1] rfl
  have hDc := hD.sub (ws' := [((q 15), .inr (11, xF q 0 1)), ((q 1), .inr (5, [.int 0, .int 0, .int 0, .int 0, .ref (q 20), .ref (q 21), .ref (q 22), .ref (q 23)]))]) [0, 1] (by decide) rfl
  have hKc := hK.sub (tys' := []) [] rfl
  have hFc := va_free (wc := [((q 15), .inr (11, xF q 0 1)), ((q 1), .inr (5, [.int 0, .int 0, .int 0, .int 0, .ref (q 20), .ref (q 21), .ref (q 22), .ref (q 23)]))]) hD hS hA [0, 1] rfl
  refine va_calli (va_runV (As := [.int p0]) (rest := []) ⟨hx, hb, hml, hown, hts⟩ (f_X11_isCorner l dC dI s.heap.size q p0) (cwV 1 hts g_f_X11_worn_f_X11_isCorner rfl rfl rfl (by decide +kernel) ⟨Nat.le_of_ble_eq_true rfl, Nat.le_of_ble_eq_true rfl⟩) ⟨cW_blind, va_recv hKc hPc (ci := 11) (q0 := 0) rfl rfl, fun U hU hW => ⟨rfl, cW_use hU hW hPc hKc hDc hG⟩⟩ rfl rfl hl.1 rfl (lv_room (Nat.le_of_ble_eq_true rfl)) dX11_worn_2 ⟨Nat.le_of_ble_eq_true rfl, Nat.le_of_ble_eq_true rfl⟩) hS (fun q _ h => hFc q h) hFc (fun r_1 u t H1 locs ht hvm hw hB hz1 hk1 hS => ?_)
  obtain ⟨hP, hD⟩ := va_join (wr := []) (w1 := []) hP hD [0, 1] [] rfl rfl (by decide) (by decide) hk1 hFc (va_P_nil H1) va_D_nil
  generalize H1 = H at hP hS ⊢
  have hP : va_P (dC, dI) vwCl [] H := hP
  have hD : va_D A [] := hD
  refine W.widen (k := 0) (n := 0) (Nat.le_of_ble_eq_true rfl) (Nat.le_of_ble_eq_true rfl) ?_
  obtain rfl : r_1 = 0 := hw
  refine lv_if_eq (tgt := 20) hx hb dX11_worn_5 (by decide) (fun c_2 => ?_) (fun c_2 => absurd (by decide) c_2)
  refine lv_iconst (v := (-1)) hx hb dX11_worn_20 (by decide) ?_
  exact W.iret (v := (-1)) hx hb hr (fun t ht hW => ⟨⟨(-1), (), rfl, rfl, trivial⟩, hS.F ht⟩) hS.2.2 dX11_worn_21
def vs_f_X11_seen : List Cond := .code yX11_seen cX11_seen 3 (some .int) :: ([.initialized RX11, .instanceMethod yX11_isCorner, .selects RX11 yX11_isCorner yX11_isCorner, .fieldLink RX11 19 "WallChapels" "town" "LWallChapels$Plan;", .code yX11_isCorner cX11_isCorner 2 (some .boolean), .methodLink RX11 159 yX11_isCorner] ++ (u_ws RX11 TX11 17 ++ (u_ws RX5 TX5 8)))
theorem vs_f_X11_seen_uX11 : ∀ w ∈ u_ws RX11 TX11 17, w ∈ vs_f_X11_seen := fun _ h => List.mem_cons_of_mem _ (List.mem_append_right _ (List.mem_append_left _ h))
theorem vs_f_X11_seen_uX5 : ∀ w ∈ u_ws RX5 TX5 8, w ∈ vs_f_X11_seen := fun _ h => List.mem_cons_of_mem _ (List.mem_append_right _ (List.mem_append_right _ (h)))
set_option maxRecDepth 20000 in
theorem g_f_X11_seen_f_X11_isCorner : GoodIn vs_f_X11_seen (wsV RX11 159 RX11 yX11_isCorner vs_f_X11_isCorner) := goodIn_r _ [6, 2, 3, 1, 5, 4, 7, 8, 9, 10, 11, 12, 13, 14, 15, 16, 17, 18, 19, 20, 21, 22, 23, 24, 25, 26, 27, 28, 29, 30, 31] (by decide +kernel) (by decide +kernel)
set_option maxHeartbeats 4000000 in
set_option maxRecDepth 100000 in
theorem f_X11_seen (l : Launch) (dC : Nat → ClassId) (dI : Nat → Nat → Nat) (sz : Nat) (q : Nat → Nat) (p0 : Int32) (p1 : Int32) : Met l yX11_seen vs_f_X11_seen ({ frames := 1, cells := 0, slots := 0, locals := 21 }) (va_Pc [.ref (q 15), .int p0, .int p1] (cW dC dI [((q 15), .inr (11, xF q 0 1)), ((q 1), .inr (5, [.int 0, .int 0, .int 0, .int 0, .ref (q 20), .ref (q 21), .ref (q 22), .ref (q 23)]))] [] sz)) (va_Qi (fun (r : Int32) (_ : Unit) => r = (-1)) (fun (_ : Unit) (t : State) => True) (va_A [((q 15), .inr (11, xF q 0 1)), ((q 1), .inr (5, [.int 0, .int 0, .int 0, .int 0, .ref (q 20), .ref (q 21), .ref (q 22), .ref (q 23)]))] sz)) 0 0 (va_A [((q 15), .inr (11, xF q 0 1)), ((q 1), .inr (5, [.int 0, .int 0, .int 0, .int 0, .ref (q 20), .ref (q 21), .ref (q 22), .ref (q 23)]))] sz) := by
  refine Met.ofW (cc := cX11_seen) (maxL := 3) (ret := (some .int)) (by decide) rfl ?_
  intro p e s m args below meth c s₁ B hml hv
  obtain ⟨rfl, hsz, hP, hK, hD0, hG⟩ := hv
  have hx := B.exec
  have hb := B.bytes
  have hr := B.returns
  have hts := atoms_spec (ws := vs_f_X11_seen) B.pre
  have hown : s.vm.findClass RX11 = some m.cls := findClass_of_methodNamed B.named
  have hlocks := B.notSynchronized
  have hiX11 : ∀ w ∈ u_ws RX11 TX11 17, w ∈ vs_f_X11_seen := vs_f_X11_seen_uX11
  have hiX5 : ∀ w ∈ u_ws RX5 TX5 8, w ∈ vs_f_X11_seen := vs_f_X11_seen_uX5
  subst hsz
  have hD := hD0.self (sz := s.heap.size)
  generalize hAe : va_A [((q 15), .inr (11, xF q 0 1)), ((q 1), .inr (5, [.int 0, .int 0, .int 0, .int 0, .ref (q 20), .ref (q 21), .ref (q 22), .ref (q 23)]))] s.heap.size = A at hD ⊢
  have hA : ∀ q : Nat, s.heap.size ≤ q → A q := fun q h => by rw [← hAe]; exact Or.inr h
  have hS : va_S A s.heap s.heap [] := va_S.rf
  have hP : va_P (dC, dI) vwCl [((q 15), .inr (11, xF q 0 1)), ((q 1), .inr (5, [.int 0, .int 0, .int 0, .int 0, .ref (q 20), .ref (q 21), .ref (q 22), .ref (q 23)]))] s.heap := hP
  have hl := lv_entry ([.ref (q 15), .int p0, .int p1]) (n := 3) (Nat.le_of_ble_eq_true rfl)
  rw [lg_entry_eq]
  generalize (lg_sl ([.ref (q 15), .int p0, .int p1]) ++ List.replicate (3 - (lg_sl ([.ref (q 15), .int p0, .int p1])).length) Slot.unset).toArray = ls at hl ⊢
  have hl : lv_has ls 3 [(0, .ref (q 15)), (1, .int p0), (2, .int p1)] := hl
  refine lv_aload_n hx hb dX11_seen_0 rfl (lv_at hl 0 rfl) ?_
  refine lv_iload_n hx hb dX11_seen_1 rfl (lv_at hl 1 rfl) ?_
  have hPc := hP.sub (ws' := [((q 15), .inr (11, xF q 0 1)), ((q 1), .inr (5, [.int 0, .int 0, .int 0, .int 0, .ref (q 20), .ref (q 21), .ref (q 22), .ref (q 23)]))]) [0, 1] rfl
  have hDc := hD.sub (ws' := [((q 15), .inr (11, xF q 0 1)), ((q 1), .inr (5, [.int 0, .int 0, .int 0, .int 0, .ref (q 20), .ref (q 21), .ref (q 22), .ref (q 23)]))]) [0, 1] (by decide) rfl
  have hKc := hK.sub (tys' := []) [] rfl
  have hFc := va_free (wc := [((q 15), .inr (11, xF q 0 1)), ((q 1), .inr (5, [.int 0, .int 0, .int 0, .int 0, .ref (q 20), .ref (q 21), .ref (q 22), .ref (q 23)]))]) hD hS hA [0, 1] rfl
  refine va_calli (va_runV (As := [.int p0]) (rest := []) ⟨hx, hb, hml, hown, hts⟩ (f_X11_isCorner l dC dI s.heap.size q p0) (cwV 1 hts g_f_X11_seen_f_X11_isCorner rfl rfl rfl (by decide +kernel) ⟨Nat.le_of_ble_eq_true rfl, Nat.le_of_ble_eq_true rfl⟩) ⟨cW_blind, va_recv hKc hPc (ci := 11) (q0 := 0) rfl rfl, fun U hU hW => ⟨rfl, cW_use hU hW hPc hKc hDc hG⟩⟩ rfl rfl hl.1 rfl (lv_room (Nat.le_of_ble_eq_true rfl)) dX11_seen_2 ⟨Nat.le_of_ble_eq_true rfl, Nat.le_of_ble_eq_true rfl⟩) hS (fun q _ h => hFc q h) hFc (fun r_1 u t H1 locs ht hvm hw hB hz1 hk1 hS => ?_)
  obtain ⟨hP, hD⟩ := va_join (wr := []) (w1 := []) hP hD [0, 1] [] rfl rfl (by decide) (by decide) hk1 hFc (va_P_nil H1) va_D_nil
  generalize H1 = H at hP hS ⊢
  have hP : va_P (dC, dI) vwCl [] H := hP
  have hD : va_D A [] := hD
  refine W.widen (k := 0) (n := 0) (Nat.le_of_ble_eq_true rfl) (Nat.le_of_ble_eq_true rfl) ?_
  obtain rfl : r_1 = 0 := hw
  refine lv_if_ne (tgt := 10) hx hb dX11_seen_5 (by decide) (fun c_2 => absurd c_2 (by decide)) (fun c_2 => ?_)
  refine lv_iconst (v := (-1)) hx hb dX11_seen_8 (by decide) ?_
  exact W.iret (v := (-1)) hx hb hr (fun t ht hW => ⟨⟨(-1), (), rfl, rfl, trivial⟩, hS.F ht⟩) hS.2.2 dX11_seen_9
def vs_f_X11_knocked : List Cond := .code yX11_knocked cX11_knocked 3 (some .int) :: ([.initialized RX11, .instanceMethod yX11_hasTown, .selects RX11 yX11_hasTown yX11_hasTown, .fieldLink RX11 19 "WallChapels" "town" "LWallChapels$Plan;", .code yX11_hasTown cX11_hasTown 1 (some .boolean), .methodLink RX11 239 yX11_hasTown] ++ (u_ws RX11 TX11 17 ++ (u_ws RX5 TX5 8)))
theorem vs_f_X11_knocked_uX11 : ∀ w ∈ u_ws RX11 TX11 17, w ∈ vs_f_X11_knocked := fun _ h => List.mem_cons_of_mem _ (List.mem_append_right _ (List.mem_append_left _ h))
theorem vs_f_X11_knocked_uX5 : ∀ w ∈ u_ws RX5 TX5 8, w ∈ vs_f_X11_knocked := fun _ h => List.mem_cons_of_mem _ (List.mem_append_right _ (List.mem_append_right _ (h)))
set_option maxRecDepth 20000 in
theorem g_f_X11_knocked_f_X11_hasTown : GoodIn vs_f_X11_knocked (wsV RX11 239 RX11 yX11_hasTown vs_f_X11_hasTown) := goodIn_r _ [6, 2, 3, 1, 5, 4, 7, 8, 9, 10, 11, 12, 13, 14, 15, 16, 17, 18, 19, 20, 21, 22, 23, 24, 25, 26, 27, 28, 29, 30, 31] (by decide +kernel) (by decide +kernel)
set_option maxHeartbeats 4000000 in
set_option maxRecDepth 100000 in
theorem f_X11_knocked (l : Launch) (dC : Nat → ClassId) (dI : Nat → Nat → Nat) (sz : Nat) (q : Nat → Nat) (p0 : Int32) : Met l yX11_knocked vs_f_X11_knocked ({ frames := 1, cells := 0, slots := 0, locals := 20 }) (va_Pc [.ref (q 15), .int p0] (cW dC dI [((q 15), .inr (11, xF q 0 1)), ((q 1), .inr (5, [.int 0, .int 0, .int 0, .int 0, .ref (q 20), .ref (q 21), .ref (q 22), .ref (q 23)]))] [] sz)) (va_Qi (fun (r : Int32) (_ : Unit) => r = (-1)) (fun (_ : Unit) (t : State) => True) (va_A [((q 15), .inr (11, xF q 0 1)), ((q 1), .inr (5, [.int 0, .int 0, .int 0, .int 0, .ref (q 20), .ref (q 21), .ref (q 22), .ref (q 23)]))] sz)) 0 0 (va_A [((q 15), .inr (11, xF q 0 1)), ((q 1), .inr (5, [.int 0, .int 0, .int 0, .int 0, .ref (q 20), .ref (q 21), .ref (q 22), .ref (q 23)]))] sz) := by
  refine Met.ofW (cc := cX11_knocked) (maxL := 3) (ret := (some .int)) (by decide) rfl ?_
  intro p e s m args below meth c s₁ B hml hv
  obtain ⟨rfl, hsz, hP, hK, hD0, hG⟩ := hv
  have hx := B.exec
  have hb := B.bytes
  have hr := B.returns
  have hts := atoms_spec (ws := vs_f_X11_knocked) B.pre
  have hown : s.vm.findClass RX11 = some m.cls := findClass_of_methodNamed B.named
  have hlocks := B.notSynchronized
  have hiX11 : ∀ w ∈ u_ws RX11 TX11 17, w ∈ vs_f_X11_knocked := vs_f_X11_knocked_uX11
  have hiX5 : ∀ w ∈ u_ws RX5 TX5 8, w ∈ vs_f_X11_knocked := vs_f_X11_knocked_uX5
  subst hsz
  have hD := hD0.self (sz := s.heap.size)
  generalize hAe : va_A [((q 15), .inr (11, xF q 0 1)), ((q 1), .inr (5, [.int 0, .int 0, .int 0, .int 0, .ref (q 20), .ref (q 21), .ref (q 22), .ref (q 23)]))] s.heap.size = A at hD ⊢
  have hA : ∀ q : Nat, s.heap.size ≤ q → A q := fun q h => by rw [← hAe]; exact Or.inr h
  have hS : va_S A s.heap s.heap [] := va_S.rf
  have hP : va_P (dC, dI) vwCl [((q 15), .inr (11, xF q 0 1)), ((q 1), .inr (5, [.int 0, .int 0, .int 0, .int 0, .ref (q 20), .ref (q 21), .ref (q 22), .ref (q 23)]))] s.heap := hP
  have hl := lv_entry ([.ref (q 15), .int p0]) (n := 3) (Nat.le_of_ble_eq_true rfl)
  rw [lg_entry_eq]
  generalize (lg_sl ([.ref (q 15), .int p0]) ++ List.replicate (3 - (lg_sl ([.ref (q 15), .int p0])).length) Slot.unset).toArray = ls at hl ⊢
  have hl : lv_has ls 3 [(0, .ref (q 15)), (1, .int p0)] := hl
  refine lv_aload_n hx hb dX11_knocked_0 rfl (lv_at hl 0 rfl) ?_
  have hPc := hP.sub (ws' := [((q 15), .inr (11, xF q 0 1)), ((q 1), .inr (5, [.int 0, .int 0, .int 0, .int 0, .ref (q 20), .ref (q 21), .ref (q 22), .ref (q 23)]))]) [0, 1] rfl
  have hDc := hD.sub (ws' := [((q 15), .inr (11, xF q 0 1)), ((q 1), .inr (5, [.int 0, .int 0, .int 0, .int 0, .ref (q 20), .ref (q 21), .ref (q 22), .ref (q 23)]))]) [0, 1] (by decide) rfl
  have hKc := hK.sub (tys' := []) [] rfl
  have hFc := va_free (wc := [((q 15), .inr (11, xF q 0 1)), ((q 1), .inr (5, [.int 0, .int 0, .int 0, .int 0, .ref (q 20), .ref (q 21), .ref (q 22), .ref (q 23)]))]) hD hS hA [0, 1] rfl
  refine va_calli (va_runV (As := []) (rest := []) ⟨hx, hb, hml, hown, hts⟩ (f_X11_hasTown l dC dI s.heap.size q ) (cwV 0 hts g_f_X11_knocked_f_X11_hasTown rfl rfl rfl (by decide +kernel) ⟨Nat.le_of_ble_eq_true rfl, Nat.le_of_ble_eq_true rfl⟩) ⟨cW_blind, va_recv hKc hPc (ci := 11) (q0 := 0) rfl rfl, fun U hU hW => ⟨rfl, cW_use hU hW hPc hKc hDc hG⟩⟩ rfl rfl hl.1 rfl (lv_room (Nat.le_of_ble_eq_true rfl)) dX11_knocked_1 ⟨Nat.le_of_ble_eq_true rfl, Nat.le_of_ble_eq_true rfl⟩) hS (fun q _ h => hFc q h) hFc (fun r_1 u t H1 locs ht hvm hw hB hz1 hk1 hS => ?_)
  obtain ⟨hP, hD⟩ := va_join (wr := []) (w1 := []) hP hD [0, 1] [] rfl rfl (by decide) (by decide) hk1 hFc (va_P_nil H1) va_D_nil
  generalize H1 = H at hP hS ⊢
  have hP : va_P (dC, dI) vwCl [] H := hP
  have hD : va_D A [] := hD
  refine W.widen (k := 0) (n := 0) (Nat.le_of_ble_eq_true rfl) (Nat.le_of_ble_eq_true rfl) ?_
  obtain rfl : r_1 = 0 := hw
  refine lv_if_ne (tgt := 9) hx hb dX11_knocked_4 (by decide) (fun c_2 => absurd c_2 (by decide)) (fun c_2 => ?_)
  refine lv_iconst (v := (-1)) hx hb dX11_knocked_7 (by decide) ?_
  exact W.iret (v := (-1)) hx hb hr (fun t ht hW => ⟨⟨(-1), (), rfl, rfl, trivial⟩, hS.F ht⟩) hS.2.2 dX11_knocked_8
def vs_f_X11_ask : List Cond := .code yX11_ask cX11_ask 5 (some .int) :: ([.initialized RX11, .instanceMethod yX11_hasTown, .selects RX11 yX11_hasTown yX11_hasTown, .fieldLink RX11 19 "WallChapels" "town" "LWallChapels$Plan;", .code yX11_hasTown cX11_hasTown 1 (some .boolean), .methodLink RX11 239 yX11_hasTown] ++ (u_ws RX11 TX11 17 ++ (u_ws RX5 TX5 8)))
theorem vs_f_X11_ask_uX11 : ∀ w ∈ u_ws RX11 TX11 17, w ∈ vs_f_X11_ask := fun _ h => List.mem_cons_of_mem _ (List.mem_append_right _ (List.mem_append_left _ h))
theorem vs_f_X11_ask_uX5 : ∀ w ∈ u_ws RX5 TX5 8, w ∈ vs_f_X11_ask := fun _ h => List.mem_cons_of_mem _ (List.mem_append_right _ (List.mem_append_right _ (h)))
set_option maxRecDepth 20000 in
theorem g_f_X11_ask_f_X11_hasTown : GoodIn vs_f_X11_ask (wsV RX11 239 RX11 yX11_hasTown vs_f_X11_hasTown) := goodIn_r _ [6, 2, 3, 1, 5, 4, 7, 8, 9, 10, 11, 12, 13, 14, 15, 16, 17, 18, 19, 20, 21, 22, 23, 24, 25, 26, 27, 28, 29, 30, 31] (by decide +kernel) (by decide +kernel)
set_option maxHeartbeats 4000000 in
set_option maxRecDepth 100000 in
theorem f_X11_ask (l : Launch) (dC : Nat → ClassId) (dI : Nat → Nat → Nat) (sz : Nat) (q : Nat → Nat) : Met l yX11_ask vs_f_X11_ask ({ frames := 1, cells := 0, slots := 0, locals := 20 }) (va_Pc [.ref (q 15)] (cW dC dI [((q 15), .inr (11, xF q 0 1)), ((q 1), .inr (5, [.int 0, .int 0, .int 0, .int 0, .ref (q 20), .ref (q 21), .ref (q 22), .ref (q 23)]))] [] sz)) (va_Qi (fun (r : Int32) (_ : Unit) => r = (-1)) (fun (_ : Unit) (t : State) => True) (va_A [((q 15), .inr (11, xF q 0 1)), ((q 1), .inr (5, [.int 0, .int 0, .int 0, .int 0, .ref (q 20), .ref (q 21), .ref (q 22), .ref (q 23)]))] sz)) 0 0 (va_A [((q 15), .inr (11, xF q 0 1)), ((q 1), .inr (5, [.int 0, .int 0, .int 0, .int 0, .ref (q 20), .ref (q 21), .ref (q 22), .ref (q 23)]))] sz) := by
  refine Met.ofW (cc := cX11_ask) (maxL := 5) (ret := (some .int)) (by decide) rfl ?_
  intro p e s m args below meth c s₁ B hml hv
  obtain ⟨rfl, hsz, hP, hK, hD0, hG⟩ := hv
  have hx := B.exec
  have hb := B.bytes
  have hr := B.returns
  have hts := atoms_spec (ws := vs_f_X11_ask) B.pre
  have hown : s.vm.findClass RX11 = some m.cls := findClass_of_methodNamed B.named
  have hlocks := B.notSynchronized
  have hiX11 : ∀ w ∈ u_ws RX11 TX11 17, w ∈ vs_f_X11_ask := vs_f_X11_ask_uX11
  have hiX5 : ∀ w ∈ u_ws RX5 TX5 8, w ∈ vs_f_X11_ask := vs_f_X11_ask_uX5
  subst hsz
  have hD := hD0.self (sz := s.heap.size)
  generalize hAe : va_A [((q 15), .inr (11, xF q 0 1)), ((q 1), .inr (5, [.int 0, .int 0, .int 0, .int 0, .ref (q 20), .ref (q 21), .ref (q 22), .ref (q 23)]))] s.heap.size = A at hD ⊢
  have hA : ∀ q : Nat, s.heap.size ≤ q → A q := fun q h => by rw [← hAe]; exact Or.inr h
  have hS : va_S A s.heap s.heap [] := va_S.rf
  have hP : va_P (dC, dI) vwCl [((q 15), .inr (11, xF q 0 1)), ((q 1), .inr (5, [.int 0, .int 0, .int 0, .int 0, .ref (q 20), .ref (q 21), .ref (q 22), .ref (q 23)]))] s.heap := hP
  have hl := lv_entry ([.ref (q 15)]) (n := 5) (Nat.le_of_ble_eq_true rfl)
  rw [lg_entry_eq]
  generalize (lg_sl ([.ref (q 15)]) ++ List.replicate (5 - (lg_sl ([.ref (q 15)])).length) Slot.unset).toArray = ls at hl ⊢
  have hl : lv_has ls 5 [(0, .ref (q 15))] := hl
  refine lv_aload_n hx hb dX11_ask_0 rfl (lv_at hl 0 rfl) ?_
  have hPc := hP.sub (ws' := [((q 15), .inr (11, xF q 0 1)), ((q 1), .inr (5, [.int 0, .int 0, .int 0, .int 0, .ref (q 20), .ref (q 21), .ref (q 22), .ref (q 23)]))]) [0, 1] rfl
  have hDc := hD.sub (ws' := [((q 15), .inr (11, xF q 0 1)), ((q 1), .inr (5, [.int 0, .int 0, .int 0, .int 0, .ref (q 20), .ref (q 21), .ref (q 22), .ref (q 23)]))]) [0, 1] (by decide) rfl
  have hKc := hK.sub (tys' := []) [] rfl
  have hFc := va_free (wc := [((q 15), .inr (11, xF q 0 1)), ((q 1), .inr (5, [.int 0, .int 0, .int 0, .int 0, .ref (q 20), .ref (q 21), .ref (q 22), .ref (q 23)]))]) hD hS hA [0, 1] rfl
  refine va_calli (va_runV (As := []) (rest := []) ⟨hx, hb, hml, hown, hts⟩ (f_X11_hasTown l dC dI s.heap.size q ) (cwV 0 hts g_f_X11_ask_f_X11_hasTown rfl rfl rfl (by decide +kernel) ⟨Nat.le_of_ble_eq_true rfl, Nat.le_of_ble_eq_true rfl⟩) ⟨cW_blind, va_recv hKc hPc (ci := 11) (q0 := 0) rfl rfl, fun U hU hW => ⟨rfl, cW_use hU hW hPc hKc hDc hG⟩⟩ rfl rfl hl.1 rfl (lv_room (Nat.le_of_ble_eq_true rfl)) dX11_ask_1 ⟨Nat.le_of_ble_eq_true rfl, Nat.le_of_ble_eq_true rfl⟩) hS (fun q _ h => hFc q h) hFc (fun r_1 u t H1 locs ht hvm hw hB hz1 hk1 hS => ?_)
  obtain ⟨hP, hD⟩ := va_join (wr := []) (w1 := []) hP hD [0, 1] [] rfl rfl (by decide) (by decide) hk1 hFc (va_P_nil H1) va_D_nil
  generalize H1 = H at hP hS ⊢
  have hP : va_P (dC, dI) vwCl [] H := hP
  have hD : va_D A [] := hD
  refine W.widen (k := 0) (n := 0) (Nat.le_of_ble_eq_true rfl) (Nat.le_of_ble_eq_true rfl) ?_
  obtain rfl : r_1 = 0 := hw
  refine lv_if_eq (tgt := 28) hx hb dX11_ask_4 (by decide) (fun c_2 => ?_) (fun c_2 => absurd (by decide) c_2)
  refine lv_iconst (v := (-1)) hx hb dX11_ask_28 (by decide) ?_
  exact W.iret (v := (-1)) hx hb hr (fun t ht hW => ⟨⟨(-1), (), rfl, rfl, trivial⟩, hS.F ht⟩) hS.2.2 dX11_ask_29
def vs_f_X11_walls : List Cond := .code yX11_walls cX11_walls 6 (some .int) :: ([.fieldLink RX11 19 "WallChapels" "town" "LWallChapels$Plan;"] ++ (u_ws RX11 TX11 17 ++ (u_ws RX5 TX5 8)))
theorem vs_f_X11_walls_uX11 : ∀ w ∈ u_ws RX11 TX11 17, w ∈ vs_f_X11_walls := fun _ h => List.mem_cons_of_mem _ (List.mem_append_right _ (List.mem_append_left _ h))
theorem vs_f_X11_walls_uX5 : ∀ w ∈ u_ws RX5 TX5 8, w ∈ vs_f_X11_walls := fun _ h => List.mem_cons_of_mem _ (List.mem_append_right _ (List.mem_append_right _ (h)))
set_option maxHeartbeats 4000000 in
set_option maxRecDepth 100000 in
theorem f_X11_walls (l : Launch) (dC : Nat → ClassId) (dI : Nat → Nat → Nat) (sz : Nat) (q : Nat → Nat) (p0 : Int32) : Met l yX11_walls vs_f_X11_walls ({ frames := 0, cells := 0, slots := 0, locals := 0 }) (va_Pc [.ref (q 15), .int p0] (cW dC dI [((q 15), .inr (11, xF q 0 1)), ((q 1), .inr (5, [.int 0, .int 0, .int 0, .int 0, .ref (q 20), .ref (q 21), .ref (q 22), .ref (q 23)]))] [] sz)) (va_Qi (fun (r : Int32) (_ : Unit) => r = (-1)) (fun (_ : Unit) (t : State) => True) (va_A [((q 15), .inr (11, xF q 0 1)), ((q 1), .inr (5, [.int 0, .int 0, .int 0, .int 0, .ref (q 20), .ref (q 21), .ref (q 22), .ref (q 23)]))] sz)) 0 0 (va_A [((q 15), .inr (11, xF q 0 1)), ((q 1), .inr (5, [.int 0, .int 0, .int 0, .int 0, .ref (q 20), .ref (q 21), .ref (q 22), .ref (q 23)]))] sz) := by
  refine Met.ofW (cc := cX11_walls) (maxL := 6) (ret := (some .int)) (by decide) rfl ?_
  intro p e s m args below meth c s₁ B hml hv
  obtain ⟨rfl, hsz, hP, hK, hD0, hG⟩ := hv
  have hx := B.exec
  have hb := B.bytes
  have hr := B.returns
  have hts := atoms_spec (ws := vs_f_X11_walls) B.pre
  have hown : s.vm.findClass RX11 = some m.cls := findClass_of_methodNamed B.named
  have hlocks := B.notSynchronized
  have hiX11 : ∀ w ∈ u_ws RX11 TX11 17, w ∈ vs_f_X11_walls := vs_f_X11_walls_uX11
  have hiX5 : ∀ w ∈ u_ws RX5 TX5 8, w ∈ vs_f_X11_walls := vs_f_X11_walls_uX5
  subst hsz
  have hD := hD0.self (sz := s.heap.size)
  generalize hAe : va_A [((q 15), .inr (11, xF q 0 1)), ((q 1), .inr (5, [.int 0, .int 0, .int 0, .int 0, .ref (q 20), .ref (q 21), .ref (q 22), .ref (q 23)]))] s.heap.size = A at hD ⊢
  have hA : ∀ q : Nat, s.heap.size ≤ q → A q := fun q h => by rw [← hAe]; exact Or.inr h
  have hS : va_S A s.heap s.heap [] := va_S.rf
  have hP : va_P (dC, dI) vwCl [((q 15), .inr (11, xF q 0 1)), ((q 1), .inr (5, [.int 0, .int 0, .int 0, .int 0, .ref (q 20), .ref (q 21), .ref (q 22), .ref (q 23)]))] s.heap := hP
  have hl := lv_entry ([.ref (q 15), .int p0]) (n := 6) (Nat.le_of_ble_eq_true rfl)
  rw [lg_entry_eq]
  generalize (lg_sl ([.ref (q 15), .int p0]) ++ List.replicate (6 - (lg_sl ([.ref (q 15), .int p0])).length) Slot.unset).toArray = ls at hl ⊢
  have hl : lv_has ls 6 [(0, .ref (q 15)), (1, .int p0)] := hl
  refine lv_iload_n hx hb dX11_walls_0 rfl (lv_at hl 1 rfl) ?_
  refine lv_iconst (v := 1) hx hb dX11_walls_1 (by decide) ?_
  refine lv_icmp_lt (tgt := 18) hx hb dX11_walls_2 (by decide) (fun c_1 => ?_) (fun c_1 => ?_)
  · refine lv_iconst (v := (-1)) hx hb dX11_walls_18 (by decide) ?_
    exact W.iret (v := (-1)) hx hb hr (fun t ht hW => ⟨⟨(-1), (), rfl, rfl, trivial⟩, hS.F ht⟩) hS.2.2 dX11_walls_19
  · refine lv_iload_n hx hb dX11_walls_5 rfl (lv_at hl 1 rfl) ?_
    refine lv_iconst (v := 1) hx hb dX11_walls_6 (by decide) ?_
    refine lv_aload_n hx hb dX11_walls_7 rfl (lv_at hl 0 rfl) ?_
    refine va_get (D := (dC, dI)) (ci := 11) (v := .ref (q 1)) (C := RX11) (T := TX11) (N := 17) hx hb hts hiX11 hown hK hP 0 rfl rfl 1 (by decide) (hts (.fieldLink RX11 19 "WallChapels" "town" "LWallChapels$Plan;") (by decide +kernel)) (fun _ h9 => h9) rfl dX11_walls_8 ?_
    refine va_getN (D := (dC, dI)) (ci := 5) (v := .int 0) (C := RX5) (T := TX5) (N := 8) hx hb hts hiX5 hown hK hP 1 rfl rfl 0 (by decide) (gx_u hG 10 rfl rfl) (fun _ h9 => h9) rfl dX11_walls_11 ?_
    refine lv_ishl hx hb dX11_walls_14 ?_
    refine lv_topi (fun v_2 e_2 => ?_)
    obtain rfl : v_2 = 1 := by rw [e_2]; decide
    refine lv_icmp_lt (tgt := 20) hx hb dX11_walls_15 (by decide) (fun c_3 => by have z0 := c_1; have z1 := c_3; simp only [i_lt, i_le, i_eq, i_zm1000000, i_zm30, i_zm20, i_zm2, i_zm1, i_z0, i_z1, i_z2, i_z3, i_z4, i_z5, i_z6, i_z7, i_z8, i_z9, i_z10, i_z11, i_z12, i_z13, i_z14, i_z15, i_z16, i_z17, i_z18, i_z19, i_z20, i_z21, i_z22, i_z23, i_z24, i_z30, i_z32, i_z40, i_z41, i_z50, i_z58, i_z59, i_z60, i_z63, i_z99, i_z100, i_z240, i_z255, i_z999] at z0 z1; omega) (fun c_3 => ?_)
    refine lv_iconst (v := (-1)) hx hb dX11_walls_18 (by decide) ?_
    exact W.iret (v := (-1)) hx hb hr (fun t ht hW => ⟨⟨(-1), (), rfl, rfl, trivial⟩, hS.F ht⟩) hS.2.2 dX11_walls_19
def vs_f_X11_parted : List Cond := .code yX11_parted cX11_parted 7 (some .int) :: ([.initialized RX11, .instanceMethod yX11_isCorner, .selects RX11 yX11_isCorner yX11_isCorner, .fieldLink RX11 19 "WallChapels" "town" "LWallChapels$Plan;", .code yX11_isCorner cX11_isCorner 2 (some .boolean), .methodLink RX11 159 yX11_isCorner] ++ (u_ws RX11 TX11 17 ++ (u_ws RX5 TX5 8)))
theorem vs_f_X11_parted_uX11 : ∀ w ∈ u_ws RX11 TX11 17, w ∈ vs_f_X11_parted := fun _ h => List.mem_cons_of_mem _ (List.mem_append_right _ (List.mem_append_left _ h))
theorem vs_f_X11_parted_uX5 : ∀ w ∈ u_ws RX5 TX5 8, w ∈ vs_f_X11_parted := fun _ h => List.mem_cons_of_mem _ (List.mem_append_right _ (List.mem_append_right _ (h)))
set_option maxRecDepth 20000 in
theorem g_f_X11_parted_f_X11_isCorner : GoodIn vs_f_X11_parted (wsV RX11 159 RX11 yX11_isCorner vs_f_X11_isCorner) := goodIn_r _ [6, 2, 3, 1, 5, 4, 7, 8, 9, 10, 11, 12, 13, 14, 15, 16, 17, 18, 19, 20, 21, 22, 23, 24, 25, 26, 27, 28, 29, 30, 31] (by decide +kernel) (by decide +kernel)
set_option maxHeartbeats 4000000 in
set_option maxRecDepth 100000 in
theorem f_X11_parted (l : Launch) (dC : Nat → ClassId) (dI : Nat → Nat → Nat) (sz : Nat) (q : Nat → Nat) (p0 : Int32) (p1 : Int32) : Met l yX11_parted vs_f_X11_parted ({ frames := 1, cells := 0, slots := 0, locals := 21 }) (va_Pc [.ref (q 15), .int p0, .int p1] (cW dC dI [((q 15), .inr (11, xF q 0 1)), ((q 1), .inr (5, [.int 0, .int 0, .int 0, .int 0, .ref (q 20), .ref (q 21), .ref (q 22), .ref (q 23)]))] [] sz)) (va_Qi (fun (r : Int32) (_ : Unit) => r = (-1)) (fun (_ : Unit) (t : State) => True) (va_A [((q 15), .inr (11, xF q 0 1)), ((q 1), .inr (5, [.int 0, .int 0, .int 0, .int 0, .ref (q 20), .ref (q 21), .ref (q 22), .ref (q 23)]))] sz)) 0 0 (va_A [((q 15), .inr (11, xF q 0 1)), ((q 1), .inr (5, [.int 0, .int 0, .int 0, .int 0, .ref (q 20), .ref (q 21), .ref (q 22), .ref (q 23)]))] sz) := by
  refine Met.ofW (cc := cX11_parted) (maxL := 7) (ret := (some .int)) (by decide) rfl ?_
  intro p e s m args below meth c s₁ B hml hv
  obtain ⟨rfl, hsz, hP, hK, hD0, hG⟩ := hv
  have hx := B.exec
  have hb := B.bytes
  have hr := B.returns
  have hts := atoms_spec (ws := vs_f_X11_parted) B.pre
  have hown : s.vm.findClass RX11 = some m.cls := findClass_of_methodNamed B.named
  have hlocks := B.notSynchronized
  have hiX11 : ∀ w ∈ u_ws RX11 TX11 17, w ∈ vs_f_X11_parted := vs_f_X11_parted_uX11
  have hiX5 : ∀ w ∈ u_ws RX5 TX5 8, w ∈ vs_f_X11_parted := vs_f_X11_parted_uX5
  subst hsz
  have hD := hD0.self (sz := s.heap.size)
  generalize hAe : va_A [((q 15), .inr (11, xF q 0 1)), ((q 1), .inr (5, [.int 0, .int 0, .int 0, .int 0, .ref (q 20), .ref (q 21), .ref (q 22), .ref (q 23)]))] s.heap.size = A at hD ⊢
  have hA : ∀ q : Nat, s.heap.size ≤ q → A q := fun q h => by rw [← hAe]; exact Or.inr h
  have hS : va_S A s.heap s.heap [] := va_S.rf
  have hP : va_P (dC, dI) vwCl [((q 15), .inr (11, xF q 0 1)), ((q 1), .inr (5, [.int 0, .int 0, .int 0, .int 0, .ref (q 20), .ref (q 21), .ref (q 22), .ref (q 23)]))] s.heap := hP
  have hl := lv_entry ([.ref (q 15), .int p0, .int p1]) (n := 7) (Nat.le_of_ble_eq_true rfl)
  rw [lg_entry_eq]
  generalize (lg_sl ([.ref (q 15), .int p0, .int p1]) ++ List.replicate (7 - (lg_sl ([.ref (q 15), .int p0, .int p1])).length) Slot.unset).toArray = ls at hl ⊢
  have hl : lv_has ls 7 [(0, .ref (q 15)), (1, .int p0), (2, .int p1)] := hl
  refine lv_aload_n hx hb dX11_parted_0 rfl (lv_at hl 0 rfl) ?_
  refine lv_iload_n hx hb dX11_parted_1 rfl (lv_at hl 1 rfl) ?_
  have hPc := hP.sub (ws' := [((q 15), .inr (11, xF q 0 1)), ((q 1), .inr (5, [.int 0, .int 0, .int 0, .int 0, .ref (q 20), .ref (q 21), .ref (q 22), .ref (q 23)]))]) [0, 1] rfl
  have hDc := hD.sub (ws' := [((q 15), .inr (11, xF q 0 1)), ((q 1), .inr (5, [.int 0, .int 0, .int 0, .int 0, .ref (q 20), .ref (q 21), .ref (q 22), .ref (q 23)]))]) [0, 1] (by decide) rfl
  have hKc := hK.sub (tys' := []) [] rfl
  have hFc := va_free (wc := [((q 15), .inr (11, xF q 0 1)), ((q 1), .inr (5, [.int 0, .int 0, .int 0, .int 0, .ref (q 20), .ref (q 21), .ref (q 22), .ref (q 23)]))]) hD hS hA [0, 1] rfl
  refine va_calli (va_runV (As := [.int p0]) (rest := []) ⟨hx, hb, hml, hown, hts⟩ (f_X11_isCorner l dC dI s.heap.size q p0) (cwV 1 hts g_f_X11_parted_f_X11_isCorner rfl rfl rfl (by decide +kernel) ⟨Nat.le_of_ble_eq_true rfl, Nat.le_of_ble_eq_true rfl⟩) ⟨cW_blind, va_recv hKc hPc (ci := 11) (q0 := 0) rfl rfl, fun U hU hW => ⟨rfl, cW_use hU hW hPc hKc hDc hG⟩⟩ rfl rfl hl.1 rfl (lv_room (Nat.le_of_ble_eq_true rfl)) dX11_parted_2 ⟨Nat.le_of_ble_eq_true rfl, Nat.le_of_ble_eq_true rfl⟩) hS (fun q _ h => hFc q h) hFc (fun r_1 u t H1 locs ht hvm hw hB hz1 hk1 hS => ?_)
  obtain ⟨hP, hD⟩ := va_join (wr := []) (w1 := []) hP hD [0, 1] [] rfl rfl (by decide) (by decide) hk1 hFc (va_P_nil H1) va_D_nil
  generalize H1 = H at hP hS ⊢
  have hP : va_P (dC, dI) vwCl [] H := hP
  have hD : va_D A [] := hD
  refine W.widen (k := 0) (n := 0) (Nat.le_of_ble_eq_true rfl) (Nat.le_of_ble_eq_true rfl) ?_
  obtain rfl : r_1 = 0 := hw
  refine lv_if_eq (tgt := 21) hx hb dX11_parted_5 (by decide) (fun c_2 => ?_) (fun c_2 => absurd (by decide) c_2)
  refine lv_iconst (v := (-1)) hx hb dX11_parted_21 (by decide) ?_
  exact W.iret (v := (-1)) hx hb hr (fun t ht hW => ⟨⟨(-1), (), rfl, rfl, trivial⟩, hS.F ht⟩) hS.2.2 dX11_parted_22
def vs_f_X11_goes : List Cond := .code yX11_goes cX11_goes 2 (some .int) :: ([.initialized RX11, .instanceMethod yX11_isWalker, .selects RX11 yX11_isWalker yX11_isWalker, .fieldLink RX11 19 "WallChapels" "town" "LWallChapels$Plan;", .code yX11_isWalker cX11_isWalker 2 (some .boolean), .methodLink RX11 196 yX11_isWalker] ++ (u_ws RX11 TX11 17 ++ (u_ws RX5 TX5 8)))
theorem vs_f_X11_goes_uX11 : ∀ w ∈ u_ws RX11 TX11 17, w ∈ vs_f_X11_goes := fun _ h => List.mem_cons_of_mem _ (List.mem_append_right _ (List.mem_append_left _ h))
theorem vs_f_X11_goes_uX5 : ∀ w ∈ u_ws RX5 TX5 8, w ∈ vs_f_X11_goes := fun _ h => List.mem_cons_of_mem _ (List.mem_append_right _ (List.mem_append_right _ (h)))
set_option maxRecDepth 20000 in
theorem g_f_X11_goes_f_X11_isWalker : GoodIn vs_f_X11_goes (wsV RX11 196 RX11 yX11_isWalker vs_f_X11_isWalker) := goodIn_r _ [6, 2, 3, 1, 5, 4, 7, 8, 9, 10, 11, 12, 13, 14, 15, 16, 17, 18, 19, 20, 21, 22, 23, 24, 25, 26, 27, 28, 29, 30, 31] (by decide +kernel) (by decide +kernel)
set_option maxHeartbeats 4000000 in
set_option maxRecDepth 100000 in
theorem f_X11_goes (l : Launch) (dC : Nat → ClassId) (dI : Nat → Nat → Nat) (sz : Nat) (q : Nat → Nat) (p0 : Int32) : Met l yX11_goes vs_f_X11_goes ({ frames := 1, cells := 0, slots := 0, locals := 21 }) (va_Pc [.ref (q 15), .int p0] (cW dC dI [((q 15), .inr (11, xF q 0 1)), ((q 1), .inr (5, [.int 0, .int 0, .int 0, .int 0, .ref (q 20), .ref (q 21), .ref (q 22), .ref (q 23)]))] [] sz)) (va_Qi (fun (r : Int32) (_ : Unit) => r = (-1)) (fun (_ : Unit) (t : State) => True) (va_A [((q 15), .inr (11, xF q 0 1)), ((q 1), .inr (5, [.int 0, .int 0, .int 0, .int 0, .ref (q 20), .ref (q 21), .ref (q 22), .ref (q 23)]))] sz)) 0 0 (va_A [((q 15), .inr (11, xF q 0 1)), ((q 1), .inr (5, [.int 0, .int 0, .int 0, .int 0, .ref (q 20), .ref (q 21), .ref (q 22), .ref (q 23)]))] sz) := by
  refine Met.ofW (cc := cX11_goes) (maxL := 2) (ret := (some .int)) (by decide) rfl ?_
  intro p e s m args below meth c s₁ B hml hv
  obtain ⟨rfl, hsz, hP, hK, hD0, hG⟩ := hv
  have hx := B.exec
  have hb := B.bytes
  have hr := B.returns
  have hts := atoms_spec (ws := vs_f_X11_goes) B.pre
  have hown : s.vm.findClass RX11 = some m.cls := findClass_of_methodNamed B.named
  have hlocks := B.notSynchronized
  have hiX11 : ∀ w ∈ u_ws RX11 TX11 17, w ∈ vs_f_X11_goes := vs_f_X11_goes_uX11
  have hiX5 : ∀ w ∈ u_ws RX5 TX5 8, w ∈ vs_f_X11_goes := vs_f_X11_goes_uX5
  subst hsz
  have hD := hD0.self (sz := s.heap.size)
  generalize hAe : va_A [((q 15), .inr (11, xF q 0 1)), ((q 1), .inr (5, [.int 0, .int 0, .int 0, .int 0, .ref (q 20), .ref (q 21), .ref (q 22), .ref (q 23)]))] s.heap.size = A at hD ⊢
  have hA : ∀ q : Nat, s.heap.size ≤ q → A q := fun q h => by rw [← hAe]; exact Or.inr h
  have hS : va_S A s.heap s.heap [] := va_S.rf
  have hP : va_P (dC, dI) vwCl [((q 15), .inr (11, xF q 0 1)), ((q 1), .inr (5, [.int 0, .int 0, .int 0, .int 0, .ref (q 20), .ref (q 21), .ref (q 22), .ref (q 23)]))] s.heap := hP
  have hl := lv_entry ([.ref (q 15), .int p0]) (n := 2) (Nat.le_of_ble_eq_true rfl)
  rw [lg_entry_eq]
  generalize (lg_sl ([.ref (q 15), .int p0]) ++ List.replicate (2 - (lg_sl ([.ref (q 15), .int p0])).length) Slot.unset).toArray = ls at hl ⊢
  have hl : lv_has ls 2 [(0, .ref (q 15)), (1, .int p0)] := hl
  refine lv_aload_n hx hb dX11_goes_0 rfl (lv_at hl 0 rfl) ?_
  refine lv_iload_n hx hb dX11_goes_1 rfl (lv_at hl 1 rfl) ?_
  have hPc := hP.sub (ws' := [((q 15), .inr (11, xF q 0 1)), ((q 1), .inr (5, [.int 0, .int 0, .int 0, .int 0, .ref (q 20), .ref (q 21), .ref (q 22), .ref (q 23)]))]) [0, 1] rfl
  have hDc := hD.sub (ws' := [((q 15), .inr (11, xF q 0 1)), ((q 1), .inr (5, [.int 0, .int 0, .int 0, .int 0, .ref (q 20), .ref (q 21), .ref (q 22), .ref (q 23)]))]) [0, 1] (by decide) rfl
  have hKc := hK.sub (tys' := []) [] rfl
  have hFc := va_free (wc := [((q 15), .inr (11, xF q 0 1)), ((q 1), .inr (5, [.int 0, .int 0, .int 0, .int 0, .ref (q 20), .ref (q 21), .ref (q 22), .ref (q 23)]))]) hD hS hA [0, 1] rfl
  refine va_calli (va_runV (As := [.int p0]) (rest := []) ⟨hx, hb, hml, hown, hts⟩ (f_X11_isWalker l dC dI s.heap.size q p0) (cwV 1 hts g_f_X11_goes_f_X11_isWalker rfl rfl rfl (by decide +kernel) ⟨Nat.le_of_ble_eq_true rfl, Nat.le_of_ble_eq_true rfl⟩) ⟨cW_blind, va_recv hKc hPc (ci := 11) (q0 := 0) rfl rfl, fun U hU hW => ⟨rfl, cW_use hU hW hPc hKc hDc hG⟩⟩ rfl rfl hl.1 rfl (lv_room (Nat.le_of_ble_eq_true rfl)) dX11_goes_2 ⟨Nat.le_of_ble_eq_true rfl, Nat.le_of_ble_eq_true rfl⟩) hS (fun q _ h => hFc q h) hFc (fun r_1 u t H1 locs ht hvm hw hB hz1 hk1 hS => ?_)
  obtain ⟨hP, hD⟩ := va_join (wr := []) (w1 := []) hP hD [0, 1] [] rfl rfl (by decide) (by decide) hk1 hFc (va_P_nil H1) va_D_nil
  generalize H1 = H at hP hS ⊢
  have hP : va_P (dC, dI) vwCl [] H := hP
  have hD : va_D A [] := hD
  refine W.widen (k := 0) (n := 0) (Nat.le_of_ble_eq_true rfl) (Nat.le_of_ble_eq_true rfl) ?_
  obtain rfl : r_1 = 0 := hw
  refine lv_if_ne (tgt := 10) hx hb dX11_goes_5 (by decide) (fun c_2 => absurd c_2 (by decide)) (fun c_2 => ?_)
  refine lv_iconst (v := (-1)) hx hb dX11_goes_8 (by decide) ?_
  exact W.iret (v := (-1)) hx hb hr (fun t ht hW => ⟨⟨(-1), (), rfl, rfl, trivial⟩, hS.F ht⟩) hS.2.2 dX11_goes_9
def vs_f_X11_goers : List Cond := .code yX11_goers cX11_goers 4 (some .int) :: ([.initialized RX11, .instanceMethod yX11_isCorner, .selects RX11 yX11_isCorner yX11_isCorner, .fieldLink RX11 19 "WallChapels" "town" "LWallChapels$Plan;", .code yX11_isCorner cX11_isCorner 2 (some .boolean), .methodLink RX11 159 yX11_isCorner] ++ (u_ws RX11 TX11 17 ++ (u_ws RX5 TX5 8)))
theorem vs_f_X11_goers_uX11 : ∀ w ∈ u_ws RX11 TX11 17, w ∈ vs_f_X11_goers := fun _ h => List.mem_cons_of_mem _ (List.mem_append_right _ (List.mem_append_left _ h))
theorem vs_f_X11_goers_uX5 : ∀ w ∈ u_ws RX5 TX5 8, w ∈ vs_f_X11_goers := fun _ h => List.mem_cons_of_mem _ (List.mem_append_right _ (List.mem_append_right _ (h)))
set_option maxRecDepth 20000 in
theorem g_f_X11_goers_f_X11_isCorner : GoodIn vs_f_X11_goers (wsV RX11 159 RX11 yX11_isCorner vs_f_X11_isCorner) := goodIn_r _ [6, 2, 3, 1, 5, 4, 7, 8, 9, 10, 11, 12, 13, 14, 15, 16, 17, 18, 19, 20, 21, 22, 23, 24, 25, 26, 27, 28, 29, 30, 31] (by decide +kernel) (by decide +kernel)
set_option maxHeartbeats 4000000 in
set_option maxRecDepth 100000 in
theorem f_X11_goers (l : Launch) (dC : Nat → ClassId) (dI : Nat → Nat → Nat) (sz : Nat) (q : Nat → Nat) (p0 : Int32) : Met l yX11_goers vs_f_X11_goers ({ frames := 1, cells := 0, slots := 0, locals := 21 }) (va_Pc [.ref (q 15), .int p0] (cW dC dI [((q 15), .inr (11, xF q 0 1)), ((q 1), .inr (5, [.int 0, .int 0, .int 0, .int 0, .ref (q 20), .ref (q 21), .ref (q 22), .ref (q 23)]))] [] sz)) (va_Qi (fun (r : Int32) (_ : Unit) => r = (-1)) (fun (_ : Unit) (t : State) => True) (va_A [((q 15), .inr (11, xF q 0 1)), ((q 1), .inr (5, [.int 0, .int 0, .int 0, .int 0, .ref (q 20), .ref (q 21), .ref (q 22), .ref (q 23)]))] sz)) 0 0 (va_A [((q 15), .inr (11, xF q 0 1)), ((q 1), .inr (5, [.int 0, .int 0, .int 0, .int 0, .ref (q 20), .ref (q 21), .ref (q 22), .ref (q 23)]))] sz) := by
  refine Met.ofW (cc := cX11_goers) (maxL := 4) (ret := (some .int)) (by decide) rfl ?_
  intro p e s m args below meth c s₁ B hml hv
  obtain ⟨rfl, hsz, hP, hK, hD0, hG⟩ := hv
  have hx := B.exec
  have hb := B.bytes
  have hr := B.returns
  have hts := atoms_spec (ws := vs_f_X11_goers) B.pre
  have hown : s.vm.findClass RX11 = some m.cls := findClass_of_methodNamed B.named
  have hlocks := B.notSynchronized
  have hiX11 : ∀ w ∈ u_ws RX11 TX11 17, w ∈ vs_f_X11_goers := vs_f_X11_goers_uX11
  have hiX5 : ∀ w ∈ u_ws RX5 TX5 8, w ∈ vs_f_X11_goers := vs_f_X11_goers_uX5
  subst hsz
  have hD := hD0.self (sz := s.heap.size)
  generalize hAe : va_A [((q 15), .inr (11, xF q 0 1)), ((q 1), .inr (5, [.int 0, .int 0, .int 0, .int 0, .ref (q 20), .ref (q 21), .ref (q 22), .ref (q 23)]))] s.heap.size = A at hD ⊢
  have hA : ∀ q : Nat, s.heap.size ≤ q → A q := fun q h => by rw [← hAe]; exact Or.inr h
  have hS : va_S A s.heap s.heap [] := va_S.rf
  have hP : va_P (dC, dI) vwCl [((q 15), .inr (11, xF q 0 1)), ((q 1), .inr (5, [.int 0, .int 0, .int 0, .int 0, .ref (q 20), .ref (q 21), .ref (q 22), .ref (q 23)]))] s.heap := hP
  have hl := lv_entry ([.ref (q 15), .int p0]) (n := 4) (Nat.le_of_ble_eq_true rfl)
  rw [lg_entry_eq]
  generalize (lg_sl ([.ref (q 15), .int p0]) ++ List.replicate (4 - (lg_sl ([.ref (q 15), .int p0])).length) Slot.unset).toArray = ls at hl ⊢
  have hl : lv_has ls 4 [(0, .ref (q 15)), (1, .int p0)] := hl
  refine lv_aload_n hx hb dX11_goers_0 rfl (lv_at hl 0 rfl) ?_
  refine lv_iload_n hx hb dX11_goers_1 rfl (lv_at hl 1 rfl) ?_
  have hPc := hP.sub (ws' := [((q 15), .inr (11, xF q 0 1)), ((q 1), .inr (5, [.int 0, .int 0, .int 0, .int 0, .ref (q 20), .ref (q 21), .ref (q 22), .ref (q 23)]))]) [0, 1] rfl
  have hDc := hD.sub (ws' := [((q 15), .inr (11, xF q 0 1)), ((q 1), .inr (5, [.int 0, .int 0, .int 0, .int 0, .ref (q 20), .ref (q 21), .ref (q 22), .ref (q 23)]))]) [0, 1] (by decide) rfl
  have hKc := hK.sub (tys' := []) [] rfl
  have hFc := va_free (wc := [((q 15), .inr (11, xF q 0 1)), ((q 1), .inr (5, [.int 0, .int 0, .int 0, .int 0, .ref (q 20), .ref (q 21), .ref (q 22), .ref (q 23)]))]) hD hS hA [0, 1] rfl
  refine va_calli (va_runV (As := [.int p0]) (rest := []) ⟨hx, hb, hml, hown, hts⟩ (f_X11_isCorner l dC dI s.heap.size q p0) (cwV 1 hts g_f_X11_goers_f_X11_isCorner rfl rfl rfl (by decide +kernel) ⟨Nat.le_of_ble_eq_true rfl, Nat.le_of_ble_eq_true rfl⟩) ⟨cW_blind, va_recv hKc hPc (ci := 11) (q0 := 0) rfl rfl, fun U hU hW => ⟨rfl, cW_use hU hW hPc hKc hDc hG⟩⟩ rfl rfl hl.1 rfl (lv_room (Nat.le_of_ble_eq_true rfl)) dX11_goers_2 ⟨Nat.le_of_ble_eq_true rfl, Nat.le_of_ble_eq_true rfl⟩) hS (fun q _ h => hFc q h) hFc (fun r_1 u t H1 locs ht hvm hw hB hz1 hk1 hS => ?_)
  obtain ⟨hP, hD⟩ := va_join (wr := []) (w1 := []) hP hD [0, 1] [] rfl rfl (by decide) (by decide) hk1 hFc (va_P_nil H1) va_D_nil
  generalize H1 = H at hP hS ⊢
  have hP : va_P (dC, dI) vwCl [] H := hP
  have hD : va_D A [] := hD
  refine W.widen (k := 0) (n := 0) (Nat.le_of_ble_eq_true rfl) (Nat.le_of_ble_eq_true rfl) ?_
  obtain rfl : r_1 = 0 := hw
  refine lv_if_ne (tgt := 10) hx hb dX11_goers_5 (by decide) (fun c_2 => absurd c_2 (by decide)) (fun c_2 => ?_)
  refine lv_iconst (v := (-1)) hx hb dX11_goers_8 (by decide) ?_
  exact W.iret (v := (-1)) hx hb hr (fun t ht hW => ⟨⟨(-1), (), rfl, rfl, trivial⟩, hS.F ht⟩) hS.2.2 dX11_goers_9
def vs_f_X11_rests : List Cond := .code yX11_rests cX11_rests 7 (some .int) :: ([.initialized RX11, .instanceMethod yX11_areTwoWalkers, .selects RX11 yX11_areTwoWalkers yX11_areTwoWalkers, .instanceMethod yX11_isWalker, .selects RX11 yX11_isWalker yX11_isWalker, .fieldLink RX11 19 "WallChapels" "town" "LWallChapels$Plan;", .code yX11_isWalker cX11_isWalker 2 (some .boolean), .methodLink RX11 196 yX11_isWalker, .code yX11_areTwoWalkers cX11_areTwoWalkers 3 (some .boolean), .methodLink RX11 359 yX11_areTwoWalkers] ++ (u_ws RX11 TX11 17 ++ (u_ws RX5 TX5 8)))
theorem vs_f_X11_rests_uX11 : ∀ w ∈ u_ws RX11 TX11 17, w ∈ vs_f_X11_rests := fun _ h => List.mem_cons_of_mem _ (List.mem_append_right _ (List.mem_append_left _ h))
theorem vs_f_X11_rests_uX5 : ∀ w ∈ u_ws RX5 TX5 8, w ∈ vs_f_X11_rests := fun _ h => List.mem_cons_of_mem _ (List.mem_append_right _ (List.mem_append_right _ (h)))
set_option maxRecDepth 20000 in
theorem g_f_X11_rests_f_X11_areTwoWalkers : GoodIn vs_f_X11_rests (wsV RX11 359 RX11 yX11_areTwoWalkers vs_f_X11_areTwoWalkers) := goodIn_r _ [10, 2, 3, 1, 9, 1, 4, 5, 6, 7, 8, 11, 12, 13, 14, 15, 16, 17, 18, 19, 20, 21, 22, 23, 24, 25, 26, 27, 28, 29, 30, 31, 32, 33, 34, 35] (by decide +kernel) (by decide +kernel)
set_option maxHeartbeats 4000000 in
set_option maxRecDepth 100000 in
theorem f_X11_rests (l : Launch) (dC : Nat → ClassId) (dI : Nat → Nat → Nat) (sz : Nat) (q : Nat → Nat) (p0 : Int32) (p1 : Int32) (p2 : Int32) : Met l yX11_rests vs_f_X11_rests ({ frames := 2, cells := 0, slots := 0, locals := 43 }) (va_Pc [.ref (q 15), .int p0, .int p1, .int p2] (cW dC dI [((q 15), .inr (11, xF q 0 1)), ((q 1), .inr (5, [.int 0, .int 0, .int 0, .int 0, .ref (q 20), .ref (q 21), .ref (q 22), .ref (q 23)]))] [] sz)) (va_Qi (fun (r : Int32) (_ : Unit) => r = (-1)) (fun (_ : Unit) (t : State) => True) (va_A [((q 15), .inr (11, xF q 0 1)), ((q 1), .inr (5, [.int 0, .int 0, .int 0, .int 0, .ref (q 20), .ref (q 21), .ref (q 22), .ref (q 23)]))] sz)) 0 0 (va_A [((q 15), .inr (11, xF q 0 1)), ((q 1), .inr (5, [.int 0, .int 0, .int 0, .int 0, .ref (q 20), .ref (q 21), .ref (q 22), .ref (q 23)]))] sz) := by
  refine Met.ofW (cc := cX11_rests) (maxL := 7) (ret := (some .int)) (by decide) rfl ?_
  intro p e s m args below meth c s₁ B hml hv
  obtain ⟨rfl, hsz, hP, hK, hD0, hG⟩ := hv
  have hx := B.exec
  have hb := B.bytes
  have hr := B.returns
  have hts := atoms_spec (ws := vs_f_X11_rests) B.pre
  have hown : s.vm.findClass RX11 = some m.cls := findClass_of_methodNamed B.named
  have hlocks := B.notSynchronized
  have hiX11 : ∀ w ∈ u_ws RX11 TX11 17, w ∈ vs_f_X11_rests := vs_f_X11_rests_uX11
  have hiX5 : ∀ w ∈ u_ws RX5 TX5 8, w ∈ vs_f_X11_rests := vs_f_X11_rests_uX5
  subst hsz
  have hD := hD0.self (sz := s.heap.size)
  generalize hAe : va_A [((q 15), .inr (11, xF q 0 1)), ((q 1), .inr (5, [.int 0, .int 0, .int 0, .int 0, .ref (q 20), .ref (q 21), .ref (q 22), .ref (q 23)]))] s.heap.size = A at hD ⊢
  have hA : ∀ q : Nat, s.heap.size ≤ q → A q := fun q h => by rw [← hAe]; exact Or.inr h
  have hS : va_S A s.heap s.heap [] := va_S.rf
  have hP : va_P (dC, dI) vwCl [((q 15), .inr (11, xF q 0 1)), ((q 1), .inr (5, [.int 0, .int 0, .int 0, .int 0, .ref (q 20), .ref (q 21), .ref (q 22), .ref (q 23)]))] s.heap := hP
  have hl := lv_entry ([.ref (q 15), .int p0, .int p1, .int p2]) (n := 7) (Nat.le_of_ble_eq_true rfl)
  rw [lg_entry_eq]
  generalize (lg_sl ([.ref (q 15), .int p0, .int p1, .int p2]) ++ List.replicate (7 - (lg_sl ([.ref (q 15), .int p0, .int p1, .int p2])).length) Slot.unset).toArray = ls at hl ⊢
  have hl : lv_has ls 7 [(0, .ref (q 15)), (1, .int p0), (2, .int p1), (3, .int p2)] := hl
  refine lv_aload_n hx hb dX11_rests_0 rfl (lv_at hl 0 rfl) ?_
  refine lv_iload_n hx hb dX11_rests_1 rfl (lv_at hl 1 rfl) ?_
  refine lv_iload_n hx hb dX11_rests_2 rfl (lv_at hl 2 rfl) ?_
  have hPc := hP.sub (ws' := [((q 15), .inr (11, xF q 0 1)), ((q 1), .inr (5, [.int 0, .int 0, .int 0, .int 0, .ref (q 20), .ref (q 21), .ref (q 22), .ref (q 23)]))]) [0, 1] rfl
  have hDc := hD.sub (ws' := [((q 15), .inr (11, xF q 0 1)), ((q 1), .inr (5, [.int 0, .int 0, .int 0, .int 0, .ref (q 20), .ref (q 21), .ref (q 22), .ref (q 23)]))]) [0, 1] (by decide) rfl
  have hKc := hK.sub (tys' := []) [] rfl
  have hFc := va_free (wc := [((q 15), .inr (11, xF q 0 1)), ((q 1), .inr (5, [.int 0, .int 0, .int 0, .int 0, .ref (q 20), .ref (q 21), .ref (q 22), .ref (q 23)]))]) hD hS hA [0, 1] rfl
  refine va_calli (va_runV (As := [.int p0, .int p1]) (rest := []) ⟨hx, hb, hml, hown, hts⟩ (f_X11_areTwoWalkers l dC dI s.heap.size q p0 p1) (cwV 2 hts g_f_X11_rests_f_X11_areTwoWalkers rfl rfl rfl (by decide +kernel) ⟨Nat.le_of_ble_eq_true rfl, Nat.le_of_ble_eq_true rfl⟩) ⟨cW_blind, va_recv hKc hPc (ci := 11) (q0 := 0) rfl rfl, fun U hU hW => ⟨rfl, cW_use hU hW hPc hKc hDc hG⟩⟩ rfl rfl hl.1 rfl (lv_room (Nat.le_of_ble_eq_true rfl)) dX11_rests_3 ⟨Nat.le_of_ble_eq_true rfl, Nat.le_of_ble_eq_true rfl⟩) hS (fun q _ h => hFc q h) hFc (fun r_1 u t H1 locs ht hvm hw hB hz1 hk1 hS => ?_)
  obtain ⟨hP, hD⟩ := va_join (wr := []) (w1 := []) hP hD [0, 1] [] rfl rfl (by decide) (by decide) hk1 hFc (va_P_nil H1) va_D_nil
  generalize H1 = H at hP hS ⊢
  have hP : va_P (dC, dI) vwCl [] H := hP
  have hD : va_D A [] := hD
  refine W.widen (k := 0) (n := 0) (Nat.le_of_ble_eq_true rfl) (Nat.le_of_ble_eq_true rfl) ?_
  obtain rfl : r_1 = 0 := hw
  refine lv_if_eq (tgt := 14) hx hb dX11_rests_6 (by decide) (fun c_2 => ?_) (fun c_2 => absurd (by decide) c_2)
  refine lv_iconst (v := (-1)) hx hb dX11_rests_14 (by decide) ?_
  exact W.iret (v := (-1)) hx hb hr (fun t ht hW => ⟨⟨(-1), (), rfl, rfl, trivial⟩, hS.F ht⟩) hS.2.2 dX11_rests_15
def vs_f_X11_odds : List Cond := .code yX11_odds cX11_odds 6 (some .int) :: ([.initialized RX11, .instanceMethod yX11_isWalker, .selects RX11 yX11_isWalker yX11_isWalker, .fieldLink RX11 19 "WallChapels" "town" "LWallChapels$Plan;", .code yX11_isWalker cX11_isWalker 2 (some .boolean), .methodLink RX11 196 yX11_isWalker] ++ (u_ws RX11 TX11 17 ++ (u_ws RX5 TX5 8)))
theorem vs_f_X11_odds_uX11 : ∀ w ∈ u_ws RX11 TX11 17, w ∈ vs_f_X11_odds := fun _ h => List.mem_cons_of_mem _ (List.mem_append_right _ (List.mem_append_left _ h))
theorem vs_f_X11_odds_uX5 : ∀ w ∈ u_ws RX5 TX5 8, w ∈ vs_f_X11_odds := fun _ h => List.mem_cons_of_mem _ (List.mem_append_right _ (List.mem_append_right _ (h)))
set_option maxRecDepth 20000 in
theorem g_f_X11_odds_f_X11_isWalker : GoodIn vs_f_X11_odds (wsV RX11 196 RX11 yX11_isWalker vs_f_X11_isWalker) := goodIn_r _ [6, 2, 3, 1, 5, 4, 7, 8, 9, 10, 11, 12, 13, 14, 15, 16, 17, 18, 19, 20, 21, 22, 23, 24, 25, 26, 27, 28, 29, 30, 31] (by decide +kernel) (by decide +kernel)
set_option maxHeartbeats 4000000 in
set_option maxRecDepth 100000 in
theorem f_X11_odds (l : Launch) (dC : Nat → ClassId) (dI : Nat → Nat → Nat) (sz : Nat) (q : Nat → Nat) (p0 : Int32) (p1 : Int32) : Met l yX11_odds vs_f_X11_odds ({ frames := 1, cells := 0, slots := 0, locals := 21 }) (va_Pc [.ref (q 15), .int p0, .int p1] (cW dC dI [((q 15), .inr (11, xF q 0 1)), ((q 1), .inr (5, [.int 0, .int 0, .int 0, .int 0, .ref (q 20), .ref (q 21), .ref (q 22), .ref (q 23)]))] [] sz)) (va_Qi (fun (r : Int32) (_ : Unit) => r = (-1)) (fun (_ : Unit) (t : State) => True) (va_A [((q 15), .inr (11, xF q 0 1)), ((q 1), .inr (5, [.int 0, .int 0, .int 0, .int 0, .ref (q 20), .ref (q 21), .ref (q 22), .ref (q 23)]))] sz)) 0 0 (va_A [((q 15), .inr (11, xF q 0 1)), ((q 1), .inr (5, [.int 0, .int 0, .int 0, .int 0, .ref (q 20), .ref (q 21), .ref (q 22), .ref (q 23)]))] sz) := by
  refine Met.ofW (cc := cX11_odds) (maxL := 6) (ret := (some .int)) (by decide) rfl ?_
  intro p e s m args below meth c s₁ B hml hv
  obtain ⟨rfl, hsz, hP, hK, hD0, hG⟩ := hv
  have hx := B.exec
  have hb := B.bytes
  have hr := B.returns
  have hts := atoms_spec (ws := vs_f_X11_odds) B.pre
  have hown : s.vm.findClass RX11 = some m.cls := findClass_of_methodNamed B.named
  have hlocks := B.notSynchronized
  have hiX11 : ∀ w ∈ u_ws RX11 TX11 17, w ∈ vs_f_X11_odds := vs_f_X11_odds_uX11
  have hiX5 : ∀ w ∈ u_ws RX5 TX5 8, w ∈ vs_f_X11_odds := vs_f_X11_odds_uX5
  subst hsz
  have hD := hD0.self (sz := s.heap.size)
  generalize hAe : va_A [((q 15), .inr (11, xF q 0 1)), ((q 1), .inr (5, [.int 0, .int 0, .int 0, .int 0, .ref (q 20), .ref (q 21), .ref (q 22), .ref (q 23)]))] s.heap.size = A at hD ⊢
  have hA : ∀ q : Nat, s.heap.size ≤ q → A q := fun q h => by rw [← hAe]; exact Or.inr h
  have hS : va_S A s.heap s.heap [] := va_S.rf
  have hP : va_P (dC, dI) vwCl [((q 15), .inr (11, xF q 0 1)), ((q 1), .inr (5, [.int 0, .int 0, .int 0, .int 0, .ref (q 20), .ref (q 21), .ref (q 22), .ref (q 23)]))] s.heap := hP
  have hl := lv_entry ([.ref (q 15), .int p0, .int p1]) (n := 6) (Nat.le_of_ble_eq_true rfl)
  rw [lg_entry_eq]
  generalize (lg_sl ([.ref (q 15), .int p0, .int p1]) ++ List.replicate (6 - (lg_sl ([.ref (q 15), .int p0, .int p1])).length) Slot.unset).toArray = ls at hl ⊢
  have hl : lv_has ls 6 [(0, .ref (q 15)), (1, .int p0), (2, .int p1)] := hl
  refine lv_aload_n hx hb dX11_odds_0 rfl (lv_at hl 0 rfl) ?_
  refine lv_iload_n hx hb dX11_odds_1 rfl (lv_at hl 1 rfl) ?_
  have hPc := hP.sub (ws' := [((q 15), .inr (11, xF q 0 1)), ((q 1), .inr (5, [.int 0, .int 0, .int 0, .int 0, .ref (q 20), .ref (q 21), .ref (q 22), .ref (q 23)]))]) [0, 1] rfl
  have hDc := hD.sub (ws' := [((q 15), .inr (11, xF q 0 1)), ((q 1), .inr (5, [.int 0, .int 0, .int 0, .int 0, .ref (q 20), .ref (q 21), .ref (q 22), .ref (q 23)]))]) [0, 1] (by decide) rfl
  have hKc := hK.sub (tys' := []) [] rfl
  have hFc := va_free (wc := [((q 15), .inr (11, xF q 0 1)), ((q 1), .inr (5, [.int 0, .int 0, .int 0, .int 0, .ref (q 20), .ref (q 21), .ref (q 22), .ref (q 23)]))]) hD hS hA [0, 1] rfl
  refine va_calli (va_runV (As := [.int p0]) (rest := []) ⟨hx, hb, hml, hown, hts⟩ (f_X11_isWalker l dC dI s.heap.size q p0) (cwV 1 hts g_f_X11_odds_f_X11_isWalker rfl rfl rfl (by decide +kernel) ⟨Nat.le_of_ble_eq_true rfl, Nat.le_of_ble_eq_true rfl⟩) ⟨cW_blind, va_recv hKc hPc (ci := 11) (q0 := 0) rfl rfl, fun U hU hW => ⟨rfl, cW_use hU hW hPc hKc hDc hG⟩⟩ rfl rfl hl.1 rfl (lv_room (Nat.le_of_ble_eq_true rfl)) dX11_odds_2 ⟨Nat.le_of_ble_eq_true rfl, Nat.le_of_ble_eq_true rfl⟩) hS (fun q _ h => hFc q h) hFc (fun r_1 u t H1 locs ht hvm hw hB hz1 hk1 hS => ?_)
  obtain ⟨hP, hD⟩ := va_join (wr := []) (w1 := []) hP hD [0, 1] [] rfl rfl (by decide) (by decide) hk1 hFc (va_P_nil H1) va_D_nil
  generalize H1 = H at hP hS ⊢
  have hP : va_P (dC, dI) vwCl [] H := hP
  have hD : va_D A [] := hD
  refine W.widen (k := 0) (n := 0) (Nat.le_of_ble_eq_true rfl) (Nat.le_of_ble_eq_true rfl) ?_
  obtain rfl : r_1 = 0 := hw
  refine lv_if_eq (tgt := 18) hx hb dX11_odds_5 (by decide) (fun c_2 => ?_) (fun c_2 => absurd (by decide) c_2)
  refine lv_iconst (v := (-1)) hx hb dX11_odds_18 (by decide) ?_
  exact W.iret (v := (-1)) hx hb hr (fun t ht hW => ⟨⟨(-1), (), rfl, rfl, trivial⟩, hS.F ht⟩) hS.2.2 dX11_odds_19
def vs_f_X11_shares : List Cond := .code yX11_shares cX11_shares 5 (some .int) :: ([.initialized RX11, .instanceMethod yX11_isCorner, .selects RX11 yX11_isCorner yX11_isCorner, .fieldLink RX11 19 "WallChapels" "town" "LWallChapels$Plan;", .code yX11_isCorner cX11_isCorner 2 (some .boolean), .methodLink RX11 159 yX11_isCorner] ++ (u_ws RX11 TX11 17 ++ (u_ws RX5 TX5 8)))
theorem vs_f_X11_shares_uX11 : ∀ w ∈ u_ws RX11 TX11 17, w ∈ vs_f_X11_shares := fun _ h => List.mem_cons_of_mem _ (List.mem_append_right _ (List.mem_append_left _ h))
theorem vs_f_X11_shares_uX5 : ∀ w ∈ u_ws RX5 TX5 8, w ∈ vs_f_X11_shares := fun _ h => List.mem_cons_of_mem _ (List.mem_append_right _ (List.mem_append_right _ (h)))
set_option maxRecDepth 20000 in
theorem g_f_X11_shares_f_X11_isCorner : GoodIn vs_f_X11_shares (wsV RX11 159 RX11 yX11_isCorner vs_f_X11_isCorner) := goodIn_r _ [6, 2, 3, 1, 5, 4, 7, 8, 9, 10, 11, 12, 13, 14, 15, 16, 17, 18, 19, 20, 21, 22, 23, 24, 25, 26, 27, 28, 29, 30, 31] (by decide +kernel) (by decide +kernel)
set_option maxHeartbeats 4000000 in
set_option maxRecDepth 100000 in
theorem f_X11_shares (l : Launch) (dC : Nat → ClassId) (dI : Nat → Nat → Nat) (sz : Nat) (q : Nat → Nat) (p0 : Int32) (p1 : Int32) : Met l yX11_shares vs_f_X11_shares ({ frames := 1, cells := 0, slots := 0, locals := 21 }) (va_Pc [.ref (q 15), .int p0, .int p1] (cW dC dI [((q 15), .inr (11, xF q 0 1)), ((q 1), .inr (5, [.int 0, .int 0, .int 0, .int 0, .ref (q 20), .ref (q 21), .ref (q 22), .ref (q 23)]))] [] sz)) (va_Qi (fun (r : Int32) (_ : Unit) => r = (-1)) (fun (_ : Unit) (t : State) => True) (va_A [((q 15), .inr (11, xF q 0 1)), ((q 1), .inr (5, [.int 0, .int 0, .int 0, .int 0, .ref (q 20), .ref (q 21), .ref (q 22), .ref (q 23)]))] sz)) 0 0 (va_A [((q 15), .inr (11, xF q 0 1)), ((q 1), .inr (5, [.int 0, .int 0, .int 0, .int 0, .ref (q 20), .ref (q 21), .ref (q 22), .ref (q 23)]))] sz) := by
  refine Met.ofW (cc := cX11_shares) (maxL := 5) (ret := (some .int)) (by decide) rfl ?_
  intro p e s m args below meth c s₁ B hml hv
  obtain ⟨rfl, hsz, hP, hK, hD0, hG⟩ := hv
  have hx := B.exec
  have hb := B.bytes
  have hr := B.returns
  have hts := atoms_spec (ws := vs_f_X11_shares) B.pre
  have hown : s.vm.findClass RX11 = some m.cls := findClass_of_methodNamed B.named
  have hlocks := B.notSynchronized
  have hiX11 : ∀ w ∈ u_ws RX11 TX11 17, w ∈ vs_f_X11_shares := vs_f_X11_shares_uX11
  have hiX5 : ∀ w ∈ u_ws RX5 TX5 8, w ∈ vs_f_X11_shares := vs_f_X11_shares_uX5
  subst hsz
  have hD := hD0.self (sz := s.heap.size)
  generalize hAe : va_A [((q 15), .inr (11, xF q 0 1)), ((q 1), .inr (5, [.int 0, .int 0, .int 0, .int 0, .ref (q 20), .ref (q 21), .ref (q 22), .ref (q 23)]))] s.heap.size = A at hD ⊢
  have hA : ∀ q : Nat, s.heap.size ≤ q → A q := fun q h => by rw [← hAe]; exact Or.inr h
  have hS : va_S A s.heap s.heap [] := va_S.rf
  have hP : va_P (dC, dI) vwCl [((q 15), .inr (11, xF q 0 1)), ((q 1), .inr (5, [.int 0, .int 0, .int 0, .int 0, .ref (q 20), .ref (q 21), .ref (q 22), .ref (q 23)]))] s.heap := hP
  have hl := lv_entry ([.ref (q 15), .int p0, .int p1]) (n := 5) (Nat.le_of_ble_eq_true rfl)
  rw [lg_entry_eq]
  generalize (lg_sl ([.ref (q 15), .int p0, .int p1]) ++ List.replicate (5 - (lg_sl ([.ref (q 15), .int p0, .int p1])).length) Slot.unset).toArray = ls at hl ⊢
  have hl : lv_has ls 5 [(0, .ref (q 15)), (1, .int p0), (2, .int p1)] := hl
  refine lv_aload_n hx hb dX11_shares_0 rfl (lv_at hl 0 rfl) ?_
  refine lv_iload_n hx hb dX11_shares_1 rfl (lv_at hl 1 rfl) ?_
  have hPc := hP.sub (ws' := [((q 15), .inr (11, xF q 0 1)), ((q 1), .inr (5, [.int 0, .int 0, .int 0, .int 0, .ref (q 20), .ref (q 21), .ref (q 22), .ref (q 23)]))]) [0, 1] rfl
  have hDc := hD.sub (ws' := [((q 15), .inr (11, xF q 0 1)), ((q 1), .inr (5, [.int 0, .int 0, .int 0, .int 0, .ref (q 20), .ref (q 21), .ref (q 22), .ref (q 23)]))]) [0, 1] (by decide) rfl
  have hKc := hK.sub (tys' := []) [] rfl
  have hFc := va_free (wc := [((q 15), .inr (11, xF q 0 1)), ((q 1), .inr (5, [.int 0, .int 0, .int 0, .int 0, .ref (q 20), .ref (q 21), .ref (q 22), .ref (q 23)]))]) hD hS hA [0, 1] rfl
  refine va_calli (va_runV (As := [.int p0]) (rest := []) ⟨hx, hb, hml, hown, hts⟩ (f_X11_isCorner l dC dI s.heap.size q p0) (cwV 1 hts g_f_X11_shares_f_X11_isCorner rfl rfl rfl (by decide +kernel) ⟨Nat.le_of_ble_eq_true rfl, Nat.le_of_ble_eq_true rfl⟩) ⟨cW_blind, va_recv hKc hPc (ci := 11) (q0 := 0) rfl rfl, fun U hU hW => ⟨rfl, cW_use hU hW hPc hKc hDc hG⟩⟩ rfl rfl hl.1 rfl (lv_room (Nat.le_of_ble_eq_true rfl)) dX11_shares_2 ⟨Nat.le_of_ble_eq_true rfl, Nat.le_of_ble_eq_true rfl⟩) hS (fun q _ h => hFc q h) hFc (fun r_1 u t H1 locs ht hvm hw hB hz1 hk1 hS => ?_)
  obtain ⟨hP, hD⟩ := va_join (wr := []) (w1 := []) hP hD [0, 1] [] rfl rfl (by decide) (by decide) hk1 hFc (va_P_nil H1) va_D_nil
  generalize H1 = H at hP hS ⊢
  have hP : va_P (dC, dI) vwCl [] H := hP
  have hD : va_D A [] := hD
  refine W.widen (k := 0) (n := 0) (Nat.le_of_ble_eq_true rfl) (Nat.le_of_ble_eq_true rfl) ?_
  obtain rfl : r_1 = 0 := hw
  refine lv_if_eq (tgt := 19) hx hb dX11_shares_5 (by decide) (fun c_2 => ?_) (fun c_2 => absurd (by decide) c_2)
  refine lv_iconst (v := (-1)) hx hb dX11_shares_19 (by decide) ?_
  exact W.iret (v := (-1)) hx hb hr (fun t ht hW => ⟨⟨(-1), (), rfl, rfl, trivial⟩, hS.F ht⟩) hS.2.2 dX11_shares_20
def vs_f_X11_all : List Cond := .code yX11_all cX11_all 3 (some .int) :: ([.initialized RX11, .instanceMethod yX11_hasTown, .selects RX11 yX11_hasTown yX11_hasTown, .fieldLink RX11 19 "WallChapels" "town" "LWallChapels$Plan;", .code yX11_hasTown cX11_hasTown 1 (some .boolean), .methodLink RX11 239 yX11_hasTown] ++ (u_ws RX11 TX11 17 ++ (u_ws RX5 TX5 8)))
theorem vs_f_X11_all_uX11 : ∀ w ∈ u_ws RX11 TX11 17, w ∈ vs_f_X11_all := fun _ h => List.mem_cons_of_mem _ (List.mem_append_right _ (List.mem_append_left _ h))
theorem vs_f_X11_all_uX5 : ∀ w ∈ u_ws RX5 TX5 8, w ∈ vs_f_X11_all := fun _ h => List.mem_cons_of_mem _ (List.mem_append_right _ (List.mem_append_right _ (h)))
set_option maxRecDepth 20000 in
theorem g_f_X11_all_f_X11_hasTown : GoodIn vs_f_X11_all (wsV RX11 239 RX11 yX11_hasTown vs_f_X11_hasTown) := goodIn_r _ [6, 2, 3, 1, 5, 4, 7, 8, 9, 10, 11, 12, 13, 14, 15, 16, 17, 18, 19, 20, 21, 22, 23, 24, 25, 26, 27, 28, 29, 30, 31] (by decide +kernel) (by decide +kernel)
set_option maxHeartbeats 4000000 in
set_option maxRecDepth 100000 in
theorem f_X11_all (l : Launch) (dC : Nat → ClassId) (dI : Nat → Nat → Nat) (sz : Nat) (q : Nat → Nat) (p0 : Int32) : Met l yX11_all vs_f_X11_all ({ frames := 1, cells := 0, slots := 0, locals := 20 }) (va_Pc [.ref (q 15), .int p0] (cW dC dI [((q 15), .inr (11, xF q 0 1)), ((q 1), .inr (5, [.int 0, .int 0, .int 0, .int 0, .ref (q 20), .ref (q 21), .ref (q 22), .ref (q 23)]))] [] sz)) (va_Qi (fun (r : Int32) (_ : Unit) => r = (-1)) (fun (_ : Unit) (t : State) => True) (va_A [((q 15), .inr (11, xF q 0 1)), ((q 1), .inr (5, [.int 0, .int 0, .int 0, .int 0, .ref (q 20), .ref (q 21), .ref (q 22), .ref (q 23)]))] sz)) 0 0 (va_A [((q 15), .inr (11, xF q 0 1)), ((q 1), .inr (5, [.int 0, .int 0, .int 0, .int 0, .ref (q 20), .ref (q 21), .ref (q 22), .ref (q 23)]))] sz) := by
  refine Met.ofW (cc := cX11_all) (maxL := 3) (ret := (some .int)) (by decide) rfl ?_
  intro p e s m args below meth c s₁ B hml hv
  obtain ⟨rfl, hsz, hP, hK, hD0, hG⟩ := hv
  have hx := B.exec
  have hb := B.bytes
  have hr := B.returns
  have hts := atoms_spec (ws := vs_f_X11_all) B.pre
  have hown : s.vm.findClass RX11 = some m.cls := findClass_of_methodNamed B.named
  have hlocks := B.notSynchronized
  have hiX11 : ∀ w ∈ u_ws RX11 TX11 17, w ∈ vs_f_X11_all := vs_f_X11_all_uX11
  have hiX5 : ∀ w ∈ u_ws RX5 TX5 8, w ∈ vs_f_X11_all := vs_f_X11_all_uX5
  subst hsz
  have hD := hD0.self (sz := s.heap.size)
  generalize hAe : va_A [((q 15), .inr (11, xF q 0 1)), ((q 1), .inr (5, [.int 0, .int 0, .int 0, .int 0, .ref (q 20), .ref (q 21), .ref (q 22), .ref (q 23)]))] s.heap.size = A at hD ⊢
  have hA : ∀ q : Nat, s.heap.size ≤ q → A q := fun q h => by rw [← hAe]; exact Or.inr h
  have hS : va_S A s.heap s.heap [] := va_S.rf
  have hP : va_P (dC, dI) vwCl [((q 15), .inr (11, xF q 0 1)), ((q 1), .inr (5, [.int 0, .int 0, .int 0, .int 0, .ref (q 20), .ref (q 21), .ref (q 22), .ref (q 23)]))] s.heap := hP
  have hl := lv_entry ([.ref (q 15), .int p0]) (n := 3) (Nat.le_of_ble_eq_true rfl)
  rw [lg_entry_eq]
  generalize (lg_sl ([.ref (q 15), .int p0]) ++ List.replicate (3 - (lg_sl ([.ref (q 15), .int p0])).length) Slot.unset).toArray = ls at hl ⊢
  have hl : lv_has ls 3 [(0, .ref (q 15)), (1, .int p0)] := hl
  refine lv_aload_n hx hb dX11_all_0 rfl (lv_at hl 0 rfl) ?_
  have hPc := hP.sub (ws' := [((q 15), .inr (11, xF q 0 1)), ((q 1), .inr (5, [.int 0, .int 0, .int 0, .int 0, .ref (q 20), .ref (q 21), .ref (q 22), .ref (q 23)]))]) [0, 1] rfl
  have hDc := hD.sub (ws' := [((q 15), .inr (11, xF q 0 1)), ((q 1), .inr (5, [.int 0, .int 0, .int 0, .int 0, .ref (q 20), .ref (q 21), .ref (q 22), .ref (q 23)]))]) [0, 1] (by decide) rfl
  have hKc := hK.sub (tys' := []) [] rfl
  have hFc := va_free (wc := [((q 15), .inr (11, xF q 0 1)), ((q 1), .inr (5, [.int 0, .int 0, .int 0, .int 0, .ref (q 20), .ref (q 21), .ref (q 22), .ref (q 23)]))]) hD hS hA [0, 1] rfl
  refine va_calli (va_runV (As := []) (rest := []) ⟨hx, hb, hml, hown, hts⟩ (f_X11_hasTown l dC dI s.heap.size q ) (cwV 0 hts g_f_X11_all_f_X11_hasTown rfl rfl rfl (by decide +kernel) ⟨Nat.le_of_ble_eq_true rfl, Nat.le_of_ble_eq_true rfl⟩) ⟨cW_blind, va_recv hKc hPc (ci := 11) (q0 := 0) rfl rfl, fun U hU hW => ⟨rfl, cW_use hU hW hPc hKc hDc hG⟩⟩ rfl rfl hl.1 rfl (lv_room (Nat.le_of_ble_eq_true rfl)) dX11_all_1 ⟨Nat.le_of_ble_eq_true rfl, Nat.le_of_ble_eq_true rfl⟩) hS (fun q _ h => hFc q h) hFc (fun r_1 u t H1 locs ht hvm hw hB hz1 hk1 hS => ?_)
  obtain ⟨hP, hD⟩ := va_join (wr := []) (w1 := []) hP hD [0, 1] [] rfl rfl (by decide) (by decide) hk1 hFc (va_P_nil H1) va_D_nil
  generalize H1 = H at hP hS ⊢
  have hP : va_P (dC, dI) vwCl [] H := hP
  have hD : va_D A [] := hD
  refine W.widen (k := 0) (n := 0) (Nat.le_of_ble_eq_true rfl) (Nat.le_of_ble_eq_true rfl) ?_
  obtain rfl : r_1 = 0 := hw
  refine lv_if_ne (tgt := 9) hx hb dX11_all_4 (by decide) (fun c_2 => absurd c_2 (by decide)) (fun c_2 => ?_)
  refine lv_iconst (v := (-1)) hx hb dX11_all_7 (by decide) ?_
  exact W.iret (v := (-1)) hx hb hr (fun t ht hW => ⟨⟨(-1), (), rfl, rfl, trivial⟩, hS.F ht⟩) hS.2.2 dX11_all_8
def vs_f_X11_street : List Cond := .code yX11_street cX11_street 3 (some .int) :: ([.initialized RX11, .instanceMethod yX11_isStreet, .selects RX11 yX11_isStreet yX11_isStreet, .fieldLink RX11 19 "WallChapels" "town" "LWallChapels$Plan;", .code yX11_isStreet cX11_isStreet 2 (some .boolean), .methodLink RX11 181 yX11_isStreet] ++ (u_ws RX11 TX11 17 ++ (u_ws RX5 TX5 8)))
theorem vs_f_X11_street_uX11 : ∀ w ∈ u_ws RX11 TX11 17, w ∈ vs_f_X11_street := fun _ h => List.mem_cons_of_mem _ (List.mem_append_right _ (List.mem_append_left _ h))
theorem vs_f_X11_street_uX5 : ∀ w ∈ u_ws RX5 TX5 8, w ∈ vs_f_X11_street := fun _ h => List.mem_cons_of_mem _ (List.mem_append_right _ (List.mem_append_right _ (h)))
set_option maxRecDepth 20000 in
theorem g_f_X11_street_f_X11_isStreet : GoodIn vs_f_X11_street (wsV RX11 181 RX11 yX11_isStreet vs_f_X11_isStreet) := goodIn_r _ [6, 2, 3, 1, 5, 4, 7, 8, 9, 10, 11, 12, 13, 14, 15, 16, 17, 18, 19, 20, 21, 22, 23, 24, 25, 26, 27, 28, 29, 30, 31] (by decide +kernel) (by decide +kernel)
set_option maxHeartbeats 4000000 in
set_option maxRecDepth 100000 in
theorem f_X11_street (l : Launch) (dC : Nat → ClassId) (dI : Nat → Nat → Nat) (sz : Nat) (q : Nat → Nat) (p0 : Int32) (p1 : Int32) : Met l yX11_street vs_f_X11_street ({ frames := 1, cells := 0, slots := 0, locals := 21 }) (va_Pc [.ref (q 15), .int p0, .int p1] (cW dC dI [((q 15), .inr (11, xF q 0 1)), ((q 1), .inr (5, [.int 0, .int 0, .int 0, .int 0, .ref (q 20), .ref (q 21), .ref (q 22), .ref (q 23)]))] [] sz)) (va_Qi (fun (r : Int32) (_ : Unit) => r = (-1)) (fun (_ : Unit) (t : State) => True) (va_A [((q 15), .inr (11, xF q 0 1)), ((q 1), .inr (5, [.int 0, .int 0, .int 0, .int 0, .ref (q 20), .ref (q 21), .ref (q 22), .ref (q 23)]))] sz)) 0 0 (va_A [((q 15), .inr (11, xF q 0 1)), ((q 1), .inr (5, [.int 0, .int 0, .int 0, .int 0, .ref (q 20), .ref (q 21), .ref (q 22), .ref (q 23)]))] sz) := by
  refine Met.ofW (cc := cX11_street) (maxL := 3) (ret := (some .int)) (by decide) rfl ?_
  intro p e s m args below meth c s₁ B hml hv
  obtain ⟨rfl, hsz, hP, hK, hD0, hG⟩ := hv
  have hx := B.exec
  have hb := B.bytes
  have hr := B.returns
  have hts := atoms_spec (ws := vs_f_X11_street) B.pre
  have hown : s.vm.findClass RX11 = some m.cls := findClass_of_methodNamed B.named
  have hlocks := B.notSynchronized
  have hiX11 : ∀ w ∈ u_ws RX11 TX11 17, w ∈ vs_f_X11_street := vs_f_X11_street_uX11
  have hiX5 : ∀ w ∈ u_ws RX5 TX5 8, w ∈ vs_f_X11_street := vs_f_X11_street_uX5
  subst hsz
  have hD := hD0.self (sz := s.heap.size)
  generalize hAe : va_A [((q 15), .inr (11, xF q 0 1)), ((q 1), .inr (5, [.int 0, .int 0, .int 0, .int 0, .ref (q 20), .ref (q 21), .ref (q 22), .ref (q 23)]))] s.heap.size = A at hD ⊢
  have hA : ∀ q : Nat, s.heap.size ≤ q → A q := fun q h => by rw [← hAe]; exact Or.inr h
  have hS : va_S A s.heap s.heap [] := va_S.rf
  have hP : va_P (dC, dI) vwCl [((q 15), .inr (11, xF q 0 1)), ((q 1), .inr (5, [.int 0, .int 0, .int 0, .int 0, .ref (q 20), .ref (q 21), .ref (q 22), .ref (q 23)]))] s.heap := hP
  have hl := lv_entry ([.ref (q 15), .int p0, .int p1]) (n := 3) (Nat.le_of_ble_eq_true rfl)
  rw [lg_entry_eq]
  generalize (lg_sl ([.ref (q 15), .int p0, .int p1]) ++ List.replicate (3 - (lg_sl ([.ref (q 15), .int p0, .int p1])).length) Slot.unset).toArray = ls at hl ⊢
  have hl : lv_has ls 3 [(0, .ref (q 15)), (1, .int p0), (2, .int p1)] := hl
  refine lv_aload_n hx hb dX11_street_0 rfl (lv_at hl 0 rfl) ?_
  refine lv_iload_n hx hb dX11_street_1 rfl (lv_at hl 1 rfl) ?_
  have hPc := hP.sub (ws' := [((q 15), .inr (11, xF q 0 1)), ((q 1), .inr (5, [.int 0, .int 0, .int 0, .int 0, .ref (q 20), .ref (q 21), .ref (q 22), .ref (q 23)]))]) [0, 1] rfl
  have hDc := hD.sub (ws' := [((q 15), .inr (11, xF q 0 1)), ((q 1), .inr (5, [.int 0, .int 0, .int 0, .int 0, .ref (q 20), .ref (q 21), .ref (q 22), .ref (q 23)]))]) [0, 1] (by decide) rfl
  have hKc := hK.sub (tys' := []) [] rfl
  have hFc := va_free (wc := [((q 15), .inr (11, xF q 0 1)), ((q 1), .inr (5, [.int 0, .int 0, .int 0, .int 0, .ref (q 20), .ref (q 21), .ref (q 22), .ref (q 23)]))]) hD hS hA [0, 1] rfl
  refine va_calli (va_runV (As := [.int p0]) (rest := []) ⟨hx, hb, hml, hown, hts⟩ (f_X11_isStreet l dC dI s.heap.size q p0) (cwV 1 hts g_f_X11_street_f_X11_isStreet rfl rfl rfl (by decide +kernel) ⟨Nat.le_of_ble_eq_true rfl, Nat.le_of_ble_eq_true rfl⟩) ⟨cW_blind, va_recv hKc hPc (ci := 11) (q0 := 0) rfl rfl, fun U hU hW => ⟨rfl, cW_use hU hW hPc hKc hDc hG⟩⟩ rfl rfl hl.1 rfl (lv_room (Nat.le_of_ble_eq_true rfl)) dX11_street_2 ⟨Nat.le_of_ble_eq_true rfl, Nat.le_of_ble_eq_true rfl⟩) hS (fun q _ h => hFc q h) hFc (fun r_1 u t H1 locs ht hvm hw hB hz1 hk1 hS => ?_)
  obtain ⟨hP, hD⟩ := va_join (wr := []) (w1 := []) hP hD [0, 1] [] rfl rfl (by decide) (by decide) hk1 hFc (va_P_nil H1) va_D_nil
  generalize H1 = H at hP hS ⊢
  have hP : va_P (dC, dI) vwCl [] H := hP
  have hD : va_D A [] := hD
  refine W.widen (k := 0) (n := 0) (Nat.le_of_ble_eq_true rfl) (Nat.le_of_ble_eq_true rfl) ?_
  obtain rfl : r_1 = 0 := hw
  refine lv_if_ne (tgt := 10) hx hb dX11_street_5 (by decide) (fun c_2 => absurd c_2 (by decide)) (fun c_2 => ?_)
  refine lv_iconst (v := (-1)) hx hb dX11_street_8 (by decide) ?_
  exact W.iret (v := (-1)) hx hb hr (fun t ht hW => ⟨⟨(-1), (), rfl, rfl, trivial⟩, hS.F ht⟩) hS.2.2 dX11_street_9
def vs_f_X11_check : List Cond := .code yX11_check cX11_check 10 (some .int) :: ([.initialized RX11, .instanceMethod yX11_hasTown, .selects RX11 yX11_hasTown yX11_hasTown, .fieldLink RX11 19 "WallChapels" "town" "LWallChapels$Plan;", .code yX11_hasTown cX11_hasTown 1 (some .boolean), .methodLink RX11 239 yX11_hasTown, .constant RX11 235 (-1000000)] ++ (u_ws RX11 TX11 17 ++ (u_ws RX5 TX5 8)))
theorem vs_f_X11_check_uX11 : ∀ w ∈ u_ws RX11 TX11 17, w ∈ vs_f_X11_check := fun _ h => List.mem_cons_of_mem _ (List.mem_append_right _ (List.mem_append_left _ h))
theorem vs_f_X11_check_uX5 : ∀ w ∈ u_ws RX5 TX5 8, w ∈ vs_f_X11_check := fun _ h => List.mem_cons_of_mem _ (List.mem_append_right _ (List.mem_append_right _ (h)))
set_option maxRecDepth 20000 in
theorem g_f_X11_check_f_X11_hasTown : GoodIn vs_f_X11_check (wsV RX11 239 RX11 yX11_hasTown vs_f_X11_hasTown) := goodIn_r _ [6, 2, 3, 1, 5, 4, 8, 9, 10, 11, 12, 13, 14, 15, 16, 17, 18, 19, 20, 21, 22, 23, 24, 25, 26, 27, 28, 29, 30, 31, 32] (by decide +kernel) (by decide +kernel)
set_option maxHeartbeats 4000000 in
set_option maxRecDepth 100000 in
theorem f_X11_check (l : Launch) (dC : Nat → ClassId) (dI : Nat → Nat → Nat) (sz : Nat) (q : Nat → Nat) (p0 : Int32) (p1 : Int32) : Met l yX11_check vs_f_X11_check ({ frames := 1, cells := 0, slots := 0, locals := 20 }) (va_Pc [.ref (q 15), .int p0, .int p1] (cW dC dI [((q 15), .inr (11, xF q 0 1)), ((q 1), .inr (5, [.int 0, .int 0, .int 0, .int 0, .ref (q 20), .ref (q 21), .ref (q 22), .ref (q 23)]))] [] sz)) (va_Qi (fun (r : Int32) (_ : Unit) => r = (-1000000)) (fun (_ : Unit) (t : State) => True) (va_A [((q 15), .inr (11, xF q 0 1)), ((q 1), .inr (5, [.int 0, .int 0, .int 0, .int 0, .ref (q 20), .ref (q 21), .ref (q 22), .ref (q 23)]))] sz)) 0 0 (va_A [((q 15), .inr (11, xF q 0 1)), ((q 1), .inr (5, [.int 0, .int 0, .int 0, .int 0, .ref (q 20), .ref (q 21), .ref (q 22), .ref (q 23)]))] sz) := by
  refine Met.ofW (cc := cX11_check) (maxL := 10) (ret := (some .int)) (by decide) rfl ?_
  intro p e s m args below meth c s₁ B hml hv
  obtain ⟨rfl, hsz, hP, hK, hD0, hG⟩ := hv
  have hx := B.exec
  have hb := B.bytes
  have hr := B.returns
  have hts := atoms_spec (ws := vs_f_X11_check) B.pre
  have hown : s.vm.findClass RX11 = some m.cls := findClass_of_methodNamed B.named
  have hlocks := B.notSynchronized
  have hiX11 : ∀ w ∈ u_ws RX11 TX11 17, w ∈ vs_f_X11_check := vs_f_X11_check_uX11
  have hiX5 : ∀ w ∈ u_ws RX5 TX5 8, w ∈ vs_f_X11_check := vs_f_X11_check_uX5
  subst hsz
  have hD := hD0.self (sz := s.heap.size)
  generalize hAe : va_A [((q 15), .inr (11, xF q 0 1)), ((q 1), .inr (5, [.int 0, .int 0, .int 0, .int 0, .ref (q 20), .ref (q 21), .ref (q 22), .ref (q 23)]))] s.heap.size = A at hD ⊢
  have hA : ∀ q : Nat, s.heap.size ≤ q → A q := fun q h => by rw [← hAe]; exact Or.inr h
  have hS : va_S A s.heap s.heap [] := va_S.rf
  have hP : va_P (dC, dI) vwCl [((q 15), .inr (11, xF q 0 1)), ((q 1), .inr (5, [.int 0, .int 0, .int 0, .int 0, .ref (q 20), .ref (q 21), .ref (q 22), .ref (q 23)]))] s.heap := hP
  have hl := lv_entry ([.ref (q 15), .int p0, .int p1]) (n := 10) (Nat.le_of_ble_eq_true rfl)
  rw [lg_entry_eq]
  generalize (lg_sl ([.ref (q 15), .int p0, .int p1]) ++ List.replicate (10 - (lg_sl ([.ref (q 15), .int p0, .int p1])).length) Slot.unset).toArray = ls at hl ⊢
  have hl : lv_has ls 10 [(0, .ref (q 15)), (1, .int p0), (2, .int p1)] := hl
  refine lv_aload_n hx hb dX11_check_0 rfl (lv_at hl 0 rfl) ?_
  have hPc := hP.sub (ws' := [((q 15), .inr (11, xF q 0 1)), ((q 1), .inr (5, [.int 0, .int 0, .int 0, .int 0, .ref (q 20), .ref (q 21), .ref (q 22), .ref (q 23)]))]) [0, 1] rfl
  have hDc := hD.sub (ws' := [((q 15), .inr (11, xF q 0 1)), ((q 1), .inr (5, [.int 0, .int 0, .int 0, .int 0, .ref (q 20), .ref (q 21), .ref (q 22), .ref (q 23)]))]) [0, 1] (by decide) rfl
  have hKc := hK.sub (tys' := []) [] rfl
  have hFc := va_free (wc := [((q 15), .inr (11, xF q 0 1)), ((q 1), .inr (5, [.int 0, .int 0, .int 0, .int 0, .ref (q 20), .ref (q 21), .ref (q 22), .ref (q 23)]))]) hD hS hA [0, 1] rfl
  refine va_calli (va_runV (As := []) (rest := []) ⟨hx, hb, hml, hown, hts⟩ (f_X11_hasTown l dC dI s.heap.size q ) (cwV 0 hts g_f_X11_check_f_X11_hasTown rfl rfl rfl (by decide +kernel) ⟨Nat.le_of_ble_eq_true rfl, Nat.le_of_ble_eq_true rfl⟩) ⟨cW_blind, va_recv hKc hPc (ci := 11) (q0 := 0) rfl rfl, fun U hU hW => ⟨rfl, cW_use hU hW hPc hKc hDc hG⟩⟩ rfl rfl hl.1 rfl (lv_room (Nat.le_of_ble_eq_true rfl)) dX11_check_1 ⟨Nat.le_of_ble_eq_true rfl, Nat.le_of_ble_eq_true rfl⟩) hS (fun q _ h => hFc q h) hFc (fun r_1 u t H1 locs ht hvm hw hB hz1 hk1 hS => ?_)
  obtain ⟨hP, hD⟩ := va_join (wr := []) (w1 := []) hP hD [0, 1] [] rfl rfl (by decide) (by decide) hk1 hFc (va_P_nil H1) va_D_nil
  generalize H1 = H at hP hS ⊢
  have hP : va_P (dC, dI) vwCl [] H := hP
  have hD : va_D A [] := hD
  refine W.widen (k := 0) (n := 0) (Nat.le_of_ble_eq_true rfl) (Nat.le_of_ble_eq_true rfl) ?_
  obtain rfl : r_1 = 0 := hw
  refine lv_if_eq (tgt := 31) hx hb dX11_check_4 (by decide) (fun c_2 => ?_) (fun c_2 => absurd (by decide) c_2)
  refine lv_ldc hx hb hown (hts (.constant RX11 235 (-1000000)) (by decide +kernel)) dX11_check_31 ?_
  exact W.iret (v := (-1000000)) hx hb hr (fun t ht hW => ⟨⟨(-1000000), (), rfl, rfl, trivial⟩, hS.F ht⟩) hS.2.2 dX11_check_33
def vs_f_X11_draws : List Cond := .code yX11_draws cX11_draws 3 (some .int) :: ([.initialized RX11, .instanceMethod yX11_isWalker, .selects RX11 yX11_isWalker yX11_isWalker, .fieldLink RX11 19 "WallChapels" "town" "LWallChapels$Plan;", .code yX11_isWalker cX11_isWalker 2 (some .boolean), .methodLink RX11 196 yX11_isWalker, .constant RX11 235 (-1000000)] ++ (u_ws RX11 TX11 17 ++ (u_ws RX5 TX5 8)))
theorem vs_f_X11_draws_uX11 : ∀ w ∈ u_ws RX11 TX11 17, w ∈ vs_f_X11_draws := fun _ h => List.mem_cons_of_mem _ (List.mem_append_right _ (List.mem_append_left _ h))
theorem vs_f_X11_draws_uX5 : ∀ w ∈ u_ws RX5 TX5 8, w ∈ vs_f_X11_draws := fun _ h => List.mem_cons_of_mem _ (List.mem_append_right _ (List.mem_append_right _ (h)))
set_option maxRecDepth 20000 in
theorem g_f_X11_draws_f_X11_isWalker : GoodIn vs_f_X11_draws (wsV RX11 196 RX11 yX11_isWalker vs_f_X11_isWalker) := goodIn_r _ [6, 2, 3, 1, 5, 4, 8, 9, 10, 11, 12, 13, 14, 15, 16, 17, 18, 19, 20, 21, 22, 23, 24, 25, 26, 27, 28, 29, 30, 31, 32] (by decide +kernel) (by decide +kernel)
set_option maxHeartbeats 4000000 in
set_option maxRecDepth 100000 in
theorem f_X11_draws (l : Launch) (dC : Nat → ClassId) (dI : Nat → Nat → Nat) (sz : Nat) (q : Nat → Nat) (p0 : Int32) (p1 : Int32) : Met l yX11_draws vs_f_X11_draws ({ frames := 1, cells := 0, slots := 0, locals := 21 }) (va_Pc [.ref (q 15), .int p0, .int p1] (cW dC dI [((q 15), .inr (11, xF q 0 1)), ((q 1), .inr (5, [.int 0, .int 0, .int 0, .int 0, .ref (q 20), .ref (q 21), .ref (q 22), .ref (q 23)]))] [] sz)) (va_Qi (fun (r : Int32) (_ : Unit) => r = (-1000000)) (fun (_ : Unit) (t : State) => True) (va_A [((q 15), .inr (11, xF q 0 1)), ((q 1), .inr (5, [.int 0, .int 0, .int 0, .int 0, .ref (q 20), .ref (q 21), .ref (q 22), .ref (q 23)]))] sz)) 0 0 (va_A [((q 15), .inr (11, xF q 0 1)), ((q 1), .inr (5, [.int 0, .int 0, .int 0, .int 0, .ref (q 20), .ref (q 21), .ref (q 22), .ref (q 23)]))] sz) := by
  refine Met.ofW (cc := cX11_draws) (maxL := 3) (ret := (some .int)) (by decide) rfl ?_
  intro p e s m args below meth c s₁ B hml hv
  obtain ⟨rfl, hsz, hP, hK, hD0, hG⟩ := hv
  have hx := B.exec
  have hb := B.bytes
  have hr := B.returns
  have hts := atoms_spec (ws := vs_f_X11_draws) B.pre
  have hown : s.vm.findClass RX11 = some m.cls := findClass_of_methodNamed B.named
  have hlocks := B.notSynchronized
  have hiX11 : ∀ w ∈ u_ws RX11 TX11 17, w ∈ vs_f_X11_draws := vs_f_X11_draws_uX11
  have hiX5 : ∀ w ∈ u_ws RX5 TX5 8, w ∈ vs_f_X11_draws := vs_f_X11_draws_uX5
  subst hsz
  have hD := hD0.self (sz := s.heap.size)
  generalize hAe : va_A [((q 15), .inr (11, xF q 0 1)), ((q 1), .inr (5, [.int 0, .int 0, .int 0, .int 0, .ref (q 20), .ref (q 21), .ref (q 22), .ref (q 23)]))] s.heap.size = A at hD ⊢
  have hA : ∀ q : Nat, s.heap.size ≤ q → A q := fun q h => by rw [← hAe]; exact Or.inr h
  have hS : va_S A s.heap s.heap [] := va_S.rf
  have hP : va_P (dC, dI) vwCl [((q 15), .inr (11, xF q 0 1)), ((q 1), .inr (5, [.int 0, .int 0, .int 0, .int 0, .ref (q 20), .ref (q 21), .ref (q 22), .ref (q 23)]))] s.heap := hP
  have hl := lv_entry ([.ref (q 15), .int p0, .int p1]) (n := 3) (Nat.le_of_ble_eq_true rfl)
  rw [lg_entry_eq]
  generalize (lg_sl ([.ref (q 15), .int p0, .int p1]) ++ List.replicate (3 - (lg_sl ([.ref (q 15), .int p0, .int p1])).length) Slot.unset).toArray = ls at hl ⊢
  have hl : lv_has ls 3 [(0, .ref (q 15)), (1, .int p0), (2, .int p1)] := hl
  refine lv_aload_n hx hb dX11_draws_0 rfl (lv_at hl 0 rfl) ?_
  refine lv_iload_n hx hb dX11_draws_1 rfl (lv_at hl 1 rfl) ?_
  have hPc := hP.sub (ws' := [((q 15), .inr (11, xF q 0 1)), ((q 1), .inr (5, [.int 0, .int 0, .int 0, .int 0, .ref (q 20), .ref (q 21), .ref (q 22), .ref (q 23)]))]) [0, 1] rfl
  have hDc := hD.sub (ws' := [((q 15), .inr (11, xF q 0 1)), ((q 1), .inr (5, [.int 0, .int 0, .int 0, .int 0, .ref (q 20), .ref (q 21), .ref (q 22), .ref (q 23)]))]) [0, 1] (by decide) rfl
  have hKc := hK.sub (tys' := []) [] rfl
  have hFc := va_free (wc := [((q 15), .inr (11, xF q 0 1)), ((q 1), .inr (5, [.int 0, .int 0, .int 0, .int 0, .ref (q 20), .ref (q 21), .ref (q 22), .ref (q 23)]))]) hD hS hA [0, 1] rfl
  refine va_calli (va_runV (As := [.int p0]) (rest := []) ⟨hx, hb, hml, hown, hts⟩ (f_X11_isWalker l dC dI s.heap.size q p0) (cwV 1 hts g_f_X11_draws_f_X11_isWalker rfl rfl rfl (by decide +kernel) ⟨Nat.le_of_ble_eq_true rfl, Nat.le_of_ble_eq_true rfl⟩) ⟨cW_blind, va_recv hKc hPc (ci := 11) (q0 := 0) rfl rfl, fun U hU hW => ⟨rfl, cW_use hU hW hPc hKc hDc hG⟩⟩ rfl rfl hl.1 rfl (lv_room (Nat.le_of_ble_eq_true rfl)) dX11_draws_2 ⟨Nat.le_of_ble_eq_true rfl, Nat.le_of_ble_eq_true rfl⟩) hS (fun q _ h => hFc q h) hFc (fun r_1 u t H1 locs ht hvm hw hB hz1 hk1 hS => ?_)
  obtain ⟨hP, hD⟩ := va_join (wr := []) (w1 := []) hP hD [0, 1] [] rfl rfl (by decide) (by decide) hk1 hFc (va_P_nil H1) va_D_nil
  generalize H1 = H at hP hS ⊢
  have hP : va_P (dC, dI) vwCl [] H := hP
  have hD : va_D A [] := hD
  refine W.widen (k := 0) (n := 0) (Nat.le_of_ble_eq_true rfl) (Nat.le_of_ble_eq_true rfl) ?_
  obtain rfl : r_1 = 0 := hw
  refine lv_if_eq (tgt := 16) hx hb dX11_draws_5 (by decide) (fun c_2 => ?_) (fun c_2 => absurd (by decide) c_2)
  refine lv_ldc hx hb hown (hts (.constant RX11 235 (-1000000)) (by decide +kernel)) dX11_draws_16 ?_
  exact W.iret (v := (-1000000)) hx hb hr (fun t ht hW => ⟨⟨(-1000000), (), rfl, rfl, trivial⟩, hS.F ht⟩) hS.2.2 dX11_draws_18
def vs_f_X11_game : List Cond := .code yX11_game cX11_game 6 (some .int) :: ([.initialized RX11, .instanceMethod yX11_areTwoWalkers, .selects RX11 yX11_areTwoWalkers yX11_areTwoWalkers, .instanceMethod yX11_isWalker, .selects RX11 yX11_isWalker yX11_isWalker, .fieldLink RX11 19 "WallChapels" "town" "LWallChapels$Plan;", .code yX11_isWalker cX11_isWalker 2 (some .boolean), .methodLink RX11 196 yX11_isWalker, .code yX11_areTwoWalkers cX11_areTwoWalkers 3 (some .boolean), .methodLink RX11 359 yX11_areTwoWalkers, .constant RX11 235 (-1000000)] ++ (u_ws RX11 TX11 17 ++ (u_ws RX5 TX5 8)))
theorem vs_f_X11_game_uX11 : ∀ w ∈ u_ws RX11 TX11 17, w ∈ vs_f_X11_game := fun _ h => List.mem_cons_of_mem _ (List.mem_append_right _ (List.mem_append_left _ h))
theorem vs_f_X11_game_uX5 : ∀ w ∈ u_ws RX5 TX5 8, w ∈ vs_f_X11_game := fun _ h => List.mem_cons_of_mem _ (List.mem_append_right _ (List.mem_append_right _ (h)))
set_option maxRecDepth 20000 in
theorem g_f_X11_game_f_X11_areTwoWalkers : GoodIn vs_f_X11_game (wsV RX11 359 RX11 yX11_areTwoWalkers vs_f_X11_areTwoWalkers) := goodIn_r _ [10, 2, 3, 1, 9, 1, 4, 5, 6, 7, 8, 12, 13, 14, 15, 16, 17, 18, 19, 20, 21, 22, 23, 24, 25, 26, 27, 28, 29, 30, 31, 32, 33, 34, 35, 36] (by decide +kernel) (by decide +kernel)
set_option maxHeartbeats 4000000 in
set_option maxRecDepth 100000 in
theorem f_X11_game (l : Launch) (dC : Nat → ClassId) (dI : Nat → Nat → Nat) (sz : Nat) (q : Nat → Nat) (p0 : Int32) (p1 : Int32) (p2 : Int32) (p3 : Int32) (p4 : Int32) : Met l yX11_game vs_f_X11_game ({ frames := 2, cells := 0, slots := 0, locals := 43 }) (va_Pc [.ref (q 15), .int p0, .int p1, .int p2, .int p3, .int p4] (cW dC dI [((q 15), .inr (11, xF q 0 1)), ((q 1), .inr (5, [.int 0, .int 0, .int 0, .int 0, .ref (q 20), .ref (q 21), .ref (q 22), .ref (q 23)]))] [] sz)) (va_Qi (fun (r : Int32) (_ : Unit) => r = (-1000000)) (fun (_ : Unit) (t : State) => True) (va_A [((q 15), .inr (11, xF q 0 1)), ((q 1), .inr (5, [.int 0, .int 0, .int 0, .int 0, .ref (q 20), .ref (q 21), .ref (q 22), .ref (q 23)]))] sz)) 0 0 (va_A [((q 15), .inr (11, xF q 0 1)), ((q 1), .inr (5, [.int 0, .int 0, .int 0, .int 0, .ref (q 20), .ref (q 21), .ref (q 22), .ref (q 23)]))] sz) := by
  refine Met.ofW (cc := cX11_game) (maxL := 6) (ret := (some .int)) (by decide) rfl ?_
  intro p e s m args below meth c s₁ B hml hv
  obtain ⟨rfl, hsz, hP, hK, hD0, hG⟩ := hv
  have hx := B.exec
  have hb := B.bytes
  have hr := B.returns
  have hts := atoms_spec (ws := vs_f_X11_game) B.pre
  have hown : s.vm.findClass RX11 = some m.cls := findClass_of_methodNamed B.named
  have hlocks := B.notSynchronized
  have hiX11 : ∀ w ∈ u_ws RX11 TX11 17, w ∈ vs_f_X11_game := vs_f_X11_game_uX11
  have hiX5 : ∀ w ∈ u_ws RX5 TX5 8, w ∈ vs_f_X11_game := vs_f_X11_game_uX5
  subst hsz
  have hD := hD0.self (sz := s.heap.size)
  generalize hAe : va_A [((q 15), .inr (11, xF q 0 1)), ((q 1), .inr (5, [.int 0, .int 0, .int 0, .int 0, .ref (q 20), .ref (q 21), .ref (q 22), .ref (q 23)]))] s.heap.size = A at hD ⊢
  have hA : ∀ q : Nat, s.heap.size ≤ q → A q := fun q h => by rw [← hAe]; exact Or.inr h
  have hS : va_S A s.heap s.heap [] := va_S.rf
  have hP : va_P (dC, dI) vwCl [((q 15), .inr (11, xF q 0 1)), ((q 1), .inr (5, [.int 0, .int 0, .int 0, .int 0, .ref (q 20), .ref (q 21), .ref (q 22), .ref (q 23)]))] s.heap := hP
  have hl := lv_entry ([.ref (q 15), .int p0, .int p1, .int p2, .int p3, .int p4]) (n := 6) (Nat.le_of_ble_eq_true rfl)
  rw [lg_entry_eq]
  generalize (lg_sl ([.ref (q 15), .int p0, .int p1, .int p2, .int p3, .int p4]) ++ List.replicate (6 - (lg_sl ([.ref (q 15), .int p0, .int p1, .int p2, .int p3, .int p4])).length) Slot.unset).toArray = ls at hl ⊢
  have hl : lv_has ls 6 [(0, .ref (q 15)), (1, .int p0), (2, .int p1), (3, .int p2), (4, .int p3), (5, .int p4)] := hl
  refine lv_aload_n hx hb dX11_game_0 rfl (lv_at hl 0 rfl) ?_
  refine lv_iload_n hx hb dX11_game_1 rfl (lv_at hl 1 rfl) ?_
  refine lv_iload_n hx hb dX11_game_2 rfl (lv_at hl 2 rfl) ?_
  have hPc := hP.sub (ws' := [((q 15), .inr (11, xF q 0 1)), ((q 1), .inr (5, [.int 0, .int 0, .int 0, .int 0, .ref (q 20), .ref (q 21), .ref (q 22), .ref (q 23)]))]) [0, 1] rfl
  have hDc := hD.sub (ws' := [((q 15), .inr (11, xF q 0 1)), ((q 1), .inr (5, [.int 0, .int 0, .int 0, .int 0, .ref (q 20), .ref (q 21), .ref (q 22), .ref (q 23)]))]) [0, 1] (by decide) rfl
  have hKc := hK.sub (tys' := []) [] rfl
  have hFc := va_free (wc := [((q 15), .inr (11, xF q 0 1)), ((q 1), .inr (5, [.int 0, .int 0, .int 0, .int 0, .ref (q 20), .ref (q 21), .ref (q 22), .ref (q 23)]))]) hD hS hA [0, 1] rfl
  refine va_calli (va_runV (As := [.int p0, .int p1]) (rest := []) ⟨hx, hb, hml, hown, hts⟩ (f_X11_areTwoWalkers l dC dI s.heap.size q p0 p1) (cwV 2 hts g_f_X11_game_f_X11_areTwoWalkers rfl rfl rfl (by decide +kernel) ⟨Nat.le_of_ble_eq_true rfl, Nat.le_of_ble_eq_true rfl⟩) ⟨cW_blind, va_recv hKc hPc (ci := 11) (q0 := 0) rfl rfl, fun U hU hW => ⟨rfl, cW_use hU hW hPc hKc hDc hG⟩⟩ rfl rfl hl.1 rfl (lv_room (Nat.le_of_ble_eq_true rfl)) dX11_game_3 ⟨Nat.le_of_ble_eq_true rfl, Nat.le_of_ble_eq_true rfl⟩) hS (fun q _ h => hFc q h) hFc (fun r_1 u t H1 locs ht hvm hw hB hz1 hk1 hS => ?_)
  obtain ⟨hP, hD⟩ := va_join (wr := []) (w1 := []) hP hD [0, 1] [] rfl rfl (by decide) (by decide) hk1 hFc (va_P_nil H1) va_D_nil
  generalize H1 = H at hP hS ⊢
  have hP : va_P (dC, dI) vwCl [] H := hP
  have hD : va_D A [] := hD
  refine W.widen (k := 0) (n := 0) (Nat.le_of_ble_eq_true rfl) (Nat.le_of_ble_eq_true rfl) ?_
  obtain rfl : r_1 = 0 := hw
  refine lv_if_eq (tgt := 42) hx hb dX11_game_6 (by decide) (fun c_2 => ?_) (fun c_2 => absurd (by decide) c_2)
  refine lv_ldc hx hb hown (hts (.constant RX11 235 (-1000000)) (by decide +kernel)) dX11_game_42 ?_
  exact W.iret (v := (-1000000)) hx hb hr (fun t ht hW => ⟨⟨(-1000000), (), rfl, rfl, trivial⟩, hS.F ht⟩) hS.2.2 dX11_game_44
end
section
set_option maxRecDepth 20000 in
theorem dX11_walk_0 : decode cX11_walk 0 = .ok (.iload_n 1, 1) := by decide +kernel
set_option maxRecDepth 20000 in
theorem dX11_walk_1 : decode cX11_walk 1 = .ok (.ifCond .lt 14, 3) := by decide +kernel
set_option maxRecDepth 20000 in
theorem dX11_walk_15 : decode cX11_walk 15 = .ok (.iconst (-1), 1) := by decide +kernel
set_option maxRecDepth 20000 in
theorem dX11_walk_16 : decode cX11_walk 16 = .ok (.ireturn, 1) := by decide +kernel
set_option maxRecDepth 20000 in
theorem dX11_walk_4 : decode cX11_walk 4 = .ok (.iload_n 1, 1) := by decide +kernel
set_option maxRecDepth 20000 in
theorem dX11_walk_5 : decode cX11_walk 5 = .ok (.aload_n 0, 1) := by decide +kernel
set_option maxRecDepth 20000 in
theorem dX11_walk_6 : decode cX11_walk 6 = .ok (.getfield 45, 3) := by decide +kernel
set_option maxRecDepth 20000 in
theorem dX11_walk_9 : decode cX11_walk 9 = .ok (.getfield 222, 3) := by decide +kernel
set_option maxRecDepth 20000 in
theorem dX11_walk_12 : decode cX11_walk 12 = .ok (.if_icmp .lt 5, 3) := by decide +kernel
set_option maxRecDepth 20000 in
theorem dX11_log_0 : decode cX11_log 0 = .ok (.iload_n 1, 1) := by decide +kernel
set_option maxRecDepth 20000 in
theorem dX11_log_1 : decode cX11_log 1 = .ok (.ifCond .lt 20, 3) := by decide +kernel
set_option maxRecDepth 20000 in
theorem dX11_log_21 : decode cX11_log 21 = .ok (.iconst (-1), 1) := by decide +kernel
set_option maxRecDepth 20000 in
theorem dX11_log_22 : decode cX11_log 22 = .ok (.ireturn, 1) := by decide +kernel
set_option maxRecDepth 20000 in
theorem dX11_log_4 : decode cX11_log 4 = .ok (.iload_n 1, 1) := by decide +kernel
set_option maxRecDepth 20000 in
theorem dX11_log_5 : decode cX11_log 5 = .ok (.aload_n 0, 1) := by decide +kernel
set_option maxRecDepth 20000 in
theorem dX11_log_6 : decode cX11_log 6 = .ok (.invokevirtual 229, 3) := by decide +kernel
set_option maxRecDepth 20000 in
theorem dX11_log_9 : decode cX11_log 9 = .ok (.if_icmp .ge 12, 3) := by decide +kernel
set_option maxRecDepth 20000 in
theorem dX11_back_0 : decode cX11_back 0 = .ok (.aload_n 0, 1) := by decide +kernel
set_option maxRecDepth 20000 in
theorem dX11_back_1 : decode cX11_back 1 = .ok (.getfield 152, 3) := by decide +kernel
set_option maxRecDepth 20000 in
theorem dX11_back_4 : decode cX11_back 4 = .ok (.ifCond .ne 5, 3) := by decide +kernel
set_option maxRecDepth 20000 in
theorem dX11_back_7 : decode cX11_back 7 = .ok (.iconst (-1), 1) := by decide +kernel
set_option maxRecDepth 20000 in
theorem dX11_back_8 : decode cX11_back 8 = .ok (.ireturn, 1) := by decide +kernel
set_option maxRecDepth 20000 in
theorem dX11_council_0 : decode cX11_council 0 = .ok (.iload_n 1, 1) := by decide +kernel
set_option maxRecDepth 20000 in
theorem dX11_council_1 : decode cX11_council 1 = .ok (.ifCond .lt 17, 3) := by decide +kernel
set_option maxRecDepth 20000 in
theorem dX11_council_18 : decode cX11_council 18 = .ok (.iconst 0, 1) := by decide +kernel
set_option maxRecDepth 20000 in
theorem dX11_council_19 : decode cX11_council 19 = .ok (.ireturn, 1) := by decide +kernel
set_option maxRecDepth 20000 in
theorem dX11_council_4 : decode cX11_council 4 = .ok (.iload_n 1, 1) := by decide +kernel
set_option maxRecDepth 20000 in
theorem dX11_council_5 : decode cX11_council 5 = .ok (.bipush 9, 2) := by decide +kernel
set_option maxRecDepth 20000 in
theorem dX11_council_7 : decode cX11_council 7 = .ok (.if_icmp .gt 11, 3) := by decide +kernel
set_option maxRecDepth 20000 in
theorem dX11_council_10 : decode cX11_council 10 = .ok (.iload_n 1, 1) := by decide +kernel
set_option maxRecDepth 20000 in
theorem dX11_council_11 : decode cX11_council 11 = .ok (.aload_n 0, 1) := by decide +kernel
set_option maxRecDepth 20000 in
theorem dX11_council_12 : decode cX11_council 12 = .ok (.getfield 102, 3) := by decide +kernel
set_option maxRecDepth 20000 in
theorem dX11_council_15 : decode cX11_council 15 = .ok (.if_icmp .ne 5, 3) := by decide +kernel
set_option maxRecDepth 20000 in
theorem dX11_council_20 : decode cX11_council 20 = .ok (.aload_n 0, 1) := by decide +kernel
set_option maxRecDepth 20000 in
theorem dX11_council_21 : decode cX11_council 21 = .ok (.iload_n 1, 1) := by decide +kernel
set_option maxRecDepth 20000 in
theorem dX11_council_22 : decode cX11_council 22 = .ok (.putfield 102, 3) := by decide +kernel
set_option maxRecDepth 20000 in
theorem dX11_council_25 : decode cX11_council 25 = .ok (.iconst 1, 1) := by decide +kernel
set_option maxRecDepth 20000 in
theorem dX11_council_26 : decode cX11_council 26 = .ok (.ireturn, 1) := by decide +kernel
set_option maxRecDepth 20000 in
theorem dX11_law_0 : decode cX11_law 0 = .ok (.iload_n 1, 1) := by decide +kernel
set_option maxRecDepth 20000 in
theorem dX11_law_1 : decode cX11_law 1 = .ok (.iconst (-1), 1) := by decide +kernel
set_option maxRecDepth 20000 in
theorem dX11_law_2 : decode cX11_law 2 = .ok (.if_icmp .eq 20, 3) := by decide +kernel
set_option maxRecDepth 20000 in
theorem dX11_law_22 : decode cX11_law 22 = .ok (.aload_n 0, 1) := by decide +kernel
set_option maxRecDepth 20000 in
theorem dX11_law_23 : decode cX11_law 23 = .ok (.getfield 38, 3) := by decide +kernel
set_option maxRecDepth 20000 in
theorem dX11_law_26 : decode cX11_law 26 = .ok (.iload_n 1, 1) := by decide +kernel
set_option maxRecDepth 20000 in
theorem dX11_law_27 : decode cX11_law 27 = .ok (.putfield 213, 3) := by decide +kernel
set_option maxRecDepth 20000 in
theorem dX11_law_30 : decode cX11_law 30 = .ok (.iconst 1, 1) := by decide +kernel
set_option maxRecDepth 20000 in
theorem dX11_law_31 : decode cX11_law 31 = .ok (.ireturn, 1) := by decide +kernel
set_option maxRecDepth 20000 in
theorem dX11_law_5 : decode cX11_law 5 = .ok (.iload_n 1, 1) := by decide +kernel
set_option maxRecDepth 20000 in
theorem dX11_law_6 : decode cX11_law 6 = .ok (.ifCond .lt 14, 3) := by decide +kernel
set_option maxRecDepth 20000 in
theorem dX11_law_20 : decode cX11_law 20 = .ok (.iconst 0, 1) := by decide +kernel
set_option maxRecDepth 20000 in
theorem dX11_law_21 : decode cX11_law 21 = .ok (.ireturn, 1) := by decide +kernel
set_option maxRecDepth 20000 in
theorem dX11_law_9 : decode cX11_law 9 = .ok (.iload_n 1, 1) := by decide +kernel
set_option maxRecDepth 20000 in
theorem dX11_law_10 : decode cX11_law 10 = .ok (.aload_n 0, 1) := by decide +kernel
set_option maxRecDepth 20000 in
theorem dX11_law_11 : decode cX11_law 11 = .ok (.getfield 38, 3) := by decide +kernel
set_option maxRecDepth 20000 in
theorem dX11_law_14 : decode cX11_law 14 = .ok (.getfield 212, 3) := by decide +kernel
set_option maxRecDepth 20000 in
theorem dX11_law_17 : decode cX11_law 17 = .ok (.if_icmp .lt 5, 3) := by decide +kernel
set_option maxRecDepth 20000 in
theorem dX11_end_0 : decode cX11_end 0 = .ok (.iload_n 1, 1) := by decide +kernel
set_option maxRecDepth 20000 in
theorem dX11_end_1 : decode cX11_end 1 = .ok (.ifCond .lt 14, 3) := by decide +kernel
set_option maxRecDepth 20000 in
theorem dX11_end_15 : decode cX11_end 15 = .ok (.iconst 0, 1) := by decide +kernel
set_option maxRecDepth 20000 in
theorem dX11_end_16 : decode cX11_end 16 = .ok (.ireturn, 1) := by decide +kernel
set_option maxRecDepth 20000 in
theorem dX11_end_4 : decode cX11_end 4 = .ok (.iload_n 1, 1) := by decide +kernel
set_option maxRecDepth 20000 in
theorem dX11_end_5 : decode cX11_end 5 = .ok (.aload_n 0, 1) := by decide +kernel
set_option maxRecDepth 20000 in
theorem dX11_end_6 : decode cX11_end 6 = .ok (.getfield 10, 3) := by decide +kernel
set_option maxRecDepth 20000 in
theorem dX11_end_9 : decode cX11_end 9 = .ok (.getfield 110, 3) := by decide +kernel
set_option maxRecDepth 20000 in
theorem dX11_end_12 : decode cX11_end 12 = .ok (.if_icmp .le 5, 3) := by decide +kernel
set_option maxRecDepth 20000 in
theorem dX11_end_17 : decode cX11_end 17 = .ok (.aload_n 0, 1) := by decide +kernel
set_option maxRecDepth 20000 in
theorem dX11_end_18 : decode cX11_end 18 = .ok (.getfield 10, 3) := by decide +kernel
set_option maxRecDepth 20000 in
theorem dX11_end_21 : decode cX11_end 21 = .ok (.iload_n 1, 1) := by decide +kernel
set_option maxRecDepth 20000 in
theorem dX11_end_22 : decode cX11_end 22 = .ok (.putfield 110, 3) := by decide +kernel
set_option maxRecDepth 20000 in
theorem dX11_end_25 : decode cX11_end 25 = .ok (.iconst 1, 1) := by decide +kernel
set_option maxRecDepth 20000 in
theorem dX11_end_26 : decode cX11_end 26 = .ok (.ireturn, 1) := by decide +kernel
def vs_f_X11_walk : List Cond := .code yX11_walk cX11_walk 3 (some .int) :: ([.fieldLink RX11 45 "WallChapels" "walks" "LWallChapels$Walks;"] ++ (u_ws RX11 TX11 17 ++ (u_ws RX9 TX9 5)))
theorem vs_f_X11_walk_uX11 : ∀ w ∈ u_ws RX11 TX11 17, w ∈ vs_f_X11_walk := fun _ h => List.mem_cons_of_mem _ (List.mem_append_right _ (List.mem_append_left _ h))
theorem vs_f_X11_walk_uX9 : ∀ w ∈ u_ws RX9 TX9 5, w ∈ vs_f_X11_walk := fun _ h => List.mem_cons_of_mem _ (List.mem_append_right _ (List.mem_append_right _ (h)))
set_option maxHeartbeats 4000000 in
set_option maxRecDepth 100000 in
theorem f_X11_walk (l : Launch) (dC : Nat → ClassId) (dI : Nat → Nat → Nat) (sz : Nat) (q : Nat → Nat) (p0 : Int32) (p1 : Int32) : Met l yX11_walk vs_f_X11_walk ({ frames := 0, cells := 0, slots := 0, locals := 0 }) (va_Pc [.ref (q 15), .int p0, .int p1] (cW dC dI [((q 15), .inr (11, xF q 0 1)), ((q 5), .inr (9, [.ref (q 33), .ref (q 34), .ref (q 35), .int 0, .int 0]))] [] sz)) (va_Qi (fun (r : Int32) (_ : Unit) => r = (-1)) (fun (_ : Unit) (t : State) => True) (va_A [((q 15), .inr (11, xF q 0 1)), ((q 5), .inr (9, [.ref (q 33), .ref (q 34), .ref (q 35), .int 0, .int 0]))] sz)) 0 0 (va_A [((q 15), .inr (11, xF q 0 1)), ((q 5), .inr (9, [.ref (q 33), .ref (q 34), .ref (q 35), .int 0, .int 0]))] sz) := by
  refine Met.ofW (cc := cX11_walk) (maxL := 3) (ret := (some .int)) (by decide) rfl ?_
  intro p e s m args below meth c s₁ B hml hv
  obtain ⟨rfl, hsz, hP, hK, hD0, hG⟩ := hv
  have hx := B.exec
  have hb := B.bytes
  have hr := B.returns
  have hts := atoms_spec (ws := vs_f_X11_walk) B.pre
  have hown : s.vm.findClass RX11 = some m.cls := findClass_of_methodNamed B.named
  have hlocks := B.notSynchronized
  have hiX11 : ∀ w ∈ u_ws RX11 TX11 17, w ∈ vs_f_X11_walk := vs_f_X11_walk_uX11
  have hiX9 : ∀ w ∈ u_ws RX9 TX9 5, w ∈ vs_f_X11_walk := vs_f_X11_walk_uX9
  subst hsz
  have hD := hD0.self (sz := s.heap.size)
  generalize hAe : va_A [((q 15), .inr (11, xF q 0 1)), ((q 5), .inr (9, [.ref (q 33), .ref (q 34), .ref (q 35), .int 0, .int 0]))] s.heap.size = A at hD ⊢
  have hA : ∀ q : Nat, s.heap.size ≤ q → A q := fun q h => by rw [← hAe]; exact Or.inr h
  have hS : va_S A s.heap s.heap [] := va_S.rf
  have hP : va_P (dC, dI) vwCl [((q 15), .inr (11, xF q 0 1)), ((q 5), .inr (9, [.ref (q 33), .ref (q 34), .ref (q 35), .int 0, .int 0]))] s.heap := hP
  have hl := lv_entry ([.ref (q 15), .int p0, .int p1]) (n := 3) (Nat.le_of_ble_eq_true rfl)
  rw [lg_entry_eq]
  generalize (lg_sl ([.ref (q 15), .int p0, .int p1]) ++ List.replicate (3 - (lg_sl ([.ref (q 15), .int p0, .int p1])).length) Slot.unset).toArray = ls at hl ⊢
  have hl : lv_has ls 3 [(0, .ref (q 15)), (1, .int p0), (2, .int p1)] := hl
  refine lv_iload_n hx hb dX11_walk_0 rfl (lv_at hl 1 rfl) ?_
  refine lv_if_lt (tgt := 15) hx hb dX11_walk_1 (by decide) (fun c_1 => ?_) (fun c_1 => ?_)
  · refine lv_iconst (v := (-1)) hx hb dX11_walk_15 (by decide) ?_
    exact W.iret (v := (-1)) hx hb hr (fun t ht hW => ⟨⟨(-1), (), rfl, rfl, trivial⟩, hS.F ht⟩) hS.2.2 dX11_walk_16
  · refine lv_iload_n hx hb dX11_walk_4 rfl (lv_at hl 1 rfl) ?_
    refine lv_aload_n hx hb dX11_walk_5 rfl (lv_at hl 0 rfl) ?_
    refine va_get (D := (dC, dI)) (ci := 11) (v := .ref (q 5)) (C := RX11) (T := TX11) (N := 17) hx hb hts hiX11 hown hK hP 0 rfl rfl 5 (by decide) (hts (.fieldLink RX11 45 "WallChapels" "walks" "LWallChapels$Walks;") (by decide +kernel)) (fun _ h9 => h9) rfl dX11_walk_6 ?_
    refine va_getN (D := (dC, dI)) (ci := 9) (v := .int 0) (C := RX9) (T := TX9) (N := 5) hx hb hts hiX9 hown hK hP 1 rfl rfl 4 (by decide) (gx_u hG 30 rfl rfl) (fun _ h9 => h9) rfl dX11_walk_9 ?_
    refine lv_icmp_lt (tgt := 17) hx hb dX11_walk_12 (by decide) (fun c_2 => by have z0 := c_1; have z1 := c_2; simp only [i_lt, i_le, i_eq, i_zm1000000, i_zm30, i_zm20, i_zm2, i_zm1, i_z0, i_z1, i_z2, i_z3, i_z4, i_z5, i_z6, i_z7, i_z8, i_z9, i_z10, i_z11, i_z12, i_z13, i_z14, i_z15, i_z16, i_z17, i_z18, i_z19, i_z20, i_z21, i_z22, i_z23, i_z24, i_z30, i_z32, i_z40, i_z41, i_z50, i_z58, i_z59, i_z60, i_z63, i_z99, i_z100, i_z240, i_z255, i_z999] at z0 z1; omega) (fun c_2 => ?_)
    refine lv_iconst (v := (-1)) hx hb dX11_walk_15 (by decide) ?_
    exact W.iret (v := (-1)) hx hb hr (fun t ht hW => ⟨⟨(-1), (), rfl, rfl, trivial⟩, hS.F ht⟩) hS.2.2 dX11_walk_16
def vs_f_X11_log : List Cond := .code yX11_log cX11_log 3 (some .int) :: ([.initialized RX11, .instanceMethod yX11_logLength, .selects RX11 yX11_logLength yX11_logLength, .fieldLink RX11 75 "WallChapels" "now" "LWallChapels$Scene;", .methodLink RX11 289 yJ9_min_7cf53, .static yJ9_min_7cf53, .initialized RJ9, .code yJ9_min_7cf53 cJ9_min_7cf53 2 (some .int), .code yX11_logLength cX11_logLength 1 (some .int), .methodLink RX11 229 yX11_logLength] ++ (u_ws RX11 TX11 17 ++ (u_ws RX6 TX6 7)))
theorem vs_f_X11_log_uX11 : ∀ w ∈ u_ws RX11 TX11 17, w ∈ vs_f_X11_log := fun _ h => List.mem_cons_of_mem _ (List.mem_append_right _ (List.mem_append_left _ h))
theorem vs_f_X11_log_uX6 : ∀ w ∈ u_ws RX6 TX6 7, w ∈ vs_f_X11_log := fun _ h => List.mem_cons_of_mem _ (List.mem_append_right _ (List.mem_append_right _ (h)))
set_option maxRecDepth 20000 in
theorem g_f_X11_log_f_X11_logLength : GoodIn vs_f_X11_log (wsV RX11 229 RX11 yX11_logLength vs_f_X11_logLength) := goodIn_r _ [10, 2, 3, 1, 9, 4, 5, 6, 7, 8, 11, 12, 13, 14, 15, 16, 17, 18, 19, 20, 21, 22, 23, 24, 25, 26, 27, 28, 29, 30, 31, 32, 33, 34] (by decide +kernel) (by decide +kernel)
set_option maxHeartbeats 4000000 in
set_option maxRecDepth 100000 in
theorem f_X11_log (l : Launch) (dC : Nat → ClassId) (dI : Nat → Nat → Nat) (sz : Nat) (q : Nat → Nat) (p0 : Int32) (p1 : Int32) : Met l yX11_log vs_f_X11_log ({ frames := 2, cells := 0, slots := 0, locals := 33 }) (va_Pc [.ref (q 15), .int p0, .int p1] (cW dC dI [((q 15), .inr (11, xF q 0 1)), ((q 9), .inr (6, [.int 0, .int 0, .int 0, .ref (q 40), .ref (q 41), .ref (q 42), .ref (q 43)]))] [] sz)) (va_Qi (fun (r : Int32) (_ : Unit) => r = (-1)) (fun (_ : Unit) (t : State) => True) (va_A [((q 15), .inr (11, xF q 0 1)), ((q 9), .inr (6, [.int 0, .int 0, .int 0, .ref (q 40), .ref (q 41), .ref (q 42), .ref (q 43)]))] sz)) 0 0 (va_A [((q 15), .inr (11, xF q 0 1)), ((q 9), .inr (6, [.int 0, .int 0, .int 0, .ref (q 40), .ref (q 41), .ref (q 42), .ref (q 43)]))] sz) := by
  refine Met.ofW (cc := cX11_log) (maxL := 3) (ret := (some .int)) (by decide) rfl ?_
  intro p e s m args below meth c s₁ B hml hv
  obtain ⟨rfl, hsz, hP, hK, hD0, hG⟩ := hv
  have hx := B.exec
  have hb := B.bytes
  have hr := B.returns
  have hts := atoms_spec (ws := vs_f_X11_log) B.pre
  have hown : s.vm.findClass RX11 = some m.cls := findClass_of_methodNamed B.named
  have hlocks := B.notSynchronized
  have hiX11 : ∀ w ∈ u_ws RX11 TX11 17, w ∈ vs_f_X11_log := vs_f_X11_log_uX11
  have hiX6 : ∀ w ∈ u_ws RX6 TX6 7, w ∈ vs_f_X11_log := vs_f_X11_log_uX6
  subst hsz
  have hD := hD0.self (sz := s.heap.size)
  generalize hAe : va_A [((q 15), .inr (11, xF q 0 1)), ((q 9), .inr (6, [.int 0, .int 0, .int 0, .ref (q 40), .ref (q 41), .ref (q 42), .ref (q 43)]))] s.heap.size = A at hD ⊢
  have hA : ∀ q : Nat, s.heap.size ≤ q → A q := fun q h => by rw [← hAe]; exact Or.inr h
  have hS : va_S A s.heap s.heap [] := va_S.rf
  have hP : va_P (dC, dI) vwCl [((q 15), .inr (11, xF q 0 1)), ((q 9), .inr (6, [.int 0, .int 0, .int 0, .ref (q 40), .ref (q 41), .ref (q 42), .ref (q 43)]))] s.heap := hP
  have hl := lv_entry ([.ref (q 15), .int p0, .int p1]) (n := 3) (Nat.le_of_ble_eq_true rfl)
  rw [lg_entry_eq]
  generalize (lg_sl ([.ref (q 15), .int p0, .int p1]) ++ List.replicate (3 - (lg_sl ([.ref (q 15), .int p0, .int p1])).length) Slot.unset).toArray = ls at hl ⊢
  have hl : lv_has ls 3 [(0, .ref (q 15)), (1, .int p0), (2, .int p1)] := hl
  refine lv_iload_n hx hb dX11_log_0 rfl (lv_at hl 1 rfl) ?_
  refine lv_if_lt (tgt := 21) hx hb dX11_log_1 (by decide) (fun c_1 => ?_) (fun c_1 => ?_)
  · refine lv_iconst (v := (-1)) hx hb dX11_log_21 (by decide) ?_
    exact W.iret (v := (-1)) hx hb hr (fun t ht hW => ⟨⟨(-1), (), rfl, rfl, trivial⟩, hS.F ht⟩) hS.2.2 dX11_log_22
  · refine lv_iload_n hx hb dX11_log_4 rfl (lv_at hl 1 rfl) ?_
    refine lv_aload_n hx hb dX11_log_5 rfl (lv_at hl 0 rfl) ?_
    have hPc := hP.sub (ws' := [((q 15), .inr (11, xF q 0 1)), ((q 9), .inr (6, [.int 0, .int 0, .int 0, .ref (q 40), .ref (q 41), .ref (q 42), .ref (q 43)]))]) [0, 1] rfl
    have hDc := hD.sub (ws' := [((q 15), .inr (11, xF q 0 1)), ((q 9), .inr (6, [.int 0, .int 0, .int 0, .ref (q 40), .ref (q 41), .ref (q 42), .ref (q 43)]))]) [0, 1] (by decide) rfl
    have hKc := hK.sub (tys' := []) [] rfl
    have hFc := va_free (wc := [((q 15), .inr (11, xF q 0 1)), ((q 9), .inr (6, [.int 0, .int 0, .int 0, .ref (q 40), .ref (q 41), .ref (q 42), .ref (q 43)]))]) hD hS hA [0, 1] rfl
    refine va_calli (va_runV (As := []) (rest := [.int p0]) ⟨hx, hb, hml, hown, hts⟩ (f_X11_logLength l dC dI s.heap.size q ) (cwV 0 hts g_f_X11_log_f_X11_logLength rfl rfl rfl (by decide +kernel) ⟨Nat.le_of_ble_eq_true rfl, Nat.le_of_ble_eq_true rfl⟩) ⟨cW_blind, va_recv hKc hPc (ci := 11) (q0 := 0) rfl rfl, fun U hU hW => ⟨rfl, cW_use hU hW hPc hKc hDc hG⟩⟩ rfl rfl hl.1 rfl (lv_room (Nat.le_of_ble_eq_true rfl)) dX11_log_6 ⟨Nat.le_of_ble_eq_true rfl, Nat.le_of_ble_eq_true rfl⟩) hS (fun q _ h => hFc q h) hFc (fun r_2 u t H1 locs ht hvm hw hB hz1 hk1 hS => ?_)
    obtain ⟨hP, hD⟩ := va_join (wr := []) (w1 := []) hP hD [0, 1] [] rfl rfl (by decide) (by decide) hk1 hFc (va_P_nil H1) va_D_nil
    generalize H1 = H at hP hS ⊢
    have hP : va_P (dC, dI) vwCl [] H := hP
    have hD : va_D A [] := hD
    refine W.widen (k := 0) (n := 0) (Nat.le_of_ble_eq_true rfl) (Nat.le_of_ble_eq_true rfl) ?_
    obtain rfl : r_2 = 0 := hw
    refine lv_icmp_ge (tgt := 21) hx hb dX11_log_9 (by decide) (fun c_3 => ?_) (fun c_3 => by have z0 := c_1; have z1 := c_3; simp only [i_lt, i_le, i_eq, i_zm1000000, i_zm30, i_zm20, i_zm2, i_zm1, i_z0, i_z1, i_z2, i_z3, i_z4, i_z5, i_z6, i_z7, i_z8, i_z9, i_z10, i_z11, i_z12, i_z13, i_z14, i_z15, i_z16, i_z17, i_z18, i_z19, i_z20, i_z21, i_z22, i_z23, i_z24, i_z30, i_z32, i_z40, i_z41, i_z50, i_z58, i_z59, i_z60, i_z63, i_z99, i_z100, i_z240, i_z255, i_z999] at z0 z1; omega)
    refine lv_iconst (v := (-1)) hx hb dX11_log_21 (by decide) ?_
    exact W.iret (v := (-1)) hx hb hr (fun t ht hW => ⟨⟨(-1), (), rfl, rfl, trivial⟩, hS.F ht⟩) hS.2.2 dX11_log_22
def vs_f_X11_back : List Cond := .code yX11_back cX11_back 1 (some .int) :: ([.fieldLink RX11 152 "WallChapels" "imaged" "Z"] ++ (u_ws RX11 TX11 17))
theorem vs_f_X11_back_uX11 : ∀ w ∈ u_ws RX11 TX11 17, w ∈ vs_f_X11_back := fun _ h => List.mem_cons_of_mem _ (List.mem_append_right _ (h))
set_option maxHeartbeats 4000000 in
set_option maxRecDepth 100000 in
theorem f_X11_back (l : Launch) (dC : Nat → ClassId) (dI : Nat → Nat → Nat) (sz : Nat) (q : Nat → Nat) : Met l yX11_back vs_f_X11_back ({ frames := 0, cells := 0, slots := 0, locals := 0 }) (va_Pc [.ref (q 15)] (cW dC dI [((q 15), .inr (11, xF q 0 1))] [] sz)) (va_Qi (fun (r : Int32) (_ : Unit) => r = (-1)) (fun (_ : Unit) (t : State) => True) (va_A [((q 15), .inr (11, xF q 0 1))] sz)) 0 0 (va_A [((q 15), .inr (11, xF q 0 1))] sz) := by
  refine Met.ofW (cc := cX11_back) (maxL := 1) (ret := (some .int)) (by decide) rfl ?_
  intro p e s m args below meth c s₁ B hml hv
  obtain ⟨rfl, hsz, hP, hK, hD0, hG⟩ := hv
  have hx := B.exec
  have hb := B.bytes
  have hr := B.returns
  have hts := atoms_spec (ws := vs_f_X11_back) B.pre
  have hown : s.vm.findClass RX11 = some m.cls := findClass_of_methodNamed B.named
  have hlocks := B.notSynchronized
  have hiX11 : ∀ w ∈ u_ws RX11 TX11 17, w ∈ vs_f_X11_back := vs_f_X11_back_uX11
  subst hsz
  have hD := hD0.self (sz := s.heap.size)
  generalize hAe : va_A [((q 15), .inr (11, xF q 0 1))] s.heap.size = A at hD ⊢
  have hA : ∀ q : Nat, s.heap.size ≤ q → A q := fun q h => by rw [← hAe]; exact Or.inr h
  have hS : va_S A s.heap s.heap [] := va_S.rf
  have hP : va_P (dC, dI) vwCl [((q 15), .inr (11, xF q 0 1))] s.heap := hP
  have hl := lv_entry ([.ref (q 15)]) (n := 1) (Nat.le_of_ble_eq_true rfl)
  rw [lg_entry_eq]
  generalize (lg_sl ([.ref (q 15)]) ++ List.replicate (1 - (lg_sl ([.ref (q 15)])).length) Slot.unset).toArray = ls at hl ⊢
  have hl : lv_has ls 1 [(0, .ref (q 15))] := hl
  refine lv_aload_n hx hb dX11_back_0 rfl (lv_at hl 0 rfl) ?_
  refine va_get (D := (dC, dI)) (ci := 11) (v := .int 0) (C := RX11) (T := TX11) (N := 17) hx hb hts hiX11 hown hK hP 0 rfl rfl 15 (by decide) (hts (.fieldLink RX11 152 "WallChapels" "imaged" "Z") (by decide +kernel)) (fun _ h9 => h9) rfl dX11_back_1 ?_
  refine lv_if_ne (tgt := 9) hx hb dX11_back_4 (by decide) (fun c_1 => absurd c_1 (by decide)) (fun c_1 => ?_)
  refine lv_iconst (v := (-1)) hx hb dX11_back_7 (by decide) ?_
  exact W.iret (v := (-1)) hx hb hr (fun t ht hW => ⟨⟨(-1), (), rfl, rfl, trivial⟩, hS.F ht⟩) hS.2.2 dX11_back_8
def vs_f_X11_council : List Cond := .code yX11_council cX11_council 2 (some .boolean) :: ([.fieldLink RX11 102 "WallChapels" "councilShare" "I"] ++ (u_ws RX11 TX11 17))
theorem vs_f_X11_council_uX11 : ∀ w ∈ u_ws RX11 TX11 17, w ∈ vs_f_X11_council := fun _ h => List.mem_cons_of_mem _ (List.mem_append_right _ (h))
set_option maxHeartbeats 4000000 in
set_option maxRecDepth 100000 in
theorem f_X11_council (l : Launch) (dC : Nat → ClassId) (dI : Nat → Nat → Nat) (sz : Nat) (q : Nat → Nat) (p0 : Int32) : Met l yX11_council vs_f_X11_council ({ frames := 0, cells := 0, slots := 0, locals := 0 }) (va_Pc [.ref (q 15), .int p0] (cW dC dI [((q 15), .inr (11, xF q 0 1))] [] sz)) (va_Qi (fun (r : Int32) (_ : Unit) => r = (if p0 < 0 ∨ 9 < p0 ∨ p0 = 1 then 0 else 1)) (fun (_ : Unit) (t : State) => True) (va_A [((q 15), .inr (11, xF q 0 1))] sz)) 0 0 (va_A [((q 15), .inr (11, xF q 0 1))] sz) := by
  refine Met.ofW (cc := cX11_council) (maxL := 2) (ret := (some .boolean)) (by decide) rfl ?_
  intro p e s m args below meth c s₁ B hml hv
  obtain ⟨rfl, hsz, hP, hK, hD0, hG⟩ := hv
  have hx := B.exec
  have hb := B.bytes
  have hr := B.returns
  have hts := atoms_spec (ws := vs_f_X11_council) B.pre
  have hown : s.vm.findClass RX11 = some m.cls := findClass_of_methodNamed B.named
  have hlocks := B.notSynchronized
  have hiX11 : ∀ w ∈ u_ws RX11 TX11 17, w ∈ vs_f_X11_council := vs_f_X11_council_uX11
  subst hsz
  have hD := hD0.self (sz := s.heap.size)
  generalize hAe : va_A [((q 15), .inr (11, xF q 0 1))] s.heap.size = A at hD ⊢
  have hA : ∀ q : Nat, s.heap.size ≤ q → A q := fun q h => by rw [← hAe]; exact Or.inr h
  have hS : va_S A s.heap s.heap [] := va_S.rf
  have hP : va_P (dC, dI) vwCl [((q 15), .inr (11, xF q 0 1))] s.heap := hP
  have hl := lv_entry ([.ref (q 15), .int p0]) (n := 2) (Nat.le_of_ble_eq_true rfl)
  rw [lg_entry_eq]
  generalize (lg_sl ([.ref (q 15), .int p0]) ++ List.replicate (2 - (lg_sl ([.ref (q 15), .int p0])).length) Slot.unset).toArray = ls at hl ⊢
  have hl : lv_has ls 2 [(0, .ref (q 15)), (1, .int p0)] := hl
  refine lv_iload_n hx hb dX11_council_0 rfl (lv_at hl 1 rfl) ?_
  refine lv_if_lt (tgt := 18) hx hb dX11_council_1 (by decide) (fun c_1 => ?_) (fun c_1 => ?_)
  · refine lv_iconst (v := 0) hx hb dX11_council_18 (by decide) ?_
    exact W.zret (v := 0) hx hb hr rfl (fun t ht hW => ⟨⟨0, (), rfl, by rw [if_pos (show (p0 < 0 ∨ 9 < p0 ∨ p0 = 1) by have z0 := c_1; simp only [i_lt, i_le, i_eq, i_zm1000000, i_zm30, i_zm20, i_zm2, i_zm1, i_z0, i_z1, i_z2, i_z3, i_z4, i_z5, i_z6, i_z7, i_z8, i_z9, i_z10, i_z11, i_z12, i_z13, i_z14, i_z15, i_z16, i_z17, i_z18, i_z19, i_z20, i_z21, i_z22, i_z23, i_z24, i_z30, i_z32, i_z40, i_z41, i_z50, i_z58, i_z59, i_z60, i_z63, i_z99, i_z100, i_z240, i_z255, i_z999] at z0; simp only [i_lt, i_le, i_eq, i_zm1000000, i_zm30, i_zm20, i_zm2, i_zm1, i_z0, i_z1, i_z2, i_z3, i_z4, i_z5, i_z6, i_z7, i_z8, i_z9, i_z10, i_z11, i_z12, i_z13, i_z14, i_z15, i_z16, i_z17, i_z18, i_z19, i_z20, i_z21, i_z22, i_z23, i_z24, i_z30, i_z32, i_z40, i_z41, i_z50, i_z58, i_z59, i_z60, i_z63, i_z99, i_z100, i_z240, i_z255, i_z999]; omega)], trivial⟩, hS.F ht⟩) hS.2.2 dX11_council_19
  · refine lv_iload_n hx hb dX11_council_4 rfl (lv_at hl 1 rfl) ?_
    refine lv_bipush (v := 9) hx hb dX11_council_5 (by decide) ?_
    refine lv_icmp_gt (tgt := 18) hx hb dX11_council_7 (by decide) (fun c_2 => ?_) (fun c_2 => ?_)
    · refine lv_iconst (v := 0) hx hb dX11_council_18 (by decide) ?_
      exact W.zret (v := 0) hx hb hr rfl (fun t ht hW => ⟨⟨0, (), rfl, by rw [if_pos (show (p0 < 0 ∨ 9 < p0 ∨ p0 = 1) by have z0 := c_1; have z1 := c_2; simp only [i_lt, i_le, i_eq, i_zm1000000, i_zm30, i_zm20, i_zm2, i_zm1, i_z0, i_z1, i_z2, i_z3, i_z4, i_z5, i_z6, i_z7, i_z8, i_z9, i_z10, i_z11, i_z12, i_z13, i_z14, i_z15, i_z16, i_z17, i_z18, i_z19, i_z20, i_z21, i_z22, i_z23, i_z24, i_z30, i_z32, i_z40, i_z41, i_z50, i_z58, i_z59, i_z60, i_z63, i_z99, i_z100, i_z240, i_z255, i_z999] at z0 z1; simp only [i_lt, i_le, i_eq, i_zm1000000, i_zm30, i_zm20, i_zm2, i_zm1, i_z0, i_z1, i_z2, i_z3, i_z4, i_z5, i_z6, i_z7, i_z8, i_z9, i_z10, i_z11, i_z12, i_z13, i_z14, i_z15, i_z16, i_z17, i_z18, i_z19, i_z20, i_z21, i_z22, i_z23, i_z24, i_z30, i_z32, i_z40, i_z41, i_z50, i_z58, i_z59, i_z60, i_z63, i_z99, i_z100, i_z240, i_z255, i_z999]; omega)], trivial⟩, hS.F ht⟩) hS.2.2 dX11_council_19
    · refine lv_iload_n hx hb dX11_council_10 rfl (lv_at hl 1 rfl) ?_
      refine lv_aload_n hx hb dX11_council_11 rfl (lv_at hl 0 rfl) ?_
      refine va_get (D := (dC, dI)) (ci := 11) (v := .int 1) (C := RX11) (T := TX11) (N := 17) hx hb hts hiX11 hown hK hP 0 rfl rfl 16 (by decide) (hts (.fieldLink RX11 102 "WallChapels" "councilShare" "I") (by decide +kernel)) (fun _ h9 => h9) rfl dX11_council_12 ?_
      refine lv_icmp_ne (tgt := 20) hx hb dX11_council_15 (by decide) (fun c_3 => ?_) (fun c_3 => ?_)
      · refine lv_aload_n hx hb dX11_council_20 rfl (lv_at hl 0 rfl) ?_
        refine lv_iload_n hx hb dX11_council_21 rfl (lv_at hl 1 rfl) ?_
        refine va_put (D := (dC, dI)) (ci := 11) (v := .int p0) (ty := .int) (C := RX11) (T := TX11) (N := 17) hx hb hts hiX11 tyX11 tyX11_ok nmX11 hown hK hP hD hS 0 rfl rfl 16 (by decide) (hts (.fieldLink RX11 102 "WallChapels" "councilShare" "I") (by decide +kernel)) (fun _ h9 => h9) rfl (by decide +kernel) rfl rfl (Nat.le_of_ble_eq_true rfl) dX11_council_22 (fun H locs hP hD hS => ?_)
        have hP : va_P (dC, dI) vwCl [((q 15), .inr (11, xF q 0 p0))] H := hP
        have hD : va_D A [((q 15), .inr (11, xF q 0 p0))] := hD
        refine lv_iconst (v := 1) hx hb dX11_council_25 (by decide) ?_
        exact W.zret (v := 1) hx hb hr rfl (fun t ht hW => ⟨⟨1, (), rfl, by rw [if_neg (show ¬ (p0 < 0 ∨ 9 < p0 ∨ p0 = 1) by have z0 := c_1; have z1 := c_2; have z2 := c_3; simp only [i_lt, i_le, i_eq, i_zm1000000, i_zm30, i_zm20, i_zm2, i_zm1, i_z0, i_z1, i_z2, i_z3, i_z4, i_z5, i_z6, i_z7, i_z8, i_z9, i_z10, i_z11, i_z12, i_z13, i_z14, i_z15, i_z16, i_z17, i_z18, i_z19, i_z20, i_z21, i_z22, i_z23, i_z24, i_z30, i_z32, i_z40, i_z41, i_z50, i_z58, i_z59, i_z60, i_z63, i_z99, i_z100, i_z240, i_z255, i_z999] at z0 z1 z2; simp only [i_lt, i_le, i_eq, i_zm1000000, i_zm30, i_zm20, i_zm2, i_zm1, i_z0, i_z1, i_z2, i_z3, i_z4, i_z5, i_z6, i_z7, i_z8, i_z9, i_z10, i_z11, i_z12, i_z13, i_z14, i_z15, i_z16, i_z17, i_z18, i_z19, i_z20, i_z21, i_z22, i_z23, i_z24, i_z30, i_z32, i_z40, i_z41, i_z50, i_z58, i_z59, i_z60, i_z63, i_z99, i_z100, i_z240, i_z255, i_z999]; omega)], trivial⟩, hS.F ht⟩) hS.2.2 dX11_council_26
      · refine lv_iconst (v := 0) hx hb dX11_council_18 (by decide) ?_
        exact W.zret (v := 0) hx hb hr rfl (fun t ht hW => ⟨⟨0, (), rfl, by rw [if_pos (show (p0 < 0 ∨ 9 < p0 ∨ p0 = 1) by have z0 := c_1; have z1 := c_2; have z2 := c_3; simp only [i_lt, i_le, i_eq, i_zm1000000, i_zm30, i_zm20, i_zm2, i_zm1, i_z0, i_z1, i_z2, i_z3, i_z4, i_z5, i_z6, i_z7, i_z8, i_z9, i_z10, i_z11, i_z12, i_z13, i_z14, i_z15, i_z16, i_z17, i_z18, i_z19, i_z20, i_z21, i_z22, i_z23, i_z24, i_z30, i_z32, i_z40, i_z41, i_z50, i_z58, i_z59, i_z60, i_z63, i_z99, i_z100, i_z240, i_z255, i_z999] at z0 z1 z2; simp only [i_lt, i_le, i_eq, i_zm1000000, i_zm30, i_zm20, i_zm2, i_zm1, i_z0, i_z1, i_z2, i_z3, i_z4, i_z5, i_z6, i_z7, i_z8, i_z9, i_z10, i_z11, i_z12, i_z13, i_z14, i_z15, i_z16, i_z17, i_z18, i_z19, i_z20, i_z21, i_z22, i_z23, i_z24, i_z30, i_z32, i_z40, i_z41, i_z50, i_z58, i_z59, i_z60, i_z63, i_z99, i_z100, i_z240, i_z255, i_z999]; omega)], trivial⟩, hS.F ht⟩) hS.2.2 dX11_council_19
def vs_f_X11_law : List Cond := .code yX11_law cX11_law 2 (some .boolean) :: ([.fieldLink RX11 38 "WallChapels" "laws" "LWallChapels$Laws;"] ++ (u_ws RX11 TX11 17 ++ (u_ws RX3 TX3 12)))
theorem vs_f_X11_law_uX11 : ∀ w ∈ u_ws RX11 TX11 17, w ∈ vs_f_X11_law := fun _ h => List.mem_cons_of_mem _ (List.mem_append_right _ (List.mem_append_left _ h))
theorem vs_f_X11_law_uX3 : ∀ w ∈ u_ws RX3 TX3 12, w ∈ vs_f_X11_law := fun _ h => List.mem_cons_of_mem _ (List.mem_append_right _ (List.mem_append_right _ (h)))
set_option maxHeartbeats 4000000 in
set_option maxRecDepth 100000 in
theorem f_X11_law (l : Launch) (dC : Nat → ClassId) (dI : Nat → Nat → Nat) (sz : Nat) (q : Nat → Nat) (p0 : Int32) : Met l yX11_law vs_f_X11_law ({ frames := 0, cells := 0, slots := 0, locals := 0 }) (va_Pc [.ref (q 15), .int p0] (cW dC dI [((q 15), .inr (11, xF q 0 1)), ((q 4), .inr (3, [.ref (q 30), .ref (q 31), .ref (q 32), .int 0, .int 0, .int (-1), .int 0, .int 0, .int 0, .int 0, .int 0, .int 0]))] [] sz)) (va_Qi (fun (r : Int32) (_ : Unit) => r = (if p0 = -1 then 1 else 0)) (fun (_ : Unit) (t : State) => True) (va_A [((q 15), .inr (11, xF q 0 1)), ((q 4), .inr (3, [.ref (q 30), .ref (q 31), .ref (q 32), .int 0, .int 0, .int (-1), .int 0, .int 0, .int 0, .int 0, .int 0, .int 0]))] sz)) 0 0 (va_A [((q 15), .inr (11, xF q 0 1)), ((q 4), .inr (3, [.ref (q 30), .ref (q 31), .ref (q 32), .int 0, .int 0, .int (-1), .int 0, .int 0, .int 0, .int 0, .int 0, .int 0]))] sz) := by
  refine Met.ofW (cc := cX11_law) (maxL := 2) (ret := (some .boolean)) (by decide) rfl ?_
  intro p e s m args below meth c s₁ B hml hv
  obtain ⟨rfl, hsz, hP, hK, hD0, hG⟩ := hv
  have hx := B.exec
  have hb := B.bytes
  have hr := B.returns
  have hts := atoms_spec (ws := vs_f_X11_law) B.pre
  have hown : s.vm.findClass RX11 = some m.cls := findClass_of_methodNamed B.named
  have hlocks := B.notSynchronized
  have hiX11 : ∀ w ∈ u_ws RX11 TX11 17, w ∈ vs_f_X11_law := vs_f_X11_law_uX11
  have hiX3 : ∀ w ∈ u_ws RX3 TX3 12, w ∈ vs_f_X11_law := vs_f_X11_law_uX3
  subst hsz
  have hD := hD0.self (sz := s.heap.size)
  generalize hAe : va_A [((q 15), .inr (11, xF q 0 1)), ((q 4), .inr (3, [.ref (q 30), .ref (q 31), .ref (q 32), .int 0, .int 0, .int (-1), .int 0, .int 0, .int 0, .int 0, .int 0, .int 0]))] s.heap.size = A at hD ⊢
  have hA : ∀ q : Nat, s.heap.size ≤ q → A q := fun q h => by rw [← hAe]; exact Or.inr h
  have hS : va_S A s.heap s.heap [] := va_S.rf
  have hP : va_P (dC, dI) vwCl [((q 15), .inr (11, xF q 0 1)), ((q 4), .inr (3, [.ref (q 30), .ref (q 31), .ref (q 32), .int 0, .int 0, .int (-1), .int 0, .int 0, .int 0, .int 0, .int 0, .int 0]))] s.heap := hP
  have hl := lv_entry ([.ref (q 15), .int p0]) (n := 2) (Nat.le_of_ble_eq_true rfl)
  rw [lg_entry_eq]
  generalize (lg_sl ([.ref (q 15), .int p0]) ++ List.replicate (2 - (lg_sl ([.ref (q 15), .int p0])).length) Slot.unset).toArray = ls at hl ⊢
  have hl : lv_has ls 2 [(0, .ref (q 15)), (1, .int p0)] := hl
  refine lv_iload_n hx hb dX11_law_0 rfl (lv_at hl 1 rfl) ?_
  refine lv_iconst (v := (-1)) hx hb dX11_law_1 (by decide) ?_
  refine lv_icmp_eq (tgt := 22) hx hb dX11_law_2 (by decide) (fun c_1 => ?_) (fun c_1 => ?_)
  · refine lv_aload_n hx hb dX11_law_22 rfl (lv_at hl 0 rfl) ?_
    refine va_get (D := (dC, dI)) (ci := 11) (v := .ref (q 4)) (C := RX11) (T := TX11) (N := 17) hx hb hts hiX11 hown hK hP 0 rfl rfl 4 (by decide) (hts (.fieldLink RX11 38 "WallChapels" "laws" "LWallChapels$Laws;") (by decide +kernel)) (fun _ h9 => h9) rfl dX11_law_23 ?_
    refine lv_iload_n hx hb dX11_law_26 rfl (lv_at hl 1 rfl) ?_
    refine va_putN (D := (dC, dI)) (ci := 3) (v := .int p0) (ty := .int) (C := RX3) (T := TX3) (N := 12) hx hb hts hiX3 tyX3 tyX3_ok nmX3 hown hK hP hD hS 1 rfl rfl 5 (by decide) (gx_u hG 26 rfl rfl) (fun _ h9 => h9) rfl (by decide +kernel) rfl rfl (Nat.le_of_ble_eq_true rfl) dX11_law_27 (fun H locs hP hD hS => ?_)
    have hP : va_P (dC, dI) vwCl [((q 15), .inr (11, xF q 0 1)), ((q 4), .inr (3, [.ref (q 30), .ref (q 31), .ref (q 32), .int 0, .int 0, .int p0, .int 0, .int 0, .int 0, .int 0, .int 0, .int 0]))] H := hP
    have hD : va_D A [((q 15), .inr (11, xF q 0 1)), ((q 4), .inr (3, [.ref (q 30), .ref (q 31), .ref (q 32), .int 0, .int 0, .int p0, .int 0, .int 0, .int 0, .int 0, .int 0, .int 0]))] := hD
    refine lv_iconst (v := 1) hx hb dX11_law_30 (by decide) ?_
    exact W.zret (v := 1) hx hb hr rfl (fun t ht hW => ⟨⟨1, (), rfl, by rw [if_pos (show (p0 = -1) by have z0 := c_1; simp only [i_lt, i_le, i_eq, i_zm1000000, i_zm30, i_zm20, i_zm2, i_zm1, i_z0, i_z1, i_z2, i_z3, i_z4, i_z5, i_z6, i_z7, i_z8, i_z9, i_z10, i_z11, i_z12, i_z13, i_z14, i_z15, i_z16, i_z17, i_z18, i_z19, i_z20, i_z21, i_z22, i_z23, i_z24, i_z30, i_z32, i_z40, i_z41, i_z50, i_z58, i_z59, i_z60, i_z63, i_z99, i_z100, i_z240, i_z255, i_z999] at z0; simp only [i_lt, i_le, i_eq, i_zm1000000, i_zm30, i_zm20, i_zm2, i_zm1, i_z0, i_z1, i_z2, i_z3, i_z4, i_z5, i_z6, i_z7, i_z8, i_z9, i_z10, i_z11, i_z12, i_z13, i_z14, i_z15, i_z16, i_z17, i_z18, i_z19, i_z20, i_z21, i_z22, i_z23, i_z24, i_z30, i_z32, i_z40, i_z41, i_z50, i_z58, i_z59, i_z60, i_z63, i_z99, i_z100, i_z240, i_z255, i_z999]; omega)], trivial⟩, hS.F ht⟩) hS.2.2 dX11_law_31
  · refine lv_iload_n hx hb dX11_law_5 rfl (lv_at hl 1 rfl) ?_
    refine lv_if_lt (tgt := 20) hx hb dX11_law_6 (by decide) (fun c_2 => ?_) (fun c_2 => ?_)
    · refine lv_iconst (v := 0) hx hb dX11_law_20 (by decide) ?_
      exact W.zret (v := 0) hx hb hr rfl (fun t ht hW => ⟨⟨0, (), rfl, by rw [if_neg (show ¬ (p0 = -1) by have z0 := c_1; have z1 := c_2; simp only [i_lt, i_le, i_eq, i_zm1000000, i_zm30, i_zm20, i_zm2, i_zm1, i_z0, i_z1, i_z2, i_z3, i_z4, i_z5, i_z6, i_z7, i_z8, i_z9, i_z10, i_z11, i_z12, i_z13, i_z14, i_z15, i_z16, i_z17, i_z18, i_z19, i_z20, i_z21, i_z22, i_z23, i_z24, i_z30, i_z32, i_z40, i_z41, i_z50, i_z58, i_z59, i_z60, i_z63, i_z99, i_z100, i_z240, i_z255, i_z999] at z0 z1; simp only [i_lt, i_le, i_eq, i_zm1000000, i_zm30, i_zm20, i_zm2, i_zm1, i_z0, i_z1, i_z2, i_z3, i_z4, i_z5, i_z6, i_z7, i_z8, i_z9, i_z10, i_z11, i_z12, i_z13, i_z14, i_z15, i_z16, i_z17, i_z18, i_z19, i_z20, i_z21, i_z22, i_z23, i_z24, i_z30, i_z32, i_z40, i_z41, i_z50, i_z58, i_z59, i_z60, i_z63, i_z99, i_z100, i_z240, i_z255, i_z999]; omega)], trivial⟩, hS.F ht⟩) hS.2.2 dX11_law_21
    · refine lv_iload_n hx hb dX11_law_9 rfl (lv_at hl 1 rfl) ?_
      refine lv_aload_n hx hb dX11_law_10 rfl (lv_at hl 0 rfl) ?_
      refine va_get (D := (dC, dI)) (ci := 11) (v := .ref (q 4)) (C := RX11) (T := TX11) (N := 17) hx hb hts hiX11 hown hK hP 0 rfl rfl 4 (by decide) (hts (.fieldLink RX11 38 "WallChapels" "laws" "LWallChapels$Laws;") (by decide +kernel)) (fun _ h9 => h9) rfl dX11_law_11 ?_
      refine va_getN (D := (dC, dI)) (ci := 3) (v := .int 0) (C := RX3) (T := TX3) (N := 12) hx hb hts hiX3 hown hK hP 1 rfl rfl 4 (by decide) (gx_u hG 24 rfl rfl) (fun _ h9 => h9) rfl dX11_law_14 ?_
      refine lv_icmp_lt (tgt := 22) hx hb dX11_law_17 (by decide) (fun c_3 => by have z0 := c_1; have z1 := c_2; have z2 := c_3; simp only [i_lt, i_le, i_eq, i_zm1000000, i_zm30, i_zm20, i_zm2, i_zm1, i_z0, i_z1, i_z2, i_z3, i_z4, i_z5, i_z6, i_z7, i_z8, i_z9, i_z10, i_z11, i_z12, i_z13, i_z14, i_z15, i_z16, i_z17, i_z18, i_z19, i_z20, i_z21, i_z22, i_z23, i_z24, i_z30, i_z32, i_z40, i_z41, i_z50, i_z58, i_z59, i_z60, i_z63, i_z99, i_z100, i_z240, i_z255, i_z999] at z0 z1 z2; omega) (fun c_3 => ?_)
      refine lv_iconst (v := 0) hx hb dX11_law_20 (by decide) ?_
      exact W.zret (v := 0) hx hb hr rfl (fun t ht hW => ⟨⟨0, (), rfl, by rw [if_neg (show ¬ (p0 = -1) by have z0 := c_1; have z1 := c_2; have z2 := c_3; simp only [i_lt, i_le, i_eq, i_zm1000000, i_zm30, i_zm20, i_zm2, i_zm1, i_z0, i_z1, i_z2, i_z3, i_z4, i_z5, i_z6, i_z7, i_z8, i_z9, i_z10, i_z11, i_z12, i_z13, i_z14, i_z15, i_z16, i_z17, i_z18, i_z19, i_z20, i_z21, i_z22, i_z23, i_z24, i_z30, i_z32, i_z40, i_z41, i_z50, i_z58, i_z59, i_z60, i_z63, i_z99, i_z100, i_z240, i_z255, i_z999] at z0 z1 z2; simp only [i_lt, i_le, i_eq, i_zm1000000, i_zm30, i_zm20, i_zm2, i_zm1, i_z0, i_z1, i_z2, i_z3, i_z4, i_z5, i_z6, i_z7, i_z8, i_z9, i_z10, i_z11, i_z12, i_z13, i_z14, i_z15, i_z16, i_z17, i_z18, i_z19, i_z20, i_z21, i_z22, i_z23, i_z24, i_z30, i_z32, i_z40, i_z41, i_z50, i_z58, i_z59, i_z60, i_z63, i_z99, i_z100, i_z240, i_z255, i_z999]; omega)], trivial⟩, hS.F ht⟩) hS.2.2 dX11_law_21
def vs_f_X11_end : List Cond := .code yX11_end cX11_end 2 (some .boolean) :: ([.fieldLink RX11 10 "WallChapels" "tape" "LWallChapels$Tape;"] ++ (u_ws RX11 TX11 17 ++ (u_ws RX8 TX8 4)))
theorem vs_f_X11_end_uX11 : ∀ w ∈ u_ws RX11 TX11 17, w ∈ vs_f_X11_end := fun _ h => List.mem_cons_of_mem _ (List.mem_append_right _ (List.mem_append_left _ h))
theorem vs_f_X11_end_uX8 : ∀ w ∈ u_ws RX8 TX8 4, w ∈ vs_f_X11_end := fun _ h => List.mem_cons_of_mem _ (List.mem_append_right _ (List.mem_append_right _ (h)))
set_option maxHeartbeats 4000000 in
set_option maxRecDepth 100000 in
theorem f_X11_end (l : Launch) (dC : Nat → ClassId) (dI : Nat → Nat → Nat) (sz : Nat) (q : Nat → Nat) (p0 : Int32) : Met l yX11_end vs_f_X11_end ({ frames := 0, cells := 0, slots := 0, locals := 0 }) (va_Pc [.ref (q 15), .int p0] (cW dC dI [((q 15), .inr (11, xF q 0 1)), ((q 0), .inr (8, [.ref (q 16), .int 0, .int 0, .int 0]))] [] sz)) (va_Qi (fun (r : Int32) (_ : Unit) => r = (if p0 = 0 then 1 else 0)) (fun (_ : Unit) (t : State) => True) (va_A [((q 15), .inr (11, xF q 0 1)), ((q 0), .inr (8, [.ref (q 16), .int 0, .int 0, .int 0]))] sz)) 0 0 (va_A [((q 15), .inr (11, xF q 0 1)), ((q 0), .inr (8, [.ref (q 16), .int 0, .int 0, .int 0]))] sz) := by
  refine Met.ofW (cc := cX11_end) (maxL := 2) (ret := (some .boolean)) (by decide) rfl ?_
  intro p e s m args below meth c s₁ B hml hv
  obtain ⟨rfl, hsz, hP, hK, hD0, hG⟩ := hv
  have hx := B.exec
  have hb := B.bytes
  have hr := B.returns
  have hts := atoms_spec (ws := vs_f_X11_end) B.pre
  have hown : s.vm.findClass RX11 = some m.cls := findClass_of_methodNamed B.named
  have hlocks := B.notSynchronized
  have hiX11 : ∀ w ∈ u_ws RX11 TX11 17, w ∈ vs_f_X11_end := vs_f_X11_end_uX11
  have hiX8 : ∀ w ∈ u_ws RX8 TX8 4, w ∈ vs_f_X11_end := vs_f_X11_end_uX8
  subst hsz
  have hD := hD0.self (sz := s.heap.size)
  generalize hAe : va_A [((q 15), .inr (11, xF q 0 1)), ((q 0), .inr (8, [.ref (q 16), .int 0, .int 0, .int 0]))] s.heap.size = A at hD ⊢
  have hA : ∀ q : Nat, s.heap.size ≤ q → A q := fun q h => by rw [← hAe]; exact Or.inr h
  have hS : va_S A s.heap s.heap [] := va_S.rf
  have hP : va_P (dC, dI) vwCl [((q 15), .inr (11, xF q 0 1)), ((q 0), .inr (8, [.ref (q 16), .int 0, .int 0, .int 0]))] s.heap := hP
  have hl := lv_entry ([.ref (q 15), .int p0]) (n := 2) (Nat.le_of_ble_eq_true rfl)
  rw [lg_entry_eq]
  generalize (lg_sl ([.ref (q 15), .int p0]) ++ List.replicate (2 - (lg_sl ([.ref (q 15), .int p0])).length) Slot.unset).toArray = ls at hl ⊢
  have hl : lv_has ls 2 [(0, .ref (q 15)), (1, .int p0)] := hl
  refine lv_iload_n hx hb dX11_end_0 rfl (lv_at hl 1 rfl) ?_
  refine lv_if_lt (tgt := 15) hx hb dX11_end_1 (by decide) (fun c_1 => ?_) (fun c_1 => ?_)
  · refine lv_iconst (v := 0) hx hb dX11_end_15 (by decide) ?_
    exact W.zret (v := 0) hx hb hr rfl (fun t ht hW => ⟨⟨0, (), rfl, by rw [if_neg (show ¬ (p0 = 0) by have z0 := c_1; simp only [i_lt, i_le, i_eq, i_zm1000000, i_zm30, i_zm20, i_zm2, i_zm1, i_z0, i_z1, i_z2, i_z3, i_z4, i_z5, i_z6, i_z7, i_z8, i_z9, i_z10, i_z11, i_z12, i_z13, i_z14, i_z15, i_z16, i_z17, i_z18, i_z19, i_z20, i_z21, i_z22, i_z23, i_z24, i_z30, i_z32, i_z40, i_z41, i_z50, i_z58, i_z59, i_z60, i_z63, i_z99, i_z100, i_z240, i_z255, i_z999] at z0; simp only [i_lt, i_le, i_eq, i_zm1000000, i_zm30, i_zm20, i_zm2, i_zm1, i_z0, i_z1, i_z2, i_z3, i_z4, i_z5, i_z6, i_z7, i_z8, i_z9, i_z10, i_z11, i_z12, i_z13, i_z14, i_z15, i_z16, i_z17, i_z18, i_z19, i_z20, i_z21, i_z22, i_z23, i_z24, i_z30, i_z32, i_z40, i_z41, i_z50, i_z58, i_z59, i_z60, i_z63, i_z99, i_z100, i_z240, i_z255, i_z999]; omega)], trivial⟩, hS.F ht⟩) hS.2.2 dX11_end_16
  · refine lv_iload_n hx hb dX11_end_4 rfl (lv_at hl 1 rfl) ?_
    refine lv_aload_n hx hb dX11_end_5 rfl (lv_at hl 0 rfl) ?_
    refine va_get (D := (dC, dI)) (ci := 11) (v := .ref (q 0)) (C := RX11) (T := TX11) (N := 17) hx hb hts hiX11 hown hK hP 0 rfl rfl 0 (by decide) (hts (.fieldLink RX11 10 "WallChapels" "tape" "LWallChapels$Tape;") (by decide +kernel)) (fun _ h9 => h9) rfl dX11_end_6 ?_
    refine va_getN (D := (dC, dI)) (ci := 8) (v := .int 0) (C := RX8) (T := TX8) (N := 4) hx hb hts hiX8 hown hK hP 1 rfl rfl 1 (by decide) (gx_u hG 1 rfl rfl) (fun _ h9 => h9) rfl dX11_end_9 ?_
    refine lv_icmp_le (tgt := 17) hx hb dX11_end_12 (by decide) (fun c_2 => ?_) (fun c_2 => ?_)
    · refine lv_aload_n hx hb dX11_end_17 rfl (lv_at hl 0 rfl) ?_
      refine va_get (D := (dC, dI)) (ci := 11) (v := .ref (q 0)) (C := RX11) (T := TX11) (N := 17) hx hb hts hiX11 hown hK hP 0 rfl rfl 0 (by decide) (hts (.fieldLink RX11 10 "WallChapels" "tape" "LWallChapels$Tape;") (by decide +kernel)) (fun _ h9 => h9) rfl dX11_end_18 ?_
      refine lv_iload_n hx hb dX11_end_21 rfl (lv_at hl 1 rfl) ?_
      refine va_putN (D := (dC, dI)) (ci := 8) (v := .int p0) (ty := .int) (C := RX8) (T := TX8) (N := 4) hx hb hts hiX8 tyX8 tyX8_ok nmX8 hown hK hP hD hS 1 rfl rfl 1 (by decide) (gx_u hG 1 rfl rfl) (fun _ h9 => h9) rfl (by decide +kernel) rfl rfl (Nat.le_of_ble_eq_true rfl) dX11_end_22 (fun H locs hP hD hS => ?_)
      have hP : va_P (dC, dI) vwCl [((q 15), .inr (11, xF q 0 1)), ((q 0), .inr (8, [.ref (q 16), .int p0, .int 0, .int 0]))] H := hP
      have hD : va_D A [((q 15), .inr (11, xF q 0 1)), ((q 0), .inr (8, [.ref (q 16), .int p0, .int 0, .int 0]))] := hD
      refine lv_iconst (v := 1) hx hb dX11_end_25 (by decide) ?_
      exact W.zret (v := 1) hx hb hr rfl (fun t ht hW => ⟨⟨1, (), rfl, by rw [if_pos (show (p0 = 0) by have z0 := c_1; have z1 := c_2; simp only [i_lt, i_le, i_eq, i_zm1000000, i_zm30, i_zm20, i_zm2, i_zm1, i_z0, i_z1, i_z2, i_z3, i_z4, i_z5, i_z6, i_z7, i_z8, i_z9, i_z10, i_z11, i_z12, i_z13, i_z14, i_z15, i_z16, i_z17, i_z18, i_z19, i_z20, i_z21, i_z22, i_z23, i_z24, i_z30, i_z32, i_z40, i_z41, i_z50, i_z58, i_z59, i_z60, i_z63, i_z99, i_z100, i_z240, i_z255, i_z999] at z0 z1; simp only [i_lt, i_le, i_eq, i_zm1000000, i_zm30, i_zm20, i_zm2, i_zm1, i_z0, i_z1, i_z2, i_z3, i_z4, i_z5, i_z6, i_z7, i_z8, i_z9, i_z10, i_z11, i_z12, i_z13, i_z14, i_z15, i_z16, i_z17, i_z18, i_z19, i_z20, i_z21, i_z22, i_z23, i_z24, i_z30, i_z32, i_z40, i_z41, i_z50, i_z58, i_z59, i_z60, i_z63, i_z99, i_z100, i_z240, i_z255, i_z999]; omega)], trivial⟩, hS.F ht⟩) hS.2.2 dX11_end_26
    · refine lv_iconst (v := 0) hx hb dX11_end_15 (by decide) ?_
      exact W.zret (v := 0) hx hb hr rfl (fun t ht hW => ⟨⟨0, (), rfl, by rw [if_neg (show ¬ (p0 = 0) by have z0 := c_1; have z1 := c_2; simp only [i_lt, i_le, i_eq, i_zm1000000, i_zm30, i_zm20, i_zm2, i_zm1, i_z0, i_z1, i_z2, i_z3, i_z4, i_z5, i_z6, i_z7, i_z8, i_z9, i_z10, i_z11, i_z12, i_z13, i_z14, i_z15, i_z16, i_z17, i_z18, i_z19, i_z20, i_z21, i_z22, i_z23, i_z24, i_z30, i_z32, i_z40, i_z41, i_z50, i_z58, i_z59, i_z60, i_z63, i_z99, i_z100, i_z240, i_z255, i_z999] at z0 z1; simp only [i_lt, i_le, i_eq, i_zm1000000, i_zm30, i_zm20, i_zm2, i_zm1, i_z0, i_z1, i_z2, i_z3, i_z4, i_z5, i_z6, i_z7, i_z8, i_z9, i_z10, i_z11, i_z12, i_z13, i_z14, i_z15, i_z16, i_z17, i_z18, i_z19, i_z20, i_z21, i_z22, i_z23, i_z24, i_z30, i_z32, i_z40, i_z41, i_z50, i_z58, i_z59, i_z60, i_z63, i_z99, i_z100, i_z240, i_z255, i_z999]; omega)], trivial⟩, hS.F ht⟩) hS.2.2 dX11_end_16
end
section
/-! bits: pasted from the kit's laws (BITS); then what is mine: a byte of a word by either shift, counts, two rows of branches -/
def bt (x : Int32) (i : Nat) : Bool := x.toBitVec.getLsbD i
theorem b_ext {x y : Int32} (h : ∀ i, i < 32 → bt x i = bt y i) : x = y := Int32.toBitVec_inj.mp (BitVec.eq_of_getLsbD_eq (fun i hi => h i hi))
theorem b_or (x y : Int32) (i : Nat) : bt (x ||| y) i = (bt x i || bt y i) := by unfold bt; rw [Int32.toBitVec_or, BitVec.getLsbD_or]
theorem b_and (x y : Int32) (i : Nat) : bt (x &&& y) i = (bt x i && bt y i) := by unfold bt; rw [Int32.toBitVec_and, BitVec.getLsbD_and]
theorem b_xor (x y : Int32) (i : Nat) : bt (x ^^^ y) i = (bt x i ^^ bt y i) := by unfold bt; rw [Int32.toBitVec_xor, BitVec.getLsbD_xor]
theorem b_big {x : Int32} {i : Nat} (h : 32 ≤ i) : bt x i = false := BitVec.getLsbD_of_ge _ _ h
theorem b_255 (i : Nat) : bt 255 i = decide (i < 8) := by
  rcases Nat.lt_or_ge i 32 with h | h
  · exact (by decide +kernel : ∀ i, i < 32 → bt 255 i = decide (i < 8)) i h
  · rw [b_big h, decide_eq_false (by omega)]
theorem b_65535 (i : Nat) : bt 65535 i = decide (i < 16) := by
  rcases Nat.lt_or_ge i 32 with h | h
  · exact (by decide +kernel : ∀ i, i < 32 → bt 65535 i = decide (i < 16)) i h
  · rw [b_big h, decide_eq_false (by omega)]
theorem b_m1 : ∀ i, i < 32 → bt (-1) i = true := by decide +kernel
theorem b_0 (i : Nat) : bt 0 i = false := BitVec.getLsbD_zero
theorem s_l : ∀ n, n < 32 → ((nI n &&& 31).toBitVec.smod 32).toNat = n := by decide +kernel
theorem s_u : ∀ n, n < 32 → (((nI n).toUInt32 &&& Int32.toUInt32 31).toBitVec % 32).toNat = n := by decide +kernel
theorem b_shl (n : Nat) (hn : n < 32) (x : Int32) {i : Nat} (hi : i < 32) : bt (x <<< (nI n &&& 31)) i = (decide (n ≤ i) && bt x (i - n)) := by
  unfold bt
  rw [Int32.toBitVec_shiftLeft]
  show (x.toBitVec <<< ((nI n &&& 31).toBitVec.smod 32).toNat).getLsbD i = _
  rw [s_l n hn, BitVec.getLsbD_shiftLeft]
  rcases Nat.lt_or_ge i n with h | h
  · simp [h, Nat.not_le.mpr h]
  · simp [hi, h, Nat.not_lt.mpr h]
theorem b_ushr (n : Nat) (hn : n < 32) (x : Int32) (i : Nat) : bt ((x.toUInt32 >>> ((nI n).toUInt32 &&& Int32.toUInt32 31)).toInt32) i = bt x (n + i) := by
  show (x.toUInt32 >>> ((nI n).toUInt32 &&& Int32.toUInt32 31)).toBitVec.getLsbD i = x.toUInt32.toBitVec.getLsbD (n + i)
  rw [UInt32.toBitVec_shiftRight]
  show (x.toUInt32.toBitVec >>> (((nI n).toUInt32 &&& Int32.toUInt32 31).toBitVec % 32).toNat).getLsbD i = _
  rw [s_u n hn, BitVec.getLsbD_ushiftRight]
theorem b_sshr (n : Nat) (hn : n < 32) (x : Int32) {i : Nat} (hi : i < 32) : bt (x >>> (nI n &&& 31)) i = if n + i < 32 then bt x (n + i) else bt x 31 := by
  unfold bt
  rw [Int32.toBitVec_shiftRight]
  show (x.toBitVec.sshiftRight ((nI n &&& 31).toBitVec.smod 32).toNat).getLsbD i = _
  rw [s_l n hn, BitVec.getLsbD_sshiftRight, BitVec.msb_eq_getLsbD_last]
  simp [hi]
theorem b_shl8 (x : Int32) {i : Nat} (hi : i < 32) : bt (x <<< ((8 : Int32) &&& 31)) i = (decide (8 ≤ i) && bt x (i - 8)) := b_shl 8 (by omega) x hi
theorem b_shl16 (x : Int32) {i : Nat} (hi : i < 32) : bt (x <<< ((16 : Int32) &&& 31)) i = (decide (16 ≤ i) && bt x (i - 16)) := b_shl 16 (by omega) x hi
theorem b_shl24 (x : Int32) {i : Nat} (hi : i < 32) : bt (x <<< ((24 : Int32) &&& 31)) i = (decide (24 ≤ i) && bt x (i - 24)) := b_shl 24 (by omega) x hi
theorem b_sshr8 (x : Int32) {i : Nat} (hi : i < 32) : bt (x >>> ((8 : Int32) &&& 31)) i = if 8 + i < 32 then bt x (8 + i) else bt x 31 := b_sshr 8 (by omega) x hi
def uA (w k : Int32) : Int32 := (w.toUInt32 >>> (k.toUInt32 &&& Int32.toUInt32 31)).toInt32 &&& 255
def sA (w k : Int32) : Int32 := (w >>> (k &&& 31)) &&& 255
theorem uA_sA (w : Int32) (n : Nat) (hn : n ≤ 24) : sA w (nI n) = uA w (nI n) := by
  unfold uA sA
  refine b_ext (fun i hi => ?_)
  rw [b_and, b_and, b_255, b_sshr n (by omega) w hi, b_ushr n (by omega) w i]
  by_cases h : i < 8
  · rw [if_pos (by omega)]
  · rw [decide_eq_false h, Bool.and_false, Bool.and_false]
def bz (w k : Int32) : Nat := if uA w k = 0 then 0 else 1
def cA (w : Int32) : Nat := bz w 24 + bz w 16 + bz w 8 + bz w 0
theorem bz_le (w k : Int32) : bz w k ≤ 1 := by unfold bz; split <;> omega
theorem cA_le (w : Int32) : cA w ≤ 4 := by
  have a := bz_le w 24; have b := bz_le w 16; have c := bz_le w 8; have d := bz_le w 0
  unfold cA; omega
theorem bz0 {w k x : Int32} (hx : x = uA w k) (h : x = 0) : bz w k = 0 := by unfold bz; rw [if_pos (by rw [← hx]; exact h)]
theorem bz1 {w k x : Int32} (hx : x = uA w k) (h : ¬ x = 0) : bz w k = 1 := by unfold bz; rw [if_neg (by rw [← hx]; exact h)]
theorem sA_u {w k x : Int32} (n : Nat) (hk : k = nI n) (hn : n ≤ 24) (hx : x = sA w k) : x = uA w k := by rw [hx, hk]; exact uA_sA w n hn
theorem nI_nlt9 {a b : Nat} (h : a ≤ b) (hb : b < 2 ^ 31) : ¬ nI b < nI a := nI_nlt h hb
section BR
variable {p : Program} {l : Launch} {e : Env} {R : Room} {s : State} {m : MethodId} {args : Array Value} {below : List Frame} {meth : Method} {c : Code} {H : Heap} {locs : List Loc} {cells slots : Nat} {Q : State → Prop}
variable {cc : ByteArray} {pc : Nat} {ls : Array Slot} {rest : List Value}
/-- 'x == 0 ? b : a' as javac lays it -/
theorem lv_tern (hx : p.tables.exec = Jvm.exec) (hb : c.code = cc) {x a b : Int32} {off off2 na nb : Int} {t1 t2 : Nat} (d0 : decode cc pc = .ok (.ifCond .eq off, 3)) (e0 : (pc : Int) + off = (t1 : Int)) (d1 : decode cc (pc + 3) = .ok (.iconst na, 1)) (ea : Int32.ofInt na = a) (d2 : decode cc (pc + 3 + 1) = .ok (.goto off2, 3)) (e2 : ((pc + 3 + 1 : Nat) : Int) + off2 = (t2 : Int)) (d3 : decode cc t1 = .ok (.iconst nb, 1)) (eb : Int32.ofInt nb = b) (e3 : t1 + 1 = t2)
    (kk : ∀ y : Int32, y = (if x = 0 then b else a) → W p l e R s m args below meth c H locs cells slots Q (F0 m t2 ls (.int y :: rest))) : W p l e R s m args below meth c H locs cells slots Q (F0 m pc ls (.int x :: rest)) := by
  refine lv_if_eq (tgt := t1) hx hb d0 e0 (fun h => ?_) (fun h => ?_)
  · refine lv_iconst hx hb d3 eb ?_
    rw [e3]
    exact kk b (by rw [if_pos h])
  · refine lv_iconst hx hb d1 ea ?_
    refine lv_goto (tgt := t2) hx hb d2 e2 ?_
    exact kk a (by rw [if_neg h])
/-- 'if (x != 0) i++' -/
theorem lv_ifinc (hx : p.tables.exec = Jvm.exec) (hb : c.code = cc) {x v0 : Int32} {off : Int} {t1 i nL k : Nat} {lv : List (Nat × Value)} (d0 : decode cc pc = .ok (.ifCond .eq off, 3)) (e0 : (pc : Int) + off = (t1 : Int)) (d1 : decode cc (pc + 3) = .ok (.iinc i 1, 3)) (e1 : pc + 3 + 3 = t1) (h : lv_has ls nL lv) (hk : lv[k]? = some (i, .int v0)) (hn : i < nL)
    (kk : ∀ (y : Int32) (ls' : Array Slot), y = (if x = 0 then v0 else v0 + 1) → lv_has ls' nL ((i, .int y) :: lv.filter (fun q => !(q.1 == i) && !(q.1 + 1 == i && q.2.category == 2))) → W p l e R s m args below meth c H locs cells slots Q (F0 m t1 ls' rest)) : W p l e R s m args below meth c H locs cells slots Q (F0 m pc ls (.int x :: rest)) := by
  refine lv_if_eq (tgt := t1) hx hb d0 e0 (fun z => ?_) (fun z => ?_)
  · refine kk v0 ls (by rw [if_pos z]) ⟨h.1, h.2.1, fun q hq => ?_⟩
    rcases List.mem_cons.mp hq with rfl | hq
    · exact h.2.2 _ (List.mem_of_getElem? hk)
    · exact h.2.2 _ (List.mem_filter.mp hq).1
  · refine lv_iinc (v := v0 + 1) hx hb d1 h hk rfl hn rfl (fun ls' hl' => ?_)
    rw [e1]
    exact kk _ ls' (by rw [if_neg z]) hl'
end BR
end
section
set_option maxRecDepth 20000 in
theorem dX12_isIn_0 : decode cX12_isIn 0 = .ok (.lload_n 0, 1) := by decide +kernel
set_option maxRecDepth 20000 in
theorem dX12_isIn_1 : decode cX12_isIn 1 = .ok (.lload_n 2, 1) := by decide +kernel
set_option maxRecDepth 20000 in
theorem dX12_isIn_2 : decode cX12_isIn 2 = .ok (.lcmp, 1) := by decide +kernel
set_option maxRecDepth 20000 in
theorem dX12_isIn_3 : decode cX12_isIn 3 = .ok (.ifCond .lt 14, 3) := by decide +kernel
set_option maxRecDepth 20000 in
theorem dX12_isIn_17 : decode cX12_isIn 17 = .ok (.iconst 0, 1) := by decide +kernel
set_option maxRecDepth 20000 in
theorem dX12_isIn_18 : decode cX12_isIn 18 = .ok (.ireturn, 1) := by decide +kernel
set_option maxRecDepth 20000 in
theorem dX12_isIn_6 : decode cX12_isIn 6 = .ok (.lload_n 0, 1) := by decide +kernel
set_option maxRecDepth 20000 in
theorem dX12_isIn_7 : decode cX12_isIn 7 = .ok (.lload 4, 2) := by decide +kernel
set_option maxRecDepth 20000 in
theorem dX12_isIn_9 : decode cX12_isIn 9 = .ok (.lcmp, 1) := by decide +kernel
set_option maxRecDepth 20000 in
theorem dX12_isIn_10 : decode cX12_isIn 10 = .ok (.ifCond .gt 7, 3) := by decide +kernel
set_option maxRecDepth 20000 in
theorem dX12_isIn_13 : decode cX12_isIn 13 = .ok (.iconst 1, 1) := by decide +kernel
set_option maxRecDepth 20000 in
theorem dX12_isIn_14 : decode cX12_isIn 14 = .ok (.goto 4, 3) := by decide +kernel
set_option maxRecDepth 20000 in
theorem dX12_isCorner_0 : decode cX12_isCorner 0 = .ok (.iload_n 1, 1) := by decide +kernel
set_option maxRecDepth 20000 in
theorem dX12_isCorner_1 : decode cX12_isCorner 1 = .ok (.ifCond .lt 15, 3) := by decide +kernel
set_option maxRecDepth 20000 in
theorem dX12_isCorner_16 : decode cX12_isCorner 16 = .ok (.iconst 0, 1) := by decide +kernel
set_option maxRecDepth 20000 in
theorem dX12_isCorner_17 : decode cX12_isCorner 17 = .ok (.ireturn, 1) := by decide +kernel
set_option maxRecDepth 20000 in
theorem dX12_isCorner_4 : decode cX12_isCorner 4 = .ok (.iload_n 1, 1) := by decide +kernel
set_option maxRecDepth 20000 in
theorem dX12_isCorner_5 : decode cX12_isCorner 5 = .ok (.aload_n 0, 1) := by decide +kernel
set_option maxRecDepth 20000 in
theorem dX12_isCorner_6 : decode cX12_isCorner 6 = .ok (.getfield 280, 3) := by decide +kernel
set_option maxRecDepth 20000 in
theorem dX12_isCorner_9 : decode cX12_isCorner 9 = .ok (.if_icmp .ge 7, 3) := by decide +kernel
set_option maxRecDepth 20000 in
theorem dX12_isStreet_0 : decode cX12_isStreet 0 = .ok (.iload_n 1, 1) := by decide +kernel
set_option maxRecDepth 20000 in
theorem dX12_isStreet_1 : decode cX12_isStreet 1 = .ok (.ifCond .lt 15, 3) := by decide +kernel
set_option maxRecDepth 20000 in
theorem dX12_isStreet_16 : decode cX12_isStreet 16 = .ok (.iconst 0, 1) := by decide +kernel
set_option maxRecDepth 20000 in
theorem dX12_isStreet_17 : decode cX12_isStreet 17 = .ok (.ireturn, 1) := by decide +kernel
set_option maxRecDepth 20000 in
theorem dX12_isStreet_4 : decode cX12_isStreet 4 = .ok (.iload_n 1, 1) := by decide +kernel
set_option maxRecDepth 20000 in
theorem dX12_isStreet_5 : decode cX12_isStreet 5 = .ok (.aload_n 0, 1) := by decide +kernel
set_option maxRecDepth 20000 in
theorem dX12_isStreet_6 : decode cX12_isStreet 6 = .ok (.getfield 283, 3) := by decide +kernel
set_option maxRecDepth 20000 in
theorem dX12_isStreet_9 : decode cX12_isStreet 9 = .ok (.if_icmp .ge 7, 3) := by decide +kernel
set_option maxRecDepth 20000 in
theorem dX12_isWalker_0 : decode cX12_isWalker 0 = .ok (.iload_n 1, 1) := by decide +kernel
set_option maxRecDepth 20000 in
theorem dX12_isWalker_1 : decode cX12_isWalker 1 = .ok (.ifCond .lt 15, 3) := by decide +kernel
set_option maxRecDepth 20000 in
theorem dX12_isWalker_16 : decode cX12_isWalker 16 = .ok (.iconst 0, 1) := by decide +kernel
set_option maxRecDepth 20000 in
theorem dX12_isWalker_17 : decode cX12_isWalker 17 = .ok (.ireturn, 1) := by decide +kernel
set_option maxRecDepth 20000 in
theorem dX12_isWalker_4 : decode cX12_isWalker 4 = .ok (.iload_n 1, 1) := by decide +kernel
set_option maxRecDepth 20000 in
theorem dX12_isWalker_5 : decode cX12_isWalker 5 = .ok (.aload_n 0, 1) := by decide +kernel
set_option maxRecDepth 20000 in
theorem dX12_isWalker_6 : decode cX12_isWalker 6 = .ok (.getfield 286, 3) := by decide +kernel
set_option maxRecDepth 20000 in
theorem dX12_isWalker_9 : decode cX12_isWalker 9 = .ok (.if_icmp .ge 7, 3) := by decide +kernel
set_option maxRecDepth 20000 in
theorem dX12_isWalk_0 : decode cX12_isWalk 0 = .ok (.iload_n 1, 1) := by decide +kernel
set_option maxRecDepth 20000 in
theorem dX12_isWalk_1 : decode cX12_isWalk 1 = .ok (.ifCond .lt 15, 3) := by decide +kernel
set_option maxRecDepth 20000 in
theorem dX12_isWalk_16 : decode cX12_isWalk 16 = .ok (.iconst 0, 1) := by decide +kernel
set_option maxRecDepth 20000 in
theorem dX12_isWalk_17 : decode cX12_isWalk 17 = .ok (.ireturn, 1) := by decide +kernel
set_option maxRecDepth 20000 in
theorem dX12_isWalk_4 : decode cX12_isWalk 4 = .ok (.iload_n 1, 1) := by decide +kernel
set_option maxRecDepth 20000 in
theorem dX12_isWalk_5 : decode cX12_isWalk 5 = .ok (.aload_n 0, 1) := by decide +kernel
set_option maxRecDepth 20000 in
theorem dX12_isWalk_6 : decode cX12_isWalk 6 = .ok (.getfield 275, 3) := by decide +kernel
set_option maxRecDepth 20000 in
theorem dX12_isWalk_9 : decode cX12_isWalk 9 = .ok (.if_icmp .ge 7, 3) := by decide +kernel
set_option maxRecDepth 20000 in
theorem dX12_isGame_0 : decode cX12_isGame 0 = .ok (.aload_n 0, 1) := by decide +kernel
set_option maxRecDepth 20000 in
theorem dX12_isGame_1 : decode cX12_isGame 1 = .ok (.iload_n 1, 1) := by decide +kernel
set_option maxRecDepth 20000 in
theorem dX12_isGame_2 : decode cX12_isGame 2 = .ok (.invokevirtual 362, 3) := by decide +kernel
set_option maxRecDepth 20000 in
theorem dX12_isGame_5 : decode cX12_isGame 5 = .ok (.ifCond .eq 20, 3) := by decide +kernel
set_option maxRecDepth 20000 in
theorem dX12_isGame_25 : decode cX12_isGame 25 = .ok (.iconst 0, 1) := by decide +kernel
set_option maxRecDepth 20000 in
theorem dX12_isGame_26 : decode cX12_isGame 26 = .ok (.ireturn, 1) := by decide +kernel
set_option maxRecDepth 20000 in
theorem dX12_corner_0 : decode cX12_corner 0 = .ok (.aload_n 0, 1) := by decide +kernel
set_option maxRecDepth 20000 in
theorem dX12_corner_1 : decode cX12_corner 1 = .ok (.iconst 0, 1) := by decide +kernel
set_option maxRecDepth 20000 in
theorem dX12_corner_2 : decode cX12_corner 2 = .ok (.putfield 90, 3) := by decide +kernel
set_option maxRecDepth 20000 in
theorem dX12_corner_5 : decode cX12_corner 5 = .ok (.aload_n 0, 1) := by decide +kernel
set_option maxRecDepth 20000 in
theorem dX12_corner_6 : decode cX12_corner 6 = .ok (.iload_n 1, 1) := by decide +kernel
set_option maxRecDepth 20000 in
theorem dX12_corner_7 : decode cX12_corner 7 = .ok (.invokevirtual 354, 3) := by decide +kernel
set_option maxRecDepth 20000 in
theorem dX12_corner_10 : decode cX12_corner 10 = .ok (.ifCond .eq 15, 3) := by decide +kernel
set_option maxRecDepth 20000 in
theorem dX12_corner_25 : decode cX12_corner 25 = .ok (.iconst (-1), 1) := by decide +kernel
set_option maxRecDepth 20000 in
theorem dX12_corner_26 : decode cX12_corner 26 = .ok (.ireturn, 1) := by decide +kernel
set_option maxRecDepth 20000 in
theorem dX12_street_0 : decode cX12_street 0 = .ok (.aload_n 0, 1) := by decide +kernel
set_option maxRecDepth 20000 in
theorem dX12_street_1 : decode cX12_street 1 = .ok (.iconst 0, 1) := by decide +kernel
set_option maxRecDepth 20000 in
theorem dX12_street_2 : decode cX12_street 2 = .ok (.putfield 90, 3) := by decide +kernel
set_option maxRecDepth 20000 in
theorem dX12_street_5 : decode cX12_street 5 = .ok (.aload_n 0, 1) := by decide +kernel
set_option maxRecDepth 20000 in
theorem dX12_street_6 : decode cX12_street 6 = .ok (.iload_n 1, 1) := by decide +kernel
set_option maxRecDepth 20000 in
theorem dX12_street_7 : decode cX12_street 7 = .ok (.invokevirtual 357, 3) := by decide +kernel
set_option maxRecDepth 20000 in
theorem dX12_street_10 : decode cX12_street 10 = .ok (.ifCond .eq 15, 3) := by decide +kernel
set_option maxRecDepth 20000 in
theorem dX12_street_25 : decode cX12_street 25 = .ok (.iconst (-1), 1) := by decide +kernel
set_option maxRecDepth 20000 in
theorem dX12_street_26 : decode cX12_street 26 = .ok (.ireturn, 1) := by decide +kernel
set_option maxRecDepth 20000 in
theorem dX12_day_0 : decode cX12_day 0 = .ok (.aload_n 0, 1) := by decide +kernel
set_option maxRecDepth 20000 in
theorem dX12_day_1 : decode cX12_day 1 = .ok (.iconst 0, 1) := by decide +kernel
set_option maxRecDepth 20000 in
theorem dX12_day_2 : decode cX12_day 2 = .ok (.putfield 90, 3) := by decide +kernel
set_option maxRecDepth 20000 in
theorem dX12_day_5 : decode cX12_day 5 = .ok (.aload_n 0, 1) := by decide +kernel
set_option maxRecDepth 20000 in
theorem dX12_day_6 : decode cX12_day 6 = .ok (.getfield 283, 3) := by decide +kernel
set_option maxRecDepth 20000 in
theorem dX12_day_9 : decode cX12_day 9 = .ok (.ifCond .eq 16, 3) := by decide +kernel
set_option maxRecDepth 20000 in
theorem dX12_day_25 : decode cX12_day 25 = .ok (.iconst (-1), 1) := by decide +kernel
set_option maxRecDepth 20000 in
theorem dX12_day_26 : decode cX12_day 26 = .ok (.ireturn, 1) := by decide +kernel
set_option maxRecDepth 20000 in
theorem dX12_wall_0 : decode cX12_wall 0 = .ok (.aload_n 0, 1) := by decide +kernel
set_option maxRecDepth 20000 in
theorem dX12_wall_1 : decode cX12_wall 1 = .ok (.iconst 0, 1) := by decide +kernel
set_option maxRecDepth 20000 in
theorem dX12_wall_2 : decode cX12_wall 2 = .ok (.putfield 90, 3) := by decide +kernel
set_option maxRecDepth 20000 in
theorem dX12_wall_5 : decode cX12_wall 5 = .ok (.aload_n 0, 1) := by decide +kernel
set_option maxRecDepth 20000 in
theorem dX12_wall_6 : decode cX12_wall 6 = .ok (.iload_n 1, 1) := by decide +kernel
set_option maxRecDepth 20000 in
theorem dX12_wall_7 : decode cX12_wall 7 = .ok (.invokevirtual 357, 3) := by decide +kernel
set_option maxRecDepth 20000 in
theorem dX12_wall_10 : decode cX12_wall 10 = .ok (.ifCond .eq 11, 3) := by decide +kernel
set_option maxRecDepth 20000 in
theorem dX12_wall_21 : decode cX12_wall 21 = .ok (.iconst (-1), 1) := by decide +kernel
set_option maxRecDepth 20000 in
theorem dX12_wall_22 : decode cX12_wall 22 = .ok (.ireturn, 1) := by decide +kernel
set_option maxRecDepth 20000 in
theorem dX12_lamp_0 : decode cX12_lamp 0 = .ok (.aload_n 0, 1) := by decide +kernel
set_option maxRecDepth 20000 in
theorem dX12_lamp_1 : decode cX12_lamp 1 = .ok (.iconst 0, 1) := by decide +kernel
set_option maxRecDepth 20000 in
theorem dX12_lamp_2 : decode cX12_lamp 2 = .ok (.putfield 90, 3) := by decide +kernel
set_option maxRecDepth 20000 in
theorem dX12_lamp_5 : decode cX12_lamp 5 = .ok (.aload_n 0, 1) := by decide +kernel
set_option maxRecDepth 20000 in
theorem dX12_lamp_6 : decode cX12_lamp 6 = .ok (.iload_n 1, 1) := by decide +kernel
set_option maxRecDepth 20000 in
theorem dX12_lamp_7 : decode cX12_lamp 7 = .ok (.invokevirtual 354, 3) := by decide +kernel
set_option maxRecDepth 20000 in
theorem dX12_lamp_10 : decode cX12_lamp 10 = .ok (.ifCond .eq 25, 3) := by decide +kernel
set_option maxRecDepth 20000 in
theorem dX12_lamp_35 : decode cX12_lamp 35 = .ok (.iconst (-1), 1) := by decide +kernel
set_option maxRecDepth 20000 in
theorem dX12_lamp_36 : decode cX12_lamp 36 = .ok (.ireturn, 1) := by decide +kernel
set_option maxRecDepth 20000 in
theorem dX12_moves_0 : decode cX12_moves 0 = .ok (.aload_n 0, 1) := by decide +kernel
set_option maxRecDepth 20000 in
theorem dX12_moves_1 : decode cX12_moves 1 = .ok (.iconst 0, 1) := by decide +kernel
set_option maxRecDepth 20000 in
theorem dX12_moves_2 : decode cX12_moves 2 = .ok (.putfield 90, 3) := by decide +kernel
set_option maxRecDepth 20000 in
theorem dX12_moves_5 : decode cX12_moves 5 = .ok (.aload_n 0, 1) := by decide +kernel
set_option maxRecDepth 20000 in
theorem dX12_moves_6 : decode cX12_moves 6 = .ok (.iload_n 1, 1) := by decide +kernel
set_option maxRecDepth 20000 in
theorem dX12_moves_7 : decode cX12_moves 7 = .ok (.invokevirtual 362, 3) := by decide +kernel
set_option maxRecDepth 20000 in
theorem dX12_moves_10 : decode cX12_moves 10 = .ok (.ifCond .eq 36, 3) := by decide +kernel
set_option maxRecDepth 20000 in
theorem dX12_moves_46 : decode cX12_moves 46 = .ok (.iconst (-1), 1) := by decide +kernel
set_option maxRecDepth 20000 in
theorem dX12_moves_47 : decode cX12_moves 47 = .ok (.ireturn, 1) := by decide +kernel
set_option maxRecDepth 20000 in
theorem dX12_preach_0 : decode cX12_preach 0 = .ok (.aload_n 0, 1) := by decide +kernel
set_option maxRecDepth 20000 in
theorem dX12_preach_1 : decode cX12_preach 1 = .ok (.iconst 0, 1) := by decide +kernel
set_option maxRecDepth 20000 in
theorem dX12_preach_2 : decode cX12_preach 2 = .ok (.putfield 90, 3) := by decide +kernel
set_option maxRecDepth 20000 in
theorem dX12_preach_5 : decode cX12_preach 5 = .ok (.aload_n 0, 1) := by decide +kernel
set_option maxRecDepth 20000 in
theorem dX12_preach_6 : decode cX12_preach 6 = .ok (.iload_n 1, 1) := by decide +kernel
set_option maxRecDepth 20000 in
theorem dX12_preach_7 : decode cX12_preach 7 = .ok (.invokevirtual 362, 3) := by decide +kernel
set_option maxRecDepth 20000 in
theorem dX12_preach_10 : decode cX12_preach 10 = .ok (.ifCond .eq 29, 3) := by decide +kernel
set_option maxRecDepth 20000 in
theorem dX12_preach_39 : decode cX12_preach 39 = .ok (.iconst (-1), 1) := by decide +kernel
set_option maxRecDepth 20000 in
theorem dX12_preach_40 : decode cX12_preach 40 = .ok (.ireturn, 1) := by decide +kernel
set_option maxRecDepth 20000 in
theorem dX12_give_0 : decode cX12_give 0 = .ok (.aload_n 0, 1) := by decide +kernel
set_option maxRecDepth 20000 in
theorem dX12_give_1 : decode cX12_give 1 = .ok (.iconst 0, 1) := by decide +kernel
set_option maxRecDepth 20000 in
theorem dX12_give_2 : decode cX12_give 2 = .ok (.putfield 90, 3) := by decide +kernel
set_option maxRecDepth 20000 in
theorem dX12_give_5 : decode cX12_give 5 = .ok (.aload_n 0, 1) := by decide +kernel
set_option maxRecDepth 20000 in
theorem dX12_give_6 : decode cX12_give 6 = .ok (.getfield 283, 3) := by decide +kernel
set_option maxRecDepth 20000 in
theorem dX12_give_9 : decode cX12_give 9 = .ok (.ifCond .eq 30, 3) := by decide +kernel
set_option maxRecDepth 20000 in
theorem dX12_give_39 : decode cX12_give 39 = .ok (.iconst (-1), 1) := by decide +kernel
set_option maxRecDepth 20000 in
theorem dX12_give_40 : decode cX12_give 40 = .ok (.ireturn, 1) := by decide +kernel
set_option maxRecDepth 20000 in
theorem dX12_years_0 : decode cX12_years 0 = .ok (.aload_n 0, 1) := by decide +kernel
set_option maxRecDepth 20000 in
theorem dX12_years_1 : decode cX12_years 1 = .ok (.iconst 0, 1) := by decide +kernel
set_option maxRecDepth 20000 in
theorem dX12_years_2 : decode cX12_years 2 = .ok (.putfield 90, 3) := by decide +kernel
set_option maxRecDepth 20000 in
theorem dX12_years_5 : decode cX12_years 5 = .ok (.aload_n 0, 1) := by decide +kernel
set_option maxRecDepth 20000 in
theorem dX12_years_6 : decode cX12_years 6 = .ok (.getfield 283, 3) := by decide +kernel
set_option maxRecDepth 20000 in
theorem dX12_years_9 : decode cX12_years 9 = .ok (.ifCond .eq 30, 3) := by decide +kernel
set_option maxRecDepth 20000 in
theorem dX12_years_39 : decode cX12_years 39 = .ok (.iconst (-1), 1) := by decide +kernel
set_option maxRecDepth 20000 in
theorem dX12_years_40 : decode cX12_years 40 = .ok (.ireturn, 1) := by decide +kernel
set_option maxRecDepth 20000 in
theorem dX12_undo_0 : decode cX12_undo 0 = .ok (.aload_n 0, 1) := by decide +kernel
set_option maxRecDepth 20000 in
theorem dX12_undo_1 : decode cX12_undo 1 = .ok (.iconst 0, 1) := by decide +kernel
set_option maxRecDepth 20000 in
theorem dX12_undo_2 : decode cX12_undo 2 = .ok (.putfield 90, 3) := by decide +kernel
set_option maxRecDepth 20000 in
theorem dX12_undo_5 : decode cX12_undo 5 = .ok (.aload_n 0, 1) := by decide +kernel
set_option maxRecDepth 20000 in
theorem dX12_undo_6 : decode cX12_undo 6 = .ok (.getfield 292, 3) := by decide +kernel
set_option maxRecDepth 20000 in
theorem dX12_undo_9 : decode cX12_undo 9 = .ok (.ifCond .ne 5, 3) := by decide +kernel
set_option maxRecDepth 20000 in
theorem dX12_undo_12 : decode cX12_undo 12 = .ok (.iconst (-1), 1) := by decide +kernel
set_option maxRecDepth 20000 in
theorem dX12_undo_13 : decode cX12_undo 13 = .ok (.ireturn, 1) := by decide +kernel
set_option maxRecDepth 20000 in
theorem dX12_walk_0 : decode cX12_walk 0 = .ok (.aload_n 0, 1) := by decide +kernel
set_option maxRecDepth 20000 in
theorem dX12_walk_1 : decode cX12_walk 1 = .ok (.iconst 0, 1) := by decide +kernel
set_option maxRecDepth 20000 in
theorem dX12_walk_2 : decode cX12_walk 2 = .ok (.putfield 90, 3) := by decide +kernel
set_option maxRecDepth 20000 in
theorem dX12_walk_5 : decode cX12_walk 5 = .ok (.aload_n 0, 1) := by decide +kernel
set_option maxRecDepth 20000 in
theorem dX12_walk_6 : decode cX12_walk 6 = .ok (.iload_n 1, 1) := by decide +kernel
set_option maxRecDepth 20000 in
theorem dX12_walk_7 : decode cX12_walk 7 = .ok (.invokevirtual 392, 3) := by decide +kernel
set_option maxRecDepth 20000 in
theorem dX12_walk_10 : decode cX12_walk 10 = .ok (.ifCond .eq 23, 3) := by decide +kernel
set_option maxRecDepth 20000 in
theorem dX12_walk_33 : decode cX12_walk 33 = .ok (.iconst (-1), 1) := by decide +kernel
set_option maxRecDepth 20000 in
theorem dX12_walk_34 : decode cX12_walk 34 = .ok (.ireturn, 1) := by decide +kernel
set_option maxRecDepth 20000 in
theorem dX12_far_0 : decode cX12_far 0 = .ok (.aload_n 0, 1) := by decide +kernel
set_option maxRecDepth 20000 in
theorem dX12_far_1 : decode cX12_far 1 = .ok (.iconst 0, 1) := by decide +kernel
set_option maxRecDepth 20000 in
theorem dX12_far_2 : decode cX12_far 2 = .ok (.putfield 90, 3) := by decide +kernel
set_option maxRecDepth 20000 in
theorem dX12_far_5 : decode cX12_far 5 = .ok (.aload_n 0, 1) := by decide +kernel
set_option maxRecDepth 20000 in
theorem dX12_far_6 : decode cX12_far 6 = .ok (.iload_n 1, 1) := by decide +kernel
set_option maxRecDepth 20000 in
theorem dX12_far_7 : decode cX12_far 7 = .ok (.invokevirtual 354, 3) := by decide +kernel
set_option maxRecDepth 20000 in
theorem dX12_far_10 : decode cX12_far 10 = .ok (.ifCond .eq 11, 3) := by decide +kernel
set_option maxRecDepth 20000 in
theorem dX12_far_21 : decode cX12_far 21 = .ok (.iconst (-1), 1) := by decide +kernel
set_option maxRecDepth 20000 in
theorem dX12_far_22 : decode cX12_far 22 = .ok (.ireturn, 1) := by decide +kernel
set_option maxRecDepth 20000 in
theorem dX12_way_0 : decode cX12_way 0 = .ok (.aload_n 0, 1) := by decide +kernel
set_option maxRecDepth 20000 in
theorem dX12_way_1 : decode cX12_way 1 = .ok (.iconst 0, 1) := by decide +kernel
set_option maxRecDepth 20000 in
theorem dX12_way_2 : decode cX12_way 2 = .ok (.putfield 90, 3) := by decide +kernel
set_option maxRecDepth 20000 in
theorem dX12_way_5 : decode cX12_way 5 = .ok (.aload_n 0, 1) := by decide +kernel
set_option maxRecDepth 20000 in
theorem dX12_way_6 : decode cX12_way 6 = .ok (.iload_n 1, 1) := by decide +kernel
set_option maxRecDepth 20000 in
theorem dX12_way_7 : decode cX12_way 7 = .ok (.invokevirtual 354, 3) := by decide +kernel
set_option maxRecDepth 20000 in
theorem dX12_way_10 : decode cX12_way 10 = .ok (.ifCond .eq 11, 3) := by decide +kernel
set_option maxRecDepth 20000 in
theorem dX12_way_21 : decode cX12_way 21 = .ok (.iconst (-1), 1) := by decide +kernel
set_option maxRecDepth 20000 in
theorem dX12_way_22 : decode cX12_way 22 = .ok (.ireturn, 1) := by decide +kernel
set_option maxRecDepth 20000 in
theorem dX12_feast_0 : decode cX12_feast 0 = .ok (.aload_n 0, 1) := by decide +kernel
set_option maxRecDepth 20000 in
theorem dX12_feast_1 : decode cX12_feast 1 = .ok (.iconst 0, 1) := by decide +kernel
set_option maxRecDepth 20000 in
theorem dX12_feast_2 : decode cX12_feast 2 = .ok (.putfield 90, 3) := by decide +kernel
set_option maxRecDepth 20000 in
theorem dX12_feast_5 : decode cX12_feast 5 = .ok (.aload_n 0, 1) := by decide +kernel
set_option maxRecDepth 20000 in
theorem dX12_feast_6 : decode cX12_feast 6 = .ok (.iload_n 1, 1) := by decide +kernel
set_option maxRecDepth 20000 in
theorem dX12_feast_7 : decode cX12_feast 7 = .ok (.invokevirtual 354, 3) := by decide +kernel
set_option maxRecDepth 20000 in
theorem dX12_feast_10 : decode cX12_feast 10 = .ok (.ifCond .eq 13, 3) := by decide +kernel
set_option maxRecDepth 20000 in
theorem dX12_feast_23 : decode cX12_feast 23 = .ok (.iconst (-1), 1) := by decide +kernel
set_option maxRecDepth 20000 in
theorem dX12_feast_24 : decode cX12_feast 24 = .ok (.ireturn, 1) := by decide +kernel
set_option maxRecDepth 20000 in
theorem dX12_soon_0 : decode cX12_soon 0 = .ok (.aload_n 0, 1) := by decide +kernel
set_option maxRecDepth 20000 in
theorem dX12_soon_1 : decode cX12_soon 1 = .ok (.iconst 0, 1) := by decide +kernel
set_option maxRecDepth 20000 in
theorem dX12_soon_2 : decode cX12_soon 2 = .ok (.putfield 90, 3) := by decide +kernel
set_option maxRecDepth 20000 in
theorem dX12_soon_5 : decode cX12_soon 5 = .ok (.aload_n 0, 1) := by decide +kernel
set_option maxRecDepth 20000 in
theorem dX12_soon_6 : decode cX12_soon 6 = .ok (.iload_n 1, 1) := by decide +kernel
set_option maxRecDepth 20000 in
theorem dX12_soon_7 : decode cX12_soon 7 = .ok (.invokevirtual 362, 3) := by decide +kernel
set_option maxRecDepth 20000 in
theorem dX12_soon_10 : decode cX12_soon 10 = .ok (.ifCond .ne 5, 3) := by decide +kernel
set_option maxRecDepth 20000 in
theorem dX12_soon_13 : decode cX12_soon 13 = .ok (.iconst (-1), 1) := by decide +kernel
set_option maxRecDepth 20000 in
theorem dX12_soon_14 : decode cX12_soon 14 = .ok (.ireturn, 1) := by decide +kernel
set_option maxRecDepth 20000 in
theorem dX12_worn_0 : decode cX12_worn 0 = .ok (.aload_n 0, 1) := by decide +kernel
set_option maxRecDepth 20000 in
theorem dX12_worn_1 : decode cX12_worn 1 = .ok (.iconst 0, 1) := by decide +kernel
set_option maxRecDepth 20000 in
theorem dX12_worn_2 : decode cX12_worn 2 = .ok (.putfield 90, 3) := by decide +kernel
set_option maxRecDepth 20000 in
theorem dX12_worn_5 : decode cX12_worn 5 = .ok (.aload_n 0, 1) := by decide +kernel
set_option maxRecDepth 20000 in
theorem dX12_worn_6 : decode cX12_worn 6 = .ok (.iload_n 1, 1) := by decide +kernel
set_option maxRecDepth 20000 in
theorem dX12_worn_7 : decode cX12_worn 7 = .ok (.invokevirtual 354, 3) := by decide +kernel
set_option maxRecDepth 20000 in
theorem dX12_worn_10 : decode cX12_worn 10 = .ok (.ifCond .eq 15, 3) := by decide +kernel
set_option maxRecDepth 20000 in
theorem dX12_worn_25 : decode cX12_worn 25 = .ok (.iconst (-1), 1) := by decide +kernel
set_option maxRecDepth 20000 in
theorem dX12_worn_26 : decode cX12_worn 26 = .ok (.ireturn, 1) := by decide +kernel
set_option maxRecDepth 20000 in
theorem dX12_seen_0 : decode cX12_seen 0 = .ok (.aload_n 0, 1) := by decide +kernel
set_option maxRecDepth 20000 in
theorem dX12_seen_1 : decode cX12_seen 1 = .ok (.iconst 0, 1) := by decide +kernel
set_option maxRecDepth 20000 in
theorem dX12_seen_2 : decode cX12_seen 2 = .ok (.putfield 90, 3) := by decide +kernel
set_option maxRecDepth 20000 in
theorem dX12_seen_5 : decode cX12_seen 5 = .ok (.aload_n 0, 1) := by decide +kernel
set_option maxRecDepth 20000 in
theorem dX12_seen_6 : decode cX12_seen 6 = .ok (.iload_n 1, 1) := by decide +kernel
set_option maxRecDepth 20000 in
theorem dX12_seen_7 : decode cX12_seen 7 = .ok (.invokevirtual 354, 3) := by decide +kernel
set_option maxRecDepth 20000 in
theorem dX12_seen_10 : decode cX12_seen 10 = .ok (.ifCond .eq 12, 3) := by decide +kernel
set_option maxRecDepth 20000 in
theorem dX12_seen_22 : decode cX12_seen 22 = .ok (.iconst (-1), 1) := by decide +kernel
set_option maxRecDepth 20000 in
theorem dX12_seen_23 : decode cX12_seen 23 = .ok (.ireturn, 1) := by decide +kernel
set_option maxRecDepth 20000 in
theorem dX12_knocked_0 : decode cX12_knocked 0 = .ok (.aload_n 0, 1) := by decide +kernel
set_option maxRecDepth 20000 in
theorem dX12_knocked_1 : decode cX12_knocked 1 = .ok (.iconst 0, 1) := by decide +kernel
set_option maxRecDepth 20000 in
theorem dX12_knocked_2 : decode cX12_knocked 2 = .ok (.putfield 90, 3) := by decide +kernel
set_option maxRecDepth 20000 in
theorem dX12_knocked_5 : decode cX12_knocked 5 = .ok (.aload_n 0, 1) := by decide +kernel
set_option maxRecDepth 20000 in
theorem dX12_knocked_6 : decode cX12_knocked 6 = .ok (.getfield 283, 3) := by decide +kernel
set_option maxRecDepth 20000 in
theorem dX12_knocked_9 : decode cX12_knocked 9 = .ok (.ifCond .eq 8, 3) := by decide +kernel
set_option maxRecDepth 20000 in
theorem dX12_knocked_17 : decode cX12_knocked 17 = .ok (.iconst (-1), 1) := by decide +kernel
set_option maxRecDepth 20000 in
theorem dX12_knocked_18 : decode cX12_knocked 18 = .ok (.ireturn, 1) := by decide +kernel
set_option maxRecDepth 20000 in
theorem dX12_ask_0 : decode cX12_ask 0 = .ok (.aload_n 0, 1) := by decide +kernel
set_option maxRecDepth 20000 in
theorem dX12_ask_1 : decode cX12_ask 1 = .ok (.iconst 0, 1) := by decide +kernel
set_option maxRecDepth 20000 in
theorem dX12_ask_2 : decode cX12_ask 2 = .ok (.putfield 90, 3) := by decide +kernel
set_option maxRecDepth 20000 in
theorem dX12_ask_5 : decode cX12_ask 5 = .ok (.aload_n 0, 1) := by decide +kernel
set_option maxRecDepth 20000 in
theorem dX12_ask_6 : decode cX12_ask 6 = .ok (.getfield 283, 3) := by decide +kernel
set_option maxRecDepth 20000 in
theorem dX12_ask_9 : decode cX12_ask 9 = .ok (.ifCond .ne 5, 3) := by decide +kernel
set_option maxRecDepth 20000 in
theorem dX12_ask_12 : decode cX12_ask 12 = .ok (.iconst (-1), 1) := by decide +kernel
set_option maxRecDepth 20000 in
theorem dX12_ask_13 : decode cX12_ask 13 = .ok (.ireturn, 1) := by decide +kernel
set_option maxRecDepth 20000 in
theorem dX12_walls_0 : decode cX12_walls 0 = .ok (.aload_n 0, 1) := by decide +kernel
set_option maxRecDepth 20000 in
theorem dX12_walls_1 : decode cX12_walls 1 = .ok (.iconst 0, 1) := by decide +kernel
set_option maxRecDepth 20000 in
theorem dX12_walls_2 : decode cX12_walls 2 = .ok (.putfield 90, 3) := by decide +kernel
set_option maxRecDepth 20000 in
theorem dX12_walls_5 : decode cX12_walls 5 = .ok (.aload_n 0, 1) := by decide +kernel
set_option maxRecDepth 20000 in
theorem dX12_walls_6 : decode cX12_walls 6 = .ok (.getfield 283, 3) := by decide +kernel
set_option maxRecDepth 20000 in
theorem dX12_walls_9 : decode cX12_walls 9 = .ok (.ifCond .eq 21, 3) := by decide +kernel
set_option maxRecDepth 20000 in
theorem dX12_walls_30 : decode cX12_walls 30 = .ok (.iconst (-1), 1) := by decide +kernel
set_option maxRecDepth 20000 in
theorem dX12_walls_31 : decode cX12_walls 31 = .ok (.ireturn, 1) := by decide +kernel
set_option maxRecDepth 20000 in
theorem dX12_parted_0 : decode cX12_parted 0 = .ok (.aload_n 0, 1) := by decide +kernel
set_option maxRecDepth 20000 in
theorem dX12_parted_1 : decode cX12_parted 1 = .ok (.iconst 0, 1) := by decide +kernel
set_option maxRecDepth 20000 in
theorem dX12_parted_2 : decode cX12_parted 2 = .ok (.putfield 90, 3) := by decide +kernel
set_option maxRecDepth 20000 in
theorem dX12_parted_5 : decode cX12_parted 5 = .ok (.aload_n 0, 1) := by decide +kernel
set_option maxRecDepth 20000 in
theorem dX12_parted_6 : decode cX12_parted 6 = .ok (.iload_n 1, 1) := by decide +kernel
set_option maxRecDepth 20000 in
theorem dX12_parted_7 : decode cX12_parted 7 = .ok (.invokevirtual 354, 3) := by decide +kernel
set_option maxRecDepth 20000 in
theorem dX12_parted_10 : decode cX12_parted 10 = .ok (.ifCond .eq 16, 3) := by decide +kernel
set_option maxRecDepth 20000 in
theorem dX12_parted_26 : decode cX12_parted 26 = .ok (.iconst (-1), 1) := by decide +kernel
set_option maxRecDepth 20000 in
theorem dX12_parted_27 : decode cX12_parted 27 = .ok (.ireturn, 1) := by decide +kernel
set_option maxRecDepth 20000 in
theorem dX12_goes_0 : decode cX12_goes 0 = .ok (.aload_n 0, 1) := by decide +kernel
set_option maxRecDepth 20000 in
theorem dX12_goes_1 : decode cX12_goes 1 = .ok (.iconst 0, 1) := by decide +kernel
set_option maxRecDepth 20000 in
theorem dX12_goes_2 : decode cX12_goes 2 = .ok (.putfield 90, 3) := by decide +kernel
set_option maxRecDepth 20000 in
theorem dX12_goes_5 : decode cX12_goes 5 = .ok (.aload_n 0, 1) := by decide +kernel
set_option maxRecDepth 20000 in
theorem dX12_goes_6 : decode cX12_goes 6 = .ok (.iload_n 1, 1) := by decide +kernel
set_option maxRecDepth 20000 in
theorem dX12_goes_7 : decode cX12_goes 7 = .ok (.invokevirtual 362, 3) := by decide +kernel
set_option maxRecDepth 20000 in
theorem dX12_goes_10 : decode cX12_goes 10 = .ok (.ifCond .ne 5, 3) := by decide +kernel
set_option maxRecDepth 20000 in
theorem dX12_goes_13 : decode cX12_goes 13 = .ok (.iconst (-1), 1) := by decide +kernel
set_option maxRecDepth 20000 in
theorem dX12_goes_14 : decode cX12_goes 14 = .ok (.ireturn, 1) := by decide +kernel
set_option maxRecDepth 20000 in
theorem dX12_goers_0 : decode cX12_goers 0 = .ok (.aload_n 0, 1) := by decide +kernel
set_option maxRecDepth 20000 in
theorem dX12_goers_1 : decode cX12_goers 1 = .ok (.iconst 0, 1) := by decide +kernel
set_option maxRecDepth 20000 in
theorem dX12_goers_2 : decode cX12_goers 2 = .ok (.putfield 90, 3) := by decide +kernel
set_option maxRecDepth 20000 in
theorem dX12_goers_5 : decode cX12_goers 5 = .ok (.aload_n 0, 1) := by decide +kernel
set_option maxRecDepth 20000 in
theorem dX12_goers_6 : decode cX12_goers 6 = .ok (.iload_n 1, 1) := by decide +kernel
set_option maxRecDepth 20000 in
theorem dX12_goers_7 : decode cX12_goers 7 = .ok (.invokevirtual 354, 3) := by decide +kernel
set_option maxRecDepth 20000 in
theorem dX12_goers_10 : decode cX12_goers 10 = .ok (.ifCond .ne 5, 3) := by decide +kernel
set_option maxRecDepth 20000 in
theorem dX12_goers_13 : decode cX12_goers 13 = .ok (.iconst (-1), 1) := by decide +kernel
set_option maxRecDepth 20000 in
theorem dX12_goers_14 : decode cX12_goers 14 = .ok (.ireturn, 1) := by decide +kernel
set_option maxRecDepth 20000 in
theorem dX12_rests_0 : decode cX12_rests 0 = .ok (.aload_n 0, 1) := by decide +kernel
set_option maxRecDepth 20000 in
theorem dX12_rests_1 : decode cX12_rests 1 = .ok (.iconst 0, 1) := by decide +kernel
set_option maxRecDepth 20000 in
theorem dX12_rests_2 : decode cX12_rests 2 = .ok (.putfield 90, 3) := by decide +kernel
set_option maxRecDepth 20000 in
theorem dX12_rests_5 : decode cX12_rests 5 = .ok (.aload_n 0, 1) := by decide +kernel
set_option maxRecDepth 20000 in
theorem dX12_rests_6 : decode cX12_rests 6 = .ok (.iload_n 1, 1) := by decide +kernel
set_option maxRecDepth 20000 in
theorem dX12_rests_7 : decode cX12_rests 7 = .ok (.iload_n 2, 1) := by decide +kernel
set_option maxRecDepth 20000 in
theorem dX12_rests_8 : decode cX12_rests 8 = .ok (.invokevirtual 447, 3) := by decide +kernel
set_option maxRecDepth 20000 in
theorem dX12_rests_11 : decode cX12_rests 11 = .ok (.ifCond .eq 8, 3) := by decide +kernel
set_option maxRecDepth 20000 in
theorem dX12_rests_19 : decode cX12_rests 19 = .ok (.iconst (-1), 1) := by decide +kernel
set_option maxRecDepth 20000 in
theorem dX12_rests_20 : decode cX12_rests 20 = .ok (.ireturn, 1) := by decide +kernel
set_option maxRecDepth 20000 in
theorem dX12_odds_0 : decode cX12_odds 0 = .ok (.aload_n 0, 1) := by decide +kernel
set_option maxRecDepth 20000 in
theorem dX12_odds_1 : decode cX12_odds 1 = .ok (.iconst 0, 1) := by decide +kernel
set_option maxRecDepth 20000 in
theorem dX12_odds_2 : decode cX12_odds 2 = .ok (.putfield 90, 3) := by decide +kernel
set_option maxRecDepth 20000 in
theorem dX12_odds_5 : decode cX12_odds 5 = .ok (.aload_n 0, 1) := by decide +kernel
set_option maxRecDepth 20000 in
theorem dX12_odds_6 : decode cX12_odds 6 = .ok (.iload_n 1, 1) := by decide +kernel
set_option maxRecDepth 20000 in
theorem dX12_odds_7 : decode cX12_odds 7 = .ok (.invokevirtual 362, 3) := by decide +kernel
set_option maxRecDepth 20000 in
theorem dX12_odds_10 : decode cX12_odds 10 = .ok (.ifCond .eq 15, 3) := by decide +kernel
set_option maxRecDepth 20000 in
theorem dX12_odds_25 : decode cX12_odds 25 = .ok (.iconst (-1), 1) := by decide +kernel
set_option maxRecDepth 20000 in
theorem dX12_odds_26 : decode cX12_odds 26 = .ok (.ireturn, 1) := by decide +kernel
set_option maxRecDepth 20000 in
theorem dX12_shares_0 : decode cX12_shares 0 = .ok (.aload_n 0, 1) := by decide +kernel
set_option maxRecDepth 20000 in
theorem dX12_shares_1 : decode cX12_shares 1 = .ok (.iconst 0, 1) := by decide +kernel
set_option maxRecDepth 20000 in
theorem dX12_shares_2 : decode cX12_shares 2 = .ok (.putfield 90, 3) := by decide +kernel
set_option maxRecDepth 20000 in
theorem dX12_shares_5 : decode cX12_shares 5 = .ok (.aload_n 0, 1) := by decide +kernel
set_option maxRecDepth 20000 in
theorem dX12_shares_6 : decode cX12_shares 6 = .ok (.iload_n 1, 1) := by decide +kernel
set_option maxRecDepth 20000 in
theorem dX12_shares_7 : decode cX12_shares 7 = .ok (.invokevirtual 354, 3) := by decide +kernel
set_option maxRecDepth 20000 in
theorem dX12_shares_10 : decode cX12_shares 10 = .ok (.ifCond .eq 15, 3) := by decide +kernel
set_option maxRecDepth 20000 in
theorem dX12_shares_25 : decode cX12_shares 25 = .ok (.iconst (-1), 1) := by decide +kernel
set_option maxRecDepth 20000 in
theorem dX12_shares_26 : decode cX12_shares 26 = .ok (.ireturn, 1) := by decide +kernel
set_option maxRecDepth 20000 in
theorem dX12_all_0 : decode cX12_all 0 = .ok (.aload_n 0, 1) := by decide +kernel
set_option maxRecDepth 20000 in
theorem dX12_all_1 : decode cX12_all 1 = .ok (.iconst 0, 1) := by decide +kernel
set_option maxRecDepth 20000 in
theorem dX12_all_2 : decode cX12_all 2 = .ok (.putfield 90, 3) := by decide +kernel
set_option maxRecDepth 20000 in
theorem dX12_all_5 : decode cX12_all 5 = .ok (.aload_n 0, 1) := by decide +kernel
set_option maxRecDepth 20000 in
theorem dX12_all_6 : decode cX12_all 6 = .ok (.getfield 283, 3) := by decide +kernel
set_option maxRecDepth 20000 in
theorem dX12_all_9 : decode cX12_all 9 = .ok (.ifCond .ne 5, 3) := by decide +kernel
set_option maxRecDepth 20000 in
theorem dX12_all_12 : decode cX12_all 12 = .ok (.iconst (-1), 1) := by decide +kernel
set_option maxRecDepth 20000 in
theorem dX12_all_13 : decode cX12_all 13 = .ok (.ireturn, 1) := by decide +kernel
set_option maxRecDepth 20000 in
theorem dX12_around_0 : decode cX12_around 0 = .ok (.aload_n 0, 1) := by decide +kernel
set_option maxRecDepth 20000 in
theorem dX12_around_1 : decode cX12_around 1 = .ok (.iconst 0, 1) := by decide +kernel
set_option maxRecDepth 20000 in
theorem dX12_around_2 : decode cX12_around 2 = .ok (.putfield 90, 3) := by decide +kernel
set_option maxRecDepth 20000 in
theorem dX12_around_5 : decode cX12_around 5 = .ok (.aload_n 0, 1) := by decide +kernel
set_option maxRecDepth 20000 in
theorem dX12_around_6 : decode cX12_around 6 = .ok (.iload_n 1, 1) := by decide +kernel
set_option maxRecDepth 20000 in
theorem dX12_around_7 : decode cX12_around 7 = .ok (.invokevirtual 354, 3) := by decide +kernel
set_option maxRecDepth 20000 in
theorem dX12_around_10 : decode cX12_around 10 = .ok (.ifCond .eq 15, 3) := by decide +kernel
set_option maxRecDepth 20000 in
theorem dX12_around_25 : decode cX12_around 25 = .ok (.iconst (-1), 1) := by decide +kernel
set_option maxRecDepth 20000 in
theorem dX12_around_26 : decode cX12_around 26 = .ok (.ireturn, 1) := by decide +kernel
set_option maxRecDepth 20000 in
theorem dX12_image_0 : decode cX12_image 0 = .ok (.aload_n 0, 1) := by decide +kernel
set_option maxRecDepth 20000 in
theorem dX12_image_1 : decode cX12_image 1 = .ok (.iconst 0, 1) := by decide +kernel
set_option maxRecDepth 20000 in
theorem dX12_image_2 : decode cX12_image 2 = .ok (.putfield 90, 3) := by decide +kernel
set_option maxRecDepth 20000 in
theorem dX12_image_5 : decode cX12_image 5 = .ok (.aload_n 0, 1) := by decide +kernel
set_option maxRecDepth 20000 in
theorem dX12_image_6 : decode cX12_image 6 = .ok (.getfield 283, 3) := by decide +kernel
set_option maxRecDepth 20000 in
theorem dX12_image_9 : decode cX12_image 9 = .ok (.ifCond .ne 5, 3) := by decide +kernel
set_option maxRecDepth 20000 in
theorem dX12_image_12 : decode cX12_image 12 = .ok (.iconst (-1), 1) := by decide +kernel
set_option maxRecDepth 20000 in
theorem dX12_image_13 : decode cX12_image 13 = .ok (.ireturn, 1) := by decide +kernel
set_option maxRecDepth 20000 in
theorem dX12_back_0 : decode cX12_back 0 = .ok (.aload_n 0, 1) := by decide +kernel
set_option maxRecDepth 20000 in
theorem dX12_back_1 : decode cX12_back 1 = .ok (.iconst 0, 1) := by decide +kernel
set_option maxRecDepth 20000 in
theorem dX12_back_2 : decode cX12_back 2 = .ok (.putfield 90, 3) := by decide +kernel
set_option maxRecDepth 20000 in
theorem dX12_back_5 : decode cX12_back 5 = .ok (.aload_n 0, 1) := by decide +kernel
set_option maxRecDepth 20000 in
theorem dX12_back_6 : decode cX12_back 6 = .ok (.getfield 295, 3) := by decide +kernel
set_option maxRecDepth 20000 in
theorem dX12_back_9 : decode cX12_back 9 = .ok (.ifCond .ne 5, 3) := by decide +kernel
set_option maxRecDepth 20000 in
theorem dX12_back_12 : decode cX12_back 12 = .ok (.iconst (-1), 1) := by decide +kernel
set_option maxRecDepth 20000 in
theorem dX12_back_13 : decode cX12_back 13 = .ok (.ireturn, 1) := by decide +kernel
set_option maxRecDepth 20000 in
theorem dX12_check_0 : decode cX12_check 0 = .ok (.aload_n 0, 1) := by decide +kernel
set_option maxRecDepth 20000 in
theorem dX12_check_1 : decode cX12_check 1 = .ok (.iconst 0, 1) := by decide +kernel
set_option maxRecDepth 20000 in
theorem dX12_check_2 : decode cX12_check 2 = .ok (.putfield 90, 3) := by decide +kernel
set_option maxRecDepth 20000 in
theorem dX12_check_5 : decode cX12_check 5 = .ok (.aload_n 0, 1) := by decide +kernel
set_option maxRecDepth 20000 in
theorem dX12_check_6 : decode cX12_check 6 = .ok (.iload_n 1, 1) := by decide +kernel
set_option maxRecDepth 20000 in
theorem dX12_check_7 : decode cX12_check 7 = .ok (.invokevirtual 392, 3) := by decide +kernel
set_option maxRecDepth 20000 in
theorem dX12_check_10 : decode cX12_check 10 = .ok (.ifCond .eq 22, 3) := by decide +kernel
set_option maxRecDepth 20000 in
theorem dX12_check_32 : decode cX12_check 32 = .ok (.ldc_w 325, 3) := by decide +kernel
set_option maxRecDepth 20000 in
theorem dX12_check_35 : decode cX12_check 35 = .ok (.ireturn, 1) := by decide +kernel
set_option maxRecDepth 20000 in
theorem dX12_draws_0 : decode cX12_draws 0 = .ok (.aload_n 0, 1) := by decide +kernel
set_option maxRecDepth 20000 in
theorem dX12_draws_1 : decode cX12_draws 1 = .ok (.iconst 0, 1) := by decide +kernel
set_option maxRecDepth 20000 in
theorem dX12_draws_2 : decode cX12_draws 2 = .ok (.putfield 90, 3) := by decide +kernel
set_option maxRecDepth 20000 in
theorem dX12_draws_5 : decode cX12_draws 5 = .ok (.aload_n 0, 1) := by decide +kernel
set_option maxRecDepth 20000 in
theorem dX12_draws_6 : decode cX12_draws 6 = .ok (.iload_n 1, 1) := by decide +kernel
set_option maxRecDepth 20000 in
theorem dX12_draws_7 : decode cX12_draws 7 = .ok (.invokevirtual 362, 3) := by decide +kernel
set_option maxRecDepth 20000 in
theorem dX12_draws_10 : decode cX12_draws 10 = .ok (.ifCond .eq 11, 3) := by decide +kernel
set_option maxRecDepth 20000 in
theorem dX12_draws_21 : decode cX12_draws 21 = .ok (.ldc_w 325, 3) := by decide +kernel
set_option maxRecDepth 20000 in
theorem dX12_draws_24 : decode cX12_draws 24 = .ok (.ireturn, 1) := by decide +kernel
set_option maxRecDepth 20000 in
theorem dX12_game_0 : decode cX12_game 0 = .ok (.aload_n 0, 1) := by decide +kernel
set_option maxRecDepth 20000 in
theorem dX12_game_1 : decode cX12_game 1 = .ok (.iconst 0, 1) := by decide +kernel
set_option maxRecDepth 20000 in
theorem dX12_game_2 : decode cX12_game 2 = .ok (.putfield 90, 3) := by decide +kernel
set_option maxRecDepth 20000 in
theorem dX12_game_5 : decode cX12_game 5 = .ok (.aload_n 0, 1) := by decide +kernel
set_option maxRecDepth 20000 in
theorem dX12_game_6 : decode cX12_game 6 = .ok (.iload_n 1, 1) := by decide +kernel
set_option maxRecDepth 20000 in
theorem dX12_game_7 : decode cX12_game 7 = .ok (.iload_n 2, 1) := by decide +kernel
set_option maxRecDepth 20000 in
theorem dX12_game_8 : decode cX12_game 8 = .ok (.invokevirtual 447, 3) := by decide +kernel
set_option maxRecDepth 20000 in
theorem dX12_game_11 : decode cX12_game 11 = .ok (.ifCond .eq 39, 3) := by decide +kernel
set_option maxRecDepth 20000 in
theorem dX12_game_50 : decode cX12_game 50 = .ok (.ldc_w 325, 3) := by decide +kernel
set_option maxRecDepth 20000 in
theorem dX12_game_53 : decode cX12_game 53 = .ok (.ireturn, 1) := by decide +kernel
theorem in_lt {x a : Int32} {v : Int64} (h : v = a.toInt64) : lg_cmp x.toInt64 v < 0 ↔ x < a := by
  rw [lg_cmp_lt, h, Int64.lt_iff_toInt_lt, Int32.lt_iff_toInt_lt, Int32.toInt_toInt64, Int32.toInt_toInt64]
theorem in_gt {x b : Int32} {v : Int64} (h : v = b.toInt64) : 0 < lg_cmp x.toInt64 v ↔ b < x := by
  rw [lg_cmp_gt, h, Int64.lt_iff_toInt_lt, Int32.lt_iff_toInt_lt, Int32.toInt_toInt64, Int32.toInt_toInt64]
def vs_f_X12_isIn : List Cond := .code yX12_isIn cX12_isIn 6 (some .boolean) :: ([])
set_option maxHeartbeats 4000000 in
set_option maxRecDepth 100000 in
theorem f_X12_isIn (l : Launch) (dC : Nat → ClassId) (dI : Nat → Nat → Nat) (sz : Nat) (x a b : Int32) (va vb : Int64) (ha : va = a.toInt64) (hb9 : vb = b.toInt64) : Met l yX12_isIn vs_f_X12_isIn ({ frames := 0, cells := 0, slots := 0, locals := 0 }) (va_Pc [.long (x.toInt64), .long va, .long vb] (cW dC dI [] [] sz)) (va_Qi (fun (r : Int32) (_ : Unit) => r = (if x < a ∨ b < x then 0 else 1)) (fun (_ : Unit) (t : State) => True) (va_A [] sz)) 0 0 (va_A [] sz) := by
  refine Met.ofW (cc := cX12_isIn) (maxL := 6) (ret := (some .boolean)) (by decide) rfl ?_
  intro p e s m args below meth c s₁ B hml hv
  obtain ⟨rfl, hsz, hP, hK, hD0, hG⟩ := hv
  have hx := B.exec
  have hb := B.bytes
  have hr := B.returns
  have hts := atoms_spec (ws := vs_f_X12_isIn) B.pre
  have hown : s.vm.findClass RX12 = some m.cls := findClass_of_methodNamed B.named
  have hlocks := B.notSynchronized
  subst hsz
  have hD := hD0.self (sz := s.heap.size)
  generalize hAe : va_A [] s.heap.size = A at hD ⊢
  have hA : ∀ q : Nat, s.heap.size ≤ q → A q := fun q h => by rw [← hAe]; exact Or.inr h
  have hS : va_S A s.heap s.heap [] := va_S.rf
  have hP : va_P (dC, dI) vwCl [] s.heap := hP
  have hl := lv_entry ([.long (x.toInt64), .long va, .long vb]) (n := 6) (Nat.le_of_ble_eq_true rfl)
  rw [lg_entry_eq]
  generalize (lg_sl ([.long (x.toInt64), .long va, .long vb]) ++ List.replicate (6 - (lg_sl ([.long (x.toInt64), .long va, .long vb])).length) Slot.unset).toArray = ls at hl ⊢
  have hl : lv_has ls 6 [(0, .long (x.toInt64)), (2, .long va), (4, .long vb)] := hl
  refine lv_lload_n hx hb dX12_isIn_0 rfl (lv_at hl 0 rfl) ?_
  refine lv_lload_n hx hb dX12_isIn_1 rfl (lv_at hl 1 rfl) ?_
  refine W.lcmp hx hb dX12_isIn_2 ?_
  refine lv_if_lt (tgt := 17) hx hb dX12_isIn_3 (by decide) (fun c1 => ?_) (fun c1 => ?_)
  · refine lv_iconst (v := 0) hx hb dX12_isIn_17 (by decide) ?_
    exact W.zret (v := 0) hx hb hr rfl (fun t ht hW => ⟨⟨0, (), rfl, by rw [if_pos (Or.inl ((in_lt ha).mp c1))], trivial⟩, hS.F ht⟩) hS.2.2 dX12_isIn_18
  · refine lv_lload_n hx hb dX12_isIn_6 rfl (lv_at hl 0 rfl) ?_
    refine lv_lload hx hb dX12_isIn_7 (lv_at hl 2 rfl) ?_
    refine W.lcmp hx hb dX12_isIn_9 ?_
    refine lv_if_gt (tgt := 17) hx hb dX12_isIn_10 (by decide) (fun c2 => ?_) (fun c2 => ?_)
    · refine lv_iconst (v := 0) hx hb dX12_isIn_17 (by decide) ?_
      exact W.zret (v := 0) hx hb hr rfl (fun t ht hW => ⟨⟨0, (), rfl, by rw [if_pos (Or.inr ((in_gt hb9).mp c2))], trivial⟩, hS.F ht⟩) hS.2.2 dX12_isIn_18
    · refine lv_iconst (v := 1) hx hb dX12_isIn_13 (by decide) ?_
      refine lv_goto (tgt := 18) hx hb dX12_isIn_14 (by decide) ?_
      exact W.zret (v := 1) hx hb hr rfl (fun t ht hW => ⟨⟨1, (), rfl, by rw [if_neg (fun h => h.elim (fun h => c1 ((in_lt ha).mpr h)) (fun h => c2 ((in_gt hb9).mpr h)))], trivial⟩, hS.F ht⟩) hS.2.2 dX12_isIn_18
def vs_f_X12_isCorner : List Cond := .code yX12_isCorner cX12_isCorner 2 (some .boolean) :: ([.fieldLink RX12 280 "WallChapelsModel" "corners" "I"] ++ (u_ws RX12 TX12 54))
theorem vs_f_X12_isCorner_uX12 : ∀ w ∈ u_ws RX12 TX12 54, w ∈ vs_f_X12_isCorner := fun _ h => List.mem_cons_of_mem _ (List.mem_append_right _ (h))
set_option maxHeartbeats 4000000 in
set_option maxRecDepth 100000 in
theorem f_X12_isCorner (l : Launch) (dC : Nat → ClassId) (dI : Nat → Nat → Nat) (sz : Nat) (r : Nat → Nat) (p0 : Int32) : Met l yX12_isCorner vs_f_X12_isCorner ({ frames := 0, cells := 0, slots := 0, locals := 0 }) (va_Pc [.ref (r 100), .int p0] (cW dC dI [((r 100), .inr (12, mF r 0 0 0 0 0 0 0 0 0 0 0 0 0 (-1) 1))] [] sz)) (va_Qi (fun (r : Int32) (_ : Unit) => r = 0) (fun (_ : Unit) (t : State) => True) (va_A [((r 100), .inr (12, mF r 0 0 0 0 0 0 0 0 0 0 0 0 0 (-1) 1))] sz)) 0 0 (va_A [((r 100), .inr (12, mF r 0 0 0 0 0 0 0 0 0 0 0 0 0 (-1) 1))] sz) := by
  refine Met.ofW (cc := cX12_isCorner) (maxL := 2) (ret := (some .boolean)) (by decide) rfl ?_
  intro p e s m args below meth c s₁ B hml hv
  obtain ⟨rfl, hsz, hP, hK, hD0, hG⟩ := hv
  have hx := B.exec
  have hb := B.bytes
  have hr := B.returns
  have hts := atoms_spec (ws := vs_f_X12_isCorner) B.pre
  have hown : s.vm.findClass RX12 = some m.cls := findClass_of_methodNamed B.named
  have hlocks := B.notSynchronized
  have hiX12 : ∀ w ∈ u_ws RX12 TX12 54, w ∈ vs_f_X12_isCorner := vs_f_X12_isCorner_uX12
  subst hsz
  have hD := hD0.self (sz := s.heap.size)
  generalize hAe : va_A [((r 100), .inr (12, mF r 0 0 0 0 0 0 0 0 0 0 0 0 0 (-1) 1))] s.heap.size = A at hD ⊢
  have hA : ∀ q : Nat, s.heap.size ≤ q → A q := fun q h => by rw [← hAe]; exact Or.inr h
  have hS : va_S A s.heap s.heap [] := va_S.rf
  have hP : va_P (dC, dI) vwCl [((r 100), .inr (12, mF r 0 0 0 0 0 0 0 0 0 0 0 0 0 (-1) 1))] s.heap := hP
  have hl := lv_entry ([.ref (r 100), .int p0]) (n := 2) (Nat.le_of_ble_eq_true rfl)
  rw [lg_entry_eq]
  generalize (lg_sl ([.ref (r 100), .int p0]) ++ List.replicate (2 - (lg_sl ([.ref (r 100), .int p0])).length) Slot.unset).toArray = ls at hl ⊢
  have hl : lv_has ls 2 [(0, .ref (r 100)), (1, .int p0)] := hl
  refine lv_iload_n hx hb dX12_isCorner_0 rfl (lv_at hl 1 rfl) ?_
  refine lv_if_lt (tgt := 16) hx hb dX12_isCorner_1 (by decide) (fun c_1 => ?_) (fun c_1 => ?_)
  · refine lv_iconst (v := 0) hx hb dX12_isCorner_16 (by decide) ?_
    exact W.zret (v := 0) hx hb hr rfl (fun t ht hW => ⟨⟨0, (), rfl, rfl, trivial⟩, hS.F ht⟩) hS.2.2 dX12_isCorner_17
  · refine lv_iload_n hx hb dX12_isCorner_4 rfl (lv_at hl 1 rfl) ?_
    refine lv_aload_n hx hb dX12_isCorner_5 rfl (lv_at hl 0 rfl) ?_
    refine va_get (D := (dC, dI)) (ci := 12) (v := .int 0) (C := RX12) (T := TX12) (N := 54) hx hb hts hiX12 hown hK hP 0 rfl rfl 25 (by decide) (hts (.fieldLink RX12 280 "WallChapelsModel" "corners" "I") (by decide +kernel)) (fun _ h9 => h9) rfl dX12_isCorner_6 ?_
    refine lv_icmp_ge (tgt := 16) hx hb dX12_isCorner_9 (by decide) (fun c_2 => ?_) (fun c_2 => by have z0 := c_1; have z1 := c_2; simp only [i_lt, i_le, i_eq, i_zm1000000, i_zm30, i_zm20, i_zm2, i_zm1, i_z0, i_z1, i_z2, i_z3, i_z4, i_z5, i_z6, i_z7, i_z8, i_z9, i_z10, i_z11, i_z12, i_z13, i_z14, i_z15, i_z16, i_z17, i_z18, i_z19, i_z20, i_z21, i_z22, i_z23, i_z24, i_z30, i_z32, i_z40, i_z41, i_z50, i_z58, i_z59, i_z60, i_z63, i_z99, i_z100, i_z240, i_z255, i_z999] at z0 z1; omega)
    refine lv_iconst (v := 0) hx hb dX12_isCorner_16 (by decide) ?_
    exact W.zret (v := 0) hx hb hr rfl (fun t ht hW => ⟨⟨0, (), rfl, rfl, trivial⟩, hS.F ht⟩) hS.2.2 dX12_isCorner_17
def vs_f_X12_isStreet : List Cond := .code yX12_isStreet cX12_isStreet 2 (some .boolean) :: ([.fieldLink RX12 283 "WallChapelsModel" "streets" "I"] ++ (u_ws RX12 TX12 54))
theorem vs_f_X12_isStreet_uX12 : ∀ w ∈ u_ws RX12 TX12 54, w ∈ vs_f_X12_isStreet := fun _ h => List.mem_cons_of_mem _ (List.mem_append_right _ (h))
set_option maxHeartbeats 4000000 in
set_option maxRecDepth 100000 in
theorem f_X12_isStreet (l : Launch) (dC : Nat → ClassId) (dI : Nat → Nat → Nat) (sz : Nat) (r : Nat → Nat) (p0 : Int32) : Met l yX12_isStreet vs_f_X12_isStreet ({ frames := 0, cells := 0, slots := 0, locals := 0 }) (va_Pc [.ref (r 100), .int p0] (cW dC dI [((r 100), .inr (12, mF r 0 0 0 0 0 0 0 0 0 0 0 0 0 (-1) 1))] [] sz)) (va_Qi (fun (r : Int32) (_ : Unit) => r = 0) (fun (_ : Unit) (t : State) => True) (va_A [((r 100), .inr (12, mF r 0 0 0 0 0 0 0 0 0 0 0 0 0 (-1) 1))] sz)) 0 0 (va_A [((r 100), .inr (12, mF r 0 0 0 0 0 0 0 0 0 0 0 0 0 (-1) 1))] sz) := by
  refine Met.ofW (cc := cX12_isStreet) (maxL := 2) (ret := (some .boolean)) (by decide) rfl ?_
  intro p e s m args below meth c s₁ B hml hv
  obtain ⟨rfl, hsz, hP, hK, hD0, hG⟩ := hv
  have hx := B.exec
  have hb := B.bytes
  have hr := B.returns
  have hts := atoms_spec (ws := vs_f_X12_isStreet) B.pre
  have hown : s.vm.findClass RX12 = some m.cls := findClass_of_methodNamed B.named
  have hlocks := B.notSynchronized
  have hiX12 : ∀ w ∈ u_ws RX12 TX12 54, w ∈ vs_f_X12_isStreet := vs_f_X12_isStreet_uX12
  subst hsz
  have hD := hD0.self (sz := s.heap.size)
  generalize hAe : va_A [((r 100), .inr (12, mF r 0 0 0 0 0 0 0 0 0 0 0 0 0 (-1) 1))] s.heap.size = A at hD ⊢
  have hA : ∀ q : Nat, s.heap.size ≤ q → A q := fun q h => by rw [← hAe]; exact Or.inr h
  have hS : va_S A s.heap s.heap [] := va_S.rf
  have hP : va_P (dC, dI) vwCl [((r 100), .inr (12, mF r 0 0 0 0 0 0 0 0 0 0 0 0 0 (-1) 1))] s.heap := hP
  have hl := lv_entry ([.ref (r 100), .int p0]) (n := 2) (Nat.le_of_ble_eq_true rfl)
  rw [lg_entry_eq]
  generalize (lg_sl ([.ref (r 100), .int p0]) ++ List.replicate (2 - (lg_sl ([.ref (r 100), .int p0])).length) Slot.unset).toArray = ls at hl ⊢
  have hl : lv_has ls 2 [(0, .ref (r 100)), (1, .int p0)] := hl
  refine lv_iload_n hx hb dX12_isStreet_0 rfl (lv_at hl 1 rfl) ?_
  refine lv_if_lt (tgt := 16) hx hb dX12_isStreet_1 (by decide) (fun c_1 => ?_) (fun c_1 => ?_)
  · refine lv_iconst (v := 0) hx hb dX12_isStreet_16 (by decide) ?_
    exact W.zret (v := 0) hx hb hr rfl (fun t ht hW => ⟨⟨0, (), rfl, rfl, trivial⟩, hS.F ht⟩) hS.2.2 dX12_isStreet_17
  · refine lv_iload_n hx hb dX12_isStreet_4 rfl (lv_at hl 1 rfl) ?_
    refine lv_aload_n hx hb dX12_isStreet_5 rfl (lv_at hl 0 rfl) ?_
    refine va_get (D := (dC, dI)) (ci := 12) (v := .int 0) (C := RX12) (T := TX12) (N := 54) hx hb hts hiX12 hown hK hP 0 rfl rfl 26 (by decide) (hts (.fieldLink RX12 283 "WallChapelsModel" "streets" "I") (by decide +kernel)) (fun _ h9 => h9) rfl dX12_isStreet_6 ?_
    refine lv_icmp_ge (tgt := 16) hx hb dX12_isStreet_9 (by decide) (fun c_2 => ?_) (fun c_2 => by have z0 := c_1; have z1 := c_2; simp only [i_lt, i_le, i_eq, i_zm1000000, i_zm30, i_zm20, i_zm2, i_zm1, i_z0, i_z1, i_z2, i_z3, i_z4, i_z5, i_z6, i_z7, i_z8, i_z9, i_z10, i_z11, i_z12, i_z13, i_z14, i_z15, i_z16, i_z17, i_z18, i_z19, i_z20, i_z21, i_z22, i_z23, i_z24, i_z30, i_z32, i_z40, i_z41, i_z50, i_z58, i_z59, i_z60, i_z63, i_z99, i_z100, i_z240, i_z255, i_z999] at z0 z1; omega)
    refine lv_iconst (v := 0) hx hb dX12_isStreet_16 (by decide) ?_
    exact W.zret (v := 0) hx hb hr rfl (fun t ht hW => ⟨⟨0, (), rfl, rfl, trivial⟩, hS.F ht⟩) hS.2.2 dX12_isStreet_17
def vs_f_X12_isWalker : List Cond := .code yX12_isWalker cX12_isWalker 2 (some .boolean) :: ([.fieldLink RX12 286 "WallChapelsModel" "walkers" "I"] ++ (u_ws RX12 TX12 54))
theorem vs_f_X12_isWalker_uX12 : ∀ w ∈ u_ws RX12 TX12 54, w ∈ vs_f_X12_isWalker := fun _ h => List.mem_cons_of_mem _ (List.mem_append_right _ (h))
set_option maxHeartbeats 4000000 in
set_option maxRecDepth 100000 in
theorem f_X12_isWalker (l : Launch) (dC : Nat → ClassId) (dI : Nat → Nat → Nat) (sz : Nat) (r : Nat → Nat) (p0 : Int32) : Met l yX12_isWalker vs_f_X12_isWalker ({ frames := 0, cells := 0, slots := 0, locals := 0 }) (va_Pc [.ref (r 100), .int p0] (cW dC dI [((r 100), .inr (12, mF r 0 0 0 0 0 0 0 0 0 0 0 0 0 (-1) 1))] [] sz)) (va_Qi (fun (r : Int32) (_ : Unit) => r = 0) (fun (_ : Unit) (t : State) => True) (va_A [((r 100), .inr (12, mF r 0 0 0 0 0 0 0 0 0 0 0 0 0 (-1) 1))] sz)) 0 0 (va_A [((r 100), .inr (12, mF r 0 0 0 0 0 0 0 0 0 0 0 0 0 (-1) 1))] sz) := by
  refine Met.ofW (cc := cX12_isWalker) (maxL := 2) (ret := (some .boolean)) (by decide) rfl ?_
  intro p e s m args below meth c s₁ B hml hv
  obtain ⟨rfl, hsz, hP, hK, hD0, hG⟩ := hv
  have hx := B.exec
  have hb := B.bytes
  have hr := B.returns
  have hts := atoms_spec (ws := vs_f_X12_isWalker) B.pre
  have hown : s.vm.findClass RX12 = some m.cls := findClass_of_methodNamed B.named
  have hlocks := B.notSynchronized
  have hiX12 : ∀ w ∈ u_ws RX12 TX12 54, w ∈ vs_f_X12_isWalker := vs_f_X12_isWalker_uX12
  subst hsz
  have hD := hD0.self (sz := s.heap.size)
  generalize hAe : va_A [((r 100), .inr (12, mF r 0 0 0 0 0 0 0 0 0 0 0 0 0 (-1) 1))] s.heap.size = A at hD ⊢
  have hA : ∀ q : Nat, s.heap.size ≤ q → A q := fun q h => by rw [← hAe]; exact Or.inr h
  have hS : va_S A s.heap s.heap [] := va_S.rf
  have hP : va_P (dC, dI) vwCl [((r 100), .inr (12, mF r 0 0 0 0 0 0 0 0 0 0 0 0 0 (-1) 1))] s.heap := hP
  have hl := lv_entry ([.ref (r 100), .int p0]) (n := 2) (Nat.le_of_ble_eq_true rfl)
  rw [lg_entry_eq]
  generalize (lg_sl ([.ref (r 100), .int p0]) ++ List.replicate (2 - (lg_sl ([.ref (r 100), .int p0])).length) Slot.unset).toArray = ls at hl ⊢
  have hl : lv_has ls 2 [(0, .ref (r 100)), (1, .int p0)] := hl
  refine lv_iload_n hx hb dX12_isWalker_0 rfl (lv_at hl 1 rfl) ?_
  refine lv_if_lt (tgt := 16) hx hb dX12_isWalker_1 (by decide) (fun c_1 => ?_) (fun c_1 => ?_)
  · refine lv_iconst (v := 0) hx hb dX12_isWalker_16 (by decide) ?_
    exact W.zret (v := 0) hx hb hr rfl (fun t ht hW => ⟨⟨0, (), rfl, rfl, trivial⟩, hS.F ht⟩) hS.2.2 dX12_isWalker_17
  · refine lv_iload_n hx hb dX12_isWalker_4 rfl (lv_at hl 1 rfl) ?_
    refine lv_aload_n hx hb dX12_isWalker_5 rfl (lv_at hl 0 rfl) ?_
    refine va_get (D := (dC, dI)) (ci := 12) (v := .int 0) (C := RX12) (T := TX12) (N := 54) hx hb hts hiX12 hown hK hP 0 rfl rfl 27 (by decide) (hts (.fieldLink RX12 286 "WallChapelsModel" "walkers" "I") (by decide +kernel)) (fun _ h9 => h9) rfl dX12_isWalker_6 ?_
    refine lv_icmp_ge (tgt := 16) hx hb dX12_isWalker_9 (by decide) (fun c_2 => ?_) (fun c_2 => by have z0 := c_1; have z1 := c_2; simp only [i_lt, i_le, i_eq, i_zm1000000, i_zm30, i_zm20, i_zm2, i_zm1, i_z0, i_z1, i_z2, i_z3, i_z4, i_z5, i_z6, i_z7, i_z8, i_z9, i_z10, i_z11, i_z12, i_z13, i_z14, i_z15, i_z16, i_z17, i_z18, i_z19, i_z20, i_z21, i_z22, i_z23, i_z24, i_z30, i_z32, i_z40, i_z41, i_z50, i_z58, i_z59, i_z60, i_z63, i_z99, i_z100, i_z240, i_z255, i_z999] at z0 z1; omega)
    refine lv_iconst (v := 0) hx hb dX12_isWalker_16 (by decide) ?_
    exact W.zret (v := 0) hx hb hr rfl (fun t ht hW => ⟨⟨0, (), rfl, rfl, trivial⟩, hS.F ht⟩) hS.2.2 dX12_isWalker_17
def vs_f_X12_isWalk : List Cond := .code yX12_isWalk cX12_isWalk 2 (some .boolean) :: ([.fieldLink RX12 275 "WallChapelsModel" "walks" "I"] ++ (u_ws RX12 TX12 54))
theorem vs_f_X12_isWalk_uX12 : ∀ w ∈ u_ws RX12 TX12 54, w ∈ vs_f_X12_isWalk := fun _ h => List.mem_cons_of_mem _ (List.mem_append_right _ (h))
set_option maxHeartbeats 4000000 in
set_option maxRecDepth 100000 in
theorem f_X12_isWalk (l : Launch) (dC : Nat → ClassId) (dI : Nat → Nat → Nat) (sz : Nat) (r : Nat → Nat) (p0 : Int32) : Met l yX12_isWalk vs_f_X12_isWalk ({ frames := 0, cells := 0, slots := 0, locals := 0 }) (va_Pc [.ref (r 100), .int p0] (cW dC dI [((r 100), .inr (12, mF r 0 0 0 0 0 0 0 0 0 0 0 0 0 (-1) 1))] [] sz)) (va_Qi (fun (r : Int32) (_ : Unit) => r = 0) (fun (_ : Unit) (t : State) => True) (va_A [((r 100), .inr (12, mF r 0 0 0 0 0 0 0 0 0 0 0 0 0 (-1) 1))] sz)) 0 0 (va_A [((r 100), .inr (12, mF r 0 0 0 0 0 0 0 0 0 0 0 0 0 (-1) 1))] sz) := by
  refine Met.ofW (cc := cX12_isWalk) (maxL := 2) (ret := (some .boolean)) (by decide) rfl ?_
  intro p e s m args below meth c s₁ B hml hv
  obtain ⟨rfl, hsz, hP, hK, hD0, hG⟩ := hv
  have hx := B.exec
  have hb := B.bytes
  have hr := B.returns
  have hts := atoms_spec (ws := vs_f_X12_isWalk) B.pre
  have hown : s.vm.findClass RX12 = some m.cls := findClass_of_methodNamed B.named
  have hlocks := B.notSynchronized
  have hiX12 : ∀ w ∈ u_ws RX12 TX12 54, w ∈ vs_f_X12_isWalk := vs_f_X12_isWalk_uX12
  subst hsz
  have hD := hD0.self (sz := s.heap.size)
  generalize hAe : va_A [((r 100), .inr (12, mF r 0 0 0 0 0 0 0 0 0 0 0 0 0 (-1) 1))] s.heap.size = A at hD ⊢
  have hA : ∀ q : Nat, s.heap.size ≤ q → A q := fun q h => by rw [← hAe]; exact Or.inr h
  have hS : va_S A s.heap s.heap [] := va_S.rf
  have hP : va_P (dC, dI) vwCl [((r 100), .inr (12, mF r 0 0 0 0 0 0 0 0 0 0 0 0 0 (-1) 1))] s.heap := hP
  have hl := lv_entry ([.ref (r 100), .int p0]) (n := 2) (Nat.le_of_ble_eq_true rfl)
  rw [lg_entry_eq]
  generalize (lg_sl ([.ref (r 100), .int p0]) ++ List.replicate (2 - (lg_sl ([.ref (r 100), .int p0])).length) Slot.unset).toArray = ls at hl ⊢
  have hl : lv_has ls 2 [(0, .ref (r 100)), (1, .int p0)] := hl
  refine lv_iload_n hx hb dX12_isWalk_0 rfl (lv_at hl 1 rfl) ?_
  refine lv_if_lt (tgt := 16) hx hb dX12_isWalk_1 (by decide) (fun c_1 => ?_) (fun c_1 => ?_)
  · refine lv_iconst (v := 0) hx hb dX12_isWalk_16 (by decide) ?_
    exact W.zret (v := 0) hx hb hr rfl (fun t ht hW => ⟨⟨0, (), rfl, rfl, trivial⟩, hS.F ht⟩) hS.2.2 dX12_isWalk_17
  · refine lv_iload_n hx hb dX12_isWalk_4 rfl (lv_at hl 1 rfl) ?_
    refine lv_aload_n hx hb dX12_isWalk_5 rfl (lv_at hl 0 rfl) ?_
    refine va_get (D := (dC, dI)) (ci := 12) (v := .int 0) (C := RX12) (T := TX12) (N := 54) hx hb hts hiX12 hown hK hP 0 rfl rfl 30 (by decide) (hts (.fieldLink RX12 275 "WallChapelsModel" "walks" "I") (by decide +kernel)) (fun _ h9 => h9) rfl dX12_isWalk_6 ?_
    refine lv_icmp_ge (tgt := 16) hx hb dX12_isWalk_9 (by decide) (fun c_2 => ?_) (fun c_2 => by have z0 := c_1; have z1 := c_2; simp only [i_lt, i_le, i_eq, i_zm1000000, i_zm30, i_zm20, i_zm2, i_zm1, i_z0, i_z1, i_z2, i_z3, i_z4, i_z5, i_z6, i_z7, i_z8, i_z9, i_z10, i_z11, i_z12, i_z13, i_z14, i_z15, i_z16, i_z17, i_z18, i_z19, i_z20, i_z21, i_z22, i_z23, i_z24, i_z30, i_z32, i_z40, i_z41, i_z50, i_z58, i_z59, i_z60, i_z63, i_z99, i_z100, i_z240, i_z255, i_z999] at z0 z1; omega)
    refine lv_iconst (v := 0) hx hb dX12_isWalk_16 (by decide) ?_
    exact W.zret (v := 0) hx hb hr rfl (fun t ht hW => ⟨⟨0, (), rfl, rfl, trivial⟩, hS.F ht⟩) hS.2.2 dX12_isWalk_17
def vs_f_X12_isGame : List Cond := .code yX12_isGame cX12_isGame 3 (some .boolean) :: ([.initialized RX12, .instanceMethod yX12_isWalker, .selects RX12 yX12_isWalker yX12_isWalker, .fieldLink RX12 286 "WallChapelsModel" "walkers" "I", .code yX12_isWalker cX12_isWalker 2 (some .boolean), .methodLink RX12 362 yX12_isWalker] ++ (u_ws RX12 TX12 54))
theorem vs_f_X12_isGame_uX12 : ∀ w ∈ u_ws RX12 TX12 54, w ∈ vs_f_X12_isGame := fun _ h => List.mem_cons_of_mem _ (List.mem_append_right _ (h))
set_option maxRecDepth 20000 in
theorem g_f_X12_isGame_f_X12_isWalker : GoodIn vs_f_X12_isGame (wsV RX12 362 RX12 yX12_isWalker vs_f_X12_isWalker) := goodIn_r _ [6, 2, 3, 1, 5, 4, 7, 8, 9, 10, 11, 12, 13, 14, 15, 16, 17, 18, 19, 20, 21, 22, 23, 24, 25, 26, 27, 28, 29, 30, 31, 32, 33, 34, 35, 36, 37, 38, 39, 40, 41, 42, 43, 44, 45, 46, 47, 48, 49, 50, 51, 52, 53, 54, 55, 56, 57, 58, 59, 60] (by decide +kernel) (by decide +kernel)
set_option maxHeartbeats 4000000 in
set_option maxRecDepth 100000 in
theorem f_X12_isGame (l : Launch) (dC : Nat → ClassId) (dI : Nat → Nat → Nat) (sz : Nat) (r : Nat → Nat) (p0 : Int32) (p1 : Int32) : Met l yX12_isGame vs_f_X12_isGame ({ frames := 1, cells := 0, slots := 0, locals := 21 }) (va_Pc [.ref (r 100), .int p0, .int p1] (cW dC dI [((r 100), .inr (12, mF r 0 0 0 0 0 0 0 0 0 0 0 0 0 (-1) 1))] [] sz)) (va_Qi (fun (r : Int32) (_ : Unit) => r = 0) (fun (_ : Unit) (t : State) => True) (va_A [((r 100), .inr (12, mF r 0 0 0 0 0 0 0 0 0 0 0 0 0 (-1) 1))] sz)) 0 0 (va_A [((r 100), .inr (12, mF r 0 0 0 0 0 0 0 0 0 0 0 0 0 (-1) 1))] sz) := by
  refine Met.ofW (cc := cX12_isGame) (maxL := 3) (ret := (some .boolean)) (by decide) rfl ?_
  intro p e s m args below meth c s₁ B hml hv
  obtain ⟨rfl, hsz, hP, hK, hD0, hG⟩ := hv
  have hx := B.exec
  have hb := B.bytes
  have hr := B.returns
  have hts := atoms_spec (ws := vs_f_X12_isGame) B.pre
  have hown : s.vm.findClass RX12 = some m.cls := findClass_of_methodNamed B.named
  have hlocks := B.notSynchronized
  have hiX12 : ∀ w ∈ u_ws RX12 TX12 54, w ∈ vs_f_X12_isGame := vs_f_X12_isGame_uX12
  subst hsz
  have hD := hD0.self (sz := s.heap.size)
  generalize hAe : va_A [((r 100), .inr (12, mF r 0 0 0 0 0 0 0 0 0 0 0 0 0 (-1) 1))] s.heap.size = A at hD ⊢
  have hA : ∀ q : Nat, s.heap.size ≤ q → A q := fun q h => by rw [← hAe]; exact Or.inr h
  have hS : va_S A s.heap s.heap [] := va_S.rf
  have hP : va_P (dC, dI) vwCl [((r 100), .inr (12, mF r 0 0 0 0 0 0 0 0 0 0 0 0 0 (-1) 1))] s.heap := hP
  have hl := lv_entry ([.ref (r 100), .int p0, .int p1]) (n := 3) (Nat.le_of_ble_eq_true rfl)
  rw [lg_entry_eq]
  generalize (lg_sl ([.ref (r 100), .int p0, .int p1]) ++ List.replicate (3 - (lg_sl ([.ref (r 100), .int p0, .int p1])).length) Slot.unset).toArray = ls at hl ⊢
  have hl : lv_has ls 3 [(0, .ref (r 100)), (1, .int p0), (2, .int p1)] := hl
  refine lv_aload_n hx hb dX12_isGame_0 rfl (lv_at hl 0 rfl) ?_
  refine lv_iload_n hx hb dX12_isGame_1 rfl (lv_at hl 1 rfl) ?_
  have hPc := hP.sub (ws' := [((r 100), .inr (12, mF r 0 0 0 0 0 0 0 0 0 0 0 0 0 (-1) 1))]) [0] rfl
  have hDc := hD.sub (ws' := [((r 100), .inr (12, mF r 0 0 0 0 0 0 0 0 0 0 0 0 0 (-1) 1))]) [0] (by decide) rfl
  have hKc := hK.sub (tys' := []) [] rfl
  have hFc := va_free (wc := [((r 100), .inr (12, mF r 0 0 0 0 0 0 0 0 0 0 0 0 0 (-1) 1))]) hD hS hA [0] rfl
  refine va_calli (va_runV (As := [.int p0]) (rest := []) ⟨hx, hb, hml, hown, hts⟩ (f_X12_isWalker l dC dI s.heap.size r p0) (cwV 1 hts g_f_X12_isGame_f_X12_isWalker rfl rfl rfl (by decide +kernel) ⟨Nat.le_of_ble_eq_true rfl, Nat.le_of_ble_eq_true rfl⟩) ⟨cW_blind, va_recv hKc hPc (ci := 12) (q0 := 0) rfl rfl, fun U hU hW => ⟨rfl, cW_use hU hW hPc hKc hDc hG⟩⟩ rfl rfl hl.1 rfl (lv_room (Nat.le_of_ble_eq_true rfl)) dX12_isGame_2 ⟨Nat.le_of_ble_eq_true rfl, Nat.le_of_ble_eq_true rfl⟩) hS (fun q _ h => hFc q h) hFc (fun r_1 u t H1 locs ht hvm hw hB hz1 hk1 hS => ?_)
  obtain ⟨hP, hD⟩ := va_join (wr := []) (w1 := []) hP hD [0] [] rfl rfl (by decide) (by decide) hk1 hFc (va_P_nil H1) va_D_nil
  generalize H1 = H at hP hS ⊢
  have hP : va_P (dC, dI) vwCl [] H := hP
  have hD : va_D A [] := hD
  refine W.widen (k := 0) (n := 0) (Nat.le_of_ble_eq_true rfl) (Nat.le_of_ble_eq_true rfl) ?_
  obtain rfl : r_1 = 0 := hw
  refine lv_if_eq (tgt := 25) hx hb dX12_isGame_5 (by decide) (fun c_2 => ?_) (fun c_2 => absurd (by decide) c_2)
  refine lv_iconst (v := 0) hx hb dX12_isGame_25 (by decide) ?_
  exact W.zret (v := 0) hx hb hr rfl (fun t ht hW => ⟨⟨0, (), rfl, rfl, trivial⟩, hS.F ht⟩) hS.2.2 dX12_isGame_26
def vs_f_X12_corner : List Cond := .code yX12_corner cX12_corner 3 (some .int) :: ([.fieldLink RX12 90 "WallChapelsModel" "thrown" "I", .initialized RX12, .instanceMethod yX12_isCorner, .selects RX12 yX12_isCorner yX12_isCorner, .fieldLink RX12 280 "WallChapelsModel" "corners" "I", .code yX12_isCorner cX12_isCorner 2 (some .boolean), .methodLink RX12 354 yX12_isCorner] ++ (u_ws RX12 TX12 54))
theorem vs_f_X12_corner_uX12 : ∀ w ∈ u_ws RX12 TX12 54, w ∈ vs_f_X12_corner := fun _ h => List.mem_cons_of_mem _ (List.mem_append_right _ (h))
set_option maxRecDepth 20000 in
theorem g_f_X12_corner_f_X12_isCorner : GoodIn vs_f_X12_corner (wsV RX12 354 RX12 yX12_isCorner vs_f_X12_isCorner) := goodIn_r _ [7, 3, 4, 2, 6, 5, 8, 9, 10, 11, 12, 13, 14, 15, 16, 17, 18, 19, 20, 21, 22, 23, 24, 25, 26, 27, 28, 29, 30, 31, 32, 33, 34, 35, 36, 37, 38, 39, 40, 41, 42, 43, 44, 45, 46, 47, 48, 49, 50, 51, 52, 53, 54, 55, 56, 57, 58, 59, 60, 61] (by decide +kernel) (by decide +kernel)
set_option maxHeartbeats 4000000 in
set_option maxRecDepth 100000 in
theorem f_X12_corner (l : Launch) (dC : Nat → ClassId) (dI : Nat → Nat → Nat) (sz : Nat) (r : Nat → Nat) (p0 : Int32) (p1 : Int32) : Met l yX12_corner vs_f_X12_corner ({ frames := 1, cells := 0, slots := 0, locals := 21 }) (va_Pc [.ref (r 100), .int p0, .int p1] (cW dC dI [((r 100), .inr (12, mF r 0 0 0 0 0 0 0 0 0 0 0 0 0 (-1) 1))] [] sz)) (va_Qi (fun (r : Int32) (_ : Unit) => r = (-1)) (fun (_ : Unit) (t : State) => True) (va_A [((r 100), .inr (12, mF r 0 0 0 0 0 0 0 0 0 0 0 0 0 (-1) 1))] sz)) 0 0 (va_A [((r 100), .inr (12, mF r 0 0 0 0 0 0 0 0 0 0 0 0 0 (-1) 1))] sz) := by
  refine Met.ofW (cc := cX12_corner) (maxL := 3) (ret := (some .int)) (by decide) rfl ?_
  intro p e s m args below meth c s₁ B hml hv
  obtain ⟨rfl, hsz, hP, hK, hD0, hG⟩ := hv
  have hx := B.exec
  have hb := B.bytes
  have hr := B.returns
  have hts := atoms_spec (ws := vs_f_X12_corner) B.pre
  have hown : s.vm.findClass RX12 = some m.cls := findClass_of_methodNamed B.named
  have hlocks := B.notSynchronized
  have hiX12 : ∀ w ∈ u_ws RX12 TX12 54, w ∈ vs_f_X12_corner := vs_f_X12_corner_uX12
  subst hsz
  have hD := hD0.self (sz := s.heap.size)
  generalize hAe : va_A [((r 100), .inr (12, mF r 0 0 0 0 0 0 0 0 0 0 0 0 0 (-1) 1))] s.heap.size = A at hD ⊢
  have hA : ∀ q : Nat, s.heap.size ≤ q → A q := fun q h => by rw [← hAe]; exact Or.inr h
  have hS : va_S A s.heap s.heap [] := va_S.rf
  have hP : va_P (dC, dI) vwCl [((r 100), .inr (12, mF r 0 0 0 0 0 0 0 0 0 0 0 0 0 (-1) 1))] s.heap := hP
  have hl := lv_entry ([.ref (r 100), .int p0, .int p1]) (n := 3) (Nat.le_of_ble_eq_true rfl)
  rw [lg_entry_eq]
  generalize (lg_sl ([.ref (r 100), .int p0, .int p1]) ++ List.replicate (3 - (lg_sl ([.ref (r 100), .int p0, .int p1])).length) Slot.unset).toArray = ls at hl ⊢
  have hl : lv_has ls 3 [(0, .ref (r 100)), (1, .int p0), (2, .int p1)] := hl
  refine lv_aload_n hx hb dX12_corner_0 rfl (lv_at hl 0 rfl) ?_
  refine lv_iconst (v := 0) hx hb dX12_corner_1 (by decide) ?_
  refine va_put (D := (dC, dI)) (ci := 12) (v := .int 0) (ty := .int) (C := RX12) (T := TX12) (N := 54) hx hb hts hiX12 tyX12 tyX12_ok nmX12 hown hK hP hD hS 0 rfl rfl 0 (by decide) (hts (.fieldLink RX12 90 "WallChapelsModel" "thrown" "I") (by decide +kernel)) (fun _ h9 => h9) rfl (by decide +kernel) rfl rfl (Nat.le_of_ble_eq_true rfl) dX12_corner_2 (fun H locs hP hD hS => ?_)
  have hP : va_P (dC, dI) vwCl [((r 100), .inr (12, mF r 0 0 0 0 0 0 0 0 0 0 0 0 0 (-1) 1))] H := hP
  have hD : va_D A [((r 100), .inr (12, mF r 0 0 0 0 0 0 0 0 0 0 0 0 0 (-1) 1))] := hD
  refine lv_aload_n hx hb dX12_corner_5 rfl (lv_at hl 0 rfl) ?_
  refine lv_iload_n hx hb dX12_corner_6 rfl (lv_at hl 1 rfl) ?_
  have hPc := hP.sub (ws' := [((r 100), .inr (12, mF r 0 0 0 0 0 0 0 0 0 0 0 0 0 (-1) 1))]) [0] rfl
  have hDc := hD.sub (ws' := [((r 100), .inr (12, mF r 0 0 0 0 0 0 0 0 0 0 0 0 0 (-1) 1))]) [0] (by decide) rfl
  have hKc := hK.sub (tys' := []) [] rfl
  have hFc := va_free (wc := [((r 100), .inr (12, mF r 0 0 0 0 0 0 0 0 0 0 0 0 0 (-1) 1))]) hD hS hA [0] rfl
  refine va_calli (va_runV (As := [.int p0]) (rest := []) ⟨hx, hb, hml, hown, hts⟩ (f_X12_isCorner l dC dI H.size r p0) (cwV 1 hts g_f_X12_corner_f_X12_isCorner rfl rfl rfl (by decide +kernel) ⟨Nat.le_of_ble_eq_true rfl, Nat.le_of_ble_eq_true rfl⟩) ⟨cW_blind, va_recv hKc hPc (ci := 12) (q0 := 0) rfl rfl, fun U hU hW => ⟨rfl, cW_use hU hW hPc hKc hDc hG⟩⟩ rfl rfl hl.1 rfl (lv_room (Nat.le_of_ble_eq_true rfl)) dX12_corner_7 ⟨Nat.le_of_ble_eq_true rfl, Nat.le_of_ble_eq_true rfl⟩) hS (fun q _ h => hFc q h) hFc (fun r_1 u t H1 locs ht hvm hw hB hz1 hk1 hS => ?_)
  obtain ⟨hP, hD⟩ := va_join (wr := []) (w1 := []) hP hD [0] [] rfl rfl (by decide) (by decide) hk1 hFc (va_P_nil H1) va_D_nil
  generalize H1 = H at hP hS ⊢
  have hP : va_P (dC, dI) vwCl [] H := hP
  have hD : va_D A [] := hD
  refine W.widen (k := 0) (n := 0) (Nat.le_of_ble_eq_true rfl) (Nat.le_of_ble_eq_true rfl) ?_
  obtain rfl : r_1 = 0 := hw
  refine lv_if_eq (tgt := 25) hx hb dX12_corner_10 (by decide) (fun c_2 => ?_) (fun c_2 => absurd (by decide) c_2)
  refine lv_iconst (v := (-1)) hx hb dX12_corner_25 (by decide) ?_
  exact W.iret (v := (-1)) hx hb hr (fun t ht hW => ⟨⟨(-1), (), rfl, rfl, trivial⟩, hS.F ht⟩) hS.2.2 dX12_corner_26
def vs_f_X12_street : List Cond := .code yX12_street cX12_street 3 (some .int) :: ([.fieldLink RX12 90 "WallChapelsModel" "thrown" "I", .initialized RX12, .instanceMethod yX12_isStreet, .selects RX12 yX12_isStreet yX12_isStreet, .fieldLink RX12 283 "WallChapelsModel" "streets" "I", .code yX12_isStreet cX12_isStreet 2 (some .boolean), .methodLink RX12 357 yX12_isStreet] ++ (u_ws RX12 TX12 54))
theorem vs_f_X12_street_uX12 : ∀ w ∈ u_ws RX12 TX12 54, w ∈ vs_f_X12_street := fun _ h => List.mem_cons_of_mem _ (List.mem_append_right _ (h))
set_option maxRecDepth 20000 in
theorem g_f_X12_street_f_X12_isStreet : GoodIn vs_f_X12_street (wsV RX12 357 RX12 yX12_isStreet vs_f_X12_isStreet) := goodIn_r _ [7, 3, 4, 2, 6, 5, 8, 9, 10, 11, 12, 13, 14, 15, 16, 17, 18, 19, 20, 21, 22, 23, 24, 25, 26, 27, 28, 29, 30, 31, 32, 33, 34, 35, 36, 37, 38, 39, 40, 41, 42, 43, 44, 45, 46, 47, 48, 49, 50, 51, 52, 53, 54, 55, 56, 57, 58, 59, 60, 61] (by decide +kernel) (by decide +kernel)
set_option maxHeartbeats 4000000 in
set_option maxRecDepth 100000 in
theorem f_X12_street (l : Launch) (dC : Nat → ClassId) (dI : Nat → Nat → Nat) (sz : Nat) (r : Nat → Nat) (p0 : Int32) (p1 : Int32) : Met l yX12_street vs_f_X12_street ({ frames := 1, cells := 0, slots := 0, locals := 21 }) (va_Pc [.ref (r 100), .int p0, .int p1] (cW dC dI [((r 100), .inr (12, mF r 0 0 0 0 0 0 0 0 0 0 0 0 0 (-1) 1))] [] sz)) (va_Qi (fun (r : Int32) (_ : Unit) => r = (-1)) (fun (_ : Unit) (t : State) => True) (va_A [((r 100), .inr (12, mF r 0 0 0 0 0 0 0 0 0 0 0 0 0 (-1) 1))] sz)) 0 0 (va_A [((r 100), .inr (12, mF r 0 0 0 0 0 0 0 0 0 0 0 0 0 (-1) 1))] sz) := by
  refine Met.ofW (cc := cX12_street) (maxL := 3) (ret := (some .int)) (by decide) rfl ?_
  intro p e s m args below meth c s₁ B hml hv
  obtain ⟨rfl, hsz, hP, hK, hD0, hG⟩ := hv
  have hx := B.exec
  have hb := B.bytes
  have hr := B.returns
  have hts := atoms_spec (ws := vs_f_X12_street) B.pre
  have hown : s.vm.findClass RX12 = some m.cls := findClass_of_methodNamed B.named
  have hlocks := B.notSynchronized
  have hiX12 : ∀ w ∈ u_ws RX12 TX12 54, w ∈ vs_f_X12_street := vs_f_X12_street_uX12
  subst hsz
  have hD := hD0.self (sz := s.heap.size)
  generalize hAe : va_A [((r 100), .inr (12, mF r 0 0 0 0 0 0 0 0 0 0 0 0 0 (-1) 1))] s.heap.size = A at hD ⊢
  have hA : ∀ q : Nat, s.heap.size ≤ q → A q := fun q h => by rw [← hAe]; exact Or.inr h
  have hS : va_S A s.heap s.heap [] := va_S.rf
  have hP : va_P (dC, dI) vwCl [((r 100), .inr (12, mF r 0 0 0 0 0 0 0 0 0 0 0 0 0 (-1) 1))] s.heap := hP
  have hl := lv_entry ([.ref (r 100), .int p0, .int p1]) (n := 3) (Nat.le_of_ble_eq_true rfl)
  rw [lg_entry_eq]
  generalize (lg_sl ([.ref (r 100), .int p0, .int p1]) ++ List.replicate (3 - (lg_sl ([.ref (r 100), .int p0, .int p1])).length) Slot.unset).toArray = ls at hl ⊢
  have hl : lv_has ls 3 [(0, .ref (r 100)), (1, .int p0), (2, .int p1)] := hl
  refine lv_aload_n hx hb dX12_street_0 rfl (lv_at hl 0 rfl) ?_
  refine lv_iconst (v := 0) hx hb dX12_street_1 (by decide) ?_
  refine va_put (D := (dC, dI)) (ci := 12) (v := .int 0) (ty := .int) (C := RX12) (T := TX12) (N := 54) hx hb hts hiX12 tyX12 tyX12_ok nmX12 hown hK hP hD hS 0 rfl rfl 0 (by decide) (hts (.fieldLink RX12 90 "WallChapelsModel" "thrown" "I") (by decide +kernel)) (fun _ h9 => h9) rfl (by decide +kernel) rfl rfl (Nat.le_of_ble_eq_true rfl) dX12_street_2 (fun H locs hP hD hS => ?_)
  have hP : va_P (dC, dI) vwCl [((r 100), .inr (12, mF r 0 0 0 0 0 0 0 0 0 0 0 0 0 (-1) 1))] H := hP
  have hD : va_D A [((r 100), .inr (12, mF r 0 0 0 0 0 0 0 0 0 0 0 0 0 (-1) 1))] := hD
  refine lv_aload_n hx hb dX12_street_5 rfl (lv_at hl 0 rfl) ?_
  refine lv_iload_n hx hb dX12_street_6 rfl (lv_at hl 1 rfl) ?_
  have hPc := hP.sub (ws' := [((r 100), .inr (12, mF r 0 0 0 0 0 0 0 0 0 0 0 0 0 (-1) 1))]) [0] rfl
  have hDc := hD.sub (ws' := [((r 100), .inr (12, mF r 0 0 0 0 0 0 0 0 0 0 0 0 0 (-1) 1))]) [0] (by decide) rfl
  have hKc := hK.sub (tys' := []) [] rfl
  have hFc := va_free (wc := [((r 100), .inr (12, mF r 0 0 0 0 0 0 0 0 0 0 0 0 0 (-1) 1))]) hD hS hA [0] rfl
  refine va_calli (va_runV (As := [.int p0]) (rest := []) ⟨hx, hb, hml, hown, hts⟩ (f_X12_isStreet l dC dI H.size r p0) (cwV 1 hts g_f_X12_street_f_X12_isStreet rfl rfl rfl (by decide +kernel) ⟨Nat.le_of_ble_eq_true rfl, Nat.le_of_ble_eq_true rfl⟩) ⟨cW_blind, va_recv hKc hPc (ci := 12) (q0 := 0) rfl rfl, fun U hU hW => ⟨rfl, cW_use hU hW hPc hKc hDc hG⟩⟩ rfl rfl hl.1 rfl (lv_room (Nat.le_of_ble_eq_true rfl)) dX12_street_7 ⟨Nat.le_of_ble_eq_true rfl, Nat.le_of_ble_eq_true rfl⟩) hS (fun q _ h => hFc q h) hFc (fun r_1 u t H1 locs ht hvm hw hB hz1 hk1 hS => ?_)
  obtain ⟨hP, hD⟩ := va_join (wr := []) (w1 := []) hP hD [0] [] rfl rfl (by decide) (by decide) hk1 hFc (va_P_nil H1) va_D_nil
  generalize H1 = H at hP hS ⊢
  have hP : va_P (dC, dI) vwCl [] H := hP
  have hD : va_D A [] := hD
  refine W.widen (k := 0) (n := 0) (Nat.le_of_ble_eq_true rfl) (Nat.le_of_ble_eq_true rfl) ?_
  obtain rfl : r_1 = 0 := hw
  refine lv_if_eq (tgt := 25) hx hb dX12_street_10 (by decide) (fun c_2 => ?_) (fun c_2 => absurd (by decide) c_2)
  refine lv_iconst (v := (-1)) hx hb dX12_street_25 (by decide) ?_
  exact W.iret (v := (-1)) hx hb hr (fun t ht hW => ⟨⟨(-1), (), rfl, rfl, trivial⟩, hS.F ht⟩) hS.2.2 dX12_street_26
def vs_f_X12_day : List Cond := .code yX12_day cX12_day 1 (some .int) :: ([.fieldLink RX12 90 "WallChapelsModel" "thrown" "I", .fieldLink RX12 283 "WallChapelsModel" "streets" "I"] ++ (u_ws RX12 TX12 54))
theorem vs_f_X12_day_uX12 : ∀ w ∈ u_ws RX12 TX12 54, w ∈ vs_f_X12_day := fun _ h => List.mem_cons_of_mem _ (List.mem_append_right _ (h))
set_option maxHeartbeats 4000000 in
set_option maxRecDepth 100000 in
theorem f_X12_day (l : Launch) (dC : Nat → ClassId) (dI : Nat → Nat → Nat) (sz : Nat) (r : Nat → Nat) : Met l yX12_day vs_f_X12_day ({ frames := 0, cells := 0, slots := 0, locals := 0 }) (va_Pc [.ref (r 100)] (cW dC dI [((r 100), .inr (12, mF r 0 0 0 0 0 0 0 0 0 0 0 0 0 (-1) 1))] [] sz)) (va_Qi (fun (r : Int32) (_ : Unit) => r = (-1)) (fun (_ : Unit) (t : State) => True) (va_A [((r 100), .inr (12, mF r 0 0 0 0 0 0 0 0 0 0 0 0 0 (-1) 1))] sz)) 0 0 (va_A [((r 100), .inr (12, mF r 0 0 0 0 0 0 0 0 0 0 0 0 0 (-1) 1))] sz) := by
  refine Met.ofW (cc := cX12_day) (maxL := 1) (ret := (some .int)) (by decide) rfl ?_
  intro p e s m args below meth c s₁ B hml hv
  obtain ⟨rfl, hsz, hP, hK, hD0, hG⟩ := hv
  have hx := B.exec
  have hb := B.bytes
  have hr := B.returns
  have hts := atoms_spec (ws := vs_f_X12_day) B.pre
  have hown : s.vm.findClass RX12 = some m.cls := findClass_of_methodNamed B.named
  have hlocks := B.notSynchronized
  have hiX12 : ∀ w ∈ u_ws RX12 TX12 54, w ∈ vs_f_X12_day := vs_f_X12_day_uX12
  subst hsz
  have hD := hD0.self (sz := s.heap.size)
  generalize hAe : va_A [((r 100), .inr (12, mF r 0 0 0 0 0 0 0 0 0 0 0 0 0 (-1) 1))] s.heap.size = A at hD ⊢
  have hA : ∀ q : Nat, s.heap.size ≤ q → A q := fun q h => by rw [← hAe]; exact Or.inr h
  have hS : va_S A s.heap s.heap [] := va_S.rf
  have hP : va_P (dC, dI) vwCl [((r 100), .inr (12, mF r 0 0 0 0 0 0 0 0 0 0 0 0 0 (-1) 1))] s.heap := hP
  have hl := lv_entry ([.ref (r 100)]) (n := 1) (Nat.le_of_ble_eq_true rfl)
  rw [lg_entry_eq]
  generalize (lg_sl ([.ref (r 100)]) ++ List.replicate (1 - (lg_sl ([.ref (r 100)])).length) Slot.unset).toArray = ls at hl ⊢
  have hl : lv_has ls 1 [(0, .ref (r 100))] := hl
  refine lv_aload_n hx hb dX12_day_0 rfl (lv_at hl 0 rfl) ?_
  refine lv_iconst (v := 0) hx hb dX12_day_1 (by decide) ?_
  refine va_put (D := (dC, dI)) (ci := 12) (v := .int 0) (ty := .int) (C := RX12) (T := TX12) (N := 54) hx hb hts hiX12 tyX12 tyX12_ok nmX12 hown hK hP hD hS 0 rfl rfl 0 (by decide) (hts (.fieldLink RX12 90 "WallChapelsModel" "thrown" "I") (by decide +kernel)) (fun _ h9 => h9) rfl (by decide +kernel) rfl rfl (Nat.le_of_ble_eq_true rfl) dX12_day_2 (fun H locs hP hD hS => ?_)
  have hP : va_P (dC, dI) vwCl [((r 100), .inr (12, mF r 0 0 0 0 0 0 0 0 0 0 0 0 0 (-1) 1))] H := hP
  have hD : va_D A [((r 100), .inr (12, mF r 0 0 0 0 0 0 0 0 0 0 0 0 0 (-1) 1))] := hD
  refine lv_aload_n hx hb dX12_day_5 rfl (lv_at hl 0 rfl) ?_
  refine va_get (D := (dC, dI)) (ci := 12) (v := .int 0) (C := RX12) (T := TX12) (N := 54) hx hb hts hiX12 hown hK hP 0 rfl rfl 26 (by decide) (hts (.fieldLink RX12 283 "WallChapelsModel" "streets" "I") (by decide +kernel)) (fun _ h9 => h9) rfl dX12_day_6 ?_
  refine lv_if_eq (tgt := 25) hx hb dX12_day_9 (by decide) (fun c_1 => ?_) (fun c_1 => absurd (by decide) c_1)
  refine lv_iconst (v := (-1)) hx hb dX12_day_25 (by decide) ?_
  exact W.iret (v := (-1)) hx hb hr (fun t ht hW => ⟨⟨(-1), (), rfl, rfl, trivial⟩, hS.F ht⟩) hS.2.2 dX12_day_26
def vs_f_X12_wall : List Cond := .code yX12_wall cX12_wall 2 (some .int) :: ([.fieldLink RX12 90 "WallChapelsModel" "thrown" "I", .initialized RX12, .instanceMethod yX12_isStreet, .selects RX12 yX12_isStreet yX12_isStreet, .fieldLink RX12 283 "WallChapelsModel" "streets" "I", .code yX12_isStreet cX12_isStreet 2 (some .boolean), .methodLink RX12 357 yX12_isStreet] ++ (u_ws RX12 TX12 54))
theorem vs_f_X12_wall_uX12 : ∀ w ∈ u_ws RX12 TX12 54, w ∈ vs_f_X12_wall := fun _ h => List.mem_cons_of_mem _ (List.mem_append_right _ (h))
set_option maxRecDepth 20000 in
theorem g_f_X12_wall_f_X12_isStreet : GoodIn vs_f_X12_wall (wsV RX12 357 RX12 yX12_isStreet vs_f_X12_isStreet) := goodIn_r _ [7, 3, 4, 2, 6, 5, 8, 9, 10, 11, 12, 13, 14, 15, 16, 17, 18, 19, 20, 21, 22, 23, 24, 25, 26, 27, 28, 29, 30, 31, 32, 33, 34, 35, 36, 37, 38, 39, 40, 41, 42, 43, 44, 45, 46, 47, 48, 49, 50, 51, 52, 53, 54, 55, 56, 57, 58, 59, 60, 61] (by decide +kernel) (by decide +kernel)
set_option maxHeartbeats 4000000 in
set_option maxRecDepth 100000 in
theorem f_X12_wall (l : Launch) (dC : Nat → ClassId) (dI : Nat → Nat → Nat) (sz : Nat) (r : Nat → Nat) (p0 : Int32) : Met l yX12_wall vs_f_X12_wall ({ frames := 1, cells := 0, slots := 0, locals := 21 }) (va_Pc [.ref (r 100), .int p0] (cW dC dI [((r 100), .inr (12, mF r 0 0 0 0 0 0 0 0 0 0 0 0 0 (-1) 1))] [] sz)) (va_Qi (fun (r : Int32) (_ : Unit) => r = (-1)) (fun (_ : Unit) (t : State) => True) (va_A [((r 100), .inr (12, mF r 0 0 0 0 0 0 0 0 0 0 0 0 0 (-1) 1))] sz)) 0 0 (va_A [((r 100), .inr (12, mF r 0 0 0 0 0 0 0 0 0 0 0 0 0 (-1) 1))] sz) := by
  refine Met.ofW (cc := cX12_wall) (maxL := 2) (ret := (some .int)) (by decide) rfl ?_
  intro p e s m args below meth c s₁ B hml hv
  obtain ⟨rfl, hsz, hP, hK, hD0, hG⟩ := hv
  have hx := B.exec
  have hb := B.bytes
  have hr := B.returns
  have hts := atoms_spec (ws := vs_f_X12_wall) B.pre
  have hown : s.vm.findClass RX12 = some m.cls := findClass_of_methodNamed B.named
  have hlocks := B.notSynchronized
  have hiX12 : ∀ w ∈ u_ws RX12 TX12 54, w ∈ vs_f_X12_wall := vs_f_X12_wall_uX12
  subst hsz
  have hD := hD0.self (sz := s.heap.size)
  generalize hAe : va_A [((r 100), .inr (12, mF r 0 0 0 0 0 0 0 0 0 0 0 0 0 (-1) 1))] s.heap.size = A at hD ⊢
  have hA : ∀ q : Nat, s.heap.size ≤ q → A q := fun q h => by rw [← hAe]; exact Or.inr h
  have hS : va_S A s.heap s.heap [] := va_S.rf
  have hP : va_P (dC, dI) vwCl [((r 100), .inr (12, mF r 0 0 0 0 0 0 0 0 0 0 0 0 0 (-1) 1))] s.heap := hP
  have hl := lv_entry ([.ref (r 100), .int p0]) (n := 2) (Nat.le_of_ble_eq_true rfl)
  rw [lg_entry_eq]
  generalize (lg_sl ([.ref (r 100), .int p0]) ++ List.replicate (2 - (lg_sl ([.ref (r 100), .int p0])).length) Slot.unset).toArray = ls at hl ⊢
  have hl : lv_has ls 2 [(0, .ref (r 100)), (1, .int p0)] := hl
  refine lv_aload_n hx hb dX12_wall_0 rfl (lv_at hl 0 rfl) ?_
  refine lv_iconst (v := 0) hx hb dX12_wall_1 (by decide) ?_
  refine va_put (D := (dC, dI)) (ci := 12) (v := .int 0) (ty := .int) (C := RX12) (T := TX12) (N := 54) hx hb hts hiX12 tyX12 tyX12_ok nmX12 hown hK hP hD hS 0 rfl rfl 0 (by decide) (hts (.fieldLink RX12 90 "WallChapelsModel" "thrown" "I") (by decide +kernel)) (fun _ h9 => h9) rfl (by decide +kernel) rfl rfl (Nat.le_of_ble_eq_true rfl) dX12_wall_2 (fun H locs hP hD hS => ?_)
  have hP : va_P (dC, dI) vwCl [((r 100), .inr (12, mF r 0 0 0 0 0 0 0 0 0 0 0 0 0 (-1) 1))] H := hP
  have hD : va_D A [((r 100), .inr (12, mF r 0 0 0 0 0 0 0 0 0 0 0 0 0 (-1) 1))] := hD
  refine lv_aload_n hx hb dX12_wall_5 rfl (lv_at hl 0 rfl) ?_
  refine lv_iload_n hx hb dX12_wall_6 rfl (lv_at hl 1 rfl) ?_
  have hPc := hP.sub (ws' := [((r 100), .inr (12, mF r 0 0 0 0 0 0 0 0 0 0 0 0 0 (-1) 1))]) [0] rfl
  have hDc := hD.sub (ws' := [((r 100), .inr (12, mF r 0 0 0 0 0 0 0 0 0 0 0 0 0 (-1) 1))]) [0] (by decide) rfl
  have hKc := hK.sub (tys' := []) [] rfl
  have hFc := va_free (wc := [((r 100), .inr (12, mF r 0 0 0 0 0 0 0 0 0 0 0 0 0 (-1) 1))]) hD hS hA [0] rfl
  refine va_calli (va_runV (As := [.int p0]) (rest := []) ⟨hx, hb, hml, hown, hts⟩ (f_X12_isStreet l dC dI H.size r p0) (cwV 1 hts g_f_X12_wall_f_X12_isStreet rfl rfl rfl (by decide +kernel) ⟨Nat.le_of_ble_eq_true rfl, Nat.le_of_ble_eq_true rfl⟩) ⟨cW_blind, va_recv hKc hPc (ci := 12) (q0 := 0) rfl rfl, fun U hU hW => ⟨rfl, cW_use hU hW hPc hKc hDc hG⟩⟩ rfl rfl hl.1 rfl (lv_room (Nat.le_of_ble_eq_true rfl)) dX12_wall_7 ⟨Nat.le_of_ble_eq_true rfl, Nat.le_of_ble_eq_true rfl⟩) hS (fun q _ h => hFc q h) hFc (fun r_1 u t H1 locs ht hvm hw hB hz1 hk1 hS => ?_)
  obtain ⟨hP, hD⟩ := va_join (wr := []) (w1 := []) hP hD [0] [] rfl rfl (by decide) (by decide) hk1 hFc (va_P_nil H1) va_D_nil
  generalize H1 = H at hP hS ⊢
  have hP : va_P (dC, dI) vwCl [] H := hP
  have hD : va_D A [] := hD
  refine W.widen (k := 0) (n := 0) (Nat.le_of_ble_eq_true rfl) (Nat.le_of_ble_eq_true rfl) ?_
  obtain rfl : r_1 = 0 := hw
  refine lv_if_eq (tgt := 21) hx hb dX12_wall_10 (by decide) (fun c_2 => ?_) (fun c_2 => absurd (by decide) c_2)
  refine lv_iconst (v := (-1)) hx hb dX12_wall_21 (by decide) ?_
  exact W.iret (v := (-1)) hx hb hr (fun t ht hW => ⟨⟨(-1), (), rfl, rfl, trivial⟩, hS.F ht⟩) hS.2.2 dX12_wall_22
def vs_f_X12_lamp : List Cond := .code yX12_lamp cX12_lamp 2 (some .int) :: ([.fieldLink RX12 90 "WallChapelsModel" "thrown" "I", .initialized RX12, .instanceMethod yX12_isCorner, .selects RX12 yX12_isCorner yX12_isCorner, .fieldLink RX12 280 "WallChapelsModel" "corners" "I", .code yX12_isCorner cX12_isCorner 2 (some .boolean), .methodLink RX12 354 yX12_isCorner] ++ (u_ws RX12 TX12 54))
theorem vs_f_X12_lamp_uX12 : ∀ w ∈ u_ws RX12 TX12 54, w ∈ vs_f_X12_lamp := fun _ h => List.mem_cons_of_mem _ (List.mem_append_right _ (h))
set_option maxRecDepth 20000 in
theorem g_f_X12_lamp_f_X12_isCorner : GoodIn vs_f_X12_lamp (wsV RX12 354 RX12 yX12_isCorner vs_f_X12_isCorner) := goodIn_r _ [7, 3, 4, 2, 6, 5, 8, 9, 10, 11, 12, 13, 14, 15, 16, 17, 18, 19, 20, 21, 22, 23, 24, 25, 26, 27, 28, 29, 30, 31, 32, 33, 34, 35, 36, 37, 38, 39, 40, 41, 42, 43, 44, 45, 46, 47, 48, 49, 50, 51, 52, 53, 54, 55, 56, 57, 58, 59, 60, 61] (by decide +kernel) (by decide +kernel)
set_option maxHeartbeats 4000000 in
set_option maxRecDepth 100000 in
theorem f_X12_lamp (l : Launch) (dC : Nat → ClassId) (dI : Nat → Nat → Nat) (sz : Nat) (r : Nat → Nat) (p0 : Int32) : Met l yX12_lamp vs_f_X12_lamp ({ frames := 1, cells := 0, slots := 0, locals := 21 }) (va_Pc [.ref (r 100), .int p0] (cW dC dI [((r 100), .inr (12, mF r 0 0 0 0 0 0 0 0 0 0 0 0 0 (-1) 1))] [] sz)) (va_Qi (fun (r : Int32) (_ : Unit) => r = (-1)) (fun (_ : Unit) (t : State) => True) (va_A [((r 100), .inr (12, mF r 0 0 0 0 0 0 0 0 0 0 0 0 0 (-1) 1))] sz)) 0 0 (va_A [((r 100), .inr (12, mF r 0 0 0 0 0 0 0 0 0 0 0 0 0 (-1) 1))] sz) := by
  refine Met.ofW (cc := cX12_lamp) (maxL := 2) (ret := (some .int)) (by decide) rfl ?_
  intro p e s m args below meth c s₁ B hml hv
  obtain ⟨rfl, hsz, hP, hK, hD0, hG⟩ := hv
  have hx := B.exec
  have hb := B.bytes
  have hr := B.returns
  have hts := atoms_spec (ws := vs_f_X12_lamp) B.pre
  have hown : s.vm.findClass RX12 = some m.cls := findClass_of_methodNamed B.named
  have hlocks := B.notSynchronized
  have hiX12 : ∀ w ∈ u_ws RX12 TX12 54, w ∈ vs_f_X12_lamp := vs_f_X12_lamp_uX12
  subst hsz
  have hD := hD0.self (sz := s.heap.size)
  generalize hAe : va_A [((r 100), .inr (12, mF r 0 0 0 0 0 0 0 0 0 0 0 0 0 (-1) 1))] s.heap.size = A at hD ⊢
  have hA : ∀ q : Nat, s.heap.size ≤ q → A q := fun q h => by rw [← hAe]; exact Or.inr h
  have hS : va_S A s.heap s.heap [] := va_S.rf
  have hP : va_P (dC, dI) vwCl [((r 100), .inr (12, mF r 0 0 0 0 0 0 0 0 0 0 0 0 0 (-1) 1))] s.heap := hP
  have hl := lv_entry ([.ref (r 100), .int p0]) (n := 2) (Nat.le_of_ble_eq_true rfl)
  rw [lg_entry_eq]
  generalize (lg_sl ([.ref (r 100), .int p0]) ++ List.replicate (2 - (lg_sl ([.ref (r 100), .int p0])).length) Slot.unset).toArray = ls at hl ⊢
  have hl : lv_has ls 2 [(0, .ref (r 100)), (1, .int p0)] := hl
  refine lv_aload_n hx hb dX12_lamp_0 rfl (lv_at hl 0 rfl) ?_
  refine lv_iconst (v := 0) hx hb dX12_lamp_1 (by decide) ?_
  refine va_put (D := (dC, dI)) (ci := 12) (v := .int 0) (ty := .int) (C := RX12) (T := TX12) (N := 54) hx hb hts hiX12 tyX12 tyX12_ok nmX12 hown hK hP hD hS 0 rfl rfl 0 (by decide) (hts (.fieldLink RX12 90 "WallChapelsModel" "thrown" "I") (by decide +kernel)) (fun _ h9 => h9) rfl (by decide +kernel) rfl rfl (Nat.le_of_ble_eq_true rfl) dX12_lamp_2 (fun H locs hP hD hS => ?_)
  have hP : va_P (dC, dI) vwCl [((r 100), .inr (12, mF r 0 0 0 0 0 0 0 0 0 0 0 0 0 (-1) 1))] H := hP
  have hD : va_D A [((r 100), .inr (12, mF r 0 0 0 0 0 0 0 0 0 0 0 0 0 (-1) 1))] := hD
  refine lv_aload_n hx hb dX12_lamp_5 rfl (lv_at hl 0 rfl) ?_
  refine lv_iload_n hx hb dX12_lamp_6 rfl (lv_at hl 1 rfl) ?_
  have hPc := hP.sub (ws' := [((r 100), .inr (12, mF r 0 0 0 0 0 0 0 0 0 0 0 0 0 (-1) 1))]) [0] rfl
  have hDc := hD.sub (ws' := [((r 100), .inr (12, mF r 0 0 0 0 0 0 0 0 0 0 0 0 0 (-1) 1))]) [0] (by decide) rfl
  have hKc := hK.sub (tys' := []) [] rfl
  have hFc := va_free (wc := [((r 100), .inr (12, mF r 0 0 0 0 0 0 0 0 0 0 0 0 0 (-1) 1))]) hD hS hA [0] rfl
  refine va_calli (va_runV (As := [.int p0]) (rest := []) ⟨hx, hb, hml, hown, hts⟩ (f_X12_isCorner l dC dI H.size r p0) (cwV 1 hts g_f_X12_lamp_f_X12_isCorner rfl rfl rfl (by decide +kernel) ⟨Nat.le_of_ble_eq_true rfl, Nat.le_of_ble_eq_true rfl⟩) ⟨cW_blind, va_recv hKc hPc (ci := 12) (q0 := 0) rfl rfl, fun U hU hW => ⟨rfl, cW_use hU hW hPc hKc hDc hG⟩⟩ rfl rfl hl.1 rfl (lv_room (Nat.le_of_ble_eq_true rfl)) dX12_lamp_7 ⟨Nat.le_of_ble_eq_true rfl, Nat.le_of_ble_eq_true rfl⟩) hS (fun q _ h => hFc q h) hFc (fun r_1 u t H1 locs ht hvm hw hB hz1 hk1 hS => ?_)
  obtain ⟨hP, hD⟩ := va_join (wr := []) (w1 := []) hP hD [0] [] rfl rfl (by decide) (by decide) hk1 hFc (va_P_nil H1) va_D_nil
  generalize H1 = H at hP hS ⊢
  have hP : va_P (dC, dI) vwCl [] H := hP
  have hD : va_D A [] := hD
  refine W.widen (k := 0) (n := 0) (Nat.le_of_ble_eq_true rfl) (Nat.le_of_ble_eq_true rfl) ?_
  obtain rfl : r_1 = 0 := hw
  refine lv_if_eq (tgt := 35) hx hb dX12_lamp_10 (by decide) (fun c_2 => ?_) (fun c_2 => absurd (by decide) c_2)
  refine lv_iconst (v := (-1)) hx hb dX12_lamp_35 (by decide) ?_
  exact W.iret (v := (-1)) hx hb hr (fun t ht hW => ⟨⟨(-1), (), rfl, rfl, trivial⟩, hS.F ht⟩) hS.2.2 dX12_lamp_36
def vs_f_X12_moves : List Cond := .code yX12_moves cX12_moves 4 (some .int) :: ([.fieldLink RX12 90 "WallChapelsModel" "thrown" "I", .initialized RX12, .instanceMethod yX12_isWalker, .selects RX12 yX12_isWalker yX12_isWalker, .fieldLink RX12 286 "WallChapelsModel" "walkers" "I", .code yX12_isWalker cX12_isWalker 2 (some .boolean), .methodLink RX12 362 yX12_isWalker] ++ (u_ws RX12 TX12 54))
theorem vs_f_X12_moves_uX12 : ∀ w ∈ u_ws RX12 TX12 54, w ∈ vs_f_X12_moves := fun _ h => List.mem_cons_of_mem _ (List.mem_append_right _ (h))
set_option maxRecDepth 20000 in
theorem g_f_X12_moves_f_X12_isWalker : GoodIn vs_f_X12_moves (wsV RX12 362 RX12 yX12_isWalker vs_f_X12_isWalker) := goodIn_r _ [7, 3, 4, 2, 6, 5, 8, 9, 10, 11, 12, 13, 14, 15, 16, 17, 18, 19, 20, 21, 22, 23, 24, 25, 26, 27, 28, 29, 30, 31, 32, 33, 34, 35, 36, 37, 38, 39, 40, 41, 42, 43, 44, 45, 46, 47, 48, 49, 50, 51, 52, 53, 54, 55, 56, 57, 58, 59, 60, 61] (by decide +kernel) (by decide +kernel)
set_option maxHeartbeats 4000000 in
set_option maxRecDepth 100000 in
theorem f_X12_moves (l : Launch) (dC : Nat → ClassId) (dI : Nat → Nat → Nat) (sz : Nat) (r : Nat → Nat) (p0 : Int32) (p1 : Int32) : Met l yX12_moves vs_f_X12_moves ({ frames := 1, cells := 0, slots := 0, locals := 21 }) (va_Pc [.ref (r 100), .int p0, .int p1] (cW dC dI [((r 100), .inr (12, mF r 0 0 0 0 0 0 0 0 0 0 0 0 0 (-1) 1))] [] sz)) (va_Qi (fun (r : Int32) (_ : Unit) => r = (-1)) (fun (_ : Unit) (t : State) => True) (va_A [((r 100), .inr (12, mF r 0 0 0 0 0 0 0 0 0 0 0 0 0 (-1) 1))] sz)) 0 0 (va_A [((r 100), .inr (12, mF r 0 0 0 0 0 0 0 0 0 0 0 0 0 (-1) 1))] sz) := by
  refine Met.ofW (cc := cX12_moves) (maxL := 4) (ret := (some .int)) (by decide) rfl ?_
  intro p e s m args below meth c s₁ B hml hv
  obtain ⟨rfl, hsz, hP, hK, hD0, hG⟩ := hv
  have hx := B.exec
  have hb := B.bytes
  have hr := B.returns
  have hts := atoms_spec (ws := vs_f_X12_moves) B.pre
  have hown : s.vm.findClass RX12 = some m.cls := findClass_of_methodNamed B.named
  have hlocks := B.notSynchronized
  have hiX12 : ∀ w ∈ u_ws RX12 TX12 54, w ∈ vs_f_X12_moves := vs_f_X12_moves_uX12
  subst hsz
  have hD := hD0.self (sz := s.heap.size)
  generalize hAe : va_A [((r 100), .inr (12, mF r 0 0 0 0 0 0 0 0 0 0 0 0 0 (-1) 1))] s.heap.size = A at hD ⊢
  have hA : ∀ q : Nat, s.heap.size ≤ q → A q := fun q h => by rw [← hAe]; exact Or.inr h
  have hS : va_S A s.heap s.heap [] := va_S.rf
  have hP : va_P (dC, dI) vwCl [((r 100), .inr (12, mF r 0 0 0 0 0 0 0 0 0 0 0 0 0 (-1) 1))] s.heap := hP
  have hl := lv_entry ([.ref (r 100), .int p0, .int p1]) (n := 4) (Nat.le_of_ble_eq_true rfl)
  rw [lg_entry_eq]
  generalize (lg_sl ([.ref (r 100), .int p0, .int p1]) ++ List.replicate (4 - (lg_sl ([.ref (r 100), .int p0, .int p1])).length) Slot.unset).toArray = ls at hl ⊢
  have hl : lv_has ls 4 [(0, .ref (r 100)), (1, .int p0), (2, .int p1)] := hl
  refine lv_aload_n hx hb dX12_moves_0 rfl (lv_at hl 0 rfl) ?_
  refine lv_iconst (v := 0) hx hb dX12_moves_1 (by decide) ?_
  refine va_put (D := (dC, dI)) (ci := 12) (v := .int 0) (ty := .int) (C := RX12) (T := TX12) (N := 54) hx hb hts hiX12 tyX12 tyX12_ok nmX12 hown hK hP hD hS 0 rfl rfl 0 (by decide) (hts (.fieldLink RX12 90 "WallChapelsModel" "thrown" "I") (by decide +kernel)) (fun _ h9 => h9) rfl (by decide +kernel) rfl rfl (Nat.le_of_ble_eq_true rfl) dX12_moves_2 (fun H locs hP hD hS => ?_)
  have hP : va_P (dC, dI) vwCl [((r 100), .inr (12, mF r 0 0 0 0 0 0 0 0 0 0 0 0 0 (-1) 1))] H := hP
  have hD : va_D A [((r 100), .inr (12, mF r 0 0 0 0 0 0 0 0 0 0 0 0 0 (-1) 1))] := hD
  refine lv_aload_n hx hb dX12_moves_5 rfl (lv_at hl 0 rfl) ?_
  refine lv_iload_n hx hb dX12_moves_6 rfl (lv_at hl 1 rfl) ?_
  have hPc := hP.sub (ws' := [((r 100), .inr (12, mF r 0 0 0 0 0 0 0 0 0 0 0 0 0 (-1) 1))]) [0] rfl
  have hDc := hD.sub (ws' := [((r 100), .inr (12, mF r 0 0 0 0 0 0 0 0 0 0 0 0 0 (-1) 1))]) [0] (by decide) rfl
  have hKc := hK.sub (tys' := []) [] rfl
  have hFc := va_free (wc := [((r 100), .inr (12, mF r 0 0 0 0 0 0 0 0 0 0 0 0 0 (-1) 1))]) hD hS hA [0] rfl
  refine va_calli (va_runV (As := [.int p0]) (rest := []) ⟨hx, hb, hml, hown, hts⟩ (f_X12_isWalker l dC dI H.size r p0) (cwV 1 hts g_f_X12_moves_f_X12_isWalker rfl rfl rfl (by decide +kernel) ⟨Nat.le_of_ble_eq_true rfl, Nat.le_of_ble_eq_true rfl⟩) ⟨cW_blind, va_recv hKc hPc (ci := 12) (q0 := 0) rfl rfl, fun U hU hW => ⟨rfl, cW_use hU hW hPc hKc hDc hG⟩⟩ rfl rfl hl.1 rfl (lv_room (Nat.le_of_ble_eq_true rfl)) dX12_moves_7 ⟨Nat.le_of_ble_eq_true rfl, Nat.le_of_ble_eq_true rfl⟩) hS (fun q _ h => hFc q h) hFc (fun r_1 u t H1 locs ht hvm hw hB hz1 hk1 hS => ?_)
  obtain ⟨hP, hD⟩ := va_join (wr := []) (w1 := []) hP hD [0] [] rfl rfl (by decide) (by decide) hk1 hFc (va_P_nil H1) va_D_nil
  generalize H1 = H at hP hS ⊢
  have hP : va_P (dC, dI) vwCl [] H := hP
  have hD : va_D A [] := hD
  refine W.widen (k := 0) (n := 0) (Nat.le_of_ble_eq_true rfl) (Nat.le_of_ble_eq_true rfl) ?_
  obtain rfl : r_1 = 0 := hw
  refine lv_if_eq (tgt := 46) hx hb dX12_moves_10 (by decide) (fun c_2 => ?_) (fun c_2 => absurd (by decide) c_2)
  refine lv_iconst (v := (-1)) hx hb dX12_moves_46 (by decide) ?_
  exact W.iret (v := (-1)) hx hb hr (fun t ht hW => ⟨⟨(-1), (), rfl, rfl, trivial⟩, hS.F ht⟩) hS.2.2 dX12_moves_47
def vs_f_X12_preach : List Cond := .code yX12_preach cX12_preach 2 (some .int) :: ([.fieldLink RX12 90 "WallChapelsModel" "thrown" "I", .initialized RX12, .instanceMethod yX12_isWalker, .selects RX12 yX12_isWalker yX12_isWalker, .fieldLink RX12 286 "WallChapelsModel" "walkers" "I", .code yX12_isWalker cX12_isWalker 2 (some .boolean), .methodLink RX12 362 yX12_isWalker] ++ (u_ws RX12 TX12 54))
theorem vs_f_X12_preach_uX12 : ∀ w ∈ u_ws RX12 TX12 54, w ∈ vs_f_X12_preach := fun _ h => List.mem_cons_of_mem _ (List.mem_append_right _ (h))
set_option maxRecDepth 20000 in
theorem g_f_X12_preach_f_X12_isWalker : GoodIn vs_f_X12_preach (wsV RX12 362 RX12 yX12_isWalker vs_f_X12_isWalker) := goodIn_r _ [7, 3, 4, 2, 6, 5, 8, 9, 10, 11, 12, 13, 14, 15, 16, 17, 18, 19, 20, 21, 22, 23, 24, 25, 26, 27, 28, 29, 30, 31, 32, 33, 34, 35, 36, 37, 38, 39, 40, 41, 42, 43, 44, 45, 46, 47, 48, 49, 50, 51, 52, 53, 54, 55, 56, 57, 58, 59, 60, 61] (by decide +kernel) (by decide +kernel)
set_option maxHeartbeats 4000000 in
set_option maxRecDepth 100000 in
theorem f_X12_preach (l : Launch) (dC : Nat → ClassId) (dI : Nat → Nat → Nat) (sz : Nat) (r : Nat → Nat) (p0 : Int32) : Met l yX12_preach vs_f_X12_preach ({ frames := 1, cells := 0, slots := 0, locals := 21 }) (va_Pc [.ref (r 100), .int p0] (cW dC dI [((r 100), .inr (12, mF r 0 0 0 0 0 0 0 0 0 0 0 0 0 (-1) 1))] [] sz)) (va_Qi (fun (r : Int32) (_ : Unit) => r = (-1)) (fun (_ : Unit) (t : State) => True) (va_A [((r 100), .inr (12, mF r 0 0 0 0 0 0 0 0 0 0 0 0 0 (-1) 1))] sz)) 0 0 (va_A [((r 100), .inr (12, mF r 0 0 0 0 0 0 0 0 0 0 0 0 0 (-1) 1))] sz) := by
  refine Met.ofW (cc := cX12_preach) (maxL := 2) (ret := (some .int)) (by decide) rfl ?_
  intro p e s m args below meth c s₁ B hml hv
  obtain ⟨rfl, hsz, hP, hK, hD0, hG⟩ := hv
  have hx := B.exec
  have hb := B.bytes
  have hr := B.returns
  have hts := atoms_spec (ws := vs_f_X12_preach) B.pre
  have hown : s.vm.findClass RX12 = some m.cls := findClass_of_methodNamed B.named
  have hlocks := B.notSynchronized
  have hiX12 : ∀ w ∈ u_ws RX12 TX12 54, w ∈ vs_f_X12_preach := vs_f_X12_preach_uX12
  subst hsz
  have hD := hD0.self (sz := s.heap.size)
  generalize hAe : va_A [((r 100), .inr (12, mF r 0 0 0 0 0 0 0 0 0 0 0 0 0 (-1) 1))] s.heap.size = A at hD ⊢
  have hA : ∀ q : Nat, s.heap.size ≤ q → A q := fun q h => by rw [← hAe]; exact Or.inr h
  have hS : va_S A s.heap s.heap [] := va_S.rf
  have hP : va_P (dC, dI) vwCl [((r 100), .inr (12, mF r 0 0 0 0 0 0 0 0 0 0 0 0 0 (-1) 1))] s.heap := hP
  have hl := lv_entry ([.ref (r 100), .int p0]) (n := 2) (Nat.le_of_ble_eq_true rfl)
  rw [lg_entry_eq]
  generalize (lg_sl ([.ref (r 100), .int p0]) ++ List.replicate (2 - (lg_sl ([.ref (r 100), .int p0])).length) Slot.unset).toArray = ls at hl ⊢
  have hl : lv_has ls 2 [(0, .ref (r 100)), (1, .int p0)] := hl
  refine lv_aload_n hx hb dX12_preach_0 rfl (lv_at hl 0 rfl) ?_
  refine lv_iconst (v := 0) hx hb dX12_preach_1 (by decide) ?_
  refine va_put (D := (dC, dI)) (ci := 12) (v := .int 0) (ty := .int) (C := RX12) (T := TX12) (N := 54) hx hb hts hiX12 tyX12 tyX12_ok nmX12 hown hK hP hD hS 0 rfl rfl 0 (by decide) (hts (.fieldLink RX12 90 "WallChapelsModel" "thrown" "I") (by decide +kernel)) (fun _ h9 => h9) rfl (by decide +kernel) rfl rfl (Nat.le_of_ble_eq_true rfl) dX12_preach_2 (fun H locs hP hD hS => ?_)
  have hP : va_P (dC, dI) vwCl [((r 100), .inr (12, mF r 0 0 0 0 0 0 0 0 0 0 0 0 0 (-1) 1))] H := hP
  have hD : va_D A [((r 100), .inr (12, mF r 0 0 0 0 0 0 0 0 0 0 0 0 0 (-1) 1))] := hD
  refine lv_aload_n hx hb dX12_preach_5 rfl (lv_at hl 0 rfl) ?_
  refine lv_iload_n hx hb dX12_preach_6 rfl (lv_at hl 1 rfl) ?_
  have hPc := hP.sub (ws' := [((r 100), .inr (12, mF r 0 0 0 0 0 0 0 0 0 0 0 0 0 (-1) 1))]) [0] rfl
  have hDc := hD.sub (ws' := [((r 100), .inr (12, mF r 0 0 0 0 0 0 0 0 0 0 0 0 0 (-1) 1))]) [0] (by decide) rfl
  have hKc := hK.sub (tys' := []) [] rfl
  have hFc := va_free (wc := [((r 100), .inr (12, mF r 0 0 0 0 0 0 0 0 0 0 0 0 0 (-1) 1))]) hD hS hA [0] rfl
  refine va_calli (va_runV (As := [.int p0]) (rest := []) ⟨hx, hb, hml, hown, hts⟩ (f_X12_isWalker l dC dI H.size r p0) (cwV 1 hts g_f_X12_preach_f_X12_isWalker rfl rfl rfl (by decide +kernel) ⟨Nat.le_of_ble_eq_true rfl, Nat.le_of_ble_eq_true rfl⟩) ⟨cW_blind, va_recv hKc hPc (ci := 12) (q0 := 0) rfl rfl, fun U hU hW => ⟨rfl, cW_use hU hW hPc hKc hDc hG⟩⟩ rfl rfl hl.1 rfl (lv_room (Nat.le_of_ble_eq_true rfl)) dX12_preach_7 ⟨Nat.le_of_ble_eq_true rfl, Nat.le_of_ble_eq_true rfl⟩) hS (fun q _ h => hFc q h) hFc (fun r_1 u t H1 locs ht hvm hw hB hz1 hk1 hS => ?_)
  obtain ⟨hP, hD⟩ := va_join (wr := []) (w1 := []) hP hD [0] [] rfl rfl (by decide) (by decide) hk1 hFc (va_P_nil H1) va_D_nil
  generalize H1 = H at hP hS ⊢
  have hP : va_P (dC, dI) vwCl [] H := hP
  have hD : va_D A [] := hD
  refine W.widen (k := 0) (n := 0) (Nat.le_of_ble_eq_true rfl) (Nat.le_of_ble_eq_true rfl) ?_
  obtain rfl : r_1 = 0 := hw
  refine lv_if_eq (tgt := 39) hx hb dX12_preach_10 (by decide) (fun c_2 => ?_) (fun c_2 => absurd (by decide) c_2)
  refine lv_iconst (v := (-1)) hx hb dX12_preach_39 (by decide) ?_
  exact W.iret (v := (-1)) hx hb hr (fun t ht hW => ⟨⟨(-1), (), rfl, rfl, trivial⟩, hS.F ht⟩) hS.2.2 dX12_preach_40
def vs_f_X12_give : List Cond := .code yX12_give cX12_give 2 (some .int) :: ([.fieldLink RX12 90 "WallChapelsModel" "thrown" "I", .fieldLink RX12 283 "WallChapelsModel" "streets" "I"] ++ (u_ws RX12 TX12 54))
theorem vs_f_X12_give_uX12 : ∀ w ∈ u_ws RX12 TX12 54, w ∈ vs_f_X12_give := fun _ h => List.mem_cons_of_mem _ (List.mem_append_right _ (h))
set_option maxHeartbeats 4000000 in
set_option maxRecDepth 100000 in
theorem f_X12_give (l : Launch) (dC : Nat → ClassId) (dI : Nat → Nat → Nat) (sz : Nat) (r : Nat → Nat) (p0 : Int32) : Met l yX12_give vs_f_X12_give ({ frames := 0, cells := 0, slots := 0, locals := 0 }) (va_Pc [.ref (r 100), .int p0] (cW dC dI [((r 100), .inr (12, mF r 0 0 0 0 0 0 0 0 0 0 0 0 0 (-1) 1))] [] sz)) (va_Qi (fun (r : Int32) (_ : Unit) => r = (-1)) (fun (_ : Unit) (t : State) => True) (va_A [((r 100), .inr (12, mF r 0 0 0 0 0 0 0 0 0 0 0 0 0 (-1) 1))] sz)) 0 0 (va_A [((r 100), .inr (12, mF r 0 0 0 0 0 0 0 0 0 0 0 0 0 (-1) 1))] sz) := by
  refine Met.ofW (cc := cX12_give) (maxL := 2) (ret := (some .int)) (by decide) rfl ?_
  intro p e s m args below meth c s₁ B hml hv
  obtain ⟨rfl, hsz, hP, hK, hD0, hG⟩ := hv
  have hx := B.exec
  have hb := B.bytes
  have hr := B.returns
  have hts := atoms_spec (ws := vs_f_X12_give) B.pre
  have hown : s.vm.findClass RX12 = some m.cls := findClass_of_methodNamed B.named
  have hlocks := B.notSynchronized
  have hiX12 : ∀ w ∈ u_ws RX12 TX12 54, w ∈ vs_f_X12_give := vs_f_X12_give_uX12
  subst hsz
  have hD := hD0.self (sz := s.heap.size)
  generalize hAe : va_A [((r 100), .inr (12, mF r 0 0 0 0 0 0 0 0 0 0 0 0 0 (-1) 1))] s.heap.size = A at hD ⊢
  have hA : ∀ q : Nat, s.heap.size ≤ q → A q := fun q h => by rw [← hAe]; exact Or.inr h
  have hS : va_S A s.heap s.heap [] := va_S.rf
  have hP : va_P (dC, dI) vwCl [((r 100), .inr (12, mF r 0 0 0 0 0 0 0 0 0 0 0 0 0 (-1) 1))] s.heap := hP
  have hl := lv_entry ([.ref (r 100), .int p0]) (n := 2) (Nat.le_of_ble_eq_true rfl)
  rw [lg_entry_eq]
  generalize (lg_sl ([.ref (r 100), .int p0]) ++ List.replicate (2 - (lg_sl ([.ref (r 100), .int p0])).length) Slot.unset).toArray = ls at hl ⊢
  have hl : lv_has ls 2 [(0, .ref (r 100)), (1, .int p0)] := hl
  refine lv_aload_n hx hb dX12_give_0 rfl (lv_at hl 0 rfl) ?_
  refine lv_iconst (v := 0) hx hb dX12_give_1 (by decide) ?_
  refine va_put (D := (dC, dI)) (ci := 12) (v := .int 0) (ty := .int) (C := RX12) (T := TX12) (N := 54) hx hb hts hiX12 tyX12 tyX12_ok nmX12 hown hK hP hD hS 0 rfl rfl 0 (by decide) (hts (.fieldLink RX12 90 "WallChapelsModel" "thrown" "I") (by decide +kernel)) (fun _ h9 => h9) rfl (by decide +kernel) rfl rfl (Nat.le_of_ble_eq_true rfl) dX12_give_2 (fun H locs hP hD hS => ?_)
  have hP : va_P (dC, dI) vwCl [((r 100), .inr (12, mF r 0 0 0 0 0 0 0 0 0 0 0 0 0 (-1) 1))] H := hP
  have hD : va_D A [((r 100), .inr (12, mF r 0 0 0 0 0 0 0 0 0 0 0 0 0 (-1) 1))] := hD
  refine lv_aload_n hx hb dX12_give_5 rfl (lv_at hl 0 rfl) ?_
  refine va_get (D := (dC, dI)) (ci := 12) (v := .int 0) (C := RX12) (T := TX12) (N := 54) hx hb hts hiX12 hown hK hP 0 rfl rfl 26 (by decide) (hts (.fieldLink RX12 283 "WallChapelsModel" "streets" "I") (by decide +kernel)) (fun _ h9 => h9) rfl dX12_give_6 ?_
  refine lv_if_eq (tgt := 39) hx hb dX12_give_9 (by decide) (fun c_1 => ?_) (fun c_1 => absurd (by decide) c_1)
  refine lv_iconst (v := (-1)) hx hb dX12_give_39 (by decide) ?_
  exact W.iret (v := (-1)) hx hb hr (fun t ht hW => ⟨⟨(-1), (), rfl, rfl, trivial⟩, hS.F ht⟩) hS.2.2 dX12_give_40
def vs_f_X12_years : List Cond := .code yX12_years cX12_years 6 (some .int) :: ([.fieldLink RX12 90 "WallChapelsModel" "thrown" "I", .fieldLink RX12 283 "WallChapelsModel" "streets" "I"] ++ (u_ws RX12 TX12 54))
theorem vs_f_X12_years_uX12 : ∀ w ∈ u_ws RX12 TX12 54, w ∈ vs_f_X12_years := fun _ h => List.mem_cons_of_mem _ (List.mem_append_right _ (h))
set_option maxHeartbeats 4000000 in
set_option maxRecDepth 100000 in
theorem f_X12_years (l : Launch) (dC : Nat → ClassId) (dI : Nat → Nat → Nat) (sz : Nat) (r : Nat → Nat) (p0 : Int32) (p1 : Int64) : Met l yX12_years vs_f_X12_years ({ frames := 0, cells := 0, slots := 0, locals := 0 }) (va_Pc [.ref (r 100), .int p0, .long p1] (cW dC dI [((r 100), .inr (12, mF r 0 0 0 0 0 0 0 0 0 0 0 0 0 (-1) 1))] [] sz)) (va_Qi (fun (r : Int32) (_ : Unit) => r = (-1)) (fun (_ : Unit) (t : State) => True) (va_A [((r 100), .inr (12, mF r 0 0 0 0 0 0 0 0 0 0 0 0 0 (-1) 1))] sz)) 0 0 (va_A [((r 100), .inr (12, mF r 0 0 0 0 0 0 0 0 0 0 0 0 0 (-1) 1))] sz) := by
  refine Met.ofW (cc := cX12_years) (maxL := 6) (ret := (some .int)) (by decide) rfl ?_
  intro p e s m args below meth c s₁ B hml hv
  obtain ⟨rfl, hsz, hP, hK, hD0, hG⟩ := hv
  have hx := B.exec
  have hb := B.bytes
  have hr := B.returns
  have hts := atoms_spec (ws := vs_f_X12_years) B.pre
  have hown : s.vm.findClass RX12 = some m.cls := findClass_of_methodNamed B.named
  have hlocks := B.notSynchronized
  have hiX12 : ∀ w ∈ u_ws RX12 TX12 54, w ∈ vs_f_X12_years := vs_f_X12_years_uX12
  subst hsz
  have hD := hD0.self (sz := s.heap.size)
  generalize hAe : va_A [((r 100), .inr (12, mF r 0 0 0 0 0 0 0 0 0 0 0 0 0 (-1) 1))] s.heap.size = A at hD ⊢
  have hA : ∀ q : Nat, s.heap.size ≤ q → A q := fun q h => by rw [← hAe]; exact Or.inr h
  have hS : va_S A s.heap s.heap [] := va_S.rf
  have hP : va_P (dC, dI) vwCl [((r 100), .inr (12, mF r 0 0 0 0 0 0 0 0 0 0 0 0 0 (-1) 1))] s.heap := hP
  have hl := lv_entry ([.ref (r 100), .int p0, .long p1]) (n := 6) (Nat.le_of_ble_eq_true rfl)
  rw [lg_entry_eq]
  generalize (lg_sl ([.ref (r 100), .int p0, .long p1]) ++ List.replicate (6 - (lg_sl ([.ref (r 100), .int p0, .long p1])).length) Slot.unset).toArray = ls at hl ⊢
  have hl : lv_has ls 6 [(0, .ref (r 100)), (1, .int p0), (2, .long p1)] := hl
  refine lv_aload_n hx hb dX12_years_0 rfl (lv_at hl 0 rfl) ?_
  refine lv_iconst (v := 0) hx hb dX12_years_1 (by decide) ?_
  refine va_put (D := (dC, dI)) (ci := 12) (v := .int 0) (ty := .int) (C := RX12) (T := TX12) (N := 54) hx hb hts hiX12 tyX12 tyX12_ok nmX12 hown hK hP hD hS 0 rfl rfl 0 (by decide) (hts (.fieldLink RX12 90 "WallChapelsModel" "thrown" "I") (by decide +kernel)) (fun _ h9 => h9) rfl (by decide +kernel) rfl rfl (Nat.le_of_ble_eq_true rfl) dX12_years_2 (fun H locs hP hD hS => ?_)
  have hP : va_P (dC, dI) vwCl [((r 100), .inr (12, mF r 0 0 0 0 0 0 0 0 0 0 0 0 0 (-1) 1))] H := hP
  have hD : va_D A [((r 100), .inr (12, mF r 0 0 0 0 0 0 0 0 0 0 0 0 0 (-1) 1))] := hD
  refine lv_aload_n hx hb dX12_years_5 rfl (lv_at hl 0 rfl) ?_
  refine va_get (D := (dC, dI)) (ci := 12) (v := .int 0) (C := RX12) (T := TX12) (N := 54) hx hb hts hiX12 hown hK hP 0 rfl rfl 26 (by decide) (hts (.fieldLink RX12 283 "WallChapelsModel" "streets" "I") (by decide +kernel)) (fun _ h9 => h9) rfl dX12_years_6 ?_
  refine lv_if_eq (tgt := 39) hx hb dX12_years_9 (by decide) (fun c_1 => ?_) (fun c_1 => absurd (by decide) c_1)
  refine lv_iconst (v := (-1)) hx hb dX12_years_39 (by decide) ?_
  exact W.iret (v := (-1)) hx hb hr (fun t ht hW => ⟨⟨(-1), (), rfl, rfl, trivial⟩, hS.F ht⟩) hS.2.2 dX12_years_40
def vs_f_X12_undo : List Cond := .code yX12_undo cX12_undo 2 (some .int) :: ([.fieldLink RX12 90 "WallChapelsModel" "thrown" "I", .fieldLink RX12 292 "WallChapelsModel" "acts" "I"] ++ (u_ws RX12 TX12 54))
theorem vs_f_X12_undo_uX12 : ∀ w ∈ u_ws RX12 TX12 54, w ∈ vs_f_X12_undo := fun _ h => List.mem_cons_of_mem _ (List.mem_append_right _ (h))
set_option maxHeartbeats 4000000 in
set_option maxRecDepth 100000 in
theorem f_X12_undo (l : Launch) (dC : Nat → ClassId) (dI : Nat → Nat → Nat) (sz : Nat) (r : Nat → Nat) : Met l yX12_undo vs_f_X12_undo ({ frames := 0, cells := 0, slots := 0, locals := 0 }) (va_Pc [.ref (r 100)] (cW dC dI [((r 100), .inr (12, mF r 0 0 0 0 0 0 0 0 0 0 0 0 0 (-1) 1))] [] sz)) (va_Qi (fun (r : Int32) (_ : Unit) => r = (-1)) (fun (_ : Unit) (t : State) => True) (va_A [((r 100), .inr (12, mF r 0 0 0 0 0 0 0 0 0 0 0 0 0 (-1) 1))] sz)) 0 0 (va_A [((r 100), .inr (12, mF r 0 0 0 0 0 0 0 0 0 0 0 0 0 (-1) 1))] sz) := by
  refine Met.ofW (cc := cX12_undo) (maxL := 2) (ret := (some .int)) (by decide) rfl ?_
  intro p e s m args below meth c s₁ B hml hv
  obtain ⟨rfl, hsz, hP, hK, hD0, hG⟩ := hv
  have hx := B.exec
  have hb := B.bytes
  have hr := B.returns
  have hts := atoms_spec (ws := vs_f_X12_undo) B.pre
  have hown : s.vm.findClass RX12 = some m.cls := findClass_of_methodNamed B.named
  have hlocks := B.notSynchronized
  have hiX12 : ∀ w ∈ u_ws RX12 TX12 54, w ∈ vs_f_X12_undo := vs_f_X12_undo_uX12
  subst hsz
  have hD := hD0.self (sz := s.heap.size)
  generalize hAe : va_A [((r 100), .inr (12, mF r 0 0 0 0 0 0 0 0 0 0 0 0 0 (-1) 1))] s.heap.size = A at hD ⊢
  have hA : ∀ q : Nat, s.heap.size ≤ q → A q := fun q h => by rw [← hAe]; exact Or.inr h
  have hS : va_S A s.heap s.heap [] := va_S.rf
  have hP : va_P (dC, dI) vwCl [((r 100), .inr (12, mF r 0 0 0 0 0 0 0 0 0 0 0 0 0 (-1) 1))] s.heap := hP
  have hl := lv_entry ([.ref (r 100)]) (n := 2) (Nat.le_of_ble_eq_true rfl)
  rw [lg_entry_eq]
  generalize (lg_sl ([.ref (r 100)]) ++ List.replicate (2 - (lg_sl ([.ref (r 100)])).length) Slot.unset).toArray = ls at hl ⊢
  have hl : lv_has ls 2 [(0, .ref (r 100))] := hl
  refine lv_aload_n hx hb dX12_undo_0 rfl (lv_at hl 0 rfl) ?_
  refine lv_iconst (v := 0) hx hb dX12_undo_1 (by decide) ?_
  refine va_put (D := (dC, dI)) (ci := 12) (v := .int 0) (ty := .int) (C := RX12) (T := TX12) (N := 54) hx hb hts hiX12 tyX12 tyX12_ok nmX12 hown hK hP hD hS 0 rfl rfl 0 (by decide) (hts (.fieldLink RX12 90 "WallChapelsModel" "thrown" "I") (by decide +kernel)) (fun _ h9 => h9) rfl (by decide +kernel) rfl rfl (Nat.le_of_ble_eq_true rfl) dX12_undo_2 (fun H locs hP hD hS => ?_)
  have hP : va_P (dC, dI) vwCl [((r 100), .inr (12, mF r 0 0 0 0 0 0 0 0 0 0 0 0 0 (-1) 1))] H := hP
  have hD : va_D A [((r 100), .inr (12, mF r 0 0 0 0 0 0 0 0 0 0 0 0 0 (-1) 1))] := hD
  refine lv_aload_n hx hb dX12_undo_5 rfl (lv_at hl 0 rfl) ?_
  refine va_get (D := (dC, dI)) (ci := 12) (v := .int 0) (C := RX12) (T := TX12) (N := 54) hx hb hts hiX12 hown hK hP 0 rfl rfl 42 (by decide) (hts (.fieldLink RX12 292 "WallChapelsModel" "acts" "I") (by decide +kernel)) (fun _ h9 => h9) rfl dX12_undo_6 ?_
  refine lv_if_ne (tgt := 14) hx hb dX12_undo_9 (by decide) (fun c_1 => absurd c_1 (by decide)) (fun c_1 => ?_)
  refine lv_iconst (v := (-1)) hx hb dX12_undo_12 (by decide) ?_
  exact W.iret (v := (-1)) hx hb hr (fun t ht hW => ⟨⟨(-1), (), rfl, rfl, trivial⟩, hS.F ht⟩) hS.2.2 dX12_undo_13
def vs_f_X12_walk : List Cond := .code yX12_walk cX12_walk 3 (some .int) :: ([.fieldLink RX12 90 "WallChapelsModel" "thrown" "I", .initialized RX12, .instanceMethod yX12_isWalk, .selects RX12 yX12_isWalk yX12_isWalk, .fieldLink RX12 275 "WallChapelsModel" "walks" "I", .code yX12_isWalk cX12_isWalk 2 (some .boolean), .methodLink RX12 392 yX12_isWalk] ++ (u_ws RX12 TX12 54))
theorem vs_f_X12_walk_uX12 : ∀ w ∈ u_ws RX12 TX12 54, w ∈ vs_f_X12_walk := fun _ h => List.mem_cons_of_mem _ (List.mem_append_right _ (h))
set_option maxRecDepth 20000 in
theorem g_f_X12_walk_f_X12_isWalk : GoodIn vs_f_X12_walk (wsV RX12 392 RX12 yX12_isWalk vs_f_X12_isWalk) := goodIn_r _ [7, 3, 4, 2, 6, 5, 8, 9, 10, 11, 12, 13, 14, 15, 16, 17, 18, 19, 20, 21, 22, 23, 24, 25, 26, 27, 28, 29, 30, 31, 32, 33, 34, 35, 36, 37, 38, 39, 40, 41, 42, 43, 44, 45, 46, 47, 48, 49, 50, 51, 52, 53, 54, 55, 56, 57, 58, 59, 60, 61] (by decide +kernel) (by decide +kernel)
set_option maxHeartbeats 4000000 in
set_option maxRecDepth 100000 in
theorem f_X12_walk (l : Launch) (dC : Nat → ClassId) (dI : Nat → Nat → Nat) (sz : Nat) (r : Nat → Nat) (p0 : Int32) (p1 : Int32) : Met l yX12_walk vs_f_X12_walk ({ frames := 1, cells := 0, slots := 0, locals := 21 }) (va_Pc [.ref (r 100), .int p0, .int p1] (cW dC dI [((r 100), .inr (12, mF r 0 0 0 0 0 0 0 0 0 0 0 0 0 (-1) 1))] [] sz)) (va_Qi (fun (r : Int32) (_ : Unit) => r = (-1)) (fun (_ : Unit) (t : State) => True) (va_A [((r 100), .inr (12, mF r 0 0 0 0 0 0 0 0 0 0 0 0 0 (-1) 1))] sz)) 0 0 (va_A [((r 100), .inr (12, mF r 0 0 0 0 0 0 0 0 0 0 0 0 0 (-1) 1))] sz) := by
  refine Met.ofW (cc := cX12_walk) (maxL := 3) (ret := (some .int)) (by decide) rfl ?_
  intro p e s m args below meth c s₁ B hml hv
  obtain ⟨rfl, hsz, hP, hK, hD0, hG⟩ := hv
  have hx := B.exec
  have hb := B.bytes
  have hr := B.returns
  have hts := atoms_spec (ws := vs_f_X12_walk) B.pre
  have hown : s.vm.findClass RX12 = some m.cls := findClass_of_methodNamed B.named
  have hlocks := B.notSynchronized
  have hiX12 : ∀ w ∈ u_ws RX12 TX12 54, w ∈ vs_f_X12_walk := vs_f_X12_walk_uX12
  subst hsz
  have hD := hD0.self (sz := s.heap.size)
  generalize hAe : va_A [((r 100), .inr (12, mF r 0 0 0 0 0 0 0 0 0 0 0 0 0 (-1) 1))] s.heap.size = A at hD ⊢
  have hA : ∀ q : Nat, s.heap.size ≤ q → A q := fun q h => by rw [← hAe]; exact Or.inr h
  have hS : va_S A s.heap s.heap [] := va_S.rf
  have hP : va_P (dC, dI) vwCl [((r 100), .inr (12, mF r 0 0 0 0 0 0 0 0 0 0 0 0 0 (-1) 1))] s.heap := hP
  have hl := lv_entry ([.ref (r 100), .int p0, .int p1]) (n := 3) (Nat.le_of_ble_eq_true rfl)
  rw [lg_entry_eq]
  generalize (lg_sl ([.ref (r 100), .int p0, .int p1]) ++ List.replicate (3 - (lg_sl ([.ref (r 100), .int p0, .int p1])).length) Slot.unset).toArray = ls at hl ⊢
  have hl : lv_has ls 3 [(0, .ref (r 100)), (1, .int p0), (2, .int p1)] := hl
  refine lv_aload_n hx hb dX12_walk_0 rfl (lv_at hl 0 rfl) ?_
  refine lv_iconst (v := 0) hx hb dX12_walk_1 (by decide) ?_
  refine va_put (D := (dC, dI)) (ci := 12) (v := .int 0) (ty := .int) (C := RX12) (T := TX12) (N := 54) hx hb hts hiX12 tyX12 tyX12_ok nmX12 hown hK hP hD hS 0 rfl rfl 0 (by decide) (hts (.fieldLink RX12 90 "WallChapelsModel" "thrown" "I") (by decide +kernel)) (fun _ h9 => h9) rfl (by decide +kernel) rfl rfl (Nat.le_of_ble_eq_true rfl) dX12_walk_2 (fun H locs hP hD hS => ?_)
  have hP : va_P (dC, dI) vwCl [((r 100), .inr (12, mF r 0 0 0 0 0 0 0 0 0 0 0 0 0 (-1) 1))] H := hP
  have hD : va_D A [((r 100), .inr (12, mF r 0 0 0 0 0 0 0 0 0 0 0 0 0 (-1) 1))] := hD
  refine lv_aload_n hx hb dX12_walk_5 rfl (lv_at hl 0 rfl) ?_
  refine lv_iload_n hx hb dX12_walk_6 rfl (lv_at hl 1 rfl) ?_
  have hPc := hP.sub (ws' := [((r 100), .inr (12, mF r 0 0 0 0 0 0 0 0 0 0 0 0 0 (-1) 1))]) [0] rfl
  have hDc := hD.sub (ws' := [((r 100), .inr (12, mF r 0 0 0 0 0 0 0 0 0 0 0 0 0 (-1) 1))]) [0] (by decide) rfl
  have hKc := hK.sub (tys' := []) [] rfl
  have hFc := va_free (wc := [((r 100), .inr (12, mF r 0 0 0 0 0 0 0 0 0 0 0 0 0 (-1) 1))]) hD hS hA [0] rfl
  refine va_calli (va_runV (As := [.int p0]) (rest := []) ⟨hx, hb, hml, hown, hts⟩ (f_X12_isWalk l dC dI H.size r p0) (cwV 1 hts g_f_X12_walk_f_X12_isWalk rfl rfl rfl (by decide +kernel) ⟨Nat.le_of_ble_eq_true rfl, Nat.le_of_ble_eq_true rfl⟩) ⟨cW_blind, va_recv hKc hPc (ci := 12) (q0 := 0) rfl rfl, fun U hU hW => ⟨rfl, cW_use hU hW hPc hKc hDc hG⟩⟩ rfl rfl hl.1 rfl (lv_room (Nat.le_of_ble_eq_true rfl)) dX12_walk_7 ⟨Nat.le_of_ble_eq_true rfl, Nat.le_of_ble_eq_true rfl⟩) hS (fun q _ h => hFc q h) hFc (fun r_1 u t H1 locs ht hvm hw hB hz1 hk1 hS => ?_)
  obtain ⟨hP, hD⟩ := va_join (wr := []) (w1 := []) hP hD [0] [] rfl rfl (by decide) (by decide) hk1 hFc (va_P_nil H1) va_D_nil
  generalize H1 = H at hP hS ⊢
  have hP : va_P (dC, dI) vwCl [] H := hP
  have hD : va_D A [] := hD
  refine W.widen (k := 0) (n := 0) (Nat.le_of_ble_eq_true rfl) (Nat.le_of_ble_eq_true rfl) ?_
  obtain rfl : r_1 = 0 := hw
  refine lv_if_eq (tgt := 33) hx hb dX12_walk_10 (by decide) (fun c_2 => ?_) (fun c_2 => absurd (by decide) c_2)
  refine lv_iconst (v := (-1)) hx hb dX12_walk_33 (by decide) ?_
  exact W.iret (v := (-1)) hx hb hr (fun t ht hW => ⟨⟨(-1), (), rfl, rfl, trivial⟩, hS.F ht⟩) hS.2.2 dX12_walk_34
def vs_f_X12_far : List Cond := .code yX12_far cX12_far 3 (some .int) :: ([.fieldLink RX12 90 "WallChapelsModel" "thrown" "I", .initialized RX12, .instanceMethod yX12_isCorner, .selects RX12 yX12_isCorner yX12_isCorner, .fieldLink RX12 280 "WallChapelsModel" "corners" "I", .code yX12_isCorner cX12_isCorner 2 (some .boolean), .methodLink RX12 354 yX12_isCorner] ++ (u_ws RX12 TX12 54))
theorem vs_f_X12_far_uX12 : ∀ w ∈ u_ws RX12 TX12 54, w ∈ vs_f_X12_far := fun _ h => List.mem_cons_of_mem _ (List.mem_append_right _ (h))
set_option maxRecDepth 20000 in
theorem g_f_X12_far_f_X12_isCorner : GoodIn vs_f_X12_far (wsV RX12 354 RX12 yX12_isCorner vs_f_X12_isCorner) := goodIn_r _ [7, 3, 4, 2, 6, 5, 8, 9, 10, 11, 12, 13, 14, 15, 16, 17, 18, 19, 20, 21, 22, 23, 24, 25, 26, 27, 28, 29, 30, 31, 32, 33, 34, 35, 36, 37, 38, 39, 40, 41, 42, 43, 44, 45, 46, 47, 48, 49, 50, 51, 52, 53, 54, 55, 56, 57, 58, 59, 60, 61] (by decide +kernel) (by decide +kernel)
set_option maxHeartbeats 4000000 in
set_option maxRecDepth 100000 in
theorem f_X12_far (l : Launch) (dC : Nat → ClassId) (dI : Nat → Nat → Nat) (sz : Nat) (r : Nat → Nat) (p0 : Int32) (p1 : Int32) : Met l yX12_far vs_f_X12_far ({ frames := 1, cells := 0, slots := 0, locals := 21 }) (va_Pc [.ref (r 100), .int p0, .int p1] (cW dC dI [((r 100), .inr (12, mF r 0 0 0 0 0 0 0 0 0 0 0 0 0 (-1) 1))] [] sz)) (va_Qi (fun (r : Int32) (_ : Unit) => r = (-1)) (fun (_ : Unit) (t : State) => True) (va_A [((r 100), .inr (12, mF r 0 0 0 0 0 0 0 0 0 0 0 0 0 (-1) 1))] sz)) 0 0 (va_A [((r 100), .inr (12, mF r 0 0 0 0 0 0 0 0 0 0 0 0 0 (-1) 1))] sz) := by
  refine Met.ofW (cc := cX12_far) (maxL := 3) (ret := (some .int)) (by decide) rfl ?_
  intro p e s m args below meth c s₁ B hml hv
  obtain ⟨rfl, hsz, hP, hK, hD0, hG⟩ := hv
  have hx := B.exec
  have hb := B.bytes
  have hr := B.returns
  have hts := atoms_spec (ws := vs_f_X12_far) B.pre
  have hown : s.vm.findClass RX12 = some m.cls := findClass_of_methodNamed B.named
  have hlocks := B.notSynchronized
  have hiX12 : ∀ w ∈ u_ws RX12 TX12 54, w ∈ vs_f_X12_far := vs_f_X12_far_uX12
  subst hsz
  have hD := hD0.self (sz := s.heap.size)
  generalize hAe : va_A [((r 100), .inr (12, mF r 0 0 0 0 0 0 0 0 0 0 0 0 0 (-1) 1))] s.heap.size = A at hD ⊢
  have hA : ∀ q : Nat, s.heap.size ≤ q → A q := fun q h => by rw [← hAe]; exact Or.inr h
  have hS : va_S A s.heap s.heap [] := va_S.rf
  have hP : va_P (dC, dI) vwCl [((r 100), .inr (12, mF r 0 0 0 0 0 0 0 0 0 0 0 0 0 (-1) 1))] s.heap := hP
  have hl := lv_entry ([.ref (r 100), .int p0, .int p1]) (n := 3) (Nat.le_of_ble_eq_true rfl)
  rw [lg_entry_eq]
  generalize (lg_sl ([.ref (r 100), .int p0, .int p1]) ++ List.replicate (3 - (lg_sl ([.ref (r 100), .int p0, .int p1])).length) Slot.unset).toArray = ls at hl ⊢
  have hl : lv_has ls 3 [(0, .ref (r 100)), (1, .int p0), (2, .int p1)] := hl
  refine lv_aload_n hx hb dX12_far_0 rfl (lv_at hl 0 rfl) ?_
  refine lv_iconst (v := 0) hx hb dX12_far_1 (by decide) ?_
  refine va_put (D := (dC, dI)) (ci := 12) (v := .int 0) (ty := .int) (C := RX12) (T := TX12) (N := 54) hx hb hts hiX12 tyX12 tyX12_ok nmX12 hown hK hP hD hS 0 rfl rfl 0 (by decide) (hts (.fieldLink RX12 90 "WallChapelsModel" "thrown" "I") (by decide +kernel)) (fun _ h9 => h9) rfl (by decide +kernel) rfl rfl (Nat.le_of_ble_eq_true rfl) dX12_far_2 (fun H locs hP hD hS => ?_)
  have hP : va_P (dC, dI) vwCl [((r 100), .inr (12, mF r 0 0 0 0 0 0 0 0 0 0 0 0 0 (-1) 1))] H := hP
  have hD : va_D A [((r 100), .inr (12, mF r 0 0 0 0 0 0 0 0 0 0 0 0 0 (-1) 1))] := hD
  refine lv_aload_n hx hb dX12_far_5 rfl (lv_at hl 0 rfl) ?_
  refine lv_iload_n hx hb dX12_far_6 rfl (lv_at hl 1 rfl) ?_
  have hPc := hP.sub (ws' := [((r 100), .inr (12, mF r 0 0 0 0 0 0 0 0 0 0 0 0 0 (-1) 1))]) [0] rfl
  have hDc := hD.sub (ws' := [((r 100), .inr (12, mF r 0 0 0 0 0 0 0 0 0 0 0 0 0 (-1) 1))]) [0] (by decide) rfl
  have hKc := hK.sub (tys' := []) [] rfl
  have hFc := va_free (wc := [((r 100), .inr (12, mF r 0 0 0 0 0 0 0 0 0 0 0 0 0 (-1) 1))]) hD hS hA [0] rfl
  refine va_calli (va_runV (As := [.int p0]) (rest := []) ⟨hx, hb, hml, hown, hts⟩ (f_X12_isCorner l dC dI H.size r p0) (cwV 1 hts g_f_X12_far_f_X12_isCorner rfl rfl rfl (by decide +kernel) ⟨Nat.le_of_ble_eq_true rfl, Nat.le_of_ble_eq_true rfl⟩) ⟨cW_blind, va_recv hKc hPc (ci := 12) (q0 := 0) rfl rfl, fun U hU hW => ⟨rfl, cW_use hU hW hPc hKc hDc hG⟩⟩ rfl rfl hl.1 rfl (lv_room (Nat.le_of_ble_eq_true rfl)) dX12_far_7 ⟨Nat.le_of_ble_eq_true rfl, Nat.le_of_ble_eq_true rfl⟩) hS (fun q _ h => hFc q h) hFc (fun r_1 u t H1 locs ht hvm hw hB hz1 hk1 hS => ?_)
  obtain ⟨hP, hD⟩ := va_join (wr := []) (w1 := []) hP hD [0] [] rfl rfl (by decide) (by decide) hk1 hFc (va_P_nil H1) va_D_nil
  generalize H1 = H at hP hS ⊢
  have hP : va_P (dC, dI) vwCl [] H := hP
  have hD : va_D A [] := hD
  refine W.widen (k := 0) (n := 0) (Nat.le_of_ble_eq_true rfl) (Nat.le_of_ble_eq_true rfl) ?_
  obtain rfl : r_1 = 0 := hw
  refine lv_if_eq (tgt := 21) hx hb dX12_far_10 (by decide) (fun c_2 => ?_) (fun c_2 => absurd (by decide) c_2)
  refine lv_iconst (v := (-1)) hx hb dX12_far_21 (by decide) ?_
  exact W.iret (v := (-1)) hx hb hr (fun t ht hW => ⟨⟨(-1), (), rfl, rfl, trivial⟩, hS.F ht⟩) hS.2.2 dX12_far_22
def vs_f_X12_way : List Cond := .code yX12_way cX12_way 3 (some .int) :: ([.fieldLink RX12 90 "WallChapelsModel" "thrown" "I", .initialized RX12, .instanceMethod yX12_isCorner, .selects RX12 yX12_isCorner yX12_isCorner, .fieldLink RX12 280 "WallChapelsModel" "corners" "I", .code yX12_isCorner cX12_isCorner 2 (some .boolean), .methodLink RX12 354 yX12_isCorner] ++ (u_ws RX12 TX12 54))
theorem vs_f_X12_way_uX12 : ∀ w ∈ u_ws RX12 TX12 54, w ∈ vs_f_X12_way := fun _ h => List.mem_cons_of_mem _ (List.mem_append_right _ (h))
set_option maxRecDepth 20000 in
theorem g_f_X12_way_f_X12_isCorner : GoodIn vs_f_X12_way (wsV RX12 354 RX12 yX12_isCorner vs_f_X12_isCorner) := goodIn_r _ [7, 3, 4, 2, 6, 5, 8, 9, 10, 11, 12, 13, 14, 15, 16, 17, 18, 19, 20, 21, 22, 23, 24, 25, 26, 27, 28, 29, 30, 31, 32, 33, 34, 35, 36, 37, 38, 39, 40, 41, 42, 43, 44, 45, 46, 47, 48, 49, 50, 51, 52, 53, 54, 55, 56, 57, 58, 59, 60, 61] (by decide +kernel) (by decide +kernel)
set_option maxHeartbeats 4000000 in
set_option maxRecDepth 100000 in
theorem f_X12_way (l : Launch) (dC : Nat → ClassId) (dI : Nat → Nat → Nat) (sz : Nat) (r : Nat → Nat) (p0 : Int32) (p1 : Int32) : Met l yX12_way vs_f_X12_way ({ frames := 1, cells := 0, slots := 0, locals := 21 }) (va_Pc [.ref (r 100), .int p0, .int p1] (cW dC dI [((r 100), .inr (12, mF r 0 0 0 0 0 0 0 0 0 0 0 0 0 (-1) 1))] [] sz)) (va_Qi (fun (r : Int32) (_ : Unit) => r = (-1)) (fun (_ : Unit) (t : State) => True) (va_A [((r 100), .inr (12, mF r 0 0 0 0 0 0 0 0 0 0 0 0 0 (-1) 1))] sz)) 0 0 (va_A [((r 100), .inr (12, mF r 0 0 0 0 0 0 0 0 0 0 0 0 0 (-1) 1))] sz) := by
  refine Met.ofW (cc := cX12_way) (maxL := 3) (ret := (some .int)) (by decide) rfl ?_
  intro p e s m args below meth c s₁ B hml hv
  obtain ⟨rfl, hsz, hP, hK, hD0, hG⟩ := hv
  have hx := B.exec
  have hb := B.bytes
  have hr := B.returns
  have hts := atoms_spec (ws := vs_f_X12_way) B.pre
  have hown : s.vm.findClass RX12 = some m.cls := findClass_of_methodNamed B.named
  have hlocks := B.notSynchronized
  have hiX12 : ∀ w ∈ u_ws RX12 TX12 54, w ∈ vs_f_X12_way := vs_f_X12_way_uX12
  subst hsz
  have hD := hD0.self (sz := s.heap.size)
  generalize hAe : va_A [((r 100), .inr (12, mF r 0 0 0 0 0 0 0 0 0 0 0 0 0 (-1) 1))] s.heap.size = A at hD ⊢
  have hA : ∀ q : Nat, s.heap.size ≤ q → A q := fun q h => by rw [← hAe]; exact Or.inr h
  have hS : va_S A s.heap s.heap [] := va_S.rf
  have hP : va_P (dC, dI) vwCl [((r 100), .inr (12, mF r 0 0 0 0 0 0 0 0 0 0 0 0 0 (-1) 1))] s.heap := hP
  have hl := lv_entry ([.ref (r 100), .int p0, .int p1]) (n := 3) (Nat.le_of_ble_eq_true rfl)
  rw [lg_entry_eq]
  generalize (lg_sl ([.ref (r 100), .int p0, .int p1]) ++ List.replicate (3 - (lg_sl ([.ref (r 100), .int p0, .int p1])).length) Slot.unset).toArray = ls at hl ⊢
  have hl : lv_has ls 3 [(0, .ref (r 100)), (1, .int p0), (2, .int p1)] := hl
  refine lv_aload_n hx hb dX12_way_0 rfl (lv_at hl 0 rfl) ?_
  refine lv_iconst (v := 0) hx hb dX12_way_1 (by decide) ?_
  refine va_put (D := (dC, dI)) (ci := 12) (v := .int 0) (ty := .int) (C := RX12) (T := TX12) (N := 54) hx hb hts hiX12 tyX12 tyX12_ok nmX12 hown hK hP hD hS 0 rfl rfl 0 (by decide) (hts (.fieldLink RX12 90 "WallChapelsModel" "thrown" "I") (by decide +kernel)) (fun _ h9 => h9) rfl (by decide +kernel) rfl rfl (Nat.le_of_ble_eq_true rfl) dX12_way_2 (fun H locs hP hD hS => ?_)
  have hP : va_P (dC, dI) vwCl [((r 100), .inr (12, mF r 0 0 0 0 0 0 0 0 0 0 0 0 0 (-1) 1))] H := hP
  have hD : va_D A [((r 100), .inr (12, mF r 0 0 0 0 0 0 0 0 0 0 0 0 0 (-1) 1))] := hD
  refine lv_aload_n hx hb dX12_way_5 rfl (lv_at hl 0 rfl) ?_
  refine lv_iload_n hx hb dX12_way_6 rfl (lv_at hl 1 rfl) ?_
  have hPc := hP.sub (ws' := [((r 100), .inr (12, mF r 0 0 0 0 0 0 0 0 0 0 0 0 0 (-1) 1))]) [0] rfl
  have hDc := hD.sub (ws' := [((r 100), .inr (12, mF r 0 0 0 0 0 0 0 0 0 0 0 0 0 (-1) 1))]) [0] (by decide) rfl
  have hKc := hK.sub (tys' := []) [] rfl
  have hFc := va_free (wc := [((r 100), .inr (12, mF r 0 0 0 0 0 0 0 0 0 0 0 0 0 (-1) 1))]) hD hS hA [0] rfl
  refine va_calli (va_runV (As := [.int p0]) (rest := []) ⟨hx, hb, hml, hown, hts⟩ (f_X12_isCorner l dC dI H.size r p0) (cwV 1 hts g_f_X12_way_f_X12_isCorner rfl rfl rfl (by decide +kernel) ⟨Nat.le_of_ble_eq_true rfl, Nat.le_of_ble_eq_true rfl⟩) ⟨cW_blind, va_recv hKc hPc (ci := 12) (q0 := 0) rfl rfl, fun U hU hW => ⟨rfl, cW_use hU hW hPc hKc hDc hG⟩⟩ rfl rfl hl.1 rfl (lv_room (Nat.le_of_ble_eq_true rfl)) dX12_way_7 ⟨Nat.le_of_ble_eq_true rfl, Nat.le_of_ble_eq_true rfl⟩) hS (fun q _ h => hFc q h) hFc (fun r_1 u t H1 locs ht hvm hw hB hz1 hk1 hS => ?_)
  obtain ⟨hP, hD⟩ := va_join (wr := []) (w1 := []) hP hD [0] [] rfl rfl (by decide) (by decide) hk1 hFc (va_P_nil H1) va_D_nil
  generalize H1 = H at hP hS ⊢
  have hP : va_P (dC, dI) vwCl [] H := hP
  have hD : va_D A [] := hD
  refine W.widen (k := 0) (n := 0) (Nat.le_of_ble_eq_true rfl) (Nat.le_of_ble_eq_true rfl) ?_
  obtain rfl : r_1 = 0 := hw
  refine lv_if_eq (tgt := 21) hx hb dX12_way_10 (by decide) (fun c_2 => ?_) (fun c_2 => absurd (by decide) c_2)
  refine lv_iconst (v := (-1)) hx hb dX12_way_21 (by decide) ?_
  exact W.iret (v := (-1)) hx hb hr (fun t ht hW => ⟨⟨(-1), (), rfl, rfl, trivial⟩, hS.F ht⟩) hS.2.2 dX12_way_22
def vs_f_X12_feast : List Cond := .code yX12_feast cX12_feast 4 (some .int) :: ([.fieldLink RX12 90 "WallChapelsModel" "thrown" "I", .initialized RX12, .instanceMethod yX12_isCorner, .selects RX12 yX12_isCorner yX12_isCorner, .fieldLink RX12 280 "WallChapelsModel" "corners" "I", .code yX12_isCorner cX12_isCorner 2 (some .boolean), .methodLink RX12 354 yX12_isCorner] ++ (u_ws RX12 TX12 54))
theorem vs_f_X12_feast_uX12 : ∀ w ∈ u_ws RX12 TX12 54, w ∈ vs_f_X12_feast := fun _ h => List.mem_cons_of_mem _ (List.mem_append_right _ (h))
set_option maxRecDepth 20000 in
theorem g_f_X12_feast_f_X12_isCorner : GoodIn vs_f_X12_feast (wsV RX12 354 RX12 yX12_isCorner vs_f_X12_isCorner) := goodIn_r _ [7, 3, 4, 2, 6, 5, 8, 9, 10, 11, 12, 13, 14, 15, 16, 17, 18, 19, 20, 21, 22, 23, 24, 25, 26, 27, 28, 29, 30, 31, 32, 33, 34, 35, 36, 37, 38, 39, 40, 41, 42, 43, 44, 45, 46, 47, 48, 49, 50, 51, 52, 53, 54, 55, 56, 57, 58, 59, 60, 61] (by decide +kernel) (by decide +kernel)
set_option maxHeartbeats 4000000 in
set_option maxRecDepth 100000 in
theorem f_X12_feast (l : Launch) (dC : Nat → ClassId) (dI : Nat → Nat → Nat) (sz : Nat) (r : Nat → Nat) (p0 : Int32) (p1 : Int32) : Met l yX12_feast vs_f_X12_feast ({ frames := 1, cells := 0, slots := 0, locals := 21 }) (va_Pc [.ref (r 100), .int p0, .int p1] (cW dC dI [((r 100), .inr (12, mF r 0 0 0 0 0 0 0 0 0 0 0 0 0 (-1) 1))] [] sz)) (va_Qi (fun (r : Int32) (_ : Unit) => r = (-1)) (fun (_ : Unit) (t : State) => True) (va_A [((r 100), .inr (12, mF r 0 0 0 0 0 0 0 0 0 0 0 0 0 (-1) 1))] sz)) 0 0 (va_A [((r 100), .inr (12, mF r 0 0 0 0 0 0 0 0 0 0 0 0 0 (-1) 1))] sz) := by
  refine Met.ofW (cc := cX12_feast) (maxL := 4) (ret := (some .int)) (by decide) rfl ?_
  intro p e s m args below meth c s₁ B hml hv
  obtain ⟨rfl, hsz, hP, hK, hD0, hG⟩ := hv
  have hx := B.exec
  have hb := B.bytes
  have hr := B.returns
  have hts := atoms_spec (ws := vs_f_X12_feast) B.pre
  have hown : s.vm.findClass RX12 = some m.cls := findClass_of_methodNamed B.named
  have hlocks := B.notSynchronized
  have hiX12 : ∀ w ∈ u_ws RX12 TX12 54, w ∈ vs_f_X12_feast := vs_f_X12_feast_uX12
  subst hsz
  have hD := hD0.self (sz := s.heap.size)
  generalize hAe : va_A [((r 100), .inr (12, mF r 0 0 0 0 0 0 0 0 0 0 0 0 0 (-1) 1))] s.heap.size = A at hD ⊢
  have hA : ∀ q : Nat, s.heap.size ≤ q → A q := fun q h => by rw [← hAe]; exact Or.inr h
  have hS : va_S A s.heap s.heap [] := va_S.rf
  have hP : va_P (dC, dI) vwCl [((r 100), .inr (12, mF r 0 0 0 0 0 0 0 0 0 0 0 0 0 (-1) 1))] s.heap := hP
  have hl := lv_entry ([.ref (r 100), .int p0, .int p1]) (n := 4) (Nat.le_of_ble_eq_true rfl)
  rw [lg_entry_eq]
  generalize (lg_sl ([.ref (r 100), .int p0, .int p1]) ++ List.replicate (4 - (lg_sl ([.ref (r 100), .int p0, .int p1])).length) Slot.unset).toArray = ls at hl ⊢
  have hl : lv_has ls 4 [(0, .ref (r 100)), (1, .int p0), (2, .int p1)] := hl
  refine lv_aload_n hx hb dX12_feast_0 rfl (lv_at hl 0 rfl) ?_
  refine lv_iconst (v := 0) hx hb dX12_feast_1 (by decide) ?_
  refine va_put (D := (dC, dI)) (ci := 12) (v := .int 0) (ty := .int) (C := RX12) (T := TX12) (N := 54) hx hb hts hiX12 tyX12 tyX12_ok nmX12 hown hK hP hD hS 0 rfl rfl 0 (by decide) (hts (.fieldLink RX12 90 "WallChapelsModel" "thrown" "I") (by decide +kernel)) (fun _ h9 => h9) rfl (by decide +kernel) rfl rfl (Nat.le_of_ble_eq_true rfl) dX12_feast_2 (fun H locs hP hD hS => ?_)
  have hP : va_P (dC, dI) vwCl [((r 100), .inr (12, mF r 0 0 0 0 0 0 0 0 0 0 0 0 0 (-1) 1))] H := hP
  have hD : va_D A [((r 100), .inr (12, mF r 0 0 0 0 0 0 0 0 0 0 0 0 0 (-1) 1))] := hD
  refine lv_aload_n hx hb dX12_feast_5 rfl (lv_at hl 0 rfl) ?_
  refine lv_iload_n hx hb dX12_feast_6 rfl (lv_at hl 1 rfl) ?_
  have hPc := hP.sub (ws' := [((r 100), .inr (12, mF r 0 0 0 0 0 0 0 0 0 0 0 0 0 (-1) 1))]) [0] rfl
  have hDc := hD.sub (ws' := [((r 100), .inr (12, mF r 0 0 0 0 0 0 0 0 0 0 0 0 0 (-1) 1))]) [0] (by decide) rfl
  have hKc := hK.sub (tys' := []) [] rfl
  have hFc := va_free (wc := [((r 100), .inr (12, mF r 0 0 0 0 0 0 0 0 0 0 0 0 0 (-1) 1))]) hD hS hA [0] rfl
  refine va_calli (va_runV (As := [.int p0]) (rest := []) ⟨hx, hb, hml, hown, hts⟩ (f_X12_isCorner l dC dI H.size r p0) (cwV 1 hts g_f_X12_feast_f_X12_isCorner rfl rfl rfl (by decide +kernel) ⟨Nat.le_of_ble_eq_true rfl, Nat.le_of_ble_eq_true rfl⟩) ⟨cW_blind, va_recv hKc hPc (ci := 12) (q0 := 0) rfl rfl, fun U hU hW => ⟨rfl, cW_use hU hW hPc hKc hDc hG⟩⟩ rfl rfl hl.1 rfl (lv_room (Nat.le_of_ble_eq_true rfl)) dX12_feast_7 ⟨Nat.le_of_ble_eq_true rfl, Nat.le_of_ble_eq_true rfl⟩) hS (fun q _ h => hFc q h) hFc (fun r_1 u t H1 locs ht hvm hw hB hz1 hk1 hS => ?_)
  obtain ⟨hP, hD⟩ := va_join (wr := []) (w1 := []) hP hD [0] [] rfl rfl (by decide) (by decide) hk1 hFc (va_P_nil H1) va_D_nil
  generalize H1 = H at hP hS ⊢
  have hP : va_P (dC, dI) vwCl [] H := hP
  have hD : va_D A [] := hD
  refine W.widen (k := 0) (n := 0) (Nat.le_of_ble_eq_true rfl) (Nat.le_of_ble_eq_true rfl) ?_
  obtain rfl : r_1 = 0 := hw
  refine lv_if_eq (tgt := 23) hx hb dX12_feast_10 (by decide) (fun c_2 => ?_) (fun c_2 => absurd (by decide) c_2)
  refine lv_iconst (v := (-1)) hx hb dX12_feast_23 (by decide) ?_
  exact W.iret (v := (-1)) hx hb hr (fun t ht hW => ⟨⟨(-1), (), rfl, rfl, trivial⟩, hS.F ht⟩) hS.2.2 dX12_feast_24
def vs_f_X12_soon : List Cond := .code yX12_soon cX12_soon 4 (some .int) :: ([.fieldLink RX12 90 "WallChapelsModel" "thrown" "I", .initialized RX12, .instanceMethod yX12_isWalker, .selects RX12 yX12_isWalker yX12_isWalker, .fieldLink RX12 286 "WallChapelsModel" "walkers" "I", .code yX12_isWalker cX12_isWalker 2 (some .boolean), .methodLink RX12 362 yX12_isWalker] ++ (u_ws RX12 TX12 54))
theorem vs_f_X12_soon_uX12 : ∀ w ∈ u_ws RX12 TX12 54, w ∈ vs_f_X12_soon := fun _ h => List.mem_cons_of_mem _ (List.mem_append_right _ (h))
set_option maxRecDepth 20000 in
theorem g_f_X12_soon_f_X12_isWalker : GoodIn vs_f_X12_soon (wsV RX12 362 RX12 yX12_isWalker vs_f_X12_isWalker) := goodIn_r _ [7, 3, 4, 2, 6, 5, 8, 9, 10, 11, 12, 13, 14, 15, 16, 17, 18, 19, 20, 21, 22, 23, 24, 25, 26, 27, 28, 29, 30, 31, 32, 33, 34, 35, 36, 37, 38, 39, 40, 41, 42, 43, 44, 45, 46, 47, 48, 49, 50, 51, 52, 53, 54, 55, 56, 57, 58, 59, 60, 61] (by decide +kernel) (by decide +kernel)
set_option maxHeartbeats 4000000 in
set_option maxRecDepth 100000 in
theorem f_X12_soon (l : Launch) (dC : Nat → ClassId) (dI : Nat → Nat → Nat) (sz : Nat) (r : Nat → Nat) (p0 : Int32) : Met l yX12_soon vs_f_X12_soon ({ frames := 1, cells := 0, slots := 0, locals := 21 }) (va_Pc [.ref (r 100), .int p0] (cW dC dI [((r 100), .inr (12, mF r 0 0 0 0 0 0 0 0 0 0 0 0 0 (-1) 1))] [] sz)) (va_Qi (fun (r : Int32) (_ : Unit) => r = (-1)) (fun (_ : Unit) (t : State) => True) (va_A [((r 100), .inr (12, mF r 0 0 0 0 0 0 0 0 0 0 0 0 0 (-1) 1))] sz)) 0 0 (va_A [((r 100), .inr (12, mF r 0 0 0 0 0 0 0 0 0 0 0 0 0 (-1) 1))] sz) := by
  refine Met.ofW (cc := cX12_soon) (maxL := 4) (ret := (some .int)) (by decide) rfl ?_
  intro p e s m args below meth c s₁ B hml hv
  obtain ⟨rfl, hsz, hP, hK, hD0, hG⟩ := hv
  have hx := B.exec
  have hb := B.bytes
  have hr := B.returns
  have hts := atoms_spec (ws := vs_f_X12_soon) B.pre
  have hown : s.vm.findClass RX12 = some m.cls := findClass_of_methodNamed B.named
  have hlocks := B.notSynchronized
  have hiX12 : ∀ w ∈ u_ws RX12 TX12 54, w ∈ vs_f_X12_soon := vs_f_X12_soon_uX12
  subst hsz
  have hD := hD0.self (sz := s.heap.size)
  generalize hAe : va_A [((r 100), .inr (12, mF r 0 0 0 0 0 0 0 0 0 0 0 0 0 (-1) 1))] s.heap.size = A at hD ⊢
  have hA : ∀ q : Nat, s.heap.size ≤ q → A q := fun q h => by rw [← hAe]; exact Or.inr h
  have hS : va_S A s.heap s.heap [] := va_S.rf
  have hP : va_P (dC, dI) vwCl [((r 100), .inr (12, mF r 0 0 0 0 0 0 0 0 0 0 0 0 0 (-1) 1))] s.heap := hP
  have hl := lv_entry ([.ref (r 100), .int p0]) (n := 4) (Nat.le_of_ble_eq_true rfl)
  rw [lg_entry_eq]
  generalize (lg_sl ([.ref (r 100), .int p0]) ++ List.replicate (4 - (lg_sl ([.ref (r 100), .int p0])).length) Slot.unset).toArray = ls at hl ⊢
  have hl : lv_has ls 4 [(0, .ref (r 100)), (1, .int p0)] := hl
  refine lv_aload_n hx hb dX12_soon_0 rfl (lv_at hl 0 rfl) ?_
  refine lv_iconst (v := 0) hx hb dX12_soon_1 (by decide) ?_
  refine va_put (D := (dC, dI)) (ci := 12) (v := .int 0) (ty := .int) (C := RX12) (T := TX12) (N := 54) hx hb hts hiX12 tyX12 tyX12_ok nmX12 hown hK hP hD hS 0 rfl rfl 0 (by decide) (hts (.fieldLink RX12 90 "WallChapelsModel" "thrown" "I") (by decide +kernel)) (fun _ h9 => h9) rfl (by decide +kernel) rfl rfl (Nat.le_of_ble_eq_true rfl) dX12_soon_2 (fun H locs hP hD hS => ?_)
  have hP : va_P (dC, dI) vwCl [((r 100), .inr (12, mF r 0 0 0 0 0 0 0 0 0 0 0 0 0 (-1) 1))] H := hP
  have hD : va_D A [((r 100), .inr (12, mF r 0 0 0 0 0 0 0 0 0 0 0 0 0 (-1) 1))] := hD
  refine lv_aload_n hx hb dX12_soon_5 rfl (lv_at hl 0 rfl) ?_
  refine lv_iload_n hx hb dX12_soon_6 rfl (lv_at hl 1 rfl) ?_
  have hPc := hP.sub (ws' := [((r 100), .inr (12, mF r 0 0 0 0 0 0 0 0 0 0 0 0 0 (-1) 1))]) [0] rfl
  have hDc := hD.sub (ws' := [((r 100), .inr (12, mF r 0 0 0 0 0 0 0 0 0 0 0 0 0 (-1) 1))]) [0] (by decide) rfl
  have hKc := hK.sub (tys' := []) [] rfl
  have hFc := va_free (wc := [((r 100), .inr (12, mF r 0 0 0 0 0 0 0 0 0 0 0 0 0 (-1) 1))]) hD hS hA [0] rfl
  refine va_calli (va_runV (As := [.int p0]) (rest := []) ⟨hx, hb, hml, hown, hts⟩ (f_X12_isWalker l dC dI H.size r p0) (cwV 1 hts g_f_X12_soon_f_X12_isWalker rfl rfl rfl (by decide +kernel) ⟨Nat.le_of_ble_eq_true rfl, Nat.le_of_ble_eq_true rfl⟩) ⟨cW_blind, va_recv hKc hPc (ci := 12) (q0 := 0) rfl rfl, fun U hU hW => ⟨rfl, cW_use hU hW hPc hKc hDc hG⟩⟩ rfl rfl hl.1 rfl (lv_room (Nat.le_of_ble_eq_true rfl)) dX12_soon_7 ⟨Nat.le_of_ble_eq_true rfl, Nat.le_of_ble_eq_true rfl⟩) hS (fun q _ h => hFc q h) hFc (fun r_1 u t H1 locs ht hvm hw hB hz1 hk1 hS => ?_)
  obtain ⟨hP, hD⟩ := va_join (wr := []) (w1 := []) hP hD [0] [] rfl rfl (by decide) (by decide) hk1 hFc (va_P_nil H1) va_D_nil
  generalize H1 = H at hP hS ⊢
  have hP : va_P (dC, dI) vwCl [] H := hP
  have hD : va_D A [] := hD
  refine W.widen (k := 0) (n := 0) (Nat.le_of_ble_eq_true rfl) (Nat.le_of_ble_eq_true rfl) ?_
  obtain rfl : r_1 = 0 := hw
  refine lv_if_ne (tgt := 15) hx hb dX12_soon_10 (by decide) (fun c_2 => absurd c_2 (by decide)) (fun c_2 => ?_)
  refine lv_iconst (v := (-1)) hx hb dX12_soon_13 (by decide) ?_
  exact W.iret (v := (-1)) hx hb hr (fun t ht hW => ⟨⟨(-1), (), rfl, rfl, trivial⟩, hS.F ht⟩) hS.2.2 dX12_soon_14
def vs_f_X12_worn : List Cond := .code yX12_worn cX12_worn 5 (some .int) :: ([.fieldLink RX12 90 "WallChapelsModel" "thrown" "I", .initialized RX12, .instanceMethod yX12_isCorner, .selects RX12 yX12_isCorner yX12_isCorner, .fieldLink RX12 280 "WallChapelsModel" "corners" "I", .code yX12_isCorner cX12_isCorner 2 (some .boolean), .methodLink RX12 354 yX12_isCorner] ++ (u_ws RX12 TX12 54))
theorem vs_f_X12_worn_uX12 : ∀ w ∈ u_ws RX12 TX12 54, w ∈ vs_f_X12_worn := fun _ h => List.mem_cons_of_mem _ (List.mem_append_right _ (h))
set_option maxRecDepth 20000 in
theorem g_f_X12_worn_f_X12_isCorner : GoodIn vs_f_X12_worn (wsV RX12 354 RX12 yX12_isCorner vs_f_X12_isCorner) := goodIn_r _ [7, 3, 4, 2, 6, 5, 8, 9, 10, 11, 12, 13, 14, 15, 16, 17, 18, 19, 20, 21, 22, 23, 24, 25, 26, 27, 28, 29, 30, 31, 32, 33, 34, 35, 36, 37, 38, 39, 40, 41, 42, 43, 44, 45, 46, 47, 48, 49, 50, 51, 52, 53, 54, 55, 56, 57, 58, 59, 60, 61] (by decide +kernel) (by decide +kernel)
set_option maxHeartbeats 4000000 in
set_option maxRecDepth 100000 in
theorem f_X12_worn (l : Launch) (dC : Nat → ClassId) (dI : Nat → Nat → Nat) (sz : Nat) (r : Nat → Nat) (p0 : Int32) (p1 : Int32) : Met l yX12_worn vs_f_X12_worn ({ frames := 1, cells := 0, slots := 0, locals := 21 }) (va_Pc [.ref (r 100), .int p0, .int p1] (cW dC dI [((r 100), .inr (12, mF r 0 0 0 0 0 0 0 0 0 0 0 0 0 (-1) 1))] [] sz)) (va_Qi (fun (r : Int32) (_ : Unit) => r = (-1)) (fun (_ : Unit) (t : State) => True) (va_A [((r 100), .inr (12, mF r 0 0 0 0 0 0 0 0 0 0 0 0 0 (-1) 1))] sz)) 0 0 (va_A [((r 100), .inr (12, mF r 0 0 0 0 0 0 0 0 0 0 0 0 0 (-1) 1))] sz) := by
  refine Met.ofW (cc := cX12_worn) (maxL := 5) (ret := (some .int)) (by decide) rfl ?_
  intro p e s m args below meth c s₁ B hml hv
  obtain ⟨rfl, hsz, hP, hK, hD0, hG⟩ := hv
  have hx := B.exec
  have hb := B.bytes
  have hr := B.returns
  have hts := atoms_spec (ws := vs_f_X12_worn) B.pre
  have hown : s.vm.findClass RX12 = some m.cls := findClass_of_methodNamed B.named
  have hlocks := B.notSynchronized
  have hiX12 : ∀ w ∈ u_ws RX12 TX12 54, w ∈ vs_f_X12_worn := vs_f_X12_worn_uX12
  subst hsz
  have hD := hD0.self (sz := s.heap.size)
  generalize hAe : va_A [((r 100), .inr (12, mF r 0 0 0 0 0 0 0 0 0 0 0 0 0 (-1) 1))] s.heap.size = A at hD ⊢
  have hA : ∀ q : Nat, s.heap.size ≤ q → A q := fun q h => by rw [← hAe]; exact Or.inr h
  have hS : va_S A s.heap s.heap [] := va_S.rf
  have hP : va_P (dC, dI) vwCl [((r 100), .inr (12, mF r 0 0 0 0 0 0 0 0 0 0 0 0 0 (-1) 1))] s.heap := hP
  have hl := lv_entry ([.ref (r 100), .int p0, .int p1]) (n := 5) (Nat.le_of_ble_eq_true rfl)
  rw [lg_entry_eq]
  generalize (lg_sl ([.ref (r 100), .int p0, .int p1]) ++ List.replicate (5 - (lg_sl ([.ref (r 100), .int p0, .int p1])).length) Slot.unset).toArray = ls at hl ⊢
  have hl : lv_has ls 5 [(0, .ref (r 100)), (1, .int p0), (2, .int p1)] := hl
  refine lv_aload_n hx hb dX12_worn_0 rfl (lv_at hl 0 rfl) ?_
  refine lv_iconst (v := 0) hx hb dX12_worn_1 (by decide) ?_
  refine va_put (D := (dC, dI)) (ci := 12) (v := .int 0) (ty := .int) (C := RX12) (T := TX12) (N := 54) hx hb hts hiX12 tyX12 tyX12_ok nmX12 hown hK hP hD hS 0 rfl rfl 0 (by decide) (hts (.fieldLink RX12 90 "WallChapelsModel" "thrown" "I") (by decide +kernel)) (fun _ h9 => h9) rfl (by decide +kernel) rfl rfl (Nat.le_of_ble_eq_true rfl) dX12_worn_2 (fun H locs hP hD hS => ?_)
  have hP : va_P (dC, dI) vwCl [((r 100), .inr (12, mF r 0 0 0 0 0 0 0 0 0 0 0 0 0 (-1) 1))] H := hP
  have hD : va_D A [((r 100), .inr (12, mF r 0 0 0 0 0 0 0 0 0 0 0 0 0 (-1) 1))] := hD
  refine lv_aload_n hx hb dX12_worn_5 rfl (lv_at hl 0 rfl) ?_
  refine lv_iload_n hx hb dX12_worn_6 rfl (lv_at hl 1 rfl) ?_
  have hPc := hP.sub (ws' := [((r 100), .inr (12, mF r 0 0 0 0 0 0 0 0 0 0 0 0 0 (-1) 1))]) [0] rfl
  have hDc := hD.sub (ws' := [((r 100), .inr (12, mF r 0 0 0 0 0 0 0 0 0 0 0 0 0 (-1) 1))]) [0] (by decide) rfl
  have hKc := hK.sub (tys' := []) [] rfl
  have hFc := va_free (wc := [((r 100), .inr (12, mF r 0 0 0 0 0 0 0 0 0 0 0 0 0 (-1) 1))]) hD hS hA [0] rfl
  refine va_calli (va_runV (As := [.int p0]) (rest := []) ⟨hx, hb, hml, hown, hts⟩ (f_X12_isCorner l dC dI H.size r p0) (cwV 1 hts g_f_X12_worn_f_X12_isCorner rfl rfl rfl (by decide +kernel) ⟨Nat.le_of_ble_eq_true rfl, Nat.le_of_ble_eq_true rfl⟩) ⟨cW_blind, va_recv hKc hPc (ci := 12) (q0 := 0) rfl rfl, fun U hU hW => ⟨rfl, cW_use hU hW hPc hKc hDc hG⟩⟩ rfl rfl hl.1 rfl (lv_room (Nat.le_of_ble_eq_true rfl)) dX12_worn_7 ⟨Nat.le_of_ble_eq_true rfl, Nat.le_of_ble_eq_true rfl⟩) hS (fun q _ h => hFc q h) hFc (fun r_1 u t H1 locs ht hvm hw hB hz1 hk1 hS => ?_)
  obtain ⟨hP, hD⟩ := va_join (wr := []) (w1 := []) hP hD [0] [] rfl rfl (by decide) (by decide) hk1 hFc (va_P_nil H1) va_D_nil
  generalize H1 = H at hP hS ⊢
  have hP : va_P (dC, dI) vwCl [] H := hP
  have hD : va_D A [] := hD
  refine W.widen (k := 0) (n := 0) (Nat.le_of_ble_eq_true rfl) (Nat.le_of_ble_eq_true rfl) ?_
  obtain rfl : r_1 = 0 := hw
  refine lv_if_eq (tgt := 25) hx hb dX12_worn_10 (by decide) (fun c_2 => ?_) (fun c_2 => absurd (by decide) c_2)
  refine lv_iconst (v := (-1)) hx hb dX12_worn_25 (by decide) ?_
  exact W.iret (v := (-1)) hx hb hr (fun t ht hW => ⟨⟨(-1), (), rfl, rfl, trivial⟩, hS.F ht⟩) hS.2.2 dX12_worn_26
def vs_f_X12_seen : List Cond := .code yX12_seen cX12_seen 3 (some .int) :: ([.fieldLink RX12 90 "WallChapelsModel" "thrown" "I", .initialized RX12, .instanceMethod yX12_isCorner, .selects RX12 yX12_isCorner yX12_isCorner, .fieldLink RX12 280 "WallChapelsModel" "corners" "I", .code yX12_isCorner cX12_isCorner 2 (some .boolean), .methodLink RX12 354 yX12_isCorner] ++ (u_ws RX12 TX12 54))
theorem vs_f_X12_seen_uX12 : ∀ w ∈ u_ws RX12 TX12 54, w ∈ vs_f_X12_seen := fun _ h => List.mem_cons_of_mem _ (List.mem_append_right _ (h))
set_option maxRecDepth 20000 in
theorem g_f_X12_seen_f_X12_isCorner : GoodIn vs_f_X12_seen (wsV RX12 354 RX12 yX12_isCorner vs_f_X12_isCorner) := goodIn_r _ [7, 3, 4, 2, 6, 5, 8, 9, 10, 11, 12, 13, 14, 15, 16, 17, 18, 19, 20, 21, 22, 23, 24, 25, 26, 27, 28, 29, 30, 31, 32, 33, 34, 35, 36, 37, 38, 39, 40, 41, 42, 43, 44, 45, 46, 47, 48, 49, 50, 51, 52, 53, 54, 55, 56, 57, 58, 59, 60, 61] (by decide +kernel) (by decide +kernel)
set_option maxHeartbeats 4000000 in
set_option maxRecDepth 100000 in
theorem f_X12_seen (l : Launch) (dC : Nat → ClassId) (dI : Nat → Nat → Nat) (sz : Nat) (r : Nat → Nat) (p0 : Int32) (p1 : Int32) : Met l yX12_seen vs_f_X12_seen ({ frames := 1, cells := 0, slots := 0, locals := 21 }) (va_Pc [.ref (r 100), .int p0, .int p1] (cW dC dI [((r 100), .inr (12, mF r 0 0 0 0 0 0 0 0 0 0 0 0 0 (-1) 1))] [] sz)) (va_Qi (fun (r : Int32) (_ : Unit) => r = (-1)) (fun (_ : Unit) (t : State) => True) (va_A [((r 100), .inr (12, mF r 0 0 0 0 0 0 0 0 0 0 0 0 0 (-1) 1))] sz)) 0 0 (va_A [((r 100), .inr (12, mF r 0 0 0 0 0 0 0 0 0 0 0 0 0 (-1) 1))] sz) := by
  refine Met.ofW (cc := cX12_seen) (maxL := 3) (ret := (some .int)) (by decide) rfl ?_
  intro p e s m args below meth c s₁ B hml hv
  obtain ⟨rfl, hsz, hP, hK, hD0, hG⟩ := hv
  have hx := B.exec
  have hb := B.bytes
  have hr := B.returns
  have hts := atoms_spec (ws := vs_f_X12_seen) B.pre
  have hown : s.vm.findClass RX12 = some m.cls := findClass_of_methodNamed B.named
  have hlocks := B.notSynchronized
  have hiX12 : ∀ w ∈ u_ws RX12 TX12 54, w ∈ vs_f_X12_seen := vs_f_X12_seen_uX12
  subst hsz
  have hD := hD0.self (sz := s.heap.size)
  generalize hAe : va_A [((r 100), .inr (12, mF r 0 0 0 0 0 0 0 0 0 0 0 0 0 (-1) 1))] s.heap.size = A at hD ⊢
  have hA : ∀ q : Nat, s.heap.size ≤ q → A q := fun q h => by rw [← hAe]; exact Or.inr h
  have hS : va_S A s.heap s.heap [] := va_S.rf
  have hP : va_P (dC, dI) vwCl [((r 100), .inr (12, mF r 0 0 0 0 0 0 0 0 0 0 0 0 0 (-1) 1))] s.heap := hP
  have hl := lv_entry ([.ref (r 100), .int p0, .int p1]) (n := 3) (Nat.le_of_ble_eq_true rfl)
  rw [lg_entry_eq]
  generalize (lg_sl ([.ref (r 100), .int p0, .int p1]) ++ List.replicate (3 - (lg_sl ([.ref (r 100), .int p0, .int p1])).length) Slot.unset).toArray = ls at hl ⊢
  have hl : lv_has ls 3 [(0, .ref (r 100)), (1, .int p0), (2, .int p1)] := hl
  refine lv_aload_n hx hb dX12_seen_0 rfl (lv_at hl 0 rfl) ?_
  refine lv_iconst (v := 0) hx hb dX12_seen_1 (by decide) ?_
  refine va_put (D := (dC, dI)) (ci := 12) (v := .int 0) (ty := .int) (C := RX12) (T := TX12) (N := 54) hx hb hts hiX12 tyX12 tyX12_ok nmX12 hown hK hP hD hS 0 rfl rfl 0 (by decide) (hts (.fieldLink RX12 90 "WallChapelsModel" "thrown" "I") (by decide +kernel)) (fun _ h9 => h9) rfl (by decide +kernel) rfl rfl (Nat.le_of_ble_eq_true rfl) dX12_seen_2 (fun H locs hP hD hS => ?_)
  have hP : va_P (dC, dI) vwCl [((r 100), .inr (12, mF r 0 0 0 0 0 0 0 0 0 0 0 0 0 (-1) 1))] H := hP
  have hD : va_D A [((r 100), .inr (12, mF r 0 0 0 0 0 0 0 0 0 0 0 0 0 (-1) 1))] := hD
  refine lv_aload_n hx hb dX12_seen_5 rfl (lv_at hl 0 rfl) ?_
  refine lv_iload_n hx hb dX12_seen_6 rfl (lv_at hl 1 rfl) ?_
  have hPc := hP.sub (ws' := [((r 100), .inr (12, mF r 0 0 0 0 0 0 0 0 0 0 0 0 0 (-1) 1))]) [0] rfl
  have hDc := hD.sub (ws' := [((r 100), .inr (12, mF r 0 0 0 0 0 0 0 0 0 0 0 0 0 (-1) 1))]) [0] (by decide) rfl
  have hKc := hK.sub (tys' := []) [] rfl
  have hFc := va_free (wc := [((r 100), .inr (12, mF r 0 0 0 0 0 0 0 0 0 0 0 0 0 (-1) 1))]) hD hS hA [0] rfl
  refine va_calli (va_runV (As := [.int p0]) (rest := []) ⟨hx, hb, hml, hown, hts⟩ (f_X12_isCorner l dC dI H.size r p0) (cwV 1 hts g_f_X12_seen_f_X12_isCorner rfl rfl rfl (by decide +kernel) ⟨Nat.le_of_ble_eq_true rfl, Nat.le_of_ble_eq_true rfl⟩) ⟨cW_blind, va_recv hKc hPc (ci := 12) (q0 := 0) rfl rfl, fun U hU hW => ⟨rfl, cW_use hU hW hPc hKc hDc hG⟩⟩ rfl rfl hl.1 rfl (lv_room (Nat.le_of_ble_eq_true rfl)) dX12_seen_7 ⟨Nat.le_of_ble_eq_true rfl, Nat.le_of_ble_eq_true rfl⟩) hS (fun q _ h => hFc q h) hFc (fun r_1 u t H1 locs ht hvm hw hB hz1 hk1 hS => ?_)
  obtain ⟨hP, hD⟩ := va_join (wr := []) (w1 := []) hP hD [0] [] rfl rfl (by decide) (by decide) hk1 hFc (va_P_nil H1) va_D_nil
  generalize H1 = H at hP hS ⊢
  have hP : va_P (dC, dI) vwCl [] H := hP
  have hD : va_D A [] := hD
  refine W.widen (k := 0) (n := 0) (Nat.le_of_ble_eq_true rfl) (Nat.le_of_ble_eq_true rfl) ?_
  obtain rfl : r_1 = 0 := hw
  refine lv_if_eq (tgt := 22) hx hb dX12_seen_10 (by decide) (fun c_2 => ?_) (fun c_2 => absurd (by decide) c_2)
  refine lv_iconst (v := (-1)) hx hb dX12_seen_22 (by decide) ?_
  exact W.iret (v := (-1)) hx hb hr (fun t ht hW => ⟨⟨(-1), (), rfl, rfl, trivial⟩, hS.F ht⟩) hS.2.2 dX12_seen_23
def vs_f_X12_knocked : List Cond := .code yX12_knocked cX12_knocked 4 (some .int) :: ([.fieldLink RX12 90 "WallChapelsModel" "thrown" "I", .fieldLink RX12 283 "WallChapelsModel" "streets" "I"] ++ (u_ws RX12 TX12 54))
theorem vs_f_X12_knocked_uX12 : ∀ w ∈ u_ws RX12 TX12 54, w ∈ vs_f_X12_knocked := fun _ h => List.mem_cons_of_mem _ (List.mem_append_right _ (h))
set_option maxHeartbeats 4000000 in
set_option maxRecDepth 100000 in
theorem f_X12_knocked (l : Launch) (dC : Nat → ClassId) (dI : Nat → Nat → Nat) (sz : Nat) (r : Nat → Nat) (p0 : Int32) : Met l yX12_knocked vs_f_X12_knocked ({ frames := 0, cells := 0, slots := 0, locals := 0 }) (va_Pc [.ref (r 100), .int p0] (cW dC dI [((r 100), .inr (12, mF r 0 0 0 0 0 0 0 0 0 0 0 0 0 (-1) 1))] [] sz)) (va_Qi (fun (r : Int32) (_ : Unit) => r = (-1)) (fun (_ : Unit) (t : State) => True) (va_A [((r 100), .inr (12, mF r 0 0 0 0 0 0 0 0 0 0 0 0 0 (-1) 1))] sz)) 0 0 (va_A [((r 100), .inr (12, mF r 0 0 0 0 0 0 0 0 0 0 0 0 0 (-1) 1))] sz) := by
  refine Met.ofW (cc := cX12_knocked) (maxL := 4) (ret := (some .int)) (by decide) rfl ?_
  intro p e s m args below meth c s₁ B hml hv
  obtain ⟨rfl, hsz, hP, hK, hD0, hG⟩ := hv
  have hx := B.exec
  have hb := B.bytes
  have hr := B.returns
  have hts := atoms_spec (ws := vs_f_X12_knocked) B.pre
  have hown : s.vm.findClass RX12 = some m.cls := findClass_of_methodNamed B.named
  have hlocks := B.notSynchronized
  have hiX12 : ∀ w ∈ u_ws RX12 TX12 54, w ∈ vs_f_X12_knocked := vs_f_X12_knocked_uX12
  subst hsz
  have hD := hD0.self (sz := s.heap.size)
  generalize hAe : va_A [((r 100), .inr (12, mF r 0 0 0 0 0 0 0 0 0 0 0 0 0 (-1) 1))] s.heap.size = A at hD ⊢
  have hA : ∀ q : Nat, s.heap.size ≤ q → A q := fun q h => by rw [← hAe]; exact Or.inr h
  have hS : va_S A s.heap s.heap [] := va_S.rf
  have hP : va_P (dC, dI) vwCl [((r 100), .inr (12, mF r 0 0 0 0 0 0 0 0 0 0 0 0 0 (-1) 1))] s.heap := hP
  have hl := lv_entry ([.ref (r 100), .int p0]) (n := 4) (Nat.le_of_ble_eq_true rfl)
  rw [lg_entry_eq]
  generalize (lg_sl ([.ref (r 100), .int p0]) ++ List.replicate (4 - (lg_sl ([.ref (r 100), .int p0])).length) Slot.unset).toArray = ls at hl ⊢
  have hl : lv_has ls 4 [(0, .ref (r 100)), (1, .int p0)] := hl
  refine lv_aload_n hx hb dX12_knocked_0 rfl (lv_at hl 0 rfl) ?_
  refine lv_iconst (v := 0) hx hb dX12_knocked_1 (by decide) ?_
  refine va_put (D := (dC, dI)) (ci := 12) (v := .int 0) (ty := .int) (C := RX12) (T := TX12) (N := 54) hx hb hts hiX12 tyX12 tyX12_ok nmX12 hown hK hP hD hS 0 rfl rfl 0 (by decide) (hts (.fieldLink RX12 90 "WallChapelsModel" "thrown" "I") (by decide +kernel)) (fun _ h9 => h9) rfl (by decide +kernel) rfl rfl (Nat.le_of_ble_eq_true rfl) dX12_knocked_2 (fun H locs hP hD hS => ?_)
  have hP : va_P (dC, dI) vwCl [((r 100), .inr (12, mF r 0 0 0 0 0 0 0 0 0 0 0 0 0 (-1) 1))] H := hP
  have hD : va_D A [((r 100), .inr (12, mF r 0 0 0 0 0 0 0 0 0 0 0 0 0 (-1) 1))] := hD
  refine lv_aload_n hx hb dX12_knocked_5 rfl (lv_at hl 0 rfl) ?_
  refine va_get (D := (dC, dI)) (ci := 12) (v := .int 0) (C := RX12) (T := TX12) (N := 54) hx hb hts hiX12 hown hK hP 0 rfl rfl 26 (by decide) (hts (.fieldLink RX12 283 "WallChapelsModel" "streets" "I") (by decide +kernel)) (fun _ h9 => h9) rfl dX12_knocked_6 ?_
  refine lv_if_eq (tgt := 17) hx hb dX12_knocked_9 (by decide) (fun c_1 => ?_) (fun c_1 => absurd (by decide) c_1)
  refine lv_iconst (v := (-1)) hx hb dX12_knocked_17 (by decide) ?_
  exact W.iret (v := (-1)) hx hb hr (fun t ht hW => ⟨⟨(-1), (), rfl, rfl, trivial⟩, hS.F ht⟩) hS.2.2 dX12_knocked_18
def vs_f_X12_ask : List Cond := .code yX12_ask cX12_ask 7 (some .int) :: ([.fieldLink RX12 90 "WallChapelsModel" "thrown" "I", .fieldLink RX12 283 "WallChapelsModel" "streets" "I"] ++ (u_ws RX12 TX12 54))
theorem vs_f_X12_ask_uX12 : ∀ w ∈ u_ws RX12 TX12 54, w ∈ vs_f_X12_ask := fun _ h => List.mem_cons_of_mem _ (List.mem_append_right _ (h))
set_option maxHeartbeats 4000000 in
set_option maxRecDepth 100000 in
theorem f_X12_ask (l : Launch) (dC : Nat → ClassId) (dI : Nat → Nat → Nat) (sz : Nat) (r : Nat → Nat) : Met l yX12_ask vs_f_X12_ask ({ frames := 0, cells := 0, slots := 0, locals := 0 }) (va_Pc [.ref (r 100)] (cW dC dI [((r 100), .inr (12, mF r 0 0 0 0 0 0 0 0 0 0 0 0 0 (-1) 1))] [] sz)) (va_Qi (fun (r : Int32) (_ : Unit) => r = (-1)) (fun (_ : Unit) (t : State) => True) (va_A [((r 100), .inr (12, mF r 0 0 0 0 0 0 0 0 0 0 0 0 0 (-1) 1))] sz)) 0 0 (va_A [((r 100), .inr (12, mF r 0 0 0 0 0 0 0 0 0 0 0 0 0 (-1) 1))] sz) := by
  refine Met.ofW (cc := cX12_ask) (maxL := 7) (ret := (some .int)) (by decide) rfl ?_
  intro p e s m args below meth c s₁ B hml hv
  obtain ⟨rfl, hsz, hP, hK, hD0, hG⟩ := hv
  have hx := B.exec
  have hb := B.bytes
  have hr := B.returns
  have hts := atoms_spec (ws := vs_f_X12_ask) B.pre
  have hown : s.vm.findClass RX12 = some m.cls := findClass_of_methodNamed B.named
  have hlocks := B.notSynchronized
  have hiX12 : ∀ w ∈ u_ws RX12 TX12 54, w ∈ vs_f_X12_ask := vs_f_X12_ask_uX12
  subst hsz
  have hD := hD0.self (sz := s.heap.size)
  generalize hAe : va_A [((r 100), .inr (12, mF r 0 0 0 0 0 0 0 0 0 0 0 0 0 (-1) 1))] s.heap.size = A at hD ⊢
  have hA : ∀ q : Nat, s.heap.size ≤ q → A q := fun q h => by rw [← hAe]; exact Or.inr h
  have hS : va_S A s.heap s.heap [] := va_S.rf
  have hP : va_P (dC, dI) vwCl [((r 100), .inr (12, mF r 0 0 0 0 0 0 0 0 0 0 0 0 0 (-1) 1))] s.heap := hP
  have hl := lv_entry ([.ref (r 100)]) (n := 7) (Nat.le_of_ble_eq_true rfl)
  rw [lg_entry_eq]
  generalize (lg_sl ([.ref (r 100)]) ++ List.replicate (7 - (lg_sl ([.ref (r 100)])).length) Slot.unset).toArray = ls at hl ⊢
  have hl : lv_has ls 7 [(0, .ref (r 100))] := hl
  refine lv_aload_n hx hb dX12_ask_0 rfl (lv_at hl 0 rfl) ?_
  refine lv_iconst (v := 0) hx hb dX12_ask_1 (by decide) ?_
  refine va_put (D := (dC, dI)) (ci := 12) (v := .int 0) (ty := .int) (C := RX12) (T := TX12) (N := 54) hx hb hts hiX12 tyX12 tyX12_ok nmX12 hown hK hP hD hS 0 rfl rfl 0 (by decide) (hts (.fieldLink RX12 90 "WallChapelsModel" "thrown" "I") (by decide +kernel)) (fun _ h9 => h9) rfl (by decide +kernel) rfl rfl (Nat.le_of_ble_eq_true rfl) dX12_ask_2 (fun H locs hP hD hS => ?_)
  have hP : va_P (dC, dI) vwCl [((r 100), .inr (12, mF r 0 0 0 0 0 0 0 0 0 0 0 0 0 (-1) 1))] H := hP
  have hD : va_D A [((r 100), .inr (12, mF r 0 0 0 0 0 0 0 0 0 0 0 0 0 (-1) 1))] := hD
  refine lv_aload_n hx hb dX12_ask_5 rfl (lv_at hl 0 rfl) ?_
  refine va_get (D := (dC, dI)) (ci := 12) (v := .int 0) (C := RX12) (T := TX12) (N := 54) hx hb hts hiX12 hown hK hP 0 rfl rfl 26 (by decide) (hts (.fieldLink RX12 283 "WallChapelsModel" "streets" "I") (by decide +kernel)) (fun _ h9 => h9) rfl dX12_ask_6 ?_
  refine lv_if_ne (tgt := 14) hx hb dX12_ask_9 (by decide) (fun c_1 => absurd c_1 (by decide)) (fun c_1 => ?_)
  refine lv_iconst (v := (-1)) hx hb dX12_ask_12 (by decide) ?_
  exact W.iret (v := (-1)) hx hb hr (fun t ht hW => ⟨⟨(-1), (), rfl, rfl, trivial⟩, hS.F ht⟩) hS.2.2 dX12_ask_13
def vs_f_X12_walls : List Cond := .code yX12_walls cX12_walls 4 (some .int) :: ([.fieldLink RX12 90 "WallChapelsModel" "thrown" "I", .fieldLink RX12 283 "WallChapelsModel" "streets" "I"] ++ (u_ws RX12 TX12 54))
theorem vs_f_X12_walls_uX12 : ∀ w ∈ u_ws RX12 TX12 54, w ∈ vs_f_X12_walls := fun _ h => List.mem_cons_of_mem _ (List.mem_append_right _ (h))
set_option maxHeartbeats 4000000 in
set_option maxRecDepth 100000 in
theorem f_X12_walls (l : Launch) (dC : Nat → ClassId) (dI : Nat → Nat → Nat) (sz : Nat) (r : Nat → Nat) (p0 : Int32) : Met l yX12_walls vs_f_X12_walls ({ frames := 0, cells := 0, slots := 0, locals := 0 }) (va_Pc [.ref (r 100), .int p0] (cW dC dI [((r 100), .inr (12, mF r 0 0 0 0 0 0 0 0 0 0 0 0 0 (-1) 1))] [] sz)) (va_Qi (fun (r : Int32) (_ : Unit) => r = (-1)) (fun (_ : Unit) (t : State) => True) (va_A [((r 100), .inr (12, mF r 0 0 0 0 0 0 0 0 0 0 0 0 0 (-1) 1))] sz)) 0 0 (va_A [((r 100), .inr (12, mF r 0 0 0 0 0 0 0 0 0 0 0 0 0 (-1) 1))] sz) := by
  refine Met.ofW (cc := cX12_walls) (maxL := 4) (ret := (some .int)) (by decide) rfl ?_
  intro p e s m args below meth c s₁ B hml hv
  obtain ⟨rfl, hsz, hP, hK, hD0, hG⟩ := hv
  have hx := B.exec
  have hb := B.bytes
  have hr := B.returns
  have hts := atoms_spec (ws := vs_f_X12_walls) B.pre
  have hown : s.vm.findClass RX12 = some m.cls := findClass_of_methodNamed B.named
  have hlocks := B.notSynchronized
  have hiX12 : ∀ w ∈ u_ws RX12 TX12 54, w ∈ vs_f_X12_walls := vs_f_X12_walls_uX12
  subst hsz
  have hD := hD0.self (sz := s.heap.size)
  generalize hAe : va_A [((r 100), .inr (12, mF r 0 0 0 0 0 0 0 0 0 0 0 0 0 (-1) 1))] s.heap.size = A at hD ⊢
  have hA : ∀ q : Nat, s.heap.size ≤ q → A q := fun q h => by rw [← hAe]; exact Or.inr h
  have hS : va_S A s.heap s.heap [] := va_S.rf
  have hP : va_P (dC, dI) vwCl [((r 100), .inr (12, mF r 0 0 0 0 0 0 0 0 0 0 0 0 0 (-1) 1))] s.heap := hP
  have hl := lv_entry ([.ref (r 100), .int p0]) (n := 4) (Nat.le_of_ble_eq_true rfl)
  rw [lg_entry_eq]
  generalize (lg_sl ([.ref (r 100), .int p0]) ++ List.replicate (4 - (lg_sl ([.ref (r 100), .int p0])).length) Slot.unset).toArray = ls at hl ⊢
  have hl : lv_has ls 4 [(0, .ref (r 100)), (1, .int p0)] := hl
  refine lv_aload_n hx hb dX12_walls_0 rfl (lv_at hl 0 rfl) ?_
  refine lv_iconst (v := 0) hx hb dX12_walls_1 (by decide) ?_
  refine va_put (D := (dC, dI)) (ci := 12) (v := .int 0) (ty := .int) (C := RX12) (T := TX12) (N := 54) hx hb hts hiX12 tyX12 tyX12_ok nmX12 hown hK hP hD hS 0 rfl rfl 0 (by decide) (hts (.fieldLink RX12 90 "WallChapelsModel" "thrown" "I") (by decide +kernel)) (fun _ h9 => h9) rfl (by decide +kernel) rfl rfl (Nat.le_of_ble_eq_true rfl) dX12_walls_2 (fun H locs hP hD hS => ?_)
  have hP : va_P (dC, dI) vwCl [((r 100), .inr (12, mF r 0 0 0 0 0 0 0 0 0 0 0 0 0 (-1) 1))] H := hP
  have hD : va_D A [((r 100), .inr (12, mF r 0 0 0 0 0 0 0 0 0 0 0 0 0 (-1) 1))] := hD
  refine lv_aload_n hx hb dX12_walls_5 rfl (lv_at hl 0 rfl) ?_
  refine va_get (D := (dC, dI)) (ci := 12) (v := .int 0) (C := RX12) (T := TX12) (N := 54) hx hb hts hiX12 hown hK hP 0 rfl rfl 26 (by decide) (hts (.fieldLink RX12 283 "WallChapelsModel" "streets" "I") (by decide +kernel)) (fun _ h9 => h9) rfl dX12_walls_6 ?_
  refine lv_if_eq (tgt := 30) hx hb dX12_walls_9 (by decide) (fun c_1 => ?_) (fun c_1 => absurd (by decide) c_1)
  refine lv_iconst (v := (-1)) hx hb dX12_walls_30 (by decide) ?_
  exact W.iret (v := (-1)) hx hb hr (fun t ht hW => ⟨⟨(-1), (), rfl, rfl, trivial⟩, hS.F ht⟩) hS.2.2 dX12_walls_31
def vs_f_X12_parted : List Cond := .code yX12_parted cX12_parted 5 (some .int) :: ([.fieldLink RX12 90 "WallChapelsModel" "thrown" "I", .initialized RX12, .instanceMethod yX12_isCorner, .selects RX12 yX12_isCorner yX12_isCorner, .fieldLink RX12 280 "WallChapelsModel" "corners" "I", .code yX12_isCorner cX12_isCorner 2 (some .boolean), .methodLink RX12 354 yX12_isCorner] ++ (u_ws RX12 TX12 54))
theorem vs_f_X12_parted_uX12 : ∀ w ∈ u_ws RX12 TX12 54, w ∈ vs_f_X12_parted := fun _ h => List.mem_cons_of_mem _ (List.mem_append_right _ (h))
set_option maxRecDepth 20000 in
theorem g_f_X12_parted_f_X12_isCorner : GoodIn vs_f_X12_parted (wsV RX12 354 RX12 yX12_isCorner vs_f_X12_isCorner) := goodIn_r _ [7, 3, 4, 2, 6, 5, 8, 9, 10, 11, 12, 13, 14, 15, 16, 17, 18, 19, 20, 21, 22, 23, 24, 25, 26, 27, 28, 29, 30, 31, 32, 33, 34, 35, 36, 37, 38, 39, 40, 41, 42, 43, 44, 45, 46, 47, 48, 49, 50, 51, 52, 53, 54, 55, 56, 57, 58, 59, 60, 61] (by decide +kernel) (by decide +kernel)
set_option maxHeartbeats 4000000 in
set_option maxRecDepth 100000 in
theorem f_X12_parted (l : Launch) (dC : Nat → ClassId) (dI : Nat → Nat → Nat) (sz : Nat) (r : Nat → Nat) (p0 : Int32) (p1 : Int32) : Met l yX12_parted vs_f_X12_parted ({ frames := 1, cells := 0, slots := 0, locals := 21 }) (va_Pc [.ref (r 100), .int p0, .int p1] (cW dC dI [((r 100), .inr (12, mF r 0 0 0 0 0 0 0 0 0 0 0 0 0 (-1) 1))] [] sz)) (va_Qi (fun (r : Int32) (_ : Unit) => r = (-1)) (fun (_ : Unit) (t : State) => True) (va_A [((r 100), .inr (12, mF r 0 0 0 0 0 0 0 0 0 0 0 0 0 (-1) 1))] sz)) 0 0 (va_A [((r 100), .inr (12, mF r 0 0 0 0 0 0 0 0 0 0 0 0 0 (-1) 1))] sz) := by
  refine Met.ofW (cc := cX12_parted) (maxL := 5) (ret := (some .int)) (by decide) rfl ?_
  intro p e s m args below meth c s₁ B hml hv
  obtain ⟨rfl, hsz, hP, hK, hD0, hG⟩ := hv
  have hx := B.exec
  have hb := B.bytes
  have hr := B.returns
  have hts := atoms_spec (ws := vs_f_X12_parted) B.pre
  have hown : s.vm.findClass RX12 = some m.cls := findClass_of_methodNamed B.named
  have hlocks := B.notSynchronized
  have hiX12 : ∀ w ∈ u_ws RX12 TX12 54, w ∈ vs_f_X12_parted := vs_f_X12_parted_uX12
  subst hsz
  have hD := hD0.self (sz := s.heap.size)
  generalize hAe : va_A [((r 100), .inr (12, mF r 0 0 0 0 0 0 0 0 0 0 0 0 0 (-1) 1))] s.heap.size = A at hD ⊢
  have hA : ∀ q : Nat, s.heap.size ≤ q → A q := fun q h => by rw [← hAe]; exact Or.inr h
  have hS : va_S A s.heap s.heap [] := va_S.rf
  have hP : va_P (dC, dI) vwCl [((r 100), .inr (12, mF r 0 0 0 0 0 0 0 0 0 0 0 0 0 (-1) 1))] s.heap := hP
  have hl := lv_entry ([.ref (r 100), .int p0, .int p1]) (n := 5) (Nat.le_of_ble_eq_true rfl)
  rw [lg_entry_eq]
  generalize (lg_sl ([.ref (r 100), .int p0, .int p1]) ++ List.replicate (5 - (lg_sl ([.ref (r 100), .int p0, .int p1])).length) Slot.unset).toArray = ls at hl ⊢
  have hl : lv_has ls 5 [(0, .ref (r 100)), (1, .int p0), (2, .int p1)] := hl
  refine lv_aload_n hx hb dX12_parted_0 rfl (lv_at hl 0 rfl) ?_
  refine lv_iconst (v := 0) hx hb dX12_parted_1 (by decide) ?_
  refine va_put (D := (dC, dI)) (ci := 12) (v := .int 0) (ty := .int) (C := RX12) (T := TX12) (N := 54) hx hb hts hiX12 tyX12 tyX12_ok nmX12 hown hK hP hD hS 0 rfl rfl 0 (by decide) (hts (.fieldLink RX12 90 "WallChapelsModel" "thrown" "I") (by decide +kernel)) (fun _ h9 => h9) rfl (by decide +kernel) rfl rfl (Nat.le_of_ble_eq_true rfl) dX12_parted_2 (fun H locs hP hD hS => ?_)
  have hP : va_P (dC, dI) vwCl [((r 100), .inr (12, mF r 0 0 0 0 0 0 0 0 0 0 0 0 0 (-1) 1))] H := hP
  have hD : va_D A [((r 100), .inr (12, mF r 0 0 0 0 0 0 0 0 0 0 0 0 0 (-1) 1))] := hD
  refine lv_aload_n hx hb dX12_parted_5 rfl (lv_at hl 0 rfl) ?_
  refine lv_iload_n hx hb dX12_parted_6 rfl (lv_at hl 1 rfl) ?_
  have hPc := hP.sub (ws' := [((r 100), .inr (12, mF r 0 0 0 0 0 0 0 0 0 0 0 0 0 (-1) 1))]) [0] rfl
  have hDc := hD.sub (ws' := [((r 100), .inr (12, mF r 0 0 0 0 0 0 0 0 0 0 0 0 0 (-1) 1))]) [0] (by decide) rfl
  have hKc := hK.sub (tys' := []) [] rfl
  have hFc := va_free (wc := [((r 100), .inr (12, mF r 0 0 0 0 0 0 0 0 0 0 0 0 0 (-1) 1))]) hD hS hA [0] rfl
  refine va_calli (va_runV (As := [.int p0]) (rest := []) ⟨hx, hb, hml, hown, hts⟩ (f_X12_isCorner l dC dI H.size r p0) (cwV 1 hts g_f_X12_parted_f_X12_isCorner rfl rfl rfl (by decide +kernel) ⟨Nat.le_of_ble_eq_true rfl, Nat.le_of_ble_eq_true rfl⟩) ⟨cW_blind, va_recv hKc hPc (ci := 12) (q0 := 0) rfl rfl, fun U hU hW => ⟨rfl, cW_use hU hW hPc hKc hDc hG⟩⟩ rfl rfl hl.1 rfl (lv_room (Nat.le_of_ble_eq_true rfl)) dX12_parted_7 ⟨Nat.le_of_ble_eq_true rfl, Nat.le_of_ble_eq_true rfl⟩) hS (fun q _ h => hFc q h) hFc (fun r_1 u t H1 locs ht hvm hw hB hz1 hk1 hS => ?_)
  obtain ⟨hP, hD⟩ := va_join (wr := []) (w1 := []) hP hD [0] [] rfl rfl (by decide) (by decide) hk1 hFc (va_P_nil H1) va_D_nil
  generalize H1 = H at hP hS ⊢
  have hP : va_P (dC, dI) vwCl [] H := hP
  have hD : va_D A [] := hD
  refine W.widen (k := 0) (n := 0) (Nat.le_of_ble_eq_true rfl) (Nat.le_of_ble_eq_true rfl) ?_
  obtain rfl : r_1 = 0 := hw
  refine lv_if_eq (tgt := 26) hx hb dX12_parted_10 (by decide) (fun c_2 => ?_) (fun c_2 => absurd (by decide) c_2)
  refine lv_iconst (v := (-1)) hx hb dX12_parted_26 (by decide) ?_
  exact W.iret (v := (-1)) hx hb hr (fun t ht hW => ⟨⟨(-1), (), rfl, rfl, trivial⟩, hS.F ht⟩) hS.2.2 dX12_parted_27
def vs_f_X12_goes : List Cond := .code yX12_goes cX12_goes 2 (some .int) :: ([.fieldLink RX12 90 "WallChapelsModel" "thrown" "I", .initialized RX12, .instanceMethod yX12_isWalker, .selects RX12 yX12_isWalker yX12_isWalker, .fieldLink RX12 286 "WallChapelsModel" "walkers" "I", .code yX12_isWalker cX12_isWalker 2 (some .boolean), .methodLink RX12 362 yX12_isWalker] ++ (u_ws RX12 TX12 54))
theorem vs_f_X12_goes_uX12 : ∀ w ∈ u_ws RX12 TX12 54, w ∈ vs_f_X12_goes := fun _ h => List.mem_cons_of_mem _ (List.mem_append_right _ (h))
set_option maxRecDepth 20000 in
theorem g_f_X12_goes_f_X12_isWalker : GoodIn vs_f_X12_goes (wsV RX12 362 RX12 yX12_isWalker vs_f_X12_isWalker) := goodIn_r _ [7, 3, 4, 2, 6, 5, 8, 9, 10, 11, 12, 13, 14, 15, 16, 17, 18, 19, 20, 21, 22, 23, 24, 25, 26, 27, 28, 29, 30, 31, 32, 33, 34, 35, 36, 37, 38, 39, 40, 41, 42, 43, 44, 45, 46, 47, 48, 49, 50, 51, 52, 53, 54, 55, 56, 57, 58, 59, 60, 61] (by decide +kernel) (by decide +kernel)
set_option maxHeartbeats 4000000 in
set_option maxRecDepth 100000 in
theorem f_X12_goes (l : Launch) (dC : Nat → ClassId) (dI : Nat → Nat → Nat) (sz : Nat) (r : Nat → Nat) (p0 : Int32) : Met l yX12_goes vs_f_X12_goes ({ frames := 1, cells := 0, slots := 0, locals := 21 }) (va_Pc [.ref (r 100), .int p0] (cW dC dI [((r 100), .inr (12, mF r 0 0 0 0 0 0 0 0 0 0 0 0 0 (-1) 1))] [] sz)) (va_Qi (fun (r : Int32) (_ : Unit) => r = (-1)) (fun (_ : Unit) (t : State) => True) (va_A [((r 100), .inr (12, mF r 0 0 0 0 0 0 0 0 0 0 0 0 0 (-1) 1))] sz)) 0 0 (va_A [((r 100), .inr (12, mF r 0 0 0 0 0 0 0 0 0 0 0 0 0 (-1) 1))] sz) := by
  refine Met.ofW (cc := cX12_goes) (maxL := 2) (ret := (some .int)) (by decide) rfl ?_
  intro p e s m args below meth c s₁ B hml hv
  obtain ⟨rfl, hsz, hP, hK, hD0, hG⟩ := hv
  have hx := B.exec
  have hb := B.bytes
  have hr := B.returns
  have hts := atoms_spec (ws := vs_f_X12_goes) B.pre
  have hown : s.vm.findClass RX12 = some m.cls := findClass_of_methodNamed B.named
  have hlocks := B.notSynchronized
  have hiX12 : ∀ w ∈ u_ws RX12 TX12 54, w ∈ vs_f_X12_goes := vs_f_X12_goes_uX12
  subst hsz
  have hD := hD0.self (sz := s.heap.size)
  generalize hAe : va_A [((r 100), .inr (12, mF r 0 0 0 0 0 0 0 0 0 0 0 0 0 (-1) 1))] s.heap.size = A at hD ⊢
  have hA : ∀ q : Nat, s.heap.size ≤ q → A q := fun q h => by rw [← hAe]; exact Or.inr h
  have hS : va_S A s.heap s.heap [] := va_S.rf
  have hP : va_P (dC, dI) vwCl [((r 100), .inr (12, mF r 0 0 0 0 0 0 0 0 0 0 0 0 0 (-1) 1))] s.heap := hP
  have hl := lv_entry ([.ref (r 100), .int p0]) (n := 2) (Nat.le_of_ble_eq_true rfl)
  rw [lg_entry_eq]
  generalize (lg_sl ([.ref (r 100), .int p0]) ++ List.replicate (2 - (lg_sl ([.ref (r 100), .int p0])).length) Slot.unset).toArray = ls at hl ⊢
  have hl : lv_has ls 2 [(0, .ref (r 100)), (1, .int p0)] := hl
  refine lv_aload_n hx hb dX12_goes_0 rfl (lv_at hl 0 rfl) ?_
  refine lv_iconst (v := 0) hx hb dX12_goes_1 (by decide) ?_
  refine va_put (D := (dC, dI)) (ci := 12) (v := .int 0) (ty := .int) (C := RX12) (T := TX12) (N := 54) hx hb hts hiX12 tyX12 tyX12_ok nmX12 hown hK hP hD hS 0 rfl rfl 0 (by decide) (hts (.fieldLink RX12 90 "WallChapelsModel" "thrown" "I") (by decide +kernel)) (fun _ h9 => h9) rfl (by decide +kernel) rfl rfl (Nat.le_of_ble_eq_true rfl) dX12_goes_2 (fun H locs hP hD hS => ?_)
  have hP : va_P (dC, dI) vwCl [((r 100), .inr (12, mF r 0 0 0 0 0 0 0 0 0 0 0 0 0 (-1) 1))] H := hP
  have hD : va_D A [((r 100), .inr (12, mF r 0 0 0 0 0 0 0 0 0 0 0 0 0 (-1) 1))] := hD
  refine lv_aload_n hx hb dX12_goes_5 rfl (lv_at hl 0 rfl) ?_
  refine lv_iload_n hx hb dX12_goes_6 rfl (lv_at hl 1 rfl) ?_
  have hPc := hP.sub (ws' := [((r 100), .inr (12, mF r 0 0 0 0 0 0 0 0 0 0 0 0 0 (-1) 1))]) [0] rfl
  have hDc := hD.sub (ws' := [((r 100), .inr (12, mF r 0 0 0 0 0 0 0 0 0 0 0 0 0 (-1) 1))]) [0] (by decide) rfl
  have hKc := hK.sub (tys' := []) [] rfl
  have hFc := va_free (wc := [((r 100), .inr (12, mF r 0 0 0 0 0 0 0 0 0 0 0 0 0 (-1) 1))]) hD hS hA [0] rfl
  refine va_calli (va_runV (As := [.int p0]) (rest := []) ⟨hx, hb, hml, hown, hts⟩ (f_X12_isWalker l dC dI H.size r p0) (cwV 1 hts g_f_X12_goes_f_X12_isWalker rfl rfl rfl (by decide +kernel) ⟨Nat.le_of_ble_eq_true rfl, Nat.le_of_ble_eq_true rfl⟩) ⟨cW_blind, va_recv hKc hPc (ci := 12) (q0 := 0) rfl rfl, fun U hU hW => ⟨rfl, cW_use hU hW hPc hKc hDc hG⟩⟩ rfl rfl hl.1 rfl (lv_room (Nat.le_of_ble_eq_true rfl)) dX12_goes_7 ⟨Nat.le_of_ble_eq_true rfl, Nat.le_of_ble_eq_true rfl⟩) hS (fun q _ h => hFc q h) hFc (fun r_1 u t H1 locs ht hvm hw hB hz1 hk1 hS => ?_)
  obtain ⟨hP, hD⟩ := va_join (wr := []) (w1 := []) hP hD [0] [] rfl rfl (by decide) (by decide) hk1 hFc (va_P_nil H1) va_D_nil
  generalize H1 = H at hP hS ⊢
  have hP : va_P (dC, dI) vwCl [] H := hP
  have hD : va_D A [] := hD
  refine W.widen (k := 0) (n := 0) (Nat.le_of_ble_eq_true rfl) (Nat.le_of_ble_eq_true rfl) ?_
  obtain rfl : r_1 = 0 := hw
  refine lv_if_ne (tgt := 15) hx hb dX12_goes_10 (by decide) (fun c_2 => absurd c_2 (by decide)) (fun c_2 => ?_)
  refine lv_iconst (v := (-1)) hx hb dX12_goes_13 (by decide) ?_
  exact W.iret (v := (-1)) hx hb hr (fun t ht hW => ⟨⟨(-1), (), rfl, rfl, trivial⟩, hS.F ht⟩) hS.2.2 dX12_goes_14
def vs_f_X12_goers : List Cond := .code yX12_goers cX12_goers 4 (some .int) :: ([.fieldLink RX12 90 "WallChapelsModel" "thrown" "I", .initialized RX12, .instanceMethod yX12_isCorner, .selects RX12 yX12_isCorner yX12_isCorner, .fieldLink RX12 280 "WallChapelsModel" "corners" "I", .code yX12_isCorner cX12_isCorner 2 (some .boolean), .methodLink RX12 354 yX12_isCorner] ++ (u_ws RX12 TX12 54))
theorem vs_f_X12_goers_uX12 : ∀ w ∈ u_ws RX12 TX12 54, w ∈ vs_f_X12_goers := fun _ h => List.mem_cons_of_mem _ (List.mem_append_right _ (h))
set_option maxRecDepth 20000 in
theorem g_f_X12_goers_f_X12_isCorner : GoodIn vs_f_X12_goers (wsV RX12 354 RX12 yX12_isCorner vs_f_X12_isCorner) := goodIn_r _ [7, 3, 4, 2, 6, 5, 8, 9, 10, 11, 12, 13, 14, 15, 16, 17, 18, 19, 20, 21, 22, 23, 24, 25, 26, 27, 28, 29, 30, 31, 32, 33, 34, 35, 36, 37, 38, 39, 40, 41, 42, 43, 44, 45, 46, 47, 48, 49, 50, 51, 52, 53, 54, 55, 56, 57, 58, 59, 60, 61] (by decide +kernel) (by decide +kernel)
set_option maxHeartbeats 4000000 in
set_option maxRecDepth 100000 in
theorem f_X12_goers (l : Launch) (dC : Nat → ClassId) (dI : Nat → Nat → Nat) (sz : Nat) (r : Nat → Nat) (p0 : Int32) : Met l yX12_goers vs_f_X12_goers ({ frames := 1, cells := 0, slots := 0, locals := 21 }) (va_Pc [.ref (r 100), .int p0] (cW dC dI [((r 100), .inr (12, mF r 0 0 0 0 0 0 0 0 0 0 0 0 0 (-1) 1))] [] sz)) (va_Qi (fun (r : Int32) (_ : Unit) => r = (-1)) (fun (_ : Unit) (t : State) => True) (va_A [((r 100), .inr (12, mF r 0 0 0 0 0 0 0 0 0 0 0 0 0 (-1) 1))] sz)) 0 0 (va_A [((r 100), .inr (12, mF r 0 0 0 0 0 0 0 0 0 0 0 0 0 (-1) 1))] sz) := by
  refine Met.ofW (cc := cX12_goers) (maxL := 4) (ret := (some .int)) (by decide) rfl ?_
  intro p e s m args below meth c s₁ B hml hv
  obtain ⟨rfl, hsz, hP, hK, hD0, hG⟩ := hv
  have hx := B.exec
  have hb := B.bytes
  have hr := B.returns
  have hts := atoms_spec (ws := vs_f_X12_goers) B.pre
  have hown : s.vm.findClass RX12 = some m.cls := findClass_of_methodNamed B.named
  have hlocks := B.notSynchronized
  have hiX12 : ∀ w ∈ u_ws RX12 TX12 54, w ∈ vs_f_X12_goers := vs_f_X12_goers_uX12
  subst hsz
  have hD := hD0.self (sz := s.heap.size)
  generalize hAe : va_A [((r 100), .inr (12, mF r 0 0 0 0 0 0 0 0 0 0 0 0 0 (-1) 1))] s.heap.size = A at hD ⊢
  have hA : ∀ q : Nat, s.heap.size ≤ q → A q := fun q h => by rw [← hAe]; exact Or.inr h
  have hS : va_S A s.heap s.heap [] := va_S.rf
  have hP : va_P (dC, dI) vwCl [((r 100), .inr (12, mF r 0 0 0 0 0 0 0 0 0 0 0 0 0 (-1) 1))] s.heap := hP
  have hl := lv_entry ([.ref (r 100), .int p0]) (n := 4) (Nat.le_of_ble_eq_true rfl)
  rw [lg_entry_eq]
  generalize (lg_sl ([.ref (r 100), .int p0]) ++ List.replicate (4 - (lg_sl ([.ref (r 100), .int p0])).length) Slot.unset).toArray = ls at hl ⊢
  have hl : lv_has ls 4 [(0, .ref (r 100)), (1, .int p0)] := hl
  refine lv_aload_n hx hb dX12_goers_0 rfl (lv_at hl 0 rfl) ?_
  refine lv_iconst (v := 0) hx hb dX12_goers_1 (by decide) ?_
  refine va_put (D := (dC, dI)) (ci := 12) (v := .int 0) (ty := .int) (C := RX12) (T := TX12) (N := 54) hx hb hts hiX12 tyX12 tyX12_ok nmX12 hown hK hP hD hS 0 rfl rfl 0 (by decide) (hts (.fieldLink RX12 90 "WallChapelsModel" "thrown" "I") (by decide +kernel)) (fun _ h9 => h9) rfl (by decide +kernel) rfl rfl (Nat.le_of_ble_eq_true rfl) dX12_goers_2 (fun H locs hP hD hS => ?_)
  have hP : va_P (dC, dI) vwCl [((r 100), .inr (12, mF r 0 0 0 0 0 0 0 0 0 0 0 0 0 (-1) 1))] H := hP
  have hD : va_D A [((r 100), .inr (12, mF r 0 0 0 0 0 0 0 0 0 0 0 0 0 (-1) 1))] := hD
  refine lv_aload_n hx hb dX12_goers_5 rfl (lv_at hl 0 rfl) ?_
  refine lv_iload_n hx hb dX12_goers_6 rfl (lv_at hl 1 rfl) ?_
  have hPc := hP.sub (ws' := [((r 100), .inr (12, mF r 0 0 0 0 0 0 0 0 0 0 0 0 0 (-1) 1))]) [0] rfl
  have hDc := hD.sub (ws' := [((r 100), .inr (12, mF r 0 0 0 0 0 0 0 0 0 0 0 0 0 (-1) 1))]) [0] (by decide) rfl
  have hKc := hK.sub (tys' := []) [] rfl
  have hFc := va_free (wc := [((r 100), .inr (12, mF r 0 0 0 0 0 0 0 0 0 0 0 0 0 (-1) 1))]) hD hS hA [0] rfl
  refine va_calli (va_runV (As := [.int p0]) (rest := []) ⟨hx, hb, hml, hown, hts⟩ (f_X12_isCorner l dC dI H.size r p0) (cwV 1 hts g_f_X12_goers_f_X12_isCorner rfl rfl rfl (by decide +kernel) ⟨Nat.le_of_ble_eq_true rfl, Nat.le_of_ble_eq_true rfl⟩) ⟨cW_blind, va_recv hKc hPc (ci := 12) (q0 := 0) rfl rfl, fun U hU hW => ⟨rfl, cW_use hU hW hPc hKc hDc hG⟩⟩ rfl rfl hl.1 rfl (lv_room (Nat.le_of_ble_eq_true rfl)) dX12_goers_7 ⟨Nat.le_of_ble_eq_true rfl, Nat.le_of_ble_eq_true rfl⟩) hS (fun q _ h => hFc q h) hFc (fun r_1 u t H1 locs ht hvm hw hB hz1 hk1 hS => ?_)
  obtain ⟨hP, hD⟩ := va_join (wr := []) (w1 := []) hP hD [0] [] rfl rfl (by decide) (by decide) hk1 hFc (va_P_nil H1) va_D_nil
  generalize H1 = H at hP hS ⊢
  have hP : va_P (dC, dI) vwCl [] H := hP
  have hD : va_D A [] := hD
  refine W.widen (k := 0) (n := 0) (Nat.le_of_ble_eq_true rfl) (Nat.le_of_ble_eq_true rfl) ?_
  obtain rfl : r_1 = 0 := hw
  refine lv_if_ne (tgt := 15) hx hb dX12_goers_10 (by decide) (fun c_2 => absurd c_2 (by decide)) (fun c_2 => ?_)
  refine lv_iconst (v := (-1)) hx hb dX12_goers_13 (by decide) ?_
  exact W.iret (v := (-1)) hx hb hr (fun t ht hW => ⟨⟨(-1), (), rfl, rfl, trivial⟩, hS.F ht⟩) hS.2.2 dX12_goers_14
def vs_f_X12_rests : List Cond := .code yX12_rests cX12_rests 9 (some .int) :: ([.fieldLink RX12 90 "WallChapelsModel" "thrown" "I", .initialized RX12, .instanceMethod yX12_isGame, .selects RX12 yX12_isGame yX12_isGame, .instanceMethod yX12_isWalker, .selects RX12 yX12_isWalker yX12_isWalker, .fieldLink RX12 286 "WallChapelsModel" "walkers" "I", .code yX12_isWalker cX12_isWalker 2 (some .boolean), .methodLink RX12 362 yX12_isWalker, .code yX12_isGame cX12_isGame 3 (some .boolean), .methodLink RX12 447 yX12_isGame] ++ (u_ws RX12 TX12 54))
theorem vs_f_X12_rests_uX12 : ∀ w ∈ u_ws RX12 TX12 54, w ∈ vs_f_X12_rests := fun _ h => List.mem_cons_of_mem _ (List.mem_append_right _ (h))
set_option maxRecDepth 20000 in
theorem g_f_X12_rests_f_X12_isGame : GoodIn vs_f_X12_rests (wsV RX12 447 RX12 yX12_isGame vs_f_X12_isGame) := goodIn_r _ [11, 3, 4, 2, 10, 2, 5, 6, 7, 8, 9, 12, 13, 14, 15, 16, 17, 18, 19, 20, 21, 22, 23, 24, 25, 26, 27, 28, 29, 30, 31, 32, 33, 34, 35, 36, 37, 38, 39, 40, 41, 42, 43, 44, 45, 46, 47, 48, 49, 50, 51, 52, 53, 54, 55, 56, 57, 58, 59, 60, 61, 62, 63, 64, 65] (by decide +kernel) (by decide +kernel)
set_option maxHeartbeats 4000000 in
set_option maxRecDepth 100000 in
theorem f_X12_rests (l : Launch) (dC : Nat → ClassId) (dI : Nat → Nat → Nat) (sz : Nat) (r : Nat → Nat) (p0 : Int32) (p1 : Int32) (p2 : Int32) : Met l yX12_rests vs_f_X12_rests ({ frames := 2, cells := 0, slots := 0, locals := 43 }) (va_Pc [.ref (r 100), .int p0, .int p1, .int p2] (cW dC dI [((r 100), .inr (12, mF r 0 0 0 0 0 0 0 0 0 0 0 0 0 (-1) 1))] [] sz)) (va_Qi (fun (r : Int32) (_ : Unit) => r = (-1)) (fun (_ : Unit) (t : State) => True) (va_A [((r 100), .inr (12, mF r 0 0 0 0 0 0 0 0 0 0 0 0 0 (-1) 1))] sz)) 0 0 (va_A [((r 100), .inr (12, mF r 0 0 0 0 0 0 0 0 0 0 0 0 0 (-1) 1))] sz) := by
  refine Met.ofW (cc := cX12_rests) (maxL := 9) (ret := (some .int)) (by decide) rfl ?_
  intro p e s m args below meth c s₁ B hml hv
  obtain ⟨rfl, hsz, hP, hK, hD0, hG⟩ := hv
  have hx := B.exec
  have hb := B.bytes
  have hr := B.returns
  have hts := atoms_spec (ws := vs_f_X12_rests) B.pre
  have hown : s.vm.findClass RX12 = some m.cls := findClass_of_methodNamed B.named
  have hlocks := B.notSynchronized
  have hiX12 : ∀ w ∈ u_ws RX12 TX12 54, w ∈ vs_f_X12_rests := vs_f_X12_rests_uX12
  subst hsz
  have hD := hD0.self (sz := s.heap.size)
  generalize hAe : va_A [((r 100), .inr (12, mF r 0 0 0 0 0 0 0 0 0 0 0 0 0 (-1) 1))] s.heap.size = A at hD ⊢
  have hA : ∀ q : Nat, s.heap.size ≤ q → A q := fun q h => by rw [← hAe]; exact Or.inr h
  have hS : va_S A s.heap s.heap [] := va_S.rf
  have hP : va_P (dC, dI) vwCl [((r 100), .inr (12, mF r 0 0 0 0 0 0 0 0 0 0 0 0 0 (-1) 1))] s.heap := hP
  have hl := lv_entry ([.ref (r 100), .int p0, .int p1, .int p2]) (n := 9) (Nat.le_of_ble_eq_true rfl)
  rw [lg_entry_eq]
  generalize (lg_sl ([.ref (r 100), .int p0, .int p1, .int p2]) ++ List.replicate (9 - (lg_sl ([.ref (r 100), .int p0, .int p1, .int p2])).length) Slot.unset).toArray = ls at hl ⊢
  have hl : lv_has ls 9 [(0, .ref (r 100)), (1, .int p0), (2, .int p1), (3, .int p2)] := hl
  refine lv_aload_n hx hb dX12_rests_0 rfl (lv_at hl 0 rfl) ?_
  refine lv_iconst (v := 0) hx hb dX12_rests_1 (by decide) ?_
  refine va_put (D := (dC, dI)) (ci := 12) (v := .int 0) (ty := .int) (C := RX12) (T := TX12) (N := 54) hx hb hts hiX12 tyX12 tyX12_ok nmX12 hown hK hP hD hS 0 rfl rfl 0 (by decide) (hts (.fieldLink RX12 90 "WallChapelsModel" "thrown" "I") (by decide +kernel)) (fun _ h9 => h9) rfl (by decide +kernel) rfl rfl (Nat.le_of_ble_eq_true rfl) dX12_rests_2 (fun H locs hP hD hS => ?_)
  have hP : va_P (dC, dI) vwCl [((r 100), .inr (12, mF r 0 0 0 0 0 0 0 0 0 0 0 0 0 (-1) 1))] H := hP
  have hD : va_D A [((r 100), .inr (12, mF r 0 0 0 0 0 0 0 0 0 0 0 0 0 (-1) 1))] := hD
  refine lv_aload_n hx hb dX12_rests_5 rfl (lv_at hl 0 rfl) ?_
  refine lv_iload_n hx hb dX12_rests_6 rfl (lv_at hl 1 rfl) ?_
  refine lv_iload_n hx hb dX12_rests_7 rfl (lv_at hl 2 rfl) ?_
  have hPc := hP.sub (ws' := [((r 100), .inr (12, mF r 0 0 0 0 0 0 0 0 0 0 0 0 0 (-1) 1))]) [0] rfl
  have hDc := hD.sub (ws' := [((r 100), .inr (12, mF r 0 0 0 0 0 0 0 0 0 0 0 0 0 (-1) 1))]) [0] (by decide) rfl
  have hKc := hK.sub (tys' := []) [] rfl
  have hFc := va_free (wc := [((r 100), .inr (12, mF r 0 0 0 0 0 0 0 0 0 0 0 0 0 (-1) 1))]) hD hS hA [0] rfl
  refine va_calli (va_runV (As := [.int p0, .int p1]) (rest := []) ⟨hx, hb, hml, hown, hts⟩ (f_X12_isGame l dC dI H.size r p0 p1) (cwV 2 hts g_f_X12_rests_f_X12_isGame rfl rfl rfl (by decide +kernel) ⟨Nat.le_of_ble_eq_true rfl, Nat.le_of_ble_eq_true rfl⟩) ⟨cW_blind, va_recv hKc hPc (ci := 12) (q0 := 0) rfl rfl, fun U hU hW => ⟨rfl, cW_use hU hW hPc hKc hDc hG⟩⟩ rfl rfl hl.1 rfl (lv_room (Nat.le_of_ble_eq_true rfl)) dX12_rests_8 ⟨Nat.le_of_ble_eq_true rfl, Nat.le_of_ble_eq_true rfl⟩) hS (fun q _ h => hFc q h) hFc (fun r_1 u t H1 locs ht hvm hw hB hz1 hk1 hS => ?_)
  obtain ⟨hP, hD⟩ := va_join (wr := []) (w1 := []) hP hD [0] [] rfl rfl (by decide) (by decide) hk1 hFc (va_P_nil H1) va_D_nil
  generalize H1 = H at hP hS ⊢
  have hP : va_P (dC, dI) vwCl [] H := hP
  have hD : va_D A [] := hD
  refine W.widen (k := 0) (n := 0) (Nat.le_of_ble_eq_true rfl) (Nat.le_of_ble_eq_true rfl) ?_
  obtain rfl : r_1 = 0 := hw
  refine lv_if_eq (tgt := 19) hx hb dX12_rests_11 (by decide) (fun c_2 => ?_) (fun c_2 => absurd (by decide) c_2)
  refine lv_iconst (v := (-1)) hx hb dX12_rests_19 (by decide) ?_
  exact W.iret (v := (-1)) hx hb hr (fun t ht hW => ⟨⟨(-1), (), rfl, rfl, trivial⟩, hS.F ht⟩) hS.2.2 dX12_rests_20
def vs_f_X12_odds : List Cond := .code yX12_odds cX12_odds 5 (some .int) :: ([.fieldLink RX12 90 "WallChapelsModel" "thrown" "I", .initialized RX12, .instanceMethod yX12_isWalker, .selects RX12 yX12_isWalker yX12_isWalker, .fieldLink RX12 286 "WallChapelsModel" "walkers" "I", .code yX12_isWalker cX12_isWalker 2 (some .boolean), .methodLink RX12 362 yX12_isWalker] ++ (u_ws RX12 TX12 54))
theorem vs_f_X12_odds_uX12 : ∀ w ∈ u_ws RX12 TX12 54, w ∈ vs_f_X12_odds := fun _ h => List.mem_cons_of_mem _ (List.mem_append_right _ (h))
set_option maxRecDepth 20000 in
theorem g_f_X12_odds_f_X12_isWalker : GoodIn vs_f_X12_odds (wsV RX12 362 RX12 yX12_isWalker vs_f_X12_isWalker) := goodIn_r _ [7, 3, 4, 2, 6, 5, 8, 9, 10, 11, 12, 13, 14, 15, 16, 17, 18, 19, 20, 21, 22, 23, 24, 25, 26, 27, 28, 29, 30, 31, 32, 33, 34, 35, 36, 37, 38, 39, 40, 41, 42, 43, 44, 45, 46, 47, 48, 49, 50, 51, 52, 53, 54, 55, 56, 57, 58, 59, 60, 61] (by decide +kernel) (by decide +kernel)
set_option maxHeartbeats 4000000 in
set_option maxRecDepth 100000 in
theorem f_X12_odds (l : Launch) (dC : Nat → ClassId) (dI : Nat → Nat → Nat) (sz : Nat) (r : Nat → Nat) (p0 : Int32) (p1 : Int32) : Met l yX12_odds vs_f_X12_odds ({ frames := 1, cells := 0, slots := 0, locals := 21 }) (va_Pc [.ref (r 100), .int p0, .int p1] (cW dC dI [((r 100), .inr (12, mF r 0 0 0 0 0 0 0 0 0 0 0 0 0 (-1) 1))] [] sz)) (va_Qi (fun (r : Int32) (_ : Unit) => r = (-1)) (fun (_ : Unit) (t : State) => True) (va_A [((r 100), .inr (12, mF r 0 0 0 0 0 0 0 0 0 0 0 0 0 (-1) 1))] sz)) 0 0 (va_A [((r 100), .inr (12, mF r 0 0 0 0 0 0 0 0 0 0 0 0 0 (-1) 1))] sz) := by
  refine Met.ofW (cc := cX12_odds) (maxL := 5) (ret := (some .int)) (by decide) rfl ?_
  intro p e s m args below meth c s₁ B hml hv
  obtain ⟨rfl, hsz, hP, hK, hD0, hG⟩ := hv
  have hx := B.exec
  have hb := B.bytes
  have hr := B.returns
  have hts := atoms_spec (ws := vs_f_X12_odds) B.pre
  have hown : s.vm.findClass RX12 = some m.cls := findClass_of_methodNamed B.named
  have hlocks := B.notSynchronized
  have hiX12 : ∀ w ∈ u_ws RX12 TX12 54, w ∈ vs_f_X12_odds := vs_f_X12_odds_uX12
  subst hsz
  have hD := hD0.self (sz := s.heap.size)
  generalize hAe : va_A [((r 100), .inr (12, mF r 0 0 0 0 0 0 0 0 0 0 0 0 0 (-1) 1))] s.heap.size = A at hD ⊢
  have hA : ∀ q : Nat, s.heap.size ≤ q → A q := fun q h => by rw [← hAe]; exact Or.inr h
  have hS : va_S A s.heap s.heap [] := va_S.rf
  have hP : va_P (dC, dI) vwCl [((r 100), .inr (12, mF r 0 0 0 0 0 0 0 0 0 0 0 0 0 (-1) 1))] s.heap := hP
  have hl := lv_entry ([.ref (r 100), .int p0, .int p1]) (n := 5) (Nat.le_of_ble_eq_true rfl)
  rw [lg_entry_eq]
  generalize (lg_sl ([.ref (r 100), .int p0, .int p1]) ++ List.replicate (5 - (lg_sl ([.ref (r 100), .int p0, .int p1])).length) Slot.unset).toArray = ls at hl ⊢
  have hl : lv_has ls 5 [(0, .ref (r 100)), (1, .int p0), (2, .int p1)] := hl
  refine lv_aload_n hx hb dX12_odds_0 rfl (lv_at hl 0 rfl) ?_
  refine lv_iconst (v := 0) hx hb dX12_odds_1 (by decide) ?_
  refine va_put (D := (dC, dI)) (ci := 12) (v := .int 0) (ty := .int) (C := RX12) (T := TX12) (N := 54) hx hb hts hiX12 tyX12 tyX12_ok nmX12 hown hK hP hD hS 0 rfl rfl 0 (by decide) (hts (.fieldLink RX12 90 "WallChapelsModel" "thrown" "I") (by decide +kernel)) (fun _ h9 => h9) rfl (by decide +kernel) rfl rfl (Nat.le_of_ble_eq_true rfl) dX12_odds_2 (fun H locs hP hD hS => ?_)
  have hP : va_P (dC, dI) vwCl [((r 100), .inr (12, mF r 0 0 0 0 0 0 0 0 0 0 0 0 0 (-1) 1))] H := hP
  have hD : va_D A [((r 100), .inr (12, mF r 0 0 0 0 0 0 0 0 0 0 0 0 0 (-1) 1))] := hD
  refine lv_aload_n hx hb dX12_odds_5 rfl (lv_at hl 0 rfl) ?_
  refine lv_iload_n hx hb dX12_odds_6 rfl (lv_at hl 1 rfl) ?_
  have hPc := hP.sub (ws' := [((r 100), .inr (12, mF r 0 0 0 0 0 0 0 0 0 0 0 0 0 (-1) 1))]) [0] rfl
  have hDc := hD.sub (ws' := [((r 100), .inr (12, mF r 0 0 0 0 0 0 0 0 0 0 0 0 0 (-1) 1))]) [0] (by decide) rfl
  have hKc := hK.sub (tys' := []) [] rfl
  have hFc := va_free (wc := [((r 100), .inr (12, mF r 0 0 0 0 0 0 0 0 0 0 0 0 0 (-1) 1))]) hD hS hA [0] rfl
  refine va_calli (va_runV (As := [.int p0]) (rest := []) ⟨hx, hb, hml, hown, hts⟩ (f_X12_isWalker l dC dI H.size r p0) (cwV 1 hts g_f_X12_odds_f_X12_isWalker rfl rfl rfl (by decide +kernel) ⟨Nat.le_of_ble_eq_true rfl, Nat.le_of_ble_eq_true rfl⟩) ⟨cW_blind, va_recv hKc hPc (ci := 12) (q0 := 0) rfl rfl, fun U hU hW => ⟨rfl, cW_use hU hW hPc hKc hDc hG⟩⟩ rfl rfl hl.1 rfl (lv_room (Nat.le_of_ble_eq_true rfl)) dX12_odds_7 ⟨Nat.le_of_ble_eq_true rfl, Nat.le_of_ble_eq_true rfl⟩) hS (fun q _ h => hFc q h) hFc (fun r_1 u t H1 locs ht hvm hw hB hz1 hk1 hS => ?_)
  obtain ⟨hP, hD⟩ := va_join (wr := []) (w1 := []) hP hD [0] [] rfl rfl (by decide) (by decide) hk1 hFc (va_P_nil H1) va_D_nil
  generalize H1 = H at hP hS ⊢
  have hP : va_P (dC, dI) vwCl [] H := hP
  have hD : va_D A [] := hD
  refine W.widen (k := 0) (n := 0) (Nat.le_of_ble_eq_true rfl) (Nat.le_of_ble_eq_true rfl) ?_
  obtain rfl : r_1 = 0 := hw
  refine lv_if_eq (tgt := 25) hx hb dX12_odds_10 (by decide) (fun c_2 => ?_) (fun c_2 => absurd (by decide) c_2)
  refine lv_iconst (v := (-1)) hx hb dX12_odds_25 (by decide) ?_
  exact W.iret (v := (-1)) hx hb hr (fun t ht hW => ⟨⟨(-1), (), rfl, rfl, trivial⟩, hS.F ht⟩) hS.2.2 dX12_odds_26
def vs_f_X12_shares : List Cond := .code yX12_shares cX12_shares 5 (some .int) :: ([.fieldLink RX12 90 "WallChapelsModel" "thrown" "I", .initialized RX12, .instanceMethod yX12_isCorner, .selects RX12 yX12_isCorner yX12_isCorner, .fieldLink RX12 280 "WallChapelsModel" "corners" "I", .code yX12_isCorner cX12_isCorner 2 (some .boolean), .methodLink RX12 354 yX12_isCorner] ++ (u_ws RX12 TX12 54))
theorem vs_f_X12_shares_uX12 : ∀ w ∈ u_ws RX12 TX12 54, w ∈ vs_f_X12_shares := fun _ h => List.mem_cons_of_mem _ (List.mem_append_right _ (h))
set_option maxRecDepth 20000 in
theorem g_f_X12_shares_f_X12_isCorner : GoodIn vs_f_X12_shares (wsV RX12 354 RX12 yX12_isCorner vs_f_X12_isCorner) := goodIn_r _ [7, 3, 4, 2, 6, 5, 8, 9, 10, 11, 12, 13, 14, 15, 16, 17, 18, 19, 20, 21, 22, 23, 24, 25, 26, 27, 28, 29, 30, 31, 32, 33, 34, 35, 36, 37, 38, 39, 40, 41, 42, 43, 44, 45, 46, 47, 48, 49, 50, 51, 52, 53, 54, 55, 56, 57, 58, 59, 60, 61] (by decide +kernel) (by decide +kernel)
set_option maxHeartbeats 4000000 in
set_option maxRecDepth 100000 in
theorem f_X12_shares (l : Launch) (dC : Nat → ClassId) (dI : Nat → Nat → Nat) (sz : Nat) (r : Nat → Nat) (p0 : Int32) (p1 : Int32) : Met l yX12_shares vs_f_X12_shares ({ frames := 1, cells := 0, slots := 0, locals := 21 }) (va_Pc [.ref (r 100), .int p0, .int p1] (cW dC dI [((r 100), .inr (12, mF r 0 0 0 0 0 0 0 0 0 0 0 0 0 (-1) 1))] [] sz)) (va_Qi (fun (r : Int32) (_ : Unit) => r = (-1)) (fun (_ : Unit) (t : State) => True) (va_A [((r 100), .inr (12, mF r 0 0 0 0 0 0 0 0 0 0 0 0 0 (-1) 1))] sz)) 0 0 (va_A [((r 100), .inr (12, mF r 0 0 0 0 0 0 0 0 0 0 0 0 0 (-1) 1))] sz) := by
  refine Met.ofW (cc := cX12_shares) (maxL := 5) (ret := (some .int)) (by decide) rfl ?_
  intro p e s m args below meth c s₁ B hml hv
  obtain ⟨rfl, hsz, hP, hK, hD0, hG⟩ := hv
  have hx := B.exec
  have hb := B.bytes
  have hr := B.returns
  have hts := atoms_spec (ws := vs_f_X12_shares) B.pre
  have hown : s.vm.findClass RX12 = some m.cls := findClass_of_methodNamed B.named
  have hlocks := B.notSynchronized
  have hiX12 : ∀ w ∈ u_ws RX12 TX12 54, w ∈ vs_f_X12_shares := vs_f_X12_shares_uX12
  subst hsz
  have hD := hD0.self (sz := s.heap.size)
  generalize hAe : va_A [((r 100), .inr (12, mF r 0 0 0 0 0 0 0 0 0 0 0 0 0 (-1) 1))] s.heap.size = A at hD ⊢
  have hA : ∀ q : Nat, s.heap.size ≤ q → A q := fun q h => by rw [← hAe]; exact Or.inr h
  have hS : va_S A s.heap s.heap [] := va_S.rf
  have hP : va_P (dC, dI) vwCl [((r 100), .inr (12, mF r 0 0 0 0 0 0 0 0 0 0 0 0 0 (-1) 1))] s.heap := hP
  have hl := lv_entry ([.ref (r 100), .int p0, .int p1]) (n := 5) (Nat.le_of_ble_eq_true rfl)
  rw [lg_entry_eq]
  generalize (lg_sl ([.ref (r 100), .int p0, .int p1]) ++ List.replicate (5 - (lg_sl ([.ref (r 100), .int p0, .int p1])).length) Slot.unset).toArray = ls at hl ⊢
  have hl : lv_has ls 5 [(0, .ref (r 100)), (1, .int p0), (2, .int p1)] := hl
  refine lv_aload_n hx hb dX12_shares_0 rfl (lv_at hl 0 rfl) ?_
  refine lv_iconst (v := 0) hx hb dX12_shares_1 (by decide) ?_
  refine va_put (D := (dC, dI)) (ci := 12) (v := .int 0) (ty := .int) (C := RX12) (T := TX12) (N := 54) hx hb hts hiX12 tyX12 tyX12_ok nmX12 hown hK hP hD hS 0 rfl rfl 0 (by decide) (hts (.fieldLink RX12 90 "WallChapelsModel" "thrown" "I") (by decide +kernel)) (fun _ h9 => h9) rfl (by decide +kernel) rfl rfl (Nat.le_of_ble_eq_true rfl) dX12_shares_2 (fun H locs hP hD hS => ?_)
  have hP : va_P (dC, dI) vwCl [((r 100), .inr (12, mF r 0 0 0 0 0 0 0 0 0 0 0 0 0 (-1) 1))] H := hP
  have hD : va_D A [((r 100), .inr (12, mF r 0 0 0 0 0 0 0 0 0 0 0 0 0 (-1) 1))] := hD
  refine lv_aload_n hx hb dX12_shares_5 rfl (lv_at hl 0 rfl) ?_
  refine lv_iload_n hx hb dX12_shares_6 rfl (lv_at hl 1 rfl) ?_
  have hPc := hP.sub (ws' := [((r 100), .inr (12, mF r 0 0 0 0 0 0 0 0 0 0 0 0 0 (-1) 1))]) [0] rfl
  have hDc := hD.sub (ws' := [((r 100), .inr (12, mF r 0 0 0 0 0 0 0 0 0 0 0 0 0 (-1) 1))]) [0] (by decide) rfl
  have hKc := hK.sub (tys' := []) [] rfl
  have hFc := va_free (wc := [((r 100), .inr (12, mF r 0 0 0 0 0 0 0 0 0 0 0 0 0 (-1) 1))]) hD hS hA [0] rfl
  refine va_calli (va_runV (As := [.int p0]) (rest := []) ⟨hx, hb, hml, hown, hts⟩ (f_X12_isCorner l dC dI H.size r p0) (cwV 1 hts g_f_X12_shares_f_X12_isCorner rfl rfl rfl (by decide +kernel) ⟨Nat.le_of_ble_eq_true rfl, Nat.le_of_ble_eq_true rfl⟩) ⟨cW_blind, va_recv hKc hPc (ci := 12) (q0 := 0) rfl rfl, fun U hU hW => ⟨rfl, cW_use hU hW hPc hKc hDc hG⟩⟩ rfl rfl hl.1 rfl (lv_room (Nat.le_of_ble_eq_true rfl)) dX12_shares_7 ⟨Nat.le_of_ble_eq_true rfl, Nat.le_of_ble_eq_true rfl⟩) hS (fun q _ h => hFc q h) hFc (fun r_1 u t H1 locs ht hvm hw hB hz1 hk1 hS => ?_)
  obtain ⟨hP, hD⟩ := va_join (wr := []) (w1 := []) hP hD [0] [] rfl rfl (by decide) (by decide) hk1 hFc (va_P_nil H1) va_D_nil
  generalize H1 = H at hP hS ⊢
  have hP : va_P (dC, dI) vwCl [] H := hP
  have hD : va_D A [] := hD
  refine W.widen (k := 0) (n := 0) (Nat.le_of_ble_eq_true rfl) (Nat.le_of_ble_eq_true rfl) ?_
  obtain rfl : r_1 = 0 := hw
  refine lv_if_eq (tgt := 25) hx hb dX12_shares_10 (by decide) (fun c_2 => ?_) (fun c_2 => absurd (by decide) c_2)
  refine lv_iconst (v := (-1)) hx hb dX12_shares_25 (by decide) ?_
  exact W.iret (v := (-1)) hx hb hr (fun t ht hW => ⟨⟨(-1), (), rfl, rfl, trivial⟩, hS.F ht⟩) hS.2.2 dX12_shares_26
def vs_f_X12_all : List Cond := .code yX12_all cX12_all 2 (some .int) :: ([.fieldLink RX12 90 "WallChapelsModel" "thrown" "I", .fieldLink RX12 283 "WallChapelsModel" "streets" "I"] ++ (u_ws RX12 TX12 54))
theorem vs_f_X12_all_uX12 : ∀ w ∈ u_ws RX12 TX12 54, w ∈ vs_f_X12_all := fun _ h => List.mem_cons_of_mem _ (List.mem_append_right _ (h))
set_option maxHeartbeats 4000000 in
set_option maxRecDepth 100000 in
theorem f_X12_all (l : Launch) (dC : Nat → ClassId) (dI : Nat → Nat → Nat) (sz : Nat) (r : Nat → Nat) (p0 : Int32) : Met l yX12_all vs_f_X12_all ({ frames := 0, cells := 0, slots := 0, locals := 0 }) (va_Pc [.ref (r 100), .int p0] (cW dC dI [((r 100), .inr (12, mF r 0 0 0 0 0 0 0 0 0 0 0 0 0 (-1) 1))] [] sz)) (va_Qi (fun (r : Int32) (_ : Unit) => r = (-1)) (fun (_ : Unit) (t : State) => True) (va_A [((r 100), .inr (12, mF r 0 0 0 0 0 0 0 0 0 0 0 0 0 (-1) 1))] sz)) 0 0 (va_A [((r 100), .inr (12, mF r 0 0 0 0 0 0 0 0 0 0 0 0 0 (-1) 1))] sz) := by
  refine Met.ofW (cc := cX12_all) (maxL := 2) (ret := (some .int)) (by decide) rfl ?_
  intro p e s m args below meth c s₁ B hml hv
  obtain ⟨rfl, hsz, hP, hK, hD0, hG⟩ := hv
  have hx := B.exec
  have hb := B.bytes
  have hr := B.returns
  have hts := atoms_spec (ws := vs_f_X12_all) B.pre
  have hown : s.vm.findClass RX12 = some m.cls := findClass_of_methodNamed B.named
  have hlocks := B.notSynchronized
  have hiX12 : ∀ w ∈ u_ws RX12 TX12 54, w ∈ vs_f_X12_all := vs_f_X12_all_uX12
  subst hsz
  have hD := hD0.self (sz := s.heap.size)
  generalize hAe : va_A [((r 100), .inr (12, mF r 0 0 0 0 0 0 0 0 0 0 0 0 0 (-1) 1))] s.heap.size = A at hD ⊢
  have hA : ∀ q : Nat, s.heap.size ≤ q → A q := fun q h => by rw [← hAe]; exact Or.inr h
  have hS : va_S A s.heap s.heap [] := va_S.rf
  have hP : va_P (dC, dI) vwCl [((r 100), .inr (12, mF r 0 0 0 0 0 0 0 0 0 0 0 0 0 (-1) 1))] s.heap := hP
  have hl := lv_entry ([.ref (r 100), .int p0]) (n := 2) (Nat.le_of_ble_eq_true rfl)
  rw [lg_entry_eq]
  generalize (lg_sl ([.ref (r 100), .int p0]) ++ List.replicate (2 - (lg_sl ([.ref (r 100), .int p0])).length) Slot.unset).toArray = ls at hl ⊢
  have hl : lv_has ls 2 [(0, .ref (r 100)), (1, .int p0)] := hl
  refine lv_aload_n hx hb dX12_all_0 rfl (lv_at hl 0 rfl) ?_
  refine lv_iconst (v := 0) hx hb dX12_all_1 (by decide) ?_
  refine va_put (D := (dC, dI)) (ci := 12) (v := .int 0) (ty := .int) (C := RX12) (T := TX12) (N := 54) hx hb hts hiX12 tyX12 tyX12_ok nmX12 hown hK hP hD hS 0 rfl rfl 0 (by decide) (hts (.fieldLink RX12 90 "WallChapelsModel" "thrown" "I") (by decide +kernel)) (fun _ h9 => h9) rfl (by decide +kernel) rfl rfl (Nat.le_of_ble_eq_true rfl) dX12_all_2 (fun H locs hP hD hS => ?_)
  have hP : va_P (dC, dI) vwCl [((r 100), .inr (12, mF r 0 0 0 0 0 0 0 0 0 0 0 0 0 (-1) 1))] H := hP
  have hD : va_D A [((r 100), .inr (12, mF r 0 0 0 0 0 0 0 0 0 0 0 0 0 (-1) 1))] := hD
  refine lv_aload_n hx hb dX12_all_5 rfl (lv_at hl 0 rfl) ?_
  refine va_get (D := (dC, dI)) (ci := 12) (v := .int 0) (C := RX12) (T := TX12) (N := 54) hx hb hts hiX12 hown hK hP 0 rfl rfl 26 (by decide) (hts (.fieldLink RX12 283 "WallChapelsModel" "streets" "I") (by decide +kernel)) (fun _ h9 => h9) rfl dX12_all_6 ?_
  refine lv_if_ne (tgt := 14) hx hb dX12_all_9 (by decide) (fun c_1 => absurd c_1 (by decide)) (fun c_1 => ?_)
  refine lv_iconst (v := (-1)) hx hb dX12_all_12 (by decide) ?_
  exact W.iret (v := (-1)) hx hb hr (fun t ht hW => ⟨⟨(-1), (), rfl, rfl, trivial⟩, hS.F ht⟩) hS.2.2 dX12_all_13
def vs_f_X12_around : List Cond := .code yX12_around cX12_around 5 (some .int) :: ([.fieldLink RX12 90 "WallChapelsModel" "thrown" "I", .initialized RX12, .instanceMethod yX12_isCorner, .selects RX12 yX12_isCorner yX12_isCorner, .fieldLink RX12 280 "WallChapelsModel" "corners" "I", .code yX12_isCorner cX12_isCorner 2 (some .boolean), .methodLink RX12 354 yX12_isCorner] ++ (u_ws RX12 TX12 54))
theorem vs_f_X12_around_uX12 : ∀ w ∈ u_ws RX12 TX12 54, w ∈ vs_f_X12_around := fun _ h => List.mem_cons_of_mem _ (List.mem_append_right _ (h))
set_option maxRecDepth 20000 in
theorem g_f_X12_around_f_X12_isCorner : GoodIn vs_f_X12_around (wsV RX12 354 RX12 yX12_isCorner vs_f_X12_isCorner) := goodIn_r _ [7, 3, 4, 2, 6, 5, 8, 9, 10, 11, 12, 13, 14, 15, 16, 17, 18, 19, 20, 21, 22, 23, 24, 25, 26, 27, 28, 29, 30, 31, 32, 33, 34, 35, 36, 37, 38, 39, 40, 41, 42, 43, 44, 45, 46, 47, 48, 49, 50, 51, 52, 53, 54, 55, 56, 57, 58, 59, 60, 61] (by decide +kernel) (by decide +kernel)
set_option maxHeartbeats 4000000 in
set_option maxRecDepth 100000 in
theorem f_X12_around (l : Launch) (dC : Nat → ClassId) (dI : Nat → Nat → Nat) (sz : Nat) (r : Nat → Nat) (p0 : Int32) (p1 : Int32) : Met l yX12_around vs_f_X12_around ({ frames := 1, cells := 0, slots := 0, locals := 21 }) (va_Pc [.ref (r 100), .int p0, .int p1] (cW dC dI [((r 100), .inr (12, mF r 0 0 0 0 0 0 0 0 0 0 0 0 0 (-1) 1))] [] sz)) (va_Qi (fun (r : Int32) (_ : Unit) => r = (-1)) (fun (_ : Unit) (t : State) => True) (va_A [((r 100), .inr (12, mF r 0 0 0 0 0 0 0 0 0 0 0 0 0 (-1) 1))] sz)) 0 0 (va_A [((r 100), .inr (12, mF r 0 0 0 0 0 0 0 0 0 0 0 0 0 (-1) 1))] sz) := by
  refine Met.ofW (cc := cX12_around) (maxL := 5) (ret := (some .int)) (by decide) rfl ?_
  intro p e s m args below meth c s₁ B hml hv
  obtain ⟨rfl, hsz, hP, hK, hD0, hG⟩ := hv
  have hx := B.exec
  have hb := B.bytes
  have hr := B.returns
  have hts := atoms_spec (ws := vs_f_X12_around) B.pre
  have hown : s.vm.findClass RX12 = some m.cls := findClass_of_methodNamed B.named
  have hlocks := B.notSynchronized
  have hiX12 : ∀ w ∈ u_ws RX12 TX12 54, w ∈ vs_f_X12_around := vs_f_X12_around_uX12
  subst hsz
  have hD := hD0.self (sz := s.heap.size)
  generalize hAe : va_A [((r 100), .inr (12, mF r 0 0 0 0 0 0 0 0 0 0 0 0 0 (-1) 1))] s.heap.size = A at hD ⊢
  have hA : ∀ q : Nat, s.heap.size ≤ q → A q := fun q h => by rw [← hAe]; exact Or.inr h
  have hS : va_S A s.heap s.heap [] := va_S.rf
  have hP : va_P (dC, dI) vwCl [((r 100), .inr (12, mF r 0 0 0 0 0 0 0 0 0 0 0 0 0 (-1) 1))] s.heap := hP
  have hl := lv_entry ([.ref (r 100), .int p0, .int p1]) (n := 5) (Nat.le_of_ble_eq_true rfl)
  rw [lg_entry_eq]
  generalize (lg_sl ([.ref (r 100), .int p0, .int p1]) ++ List.replicate (5 - (lg_sl ([.ref (r 100), .int p0, .int p1])).length) Slot.unset).toArray = ls at hl ⊢
  have hl : lv_has ls 5 [(0, .ref (r 100)), (1, .int p0), (2, .int p1)] := hl
  refine lv_aload_n hx hb dX12_around_0 rfl (lv_at hl 0 rfl) ?_
  refine lv_iconst (v := 0) hx hb dX12_around_1 (by decide) ?_
  refine va_put (D := (dC, dI)) (ci := 12) (v := .int 0) (ty := .int) (C := RX12) (T := TX12) (N := 54) hx hb hts hiX12 tyX12 tyX12_ok nmX12 hown hK hP hD hS 0 rfl rfl 0 (by decide) (hts (.fieldLink RX12 90 "WallChapelsModel" "thrown" "I") (by decide +kernel)) (fun _ h9 => h9) rfl (by decide +kernel) rfl rfl (Nat.le_of_ble_eq_true rfl) dX12_around_2 (fun H locs hP hD hS => ?_)
  have hP : va_P (dC, dI) vwCl [((r 100), .inr (12, mF r 0 0 0 0 0 0 0 0 0 0 0 0 0 (-1) 1))] H := hP
  have hD : va_D A [((r 100), .inr (12, mF r 0 0 0 0 0 0 0 0 0 0 0 0 0 (-1) 1))] := hD
  refine lv_aload_n hx hb dX12_around_5 rfl (lv_at hl 0 rfl) ?_
  refine lv_iload_n hx hb dX12_around_6 rfl (lv_at hl 1 rfl) ?_
  have hPc := hP.sub (ws' := [((r 100), .inr (12, mF r 0 0 0 0 0 0 0 0 0 0 0 0 0 (-1) 1))]) [0] rfl
  have hDc := hD.sub (ws' := [((r 100), .inr (12, mF r 0 0 0 0 0 0 0 0 0 0 0 0 0 (-1) 1))]) [0] (by decide) rfl
  have hKc := hK.sub (tys' := []) [] rfl
  have hFc := va_free (wc := [((r 100), .inr (12, mF r 0 0 0 0 0 0 0 0 0 0 0 0 0 (-1) 1))]) hD hS hA [0] rfl
  refine va_calli (va_runV (As := [.int p0]) (rest := []) ⟨hx, hb, hml, hown, hts⟩ (f_X12_isCorner l dC dI H.size r p0) (cwV 1 hts g_f_X12_around_f_X12_isCorner rfl rfl rfl (by decide +kernel) ⟨Nat.le_of_ble_eq_true rfl, Nat.le_of_ble_eq_true rfl⟩) ⟨cW_blind, va_recv hKc hPc (ci := 12) (q0 := 0) rfl rfl, fun U hU hW => ⟨rfl, cW_use hU hW hPc hKc hDc hG⟩⟩ rfl rfl hl.1 rfl (lv_room (Nat.le_of_ble_eq_true rfl)) dX12_around_7 ⟨Nat.le_of_ble_eq_true rfl, Nat.le_of_ble_eq_true rfl⟩) hS (fun q _ h => hFc q h) hFc (fun r_1 u t H1 locs ht hvm hw hB hz1 hk1 hS => ?_)
  obtain ⟨hP, hD⟩ := va_join (wr := []) (w1 := []) hP hD [0] [] rfl rfl (by decide) (by decide) hk1 hFc (va_P_nil H1) va_D_nil
  generalize H1 = H at hP hS ⊢
  have hP : va_P (dC, dI) vwCl [] H := hP
  have hD : va_D A [] := hD
  refine W.widen (k := 0) (n := 0) (Nat.le_of_ble_eq_true rfl) (Nat.le_of_ble_eq_true rfl) ?_
  obtain rfl : r_1 = 0 := hw
  refine lv_if_eq (tgt := 25) hx hb dX12_around_10 (by decide) (fun c_2 => ?_) (fun c_2 => absurd (by decide) c_2)
  refine lv_iconst (v := (-1)) hx hb dX12_around_25 (by decide) ?_
  exact W.iret (v := (-1)) hx hb hr (fun t ht hW => ⟨⟨(-1), (), rfl, rfl, trivial⟩, hS.F ht⟩) hS.2.2 dX12_around_26
def vs_f_X12_image : List Cond := .code yX12_image cX12_image 2 (some .int) :: ([.fieldLink RX12 90 "WallChapelsModel" "thrown" "I", .fieldLink RX12 283 "WallChapelsModel" "streets" "I"] ++ (u_ws RX12 TX12 54))
theorem vs_f_X12_image_uX12 : ∀ w ∈ u_ws RX12 TX12 54, w ∈ vs_f_X12_image := fun _ h => List.mem_cons_of_mem _ (List.mem_append_right _ (h))
set_option maxHeartbeats 4000000 in
set_option maxRecDepth 100000 in
theorem f_X12_image (l : Launch) (dC : Nat → ClassId) (dI : Nat → Nat → Nat) (sz : Nat) (r : Nat → Nat) : Met l yX12_image vs_f_X12_image ({ frames := 0, cells := 0, slots := 0, locals := 0 }) (va_Pc [.ref (r 100)] (cW dC dI [((r 100), .inr (12, mF r 0 0 0 0 0 0 0 0 0 0 0 0 0 (-1) 1))] [] sz)) (va_Qi (fun (r : Int32) (_ : Unit) => r = (-1)) (fun (_ : Unit) (t : State) => True) (va_A [((r 100), .inr (12, mF r 0 0 0 0 0 0 0 0 0 0 0 0 0 (-1) 1))] sz)) 0 0 (va_A [((r 100), .inr (12, mF r 0 0 0 0 0 0 0 0 0 0 0 0 0 (-1) 1))] sz) := by
  refine Met.ofW (cc := cX12_image) (maxL := 2) (ret := (some .int)) (by decide) rfl ?_
  intro p e s m args below meth c s₁ B hml hv
  obtain ⟨rfl, hsz, hP, hK, hD0, hG⟩ := hv
  have hx := B.exec
  have hb := B.bytes
  have hr := B.returns
  have hts := atoms_spec (ws := vs_f_X12_image) B.pre
  have hown : s.vm.findClass RX12 = some m.cls := findClass_of_methodNamed B.named
  have hlocks := B.notSynchronized
  have hiX12 : ∀ w ∈ u_ws RX12 TX12 54, w ∈ vs_f_X12_image := vs_f_X12_image_uX12
  subst hsz
  have hD := hD0.self (sz := s.heap.size)
  generalize hAe : va_A [((r 100), .inr (12, mF r 0 0 0 0 0 0 0 0 0 0 0 0 0 (-1) 1))] s.heap.size = A at hD ⊢
  have hA : ∀ q : Nat, s.heap.size ≤ q → A q := fun q h => by rw [← hAe]; exact Or.inr h
  have hS : va_S A s.heap s.heap [] := va_S.rf
  have hP : va_P (dC, dI) vwCl [((r 100), .inr (12, mF r 0 0 0 0 0 0 0 0 0 0 0 0 0 (-1) 1))] s.heap := hP
  have hl := lv_entry ([.ref (r 100)]) (n := 2) (Nat.le_of_ble_eq_true rfl)
  rw [lg_entry_eq]
  generalize (lg_sl ([.ref (r 100)]) ++ List.replicate (2 - (lg_sl ([.ref (r 100)])).length) Slot.unset).toArray = ls at hl ⊢
  have hl : lv_has ls 2 [(0, .ref (r 100))] := hl
  refine lv_aload_n hx hb dX12_image_0 rfl (lv_at hl 0 rfl) ?_
  refine lv_iconst (v := 0) hx hb dX12_image_1 (by decide) ?_
  refine va_put (D := (dC, dI)) (ci := 12) (v := .int 0) (ty := .int) (C := RX12) (T := TX12) (N := 54) hx hb hts hiX12 tyX12 tyX12_ok nmX12 hown hK hP hD hS 0 rfl rfl 0 (by decide) (hts (.fieldLink RX12 90 "WallChapelsModel" "thrown" "I") (by decide +kernel)) (fun _ h9 => h9) rfl (by decide +kernel) rfl rfl (Nat.le_of_ble_eq_true rfl) dX12_image_2 (fun H locs hP hD hS => ?_)
  have hP : va_P (dC, dI) vwCl [((r 100), .inr (12, mF r 0 0 0 0 0 0 0 0 0 0 0 0 0 (-1) 1))] H := hP
  have hD : va_D A [((r 100), .inr (12, mF r 0 0 0 0 0 0 0 0 0 0 0 0 0 (-1) 1))] := hD
  refine lv_aload_n hx hb dX12_image_5 rfl (lv_at hl 0 rfl) ?_
  refine va_get (D := (dC, dI)) (ci := 12) (v := .int 0) (C := RX12) (T := TX12) (N := 54) hx hb hts hiX12 hown hK hP 0 rfl rfl 26 (by decide) (hts (.fieldLink RX12 283 "WallChapelsModel" "streets" "I") (by decide +kernel)) (fun _ h9 => h9) rfl dX12_image_6 ?_
  refine lv_if_ne (tgt := 14) hx hb dX12_image_9 (by decide) (fun c_1 => absurd c_1 (by decide)) (fun c_1 => ?_)
  refine lv_iconst (v := (-1)) hx hb dX12_image_12 (by decide) ?_
  exact W.iret (v := (-1)) hx hb hr (fun t ht hW => ⟨⟨(-1), (), rfl, rfl, trivial⟩, hS.F ht⟩) hS.2.2 dX12_image_13
def vs_f_X12_back : List Cond := .code yX12_back cX12_back 2 (some .int) :: ([.fieldLink RX12 90 "WallChapelsModel" "thrown" "I", .fieldLink RX12 295 "WallChapelsModel" "hasImage" "Z"] ++ (u_ws RX12 TX12 54))
theorem vs_f_X12_back_uX12 : ∀ w ∈ u_ws RX12 TX12 54, w ∈ vs_f_X12_back := fun _ h => List.mem_cons_of_mem _ (List.mem_append_right _ (h))
set_option maxHeartbeats 4000000 in
set_option maxRecDepth 100000 in
theorem f_X12_back (l : Launch) (dC : Nat → ClassId) (dI : Nat → Nat → Nat) (sz : Nat) (r : Nat → Nat) : Met l yX12_back vs_f_X12_back ({ frames := 0, cells := 0, slots := 0, locals := 0 }) (va_Pc [.ref (r 100)] (cW dC dI [((r 100), .inr (12, mF r 0 0 0 0 0 0 0 0 0 0 0 0 0 (-1) 1))] [] sz)) (va_Qi (fun (r : Int32) (_ : Unit) => r = (-1)) (fun (_ : Unit) (t : State) => True) (va_A [((r 100), .inr (12, mF r 0 0 0 0 0 0 0 0 0 0 0 0 0 (-1) 1))] sz)) 0 0 (va_A [((r 100), .inr (12, mF r 0 0 0 0 0 0 0 0 0 0 0 0 0 (-1) 1))] sz) := by
  refine Met.ofW (cc := cX12_back) (maxL := 2) (ret := (some .int)) (by decide) rfl ?_
  intro p e s m args below meth c s₁ B hml hv
  obtain ⟨rfl, hsz, hP, hK, hD0, hG⟩ := hv
  have hx := B.exec
  have hb := B.bytes
  have hr := B.returns
  have hts := atoms_spec (ws := vs_f_X12_back) B.pre
  have hown : s.vm.findClass RX12 = some m.cls := findClass_of_methodNamed B.named
  have hlocks := B.notSynchronized
  have hiX12 : ∀ w ∈ u_ws RX12 TX12 54, w ∈ vs_f_X12_back := vs_f_X12_back_uX12
  subst hsz
  have hD := hD0.self (sz := s.heap.size)
  generalize hAe : va_A [((r 100), .inr (12, mF r 0 0 0 0 0 0 0 0 0 0 0 0 0 (-1) 1))] s.heap.size = A at hD ⊢
  have hA : ∀ q : Nat, s.heap.size ≤ q → A q := fun q h => by rw [← hAe]; exact Or.inr h
  have hS : va_S A s.heap s.heap [] := va_S.rf
  have hP : va_P (dC, dI) vwCl [((r 100), .inr (12, mF r 0 0 0 0 0 0 0 0 0 0 0 0 0 (-1) 1))] s.heap := hP
  have hl := lv_entry ([.ref (r 100)]) (n := 2) (Nat.le_of_ble_eq_true rfl)
  rw [lg_entry_eq]
  generalize (lg_sl ([.ref (r 100)]) ++ List.replicate (2 - (lg_sl ([.ref (r 100)])).length) Slot.unset).toArray = ls at hl ⊢
  have hl : lv_has ls 2 [(0, .ref (r 100))] := hl
  refine lv_aload_n hx hb dX12_back_0 rfl (lv_at hl 0 rfl) ?_
  refine lv_iconst (v := 0) hx hb dX12_back_1 (by decide) ?_
  refine va_put (D := (dC, dI)) (ci := 12) (v := .int 0) (ty := .int) (C := RX12) (T := TX12) (N := 54) hx hb hts hiX12 tyX12 tyX12_ok nmX12 hown hK hP hD hS 0 rfl rfl 0 (by decide) (hts (.fieldLink RX12 90 "WallChapelsModel" "thrown" "I") (by decide +kernel)) (fun _ h9 => h9) rfl (by decide +kernel) rfl rfl (Nat.le_of_ble_eq_true rfl) dX12_back_2 (fun H locs hP hD hS => ?_)
  have hP : va_P (dC, dI) vwCl [((r 100), .inr (12, mF r 0 0 0 0 0 0 0 0 0 0 0 0 0 (-1) 1))] H := hP
  have hD : va_D A [((r 100), .inr (12, mF r 0 0 0 0 0 0 0 0 0 0 0 0 0 (-1) 1))] := hD
  refine lv_aload_n hx hb dX12_back_5 rfl (lv_at hl 0 rfl) ?_
  refine va_get (D := (dC, dI)) (ci := 12) (v := .int 0) (C := RX12) (T := TX12) (N := 54) hx hb hts hiX12 hown hK hP 0 rfl rfl 53 (by decide) (hts (.fieldLink RX12 295 "WallChapelsModel" "hasImage" "Z") (by decide +kernel)) (fun _ h9 => h9) rfl dX12_back_6 ?_
  refine lv_if_ne (tgt := 14) hx hb dX12_back_9 (by decide) (fun c_1 => absurd c_1 (by decide)) (fun c_1 => ?_)
  refine lv_iconst (v := (-1)) hx hb dX12_back_12 (by decide) ?_
  exact W.iret (v := (-1)) hx hb hr (fun t ht hW => ⟨⟨(-1), (), rfl, rfl, trivial⟩, hS.F ht⟩) hS.2.2 dX12_back_13
def vs_f_X12_check : List Cond := .code yX12_check cX12_check 10 (some .int) :: ([.fieldLink RX12 90 "WallChapelsModel" "thrown" "I", .initialized RX12, .instanceMethod yX12_isWalk, .selects RX12 yX12_isWalk yX12_isWalk, .fieldLink RX12 275 "WallChapelsModel" "walks" "I", .code yX12_isWalk cX12_isWalk 2 (some .boolean), .methodLink RX12 392 yX12_isWalk, .constant RX12 325 (-1000000)] ++ (u_ws RX12 TX12 54))
theorem vs_f_X12_check_uX12 : ∀ w ∈ u_ws RX12 TX12 54, w ∈ vs_f_X12_check := fun _ h => List.mem_cons_of_mem _ (List.mem_append_right _ (h))
set_option maxRecDepth 20000 in
theorem g_f_X12_check_f_X12_isWalk : GoodIn vs_f_X12_check (wsV RX12 392 RX12 yX12_isWalk vs_f_X12_isWalk) := goodIn_r _ [7, 3, 4, 2, 6, 5, 9, 10, 11, 12, 13, 14, 15, 16, 17, 18, 19, 20, 21, 22, 23, 24, 25, 26, 27, 28, 29, 30, 31, 32, 33, 34, 35, 36, 37, 38, 39, 40, 41, 42, 43, 44, 45, 46, 47, 48, 49, 50, 51, 52, 53, 54, 55, 56, 57, 58, 59, 60, 61, 62] (by decide +kernel) (by decide +kernel)
set_option maxHeartbeats 4000000 in
set_option maxRecDepth 100000 in
theorem f_X12_check (l : Launch) (dC : Nat → ClassId) (dI : Nat → Nat → Nat) (sz : Nat) (r : Nat → Nat) (p0 : Int32) (p1 : Int32) : Met l yX12_check vs_f_X12_check ({ frames := 1, cells := 0, slots := 0, locals := 21 }) (va_Pc [.ref (r 100), .int p0, .int p1] (cW dC dI [((r 100), .inr (12, mF r 0 0 0 0 0 0 0 0 0 0 0 0 0 (-1) 1))] [] sz)) (va_Qi (fun (r : Int32) (_ : Unit) => r = (-1000000)) (fun (_ : Unit) (t : State) => True) (va_A [((r 100), .inr (12, mF r 0 0 0 0 0 0 0 0 0 0 0 0 0 (-1) 1))] sz)) 0 0 (va_A [((r 100), .inr (12, mF r 0 0 0 0 0 0 0 0 0 0 0 0 0 (-1) 1))] sz) := by
  refine Met.ofW (cc := cX12_check) (maxL := 10) (ret := (some .int)) (by decide) rfl ?_
  intro p e s m args below meth c s₁ B hml hv
  obtain ⟨rfl, hsz, hP, hK, hD0, hG⟩ := hv
  have hx := B.exec
  have hb := B.bytes
  have hr := B.returns
  have hts := atoms_spec (ws := vs_f_X12_check) B.pre
  have hown : s.vm.findClass RX12 = some m.cls := findClass_of_methodNamed B.named
  have hlocks := B.notSynchronized
  have hiX12 : ∀ w ∈ u_ws RX12 TX12 54, w ∈ vs_f_X12_check := vs_f_X12_check_uX12
  subst hsz
  have hD := hD0.self (sz := s.heap.size)
  generalize hAe : va_A [((r 100), .inr (12, mF r 0 0 0 0 0 0 0 0 0 0 0 0 0 (-1) 1))] s.heap.size = A at hD ⊢
  have hA : ∀ q : Nat, s.heap.size ≤ q → A q := fun q h => by rw [← hAe]; exact Or.inr h
  have hS : va_S A s.heap s.heap [] := va_S.rf
  have hP : va_P (dC, dI) vwCl [((r 100), .inr (12, mF r 0 0 0 0 0 0 0 0 0 0 0 0 0 (-1) 1))] s.heap := hP
  have hl := lv_entry ([.ref (r 100), .int p0, .int p1]) (n := 10) (Nat.le_of_ble_eq_true rfl)
  rw [lg_entry_eq]
  generalize (lg_sl ([.ref (r 100), .int p0, .int p1]) ++ List.replicate (10 - (lg_sl ([.ref (r 100), .int p0, .int p1])).length) Slot.unset).toArray = ls at hl ⊢
  have hl : lv_has ls 10 [(0, .ref (r 100)), (1, .int p0), (2, .int p1)] := hl
  refine lv_aload_n hx hb dX12_check_0 rfl (lv_at hl 0 rfl) ?_
  refine lv_iconst (v := 0) hx hb dX12_check_1 (by decide) ?_
  refine va_put (D := (dC, dI)) (ci := 12) (v := .int 0) (ty := .int) (C := RX12) (T := TX12) (N := 54) hx hb hts hiX12 tyX12 tyX12_ok nmX12 hown hK hP hD hS 0 rfl rfl 0 (by decide) (hts (.fieldLink RX12 90 "WallChapelsModel" "thrown" "I") (by decide +kernel)) (fun _ h9 => h9) rfl (by decide +kernel) rfl rfl (Nat.le_of_ble_eq_true rfl) dX12_check_2 (fun H locs hP hD hS => ?_)
  have hP : va_P (dC, dI) vwCl [((r 100), .inr (12, mF r 0 0 0 0 0 0 0 0 0 0 0 0 0 (-1) 1))] H := hP
  have hD : va_D A [((r 100), .inr (12, mF r 0 0 0 0 0 0 0 0 0 0 0 0 0 (-1) 1))] := hD
  refine lv_aload_n hx hb dX12_check_5 rfl (lv_at hl 0 rfl) ?_
  refine lv_iload_n hx hb dX12_check_6 rfl (lv_at hl 1 rfl) ?_
  have hPc := hP.sub (ws' := [((r 100), .inr (12, mF r 0 0 0 0 0 0 0 0 0 0 0 0 0 (-1) 1))]) [0] rfl
  have hDc := hD.sub (ws' := [((r 100), .inr (12, mF r 0 0 0 0 0 0 0 0 0 0 0 0 0 (-1) 1))]) [0] (by decide) rfl
  have hKc := hK.sub (tys' := []) [] rfl
  have hFc := va_free (wc := [((r 100), .inr (12, mF r 0 0 0 0 0 0 0 0 0 0 0 0 0 (-1) 1))]) hD hS hA [0] rfl
  refine va_calli (va_runV (As := [.int p0]) (rest := []) ⟨hx, hb, hml, hown, hts⟩ (f_X12_isWalk l dC dI H.size r p0) (cwV 1 hts g_f_X12_check_f_X12_isWalk rfl rfl rfl (by decide +kernel) ⟨Nat.le_of_ble_eq_true rfl, Nat.le_of_ble_eq_true rfl⟩) ⟨cW_blind, va_recv hKc hPc (ci := 12) (q0 := 0) rfl rfl, fun U hU hW => ⟨rfl, cW_use hU hW hPc hKc hDc hG⟩⟩ rfl rfl hl.1 rfl (lv_room (Nat.le_of_ble_eq_true rfl)) dX12_check_7 ⟨Nat.le_of_ble_eq_true rfl, Nat.le_of_ble_eq_true rfl⟩) hS (fun q _ h => hFc q h) hFc (fun r_1 u t H1 locs ht hvm hw hB hz1 hk1 hS => ?_)
  obtain ⟨hP, hD⟩ := va_join (wr := []) (w1 := []) hP hD [0] [] rfl rfl (by decide) (by decide) hk1 hFc (va_P_nil H1) va_D_nil
  generalize H1 = H at hP hS ⊢
  have hP : va_P (dC, dI) vwCl [] H := hP
  have hD : va_D A [] := hD
  refine W.widen (k := 0) (n := 0) (Nat.le_of_ble_eq_true rfl) (Nat.le_of_ble_eq_true rfl) ?_
  obtain rfl : r_1 = 0 := hw
  refine lv_if_eq (tgt := 32) hx hb dX12_check_10 (by decide) (fun c_2 => ?_) (fun c_2 => absurd (by decide) c_2)
  refine lv_ldcw hx hb hown (hts (.constant RX12 325 (-1000000)) (by decide +kernel)) dX12_check_32 ?_
  exact W.iret (v := (-1000000)) hx hb hr (fun t ht hW => ⟨⟨(-1000000), (), rfl, rfl, trivial⟩, hS.F ht⟩) hS.2.2 dX12_check_35
def vs_f_X12_draws : List Cond := .code yX12_draws cX12_draws 3 (some .int) :: ([.fieldLink RX12 90 "WallChapelsModel" "thrown" "I", .initialized RX12, .instanceMethod yX12_isWalker, .selects RX12 yX12_isWalker yX12_isWalker, .fieldLink RX12 286 "WallChapelsModel" "walkers" "I", .code yX12_isWalker cX12_isWalker 2 (some .boolean), .methodLink RX12 362 yX12_isWalker, .constant RX12 325 (-1000000)] ++ (u_ws RX12 TX12 54))
theorem vs_f_X12_draws_uX12 : ∀ w ∈ u_ws RX12 TX12 54, w ∈ vs_f_X12_draws := fun _ h => List.mem_cons_of_mem _ (List.mem_append_right _ (h))
set_option maxRecDepth 20000 in
theorem g_f_X12_draws_f_X12_isWalker : GoodIn vs_f_X12_draws (wsV RX12 362 RX12 yX12_isWalker vs_f_X12_isWalker) := goodIn_r _ [7, 3, 4, 2, 6, 5, 9, 10, 11, 12, 13, 14, 15, 16, 17, 18, 19, 20, 21, 22, 23, 24, 25, 26, 27, 28, 29, 30, 31, 32, 33, 34, 35, 36, 37, 38, 39, 40, 41, 42, 43, 44, 45, 46, 47, 48, 49, 50, 51, 52, 53, 54, 55, 56, 57, 58, 59, 60, 61, 62] (by decide +kernel) (by decide +kernel)
set_option maxHeartbeats 4000000 in
set_option maxRecDepth 100000 in
theorem f_X12_draws (l : Launch) (dC : Nat → ClassId) (dI : Nat → Nat → Nat) (sz : Nat) (r : Nat → Nat) (p0 : Int32) (p1 : Int32) : Met l yX12_draws vs_f_X12_draws ({ frames := 1, cells := 0, slots := 0, locals := 21 }) (va_Pc [.ref (r 100), .int p0, .int p1] (cW dC dI [((r 100), .inr (12, mF r 0 0 0 0 0 0 0 0 0 0 0 0 0 (-1) 1))] [] sz)) (va_Qi (fun (r : Int32) (_ : Unit) => r = (-1000000)) (fun (_ : Unit) (t : State) => True) (va_A [((r 100), .inr (12, mF r 0 0 0 0 0 0 0 0 0 0 0 0 0 (-1) 1))] sz)) 0 0 (va_A [((r 100), .inr (12, mF r 0 0 0 0 0 0 0 0 0 0 0 0 0 (-1) 1))] sz) := by
  refine Met.ofW (cc := cX12_draws) (maxL := 3) (ret := (some .int)) (by decide) rfl ?_
  intro p e s m args below meth c s₁ B hml hv
  obtain ⟨rfl, hsz, hP, hK, hD0, hG⟩ := hv
  have hx := B.exec
  have hb := B.bytes
  have hr := B.returns
  have hts := atoms_spec (ws := vs_f_X12_draws) B.pre
  have hown : s.vm.findClass RX12 = some m.cls := findClass_of_methodNamed B.named
  have hlocks := B.notSynchronized
  have hiX12 : ∀ w ∈ u_ws RX12 TX12 54, w ∈ vs_f_X12_draws := vs_f_X12_draws_uX12
  subst hsz
  have hD := hD0.self (sz := s.heap.size)
  generalize hAe : va_A [((r 100), .inr (12, mF r 0 0 0 0 0 0 0 0 0 0 0 0 0 (-1) 1))] s.heap.size = A at hD ⊢
  have hA : ∀ q : Nat, s.heap.size ≤ q → A q := fun q h => by rw [← hAe]; exact Or.inr h
  have hS : va_S A s.heap s.heap [] := va_S.rf
  have hP : va_P (dC, dI) vwCl [((r 100), .inr (12, mF r 0 0 0 0 0 0 0 0 0 0 0 0 0 (-1) 1))] s.heap := hP
  have hl := lv_entry ([.ref (r 100), .int p0, .int p1]) (n := 3) (Nat.le_of_ble_eq_true rfl)
  rw [lg_entry_eq]
  generalize (lg_sl ([.ref (r 100), .int p0, .int p1]) ++ List.replicate (3 - (lg_sl ([.ref (r 100), .int p0, .int p1])).length) Slot.unset).toArray = ls at hl ⊢
  have hl : lv_has ls 3 [(0, .ref (r 100)), (1, .int p0), (2, .int p1)] := hl
  refine lv_aload_n hx hb dX12_draws_0 rfl (lv_at hl 0 rfl) ?_
  refine lv_iconst (v := 0) hx hb dX12_draws_1 (by decide) ?_
  refine va_put (D := (dC, dI)) (ci := 12) (v := .int 0) (ty := .int) (C := RX12) (T := TX12) (N := 54) hx hb hts hiX12 tyX12 tyX12_ok nmX12 hown hK hP hD hS 0 rfl rfl 0 (by decide) (hts (.fieldLink RX12 90 "WallChapelsModel" "thrown" "I") (by decide +kernel)) (fun _ h9 => h9) rfl (by decide +kernel) rfl rfl (Nat.le_of_ble_eq_true rfl) dX12_draws_2 (fun H locs hP hD hS => ?_)
  have hP : va_P (dC, dI) vwCl [((r 100), .inr (12, mF r 0 0 0 0 0 0 0 0 0 0 0 0 0 (-1) 1))] H := hP
  have hD : va_D A [((r 100), .inr (12, mF r 0 0 0 0 0 0 0 0 0 0 0 0 0 (-1) 1))] := hD
  refine lv_aload_n hx hb dX12_draws_5 rfl (lv_at hl 0 rfl) ?_
  refine lv_iload_n hx hb dX12_draws_6 rfl (lv_at hl 1 rfl) ?_
  have hPc := hP.sub (ws' := [((r 100), .inr (12, mF r 0 0 0 0 0 0 0 0 0 0 0 0 0 (-1) 1))]) [0] rfl
  have hDc := hD.sub (ws' := [((r 100), .inr (12, mF r 0 0 0 0 0 0 0 0 0 0 0 0 0 (-1) 1))]) [0] (by decide) rfl
  have hKc := hK.sub (tys' := []) [] rfl
  have hFc := va_free (wc := [((r 100), .inr (12, mF r 0 0 0 0 0 0 0 0 0 0 0 0 0 (-1) 1))]) hD hS hA [0] rfl
  refine va_calli (va_runV (As := [.int p0]) (rest := []) ⟨hx, hb, hml, hown, hts⟩ (f_X12_isWalker l dC dI H.size r p0) (cwV 1 hts g_f_X12_draws_f_X12_isWalker rfl rfl rfl (by decide +kernel) ⟨Nat.le_of_ble_eq_true rfl, Nat.le_of_ble_eq_true rfl⟩) ⟨cW_blind, va_recv hKc hPc (ci := 12) (q0 := 0) rfl rfl, fun U hU hW => ⟨rfl, cW_use hU hW hPc hKc hDc hG⟩⟩ rfl rfl hl.1 rfl (lv_room (Nat.le_of_ble_eq_true rfl)) dX12_draws_7 ⟨Nat.le_of_ble_eq_true rfl, Nat.le_of_ble_eq_true rfl⟩) hS (fun q _ h => hFc q h) hFc (fun r_1 u t H1 locs ht hvm hw hB hz1 hk1 hS => ?_)
  obtain ⟨hP, hD⟩ := va_join (wr := []) (w1 := []) hP hD [0] [] rfl rfl (by decide) (by decide) hk1 hFc (va_P_nil H1) va_D_nil
  generalize H1 = H at hP hS ⊢
  have hP : va_P (dC, dI) vwCl [] H := hP
  have hD : va_D A [] := hD
  refine W.widen (k := 0) (n := 0) (Nat.le_of_ble_eq_true rfl) (Nat.le_of_ble_eq_true rfl) ?_
  obtain rfl : r_1 = 0 := hw
  refine lv_if_eq (tgt := 21) hx hb dX12_draws_10 (by decide) (fun c_2 => ?_) (fun c_2 => absurd (by decide) c_2)
  refine lv_ldcw hx hb hown (hts (.constant RX12 325 (-1000000)) (by decide +kernel)) dX12_draws_21 ?_
  exact W.iret (v := (-1000000)) hx hb hr (fun t ht hW => ⟨⟨(-1000000), (), rfl, rfl, trivial⟩, hS.F ht⟩) hS.2.2 dX12_draws_24
def vs_f_X12_game : List Cond := .code yX12_game cX12_game 6 (some .int) :: ([.fieldLink RX12 90 "WallChapelsModel" "thrown" "I", .initialized RX12, .instanceMethod yX12_isGame, .selects RX12 yX12_isGame yX12_isGame, .instanceMethod yX12_isWalker, .selects RX12 yX12_isWalker yX12_isWalker, .fieldLink RX12 286 "WallChapelsModel" "walkers" "I", .code yX12_isWalker cX12_isWalker 2 (some .boolean), .methodLink RX12 362 yX12_isWalker, .code yX12_isGame cX12_isGame 3 (some .boolean), .methodLink RX12 447 yX12_isGame, .constant RX12 325 (-1000000)] ++ (u_ws RX12 TX12 54))
theorem vs_f_X12_game_uX12 : ∀ w ∈ u_ws RX12 TX12 54, w ∈ vs_f_X12_game := fun _ h => List.mem_cons_of_mem _ (List.mem_append_right _ (h))
set_option maxRecDepth 20000 in
theorem g_f_X12_game_f_X12_isGame : GoodIn vs_f_X12_game (wsV RX12 447 RX12 yX12_isGame vs_f_X12_isGame) := goodIn_r _ [11, 3, 4, 2, 10, 2, 5, 6, 7, 8, 9, 13, 14, 15, 16, 17, 18, 19, 20, 21, 22, 23, 24, 25, 26, 27, 28, 29, 30, 31, 32, 33, 34, 35, 36, 37, 38, 39, 40, 41, 42, 43, 44, 45, 46, 47, 48, 49, 50, 51, 52, 53, 54, 55, 56, 57, 58, 59, 60, 61, 62, 63, 64, 65, 66] (by decide +kernel) (by decide +kernel)
set_option maxHeartbeats 4000000 in
set_option maxRecDepth 100000 in
theorem f_X12_game (l : Launch) (dC : Nat → ClassId) (dI : Nat → Nat → Nat) (sz : Nat) (r : Nat → Nat) (p0 : Int32) (p1 : Int32) (p2 : Int32) (p3 : Int32) (p4 : Int32) : Met l yX12_game vs_f_X12_game ({ frames := 2, cells := 0, slots := 0, locals := 43 }) (va_Pc [.ref (r 100), .int p0, .int p1, .int p2, .int p3, .int p4] (cW dC dI [((r 100), .inr (12, mF r 0 0 0 0 0 0 0 0 0 0 0 0 0 (-1) 1))] [] sz)) (va_Qi (fun (r : Int32) (_ : Unit) => r = (-1000000)) (fun (_ : Unit) (t : State) => True) (va_A [((r 100), .inr (12, mF r 0 0 0 0 0 0 0 0 0 0 0 0 0 (-1) 1))] sz)) 0 0 (va_A [((r 100), .inr (12, mF r 0 0 0 0 0 0 0 0 0 0 0 0 0 (-1) 1))] sz) := by
  refine Met.ofW (cc := cX12_game) (maxL := 6) (ret := (some .int)) (by decide) rfl ?_
  intro p e s m args below meth c s₁ B hml hv
  obtain ⟨rfl, hsz, hP, hK, hD0, hG⟩ := hv
  have hx := B.exec
  have hb := B.bytes
  have hr := B.returns
  have hts := atoms_spec (ws := vs_f_X12_game) B.pre
  have hown : s.vm.findClass RX12 = some m.cls := findClass_of_methodNamed B.named
  have hlocks := B.notSynchronized
  have hiX12 : ∀ w ∈ u_ws RX12 TX12 54, w ∈ vs_f_X12_game := vs_f_X12_game_uX12
  subst hsz
  have hD := hD0.self (sz := s.heap.size)
  generalize hAe : va_A [((r 100), .inr (12, mF r 0 0 0 0 0 0 0 0 0 0 0 0 0 (-1) 1))] s.heap.size = A at hD ⊢
  have hA : ∀ q : Nat, s.heap.size ≤ q → A q := fun q h => by rw [← hAe]; exact Or.inr h
  have hS : va_S A s.heap s.heap [] := va_S.rf
  have hP : va_P (dC, dI) vwCl [((r 100), .inr (12, mF r 0 0 0 0 0 0 0 0 0 0 0 0 0 (-1) 1))] s.heap := hP
  have hl := lv_entry ([.ref (r 100), .int p0, .int p1, .int p2, .int p3, .int p4]) (n := 6) (Nat.le_of_ble_eq_true rfl)
  rw [lg_entry_eq]
  generalize (lg_sl ([.ref (r 100), .int p0, .int p1, .int p2, .int p3, .int p4]) ++ List.replicate (6 - (lg_sl ([.ref (r 100), .int p0, .int p1, .int p2, .int p3, .int p4])).length) Slot.unset).toArray = ls at hl ⊢
  have hl : lv_has ls 6 [(0, .ref (r 100)), (1, .int p0), (2, .int p1), (3, .int p2), (4, .int p3), (5, .int p4)] := hl
  refine lv_aload_n hx hb dX12_game_0 rfl (lv_at hl 0 rfl) ?_
  refine lv_iconst (v := 0) hx hb dX12_game_1 (by decide) ?_
  refine va_put (D := (dC, dI)) (ci := 12) (v := .int 0) (ty := .int) (C := RX12) (T := TX12) (N := 54) hx hb hts hiX12 tyX12 tyX12_ok nmX12 hown hK hP hD hS 0 rfl rfl 0 (by decide) (hts (.fieldLink RX12 90 "WallChapelsModel" "thrown" "I") (by decide +kernel)) (fun _ h9 => h9) rfl (by decide +kernel) rfl rfl (Nat.le_of_ble_eq_true rfl) dX12_game_2 (fun H locs hP hD hS => ?_)
  have hP : va_P (dC, dI) vwCl [((r 100), .inr (12, mF r 0 0 0 0 0 0 0 0 0 0 0 0 0 (-1) 1))] H := hP
  have hD : va_D A [((r 100), .inr (12, mF r 0 0 0 0 0 0 0 0 0 0 0 0 0 (-1) 1))] := hD
  refine lv_aload_n hx hb dX12_game_5 rfl (lv_at hl 0 rfl) ?_
  refine lv_iload_n hx hb dX12_game_6 rfl (lv_at hl 1 rfl) ?_
  refine lv_iload_n hx hb dX12_game_7 rfl (lv_at hl 2 rfl) ?_
  have hPc := hP.sub (ws' := [((r 100), .inr (12, mF r 0 0 0 0 0 0 0 0 0 0 0 0 0 (-1) 1))]) [0] rfl
  have hDc := hD.sub (ws' := [((r 100), .inr (12, mF r 0 0 0 0 0 0 0 0 0 0 0 0 0 (-1) 1))]) [0] (by decide) rfl
  have hKc := hK.sub (tys' := []) [] rfl
  have hFc := va_free (wc := [((r 100), .inr (12, mF r 0 0 0 0 0 0 0 0 0 0 0 0 0 (-1) 1))]) hD hS hA [0] rfl
  refine va_calli (va_runV (As := [.int p0, .int p1]) (rest := []) ⟨hx, hb, hml, hown, hts⟩ (f_X12_isGame l dC dI H.size r p0 p1) (cwV 2 hts g_f_X12_game_f_X12_isGame rfl rfl rfl (by decide +kernel) ⟨Nat.le_of_ble_eq_true rfl, Nat.le_of_ble_eq_true rfl⟩) ⟨cW_blind, va_recv hKc hPc (ci := 12) (q0 := 0) rfl rfl, fun U hU hW => ⟨rfl, cW_use hU hW hPc hKc hDc hG⟩⟩ rfl rfl hl.1 rfl (lv_room (Nat.le_of_ble_eq_true rfl)) dX12_game_8 ⟨Nat.le_of_ble_eq_true rfl, Nat.le_of_ble_eq_true rfl⟩) hS (fun q _ h => hFc q h) hFc (fun r_1 u t H1 locs ht hvm hw hB hz1 hk1 hS => ?_)
  obtain ⟨hP, hD⟩ := va_join (wr := []) (w1 := []) hP hD [0] [] rfl rfl (by decide) (by decide) hk1 hFc (va_P_nil H1) va_D_nil
  generalize H1 = H at hP hS ⊢
  have hP : va_P (dC, dI) vwCl [] H := hP
  have hD : va_D A [] := hD
  refine W.widen (k := 0) (n := 0) (Nat.le_of_ble_eq_true rfl) (Nat.le_of_ble_eq_true rfl) ?_
  obtain rfl : r_1 = 0 := hw
  refine lv_if_eq (tgt := 50) hx hb dX12_game_11 (by decide) (fun c_2 => ?_) (fun c_2 => absurd (by decide) c_2)
  refine lv_ldcw hx hb hown (hts (.constant RX12 325 (-1000000)) (by decide +kernel)) dX12_game_50 ?_
  exact W.iret (v := (-1000000)) hx hb hr (fun t ht hW => ⟨⟨(-1000000), (), rfl, rfl, trivial⟩, hS.F ht⟩) hS.2.2 dX12_game_53
end
section
set_option maxRecDepth 20000 in
theorem dX8_bytesOf_0 : decode cX8_bytesOf 0 = .ok (.iconst 0, 1) := by decide +kernel
set_option maxRecDepth 20000 in
theorem dX8_bytesOf_1 : decode cX8_bytesOf 1 = .ok (.istore_n 1, 1) := by decide +kernel
set_option maxRecDepth 20000 in
theorem dX8_bytesOf_2 : decode cX8_bytesOf 2 = .ok (.bipush 24, 2) := by decide +kernel
set_option maxRecDepth 20000 in
theorem dX8_bytesOf_4 : decode cX8_bytesOf 4 = .ok (.istore_n 2, 1) := by decide +kernel
set_option maxRecDepth 20000 in
theorem dX8_bytesOf_5 : decode cX8_bytesOf 5 = .ok (.iload_n 2, 1) := by decide +kernel
set_option maxRecDepth 20000 in
theorem dX8_bytesOf_6 : decode cX8_bytesOf 6 = .ok (.ifCond .lt 22, 3) := by decide +kernel
set_option maxRecDepth 20000 in
theorem dX8_bytesOf_9 : decode cX8_bytesOf 9 = .ok (.iload_n 0, 1) := by decide +kernel
set_option maxRecDepth 20000 in
theorem dX8_bytesOf_10 : decode cX8_bytesOf 10 = .ok (.iload_n 2, 1) := by decide +kernel
set_option maxRecDepth 20000 in
theorem dX8_bytesOf_11 : decode cX8_bytesOf 11 = .ok (.iushr, 1) := by decide +kernel
set_option maxRecDepth 20000 in
theorem dX8_bytesOf_12 : decode cX8_bytesOf 12 = .ok (.sipush 255, 3) := by decide +kernel
set_option maxRecDepth 20000 in
theorem dX8_bytesOf_15 : decode cX8_bytesOf 15 = .ok (.iand, 1) := by decide +kernel
set_option maxRecDepth 20000 in
theorem dX8_bytesOf_16 : decode cX8_bytesOf 16 = .ok (.ifCond .eq 6, 3) := by decide +kernel
set_option maxRecDepth 20000 in
theorem dX8_bytesOf_19 : decode cX8_bytesOf 19 = .ok (.iinc 1 1, 3) := by decide +kernel
set_option maxRecDepth 20000 in
theorem dX8_bytesOf_22 : decode cX8_bytesOf 22 = .ok (.iinc 2 (-8), 3) := by decide +kernel
set_option maxRecDepth 20000 in
theorem dX8_bytesOf_25 : decode cX8_bytesOf 25 = .ok (.goto (-20), 3) := by decide +kernel
set_option maxRecDepth 20000 in
theorem dX8_bytesOf_28 : decode cX8_bytesOf 28 = .ok (.iload_n 1, 1) := by decide +kernel
set_option maxRecDepth 20000 in
theorem dX8_bytesOf_29 : decode cX8_bytesOf 29 = .ok (.ireturn, 1) := by decide +kernel
set_option maxRecDepth 20000 in
theorem dX12_bytesIn_0 : decode cX12_bytesIn 0 = .ok (.iconst 0, 1) := by decide +kernel
set_option maxRecDepth 20000 in
theorem dX12_bytesIn_1 : decode cX12_bytesIn 1 = .ok (.istore_n 1, 1) := by decide +kernel
set_option maxRecDepth 20000 in
theorem dX12_bytesIn_2 : decode cX12_bytesIn 2 = .ok (.bipush 24, 2) := by decide +kernel
set_option maxRecDepth 20000 in
theorem dX12_bytesIn_4 : decode cX12_bytesIn 4 = .ok (.istore_n 2, 1) := by decide +kernel
set_option maxRecDepth 20000 in
theorem dX12_bytesIn_5 : decode cX12_bytesIn 5 = .ok (.iload_n 2, 1) := by decide +kernel
set_option maxRecDepth 20000 in
theorem dX12_bytesIn_6 : decode cX12_bytesIn 6 = .ok (.ifCond .lt 27, 3) := by decide +kernel
set_option maxRecDepth 20000 in
theorem dX12_bytesIn_9 : decode cX12_bytesIn 9 = .ok (.iload_n 1, 1) := by decide +kernel
set_option maxRecDepth 20000 in
theorem dX12_bytesIn_10 : decode cX12_bytesIn 10 = .ok (.iload_n 0, 1) := by decide +kernel
set_option maxRecDepth 20000 in
theorem dX12_bytesIn_11 : decode cX12_bytesIn 11 = .ok (.iload_n 2, 1) := by decide +kernel
set_option maxRecDepth 20000 in
theorem dX12_bytesIn_12 : decode cX12_bytesIn 12 = .ok (.ishr, 1) := by decide +kernel
set_option maxRecDepth 20000 in
theorem dX12_bytesIn_13 : decode cX12_bytesIn 13 = .ok (.sipush 255, 3) := by decide +kernel
set_option maxRecDepth 20000 in
theorem dX12_bytesIn_16 : decode cX12_bytesIn 16 = .ok (.iand, 1) := by decide +kernel
set_option maxRecDepth 20000 in
theorem dX12_bytesIn_17 : decode cX12_bytesIn 17 = .ok (.ifCond .eq 7, 3) := by decide +kernel
set_option maxRecDepth 20000 in
theorem dX12_bytesIn_20 : decode cX12_bytesIn 20 = .ok (.iconst 1, 1) := by decide +kernel
set_option maxRecDepth 20000 in
theorem dX12_bytesIn_21 : decode cX12_bytesIn 21 = .ok (.goto 4, 3) := by decide +kernel
set_option maxRecDepth 20000 in
theorem dX12_bytesIn_24 : decode cX12_bytesIn 24 = .ok (.iconst 0, 1) := by decide +kernel
set_option maxRecDepth 20000 in
theorem dX12_bytesIn_25 : decode cX12_bytesIn 25 = .ok (.iadd, 1) := by decide +kernel
set_option maxRecDepth 20000 in
theorem dX12_bytesIn_26 : decode cX12_bytesIn 26 = .ok (.istore_n 1, 1) := by decide +kernel
set_option maxRecDepth 20000 in
theorem dX12_bytesIn_27 : decode cX12_bytesIn 27 = .ok (.iinc 2 (-8), 3) := by decide +kernel
set_option maxRecDepth 20000 in
theorem dX12_bytesIn_30 : decode cX12_bytesIn 30 = .ok (.goto (-25), 3) := by decide +kernel
set_option maxRecDepth 20000 in
theorem dX12_bytesIn_33 : decode cX12_bytesIn 33 = .ok (.iload_n 1, 1) := by decide +kernel
set_option maxRecDepth 20000 in
theorem dX12_bytesIn_34 : decode cX12_bytesIn 34 = .ok (.ireturn, 1) := by decide +kernel
set_option maxRecDepth 20000 in
theorem dX8_append_3 : decode cX8_append 3 = .ok (.iload_n 2, 1) := by decide +kernel
set_option maxRecDepth 20000 in
theorem dX8_append_4 : decode cX8_append 4 = .ok (.ifCond .lt 51, 3) := by decide +kernel
set_option maxRecDepth 20000 in
theorem dX8_append_7 : decode cX8_append 7 = .ok (.iload_n 1, 1) := by decide +kernel
set_option maxRecDepth 20000 in
theorem dX8_append_8 : decode cX8_append 8 = .ok (.iload_n 2, 1) := by decide +kernel
set_option maxRecDepth 20000 in
theorem dX8_append_9 : decode cX8_append 9 = .ok (.iushr, 1) := by decide +kernel
set_option maxRecDepth 20000 in
theorem dX8_append_10 : decode cX8_append 10 = .ok (.sipush 255, 3) := by decide +kernel
set_option maxRecDepth 20000 in
theorem dX8_append_13 : decode cX8_append 13 = .ok (.iand, 1) := by decide +kernel
set_option maxRecDepth 20000 in
theorem dX8_append_14 : decode cX8_append 14 = .ok (.istore_n 3, 1) := by decide +kernel
set_option maxRecDepth 20000 in
theorem dX8_append_15 : decode cX8_append 15 = .ok (.iload_n 3, 1) := by decide +kernel
set_option maxRecDepth 20000 in
theorem dX8_append_16 : decode cX8_append 16 = .ok (.ifCond .eq 33, 3) := by decide +kernel
set_option maxRecDepth 20000 in
theorem dX8_append_49 : decode cX8_append 49 = .ok (.iinc 2 (-8), 3) := by decide +kernel
set_option maxRecDepth 20000 in
theorem dX8_append_52 : decode cX8_append 52 = .ok (.goto (-49), 3) := by decide +kernel
set_option maxRecDepth 20000 in
theorem dX8_append_19 : decode cX8_append 19 = .ok (.aload_n 0, 1) := by decide +kernel
set_option maxRecDepth 20000 in
theorem dX8_append_20 : decode cX8_append 20 = .ok (.getfield 15, 3) := by decide +kernel
set_option maxRecDepth 20000 in
theorem dX8_append_23 : decode cX8_append 23 = .ok (.sipush 240, 3) := by decide +kernel
set_option maxRecDepth 20000 in
theorem dX8_append_26 : decode cX8_append 26 = .ok (.if_icmp .ge 23, 3) := by decide +kernel
set_option maxRecDepth 20000 in
theorem dX8_append_29 : decode cX8_append 29 = .ok (.aload_n 0, 1) := by decide +kernel
set_option maxRecDepth 20000 in
theorem dX8_append_30 : decode cX8_append 30 = .ok (.getfield 9, 3) := by decide +kernel
set_option maxRecDepth 20000 in
theorem dX8_append_33 : decode cX8_append 33 = .ok (.aload_n 0, 1) := by decide +kernel
set_option maxRecDepth 20000 in
theorem dX8_append_34 : decode cX8_append 34 = .ok (.getfield 15, 3) := by decide +kernel
set_option maxRecDepth 20000 in
theorem dX8_append_37 : decode cX8_append 37 = .ok (.iload_n 3, 1) := by decide +kernel
set_option maxRecDepth 20000 in
theorem dX8_append_38 : decode cX8_append 38 = .ok (.iastore, 1) := by decide +kernel
set_option maxRecDepth 20000 in
theorem dX8_append_39 : decode cX8_append 39 = .ok (.aload_n 0, 1) := by decide +kernel
set_option maxRecDepth 20000 in
theorem dX8_append_40 : decode cX8_append 40 = .ok (.dup, 1) := by decide +kernel
set_option maxRecDepth 20000 in
theorem dX8_append_41 : decode cX8_append 41 = .ok (.getfield 15, 3) := by decide +kernel
set_option maxRecDepth 20000 in
theorem dX8_append_44 : decode cX8_append 44 = .ok (.iconst 1, 1) := by decide +kernel
set_option maxRecDepth 20000 in
theorem dX8_append_45 : decode cX8_append 45 = .ok (.iadd, 1) := by decide +kernel
set_option maxRecDepth 20000 in
theorem dX8_append_46 : decode cX8_append 46 = .ok (.putfield 15, 3) := by decide +kernel
set_option maxRecDepth 20000 in
theorem dX8_append_0 : decode cX8_append 0 = .ok (.bipush 24, 2) := by decide +kernel
set_option maxRecDepth 20000 in
theorem dX8_append_2 : decode cX8_append 2 = .ok (.istore_n 2, 1) := by decide +kernel
set_option maxRecDepth 20000 in
theorem dX8_append_55 : decode cX8_append 55 = .ok (.return_, 1) := by decide +kernel
def vs_f_X8_bytesOf : List Cond := .code yX8_bytesOf cX8_bytesOf 3 (some .int) :: ([])
set_option maxHeartbeats 4000000 in
set_option maxRecDepth 100000 in
theorem f_X8_bytesOf (l : Launch) (dC : Nat → ClassId) (dI : Nat → Nat → Nat) (sz : Nat) (p0 : Int32) : Met l yX8_bytesOf vs_f_X8_bytesOf ({ frames := 0, cells := 0, slots := 0, locals := 0 }) (va_Pc [.int p0] (cW dC dI [] [] sz)) (va_Qi (fun (r : Int32) (_ : Unit) => r = nI (cA p0)) (fun (_ : Unit) (t : State) => True) (va_A [] sz)) 0 0 (va_A [] sz) := by
  refine Met.ofW (cc := cX8_bytesOf) (maxL := 3) (ret := (some .int)) (by decide) rfl ?_
  intro p e s m args below meth c s₁ B hml hv
  obtain ⟨rfl, hsz, hP, hK, hD0, hG⟩ := hv
  have hx := B.exec
  have hb := B.bytes
  have hr := B.returns
  have hts := atoms_spec (ws := vs_f_X8_bytesOf) B.pre
  have hown : s.vm.findClass RX8 = some m.cls := findClass_of_methodNamed B.named
  have hlocks := B.notSynchronized
  subst hsz
  have hD := hD0.self (sz := s.heap.size)
  generalize hAe : va_A [] s.heap.size = A at hD ⊢
  have hA : ∀ q : Nat, s.heap.size ≤ q → A q := fun q h => by rw [← hAe]; exact Or.inr h
  have hS : va_S A s.heap s.heap [] := va_S.rf
  have hP : va_P (dC, dI) vwCl [] s.heap := hP
  have hl := lv_entry ([.int p0]) (n := 3) (Nat.le_of_ble_eq_true rfl)
  rw [lg_entry_eq]
  generalize (lg_sl ([.int p0]) ++ List.replicate (3 - (lg_sl ([.int p0])).length) Slot.unset).toArray = ls at hl ⊢
  have hl : lv_has ls 3 [(0, .int p0)] := hl
  refine lv_iconst (v := 0) hx hb dX8_bytesOf_0 (by decide) ?_
  refine lv_istore_n (lv' := [(1, .int 0), (0, .int p0)]) hx hb dX8_bytesOf_1 rfl hl (by decide) rfl (fun ls hl => ?_)
  refine lv_bipush (v := 24) hx hb dX8_bytesOf_2 (by decide) ?_
  refine lv_istore_n (lv' := [(2, .int 24), (1, .int 0), (0, .int p0)]) hx hb dX8_bytesOf_4 rfl hl (by decide) rfl (fun ls hl => ?_)
  refine lv_iload_n hx hb dX8_bytesOf_5 rfl (lv_at hl 0 rfl) ?_
  refine lv_if_lt (tgt := 28) hx hb dX8_bytesOf_6 (by decide) (fun c_1 => absurd c_1 (by decide)) (fun c_1 => ?_)
  refine lv_iload_n hx hb dX8_bytesOf_9 rfl (lv_at hl 2 rfl) ?_
  refine lv_iload_n hx hb dX8_bytesOf_10 rfl (lv_at hl 0 rfl) ?_
  refine lv_iushr (v := (p0.toUInt32 >>> ((24 : Int32).toUInt32 &&& Int32.toUInt32 31)).toInt32) hx hb dX8_bytesOf_11 rfl ?_
  refine lv_sipush (v := 255) hx hb dX8_bytesOf_12 (by decide) ?_
  refine lv_iand hx hb dX8_bytesOf_15 ?_
  refine lv_topi (fun v_2 e_2 => ?_)
  refine lv_ifinc (k := 1) hx hb dX8_bytesOf_16 (by decide) dX8_bytesOf_19 rfl hl rfl (by decide) (fun y_3 ls ey_3 hl => ?_)
  obtain rfl : y_3 = nI (0 + bz p0 24) := by rw [ey_3]; by_cases h : v_2 = 0; exact (by rw [if_pos h, bz0 (show v_2 = uA p0 24 from e_2) h]; rfl); exact (by rw [if_neg h, bz1 (show v_2 = uA p0 24 from e_2) h]; exact nI_1 0)
  have hl : lv_has ls 3 [(1, .int (nI (0 + bz p0 24))), (2, .int 24), (0, .int p0)] := hl
  refine lv_iinc (v := 16) (lv' := [(2, .int 16), (1, .int (nI (0 + bz p0 24))), (0, .int p0)]) hx hb dX8_bytesOf_22 hl (k := 1) rfl (by decide) (by decide) rfl (fun ls hl => ?_)
  refine lv_goto (tgt := 5) hx hb dX8_bytesOf_25 (by decide) ?_
  refine lv_iload_n hx hb dX8_bytesOf_5 rfl (lv_at hl 0 rfl) ?_
  refine lv_if_lt (tgt := 28) hx hb dX8_bytesOf_6 (by decide) (fun c_4 => absurd c_4 (by decide)) (fun c_4 => ?_)
  refine lv_iload_n hx hb dX8_bytesOf_9 rfl (lv_at hl 2 rfl) ?_
  refine lv_iload_n hx hb dX8_bytesOf_10 rfl (lv_at hl 0 rfl) ?_
  refine lv_iushr (v := (p0.toUInt32 >>> ((16 : Int32).toUInt32 &&& Int32.toUInt32 31)).toInt32) hx hb dX8_bytesOf_11 rfl ?_
  refine lv_sipush (v := 255) hx hb dX8_bytesOf_12 (by decide) ?_
  refine lv_iand hx hb dX8_bytesOf_15 ?_
  refine lv_topi (fun v_5 e_5 => ?_)
  refine lv_ifinc (k := 1) hx hb dX8_bytesOf_16 (by decide) dX8_bytesOf_19 rfl hl rfl (by decide) (fun y_6 ls ey_6 hl => ?_)
  obtain rfl : y_6 = nI ((0 + bz p0 24) + bz p0 16) := by rw [ey_6]; by_cases h : v_5 = 0; exact (by rw [if_pos h, bz0 (show v_5 = uA p0 16 from e_5) h]; rfl); exact (by rw [if_neg h, bz1 (show v_5 = uA p0 16 from e_5) h]; exact nI_1 (0 + bz p0 24))
  have hl : lv_has ls 3 [(1, .int (nI ((0 + bz p0 24) + bz p0 16))), (2, .int 16), (0, .int p0)] := hl
  refine lv_iinc (v := 8) (lv' := [(2, .int 8), (1, .int (nI ((0 + bz p0 24) + bz p0 16))), (0, .int p0)]) hx hb dX8_bytesOf_22 hl (k := 1) rfl (by decide) (by decide) rfl (fun ls hl => ?_)
  refine lv_goto (tgt := 5) hx hb dX8_bytesOf_25 (by decide) ?_
  refine lv_iload_n hx hb dX8_bytesOf_5 rfl (lv_at hl 0 rfl) ?_
  refine lv_if_lt (tgt := 28) hx hb dX8_bytesOf_6 (by decide) (fun c_7 => absurd c_7 (by decide)) (fun c_7 => ?_)
  refine lv_iload_n hx hb dX8_bytesOf_9 rfl (lv_at hl 2 rfl) ?_
  refine lv_iload_n hx hb dX8_bytesOf_10 rfl (lv_at hl 0 rfl) ?_
  refine lv_iushr (v := (p0.toUInt32 >>> ((8 : Int32).toUInt32 &&& Int32.toUInt32 31)).toInt32) hx hb dX8_bytesOf_11 rfl ?_
  refine lv_sipush (v := 255) hx hb dX8_bytesOf_12 (by decide) ?_
  refine lv_iand hx hb dX8_bytesOf_15 ?_
  refine lv_topi (fun v_8 e_8 => ?_)
  refine lv_ifinc (k := 1) hx hb dX8_bytesOf_16 (by decide) dX8_bytesOf_19 rfl hl rfl (by decide) (fun y_9 ls ey_9 hl => ?_)
  obtain rfl : y_9 = nI (((0 + bz p0 24) + bz p0 16) + bz p0 8) := by rw [ey_9]; by_cases h : v_8 = 0; exact (by rw [if_pos h, bz0 (show v_8 = uA p0 8 from e_8) h]; rfl); exact (by rw [if_neg h, bz1 (show v_8 = uA p0 8 from e_8) h]; exact nI_1 ((0 + bz p0 24) + bz p0 16))
  have hl : lv_has ls 3 [(1, .int (nI (((0 + bz p0 24) + bz p0 16) + bz p0 8))), (2, .int 8), (0, .int p0)] := hl
  refine lv_iinc (v := 0) (lv' := [(2, .int 0), (1, .int (nI (((0 + bz p0 24) + bz p0 16) + bz p0 8))), (0, .int p0)]) hx hb dX8_bytesOf_22 hl (k := 1) rfl (by decide) (by decide) rfl (fun ls hl => ?_)
  refine lv_goto (tgt := 5) hx hb dX8_bytesOf_25 (by decide) ?_
  refine lv_iload_n hx hb dX8_bytesOf_5 rfl (lv_at hl 0 rfl) ?_
  refine lv_if_lt (tgt := 28) hx hb dX8_bytesOf_6 (by decide) (fun c_10 => absurd c_10 (by decide)) (fun c_10 => ?_)
  refine lv_iload_n hx hb dX8_bytesOf_9 rfl (lv_at hl 2 rfl) ?_
  refine lv_iload_n hx hb dX8_bytesOf_10 rfl (lv_at hl 0 rfl) ?_
  refine lv_iushr (v := (p0.toUInt32 >>> ((0 : Int32).toUInt32 &&& Int32.toUInt32 31)).toInt32) hx hb dX8_bytesOf_11 rfl ?_
  refine lv_sipush (v := 255) hx hb dX8_bytesOf_12 (by decide) ?_
  refine lv_iand hx hb dX8_bytesOf_15 ?_
  refine lv_topi (fun v_11 e_11 => ?_)
  refine lv_ifinc (k := 1) hx hb dX8_bytesOf_16 (by decide) dX8_bytesOf_19 rfl hl rfl (by decide) (fun y_12 ls ey_12 hl => ?_)
  obtain rfl : y_12 = nI ((((0 + bz p0 24) + bz p0 16) + bz p0 8) + bz p0 0) := by rw [ey_12]; by_cases h : v_11 = 0; exact (by rw [if_pos h, bz0 (show v_11 = uA p0 0 from e_11) h]; rfl); exact (by rw [if_neg h, bz1 (show v_11 = uA p0 0 from e_11) h]; exact nI_1 (((0 + bz p0 24) + bz p0 16) + bz p0 8))
  have hl : lv_has ls 3 [(1, .int (nI ((((0 + bz p0 24) + bz p0 16) + bz p0 8) + bz p0 0))), (2, .int 0), (0, .int p0)] := hl
  refine lv_iinc (v := (-8)) (lv' := [(2, .int (-8)), (1, .int (nI ((((0 + bz p0 24) + bz p0 16) + bz p0 8) + bz p0 0))), (0, .int p0)]) hx hb dX8_bytesOf_22 hl (k := 1) rfl (by decide) (by decide) rfl (fun ls hl => ?_)
  refine lv_goto (tgt := 5) hx hb dX8_bytesOf_25 (by decide) ?_
  refine lv_iload_n hx hb dX8_bytesOf_5 rfl (lv_at hl 0 rfl) ?_
  refine lv_if_lt (tgt := 28) hx hb dX8_bytesOf_6 (by decide) (fun c_13 => ?_) (fun c_13 => absurd (by decide) c_13)
  refine lv_iload_n hx hb dX8_bytesOf_28 rfl (lv_at hl 1 rfl) ?_
  exact W.iret (v := (nI ((((0 + bz p0 24) + bz p0 16) + bz p0 8) + bz p0 0))) hx hb hr (fun t ht hW => ⟨⟨(nI ((((0 + bz p0 24) + bz p0 16) + bz p0 8) + bz p0 0)), (), rfl, congrArg nI (by unfold cA; omega), trivial⟩, hS.F ht⟩) hS.2.2 dX8_bytesOf_29
def vs_f_X12_bytesIn : List Cond := .code yX12_bytesIn cX12_bytesIn 3 (some .int) :: ([])
set_option maxHeartbeats 4000000 in
set_option maxRecDepth 100000 in
theorem f_X12_bytesIn (l : Launch) (dC : Nat → ClassId) (dI : Nat → Nat → Nat) (sz : Nat) (p0 : Int32) : Met l yX12_bytesIn vs_f_X12_bytesIn ({ frames := 0, cells := 0, slots := 0, locals := 0 }) (va_Pc [.int p0] (cW dC dI [] [] sz)) (va_Qi (fun (r : Int32) (_ : Unit) => r = nI (cA p0)) (fun (_ : Unit) (t : State) => True) (va_A [] sz)) 0 0 (va_A [] sz) := by
  refine Met.ofW (cc := cX12_bytesIn) (maxL := 3) (ret := (some .int)) (by decide) rfl ?_
  intro p e s m args below meth c s₁ B hml hv
  obtain ⟨rfl, hsz, hP, hK, hD0, hG⟩ := hv
  have hx := B.exec
  have hb := B.bytes
  have hr := B.returns
  have hts := atoms_spec (ws := vs_f_X12_bytesIn) B.pre
  have hown : s.vm.findClass RX12 = some m.cls := findClass_of_methodNamed B.named
  have hlocks := B.notSynchronized
  subst hsz
  have hD := hD0.self (sz := s.heap.size)
  generalize hAe : va_A [] s.heap.size = A at hD ⊢
  have hA : ∀ q : Nat, s.heap.size ≤ q → A q := fun q h => by rw [← hAe]; exact Or.inr h
  have hS : va_S A s.heap s.heap [] := va_S.rf
  have hP : va_P (dC, dI) vwCl [] s.heap := hP
  have hl := lv_entry ([.int p0]) (n := 3) (Nat.le_of_ble_eq_true rfl)
  rw [lg_entry_eq]
  generalize (lg_sl ([.int p0]) ++ List.replicate (3 - (lg_sl ([.int p0])).length) Slot.unset).toArray = ls at hl ⊢
  have hl : lv_has ls 3 [(0, .int p0)] := hl
  refine lv_iconst (v := 0) hx hb dX12_bytesIn_0 (by decide) ?_
  refine lv_istore_n (lv' := [(1, .int 0), (0, .int p0)]) hx hb dX12_bytesIn_1 rfl hl (by decide) rfl (fun ls hl => ?_)
  refine lv_bipush (v := 24) hx hb dX12_bytesIn_2 (by decide) ?_
  refine lv_istore_n (lv' := [(2, .int 24), (1, .int 0), (0, .int p0)]) hx hb dX12_bytesIn_4 rfl hl (by decide) rfl (fun ls hl => ?_)
  refine lv_iload_n hx hb dX12_bytesIn_5 rfl (lv_at hl 0 rfl) ?_
  refine lv_if_lt (tgt := 33) hx hb dX12_bytesIn_6 (by decide) (fun c_1 => absurd c_1 (by decide)) (fun c_1 => ?_)
  refine lv_iload_n hx hb dX12_bytesIn_9 rfl (lv_at hl 1 rfl) ?_
  refine lv_iload_n hx hb dX12_bytesIn_10 rfl (lv_at hl 2 rfl) ?_
  refine lv_iload_n hx hb dX12_bytesIn_11 rfl (lv_at hl 0 rfl) ?_
  refine lv_ishr hx hb dX12_bytesIn_12 ?_
  refine lv_sipush (v := 255) hx hb dX12_bytesIn_13 (by decide) ?_
  refine lv_iand hx hb dX12_bytesIn_16 ?_
  refine lv_topi (fun v_2 e_2 => ?_)
  refine lv_tern (a := 1) (b := 0) hx hb dX12_bytesIn_17 (by decide) dX12_bytesIn_20 (by decide) dX12_bytesIn_21 (by decide) dX12_bytesIn_24 (by decide) rfl (fun y_3 ey_3 => ?_)
  obtain rfl : y_3 = nI (bz p0 24) := by rw [ey_3]; by_cases h : v_2 = 0; exact (by rw [if_pos h, bz0 (show v_2 = uA p0 24 from sA_u 24 rfl (by decide) e_2) h]; rfl); exact (by rw [if_neg h, bz1 (show v_2 = uA p0 24 from sA_u 24 rfl (by decide) e_2) h]; rfl)
  refine lv_iadd hx hb dX12_bytesIn_25 ?_
  refine lv_topi (fun v_4 e_4 => ?_)
  obtain rfl : v_4 = nI (0 + (bz p0 24)) := by rw [e_4]; exact nI_add 0 (bz p0 24)
  refine lv_istore_n (lv' := [(1, .int (nI (0 + (bz p0 24)))), (2, .int 24), (0, .int p0)]) hx hb dX12_bytesIn_26 rfl hl (by decide) rfl (fun ls hl => ?_)
  refine lv_iinc (v := 16) (lv' := [(2, .int 16), (1, .int (nI (0 + (bz p0 24)))), (0, .int p0)]) hx hb dX12_bytesIn_27 hl (k := 1) rfl (by decide) (by decide) rfl (fun ls hl => ?_)
  refine lv_goto (tgt := 5) hx hb dX12_bytesIn_30 (by decide) ?_
  refine lv_iload_n hx hb dX12_bytesIn_5 rfl (lv_at hl 0 rfl) ?_
  refine lv_if_lt (tgt := 33) hx hb dX12_bytesIn_6 (by decide) (fun c_5 => absurd c_5 (by decide)) (fun c_5 => ?_)
  refine lv_iload_n hx hb dX12_bytesIn_9 rfl (lv_at hl 1 rfl) ?_
  refine lv_iload_n hx hb dX12_bytesIn_10 rfl (lv_at hl 2 rfl) ?_
  refine lv_iload_n hx hb dX12_bytesIn_11 rfl (lv_at hl 0 rfl) ?_
  refine lv_ishr hx hb dX12_bytesIn_12 ?_
  refine lv_sipush (v := 255) hx hb dX12_bytesIn_13 (by decide) ?_
  refine lv_iand hx hb dX12_bytesIn_16 ?_
  refine lv_topi (fun v_6 e_6 => ?_)
  refine lv_tern (a := 1) (b := 0) hx hb dX12_bytesIn_17 (by decide) dX12_bytesIn_20 (by decide) dX12_bytesIn_21 (by decide) dX12_bytesIn_24 (by decide) rfl (fun y_7 ey_7 => ?_)
  obtain rfl : y_7 = nI (bz p0 16) := by rw [ey_7]; by_cases h : v_6 = 0; exact (by rw [if_pos h, bz0 (show v_6 = uA p0 16 from sA_u 16 rfl (by decide) e_6) h]; rfl); exact (by rw [if_neg h, bz1 (show v_6 = uA p0 16 from sA_u 16 rfl (by decide) e_6) h]; rfl)
  refine lv_iadd hx hb dX12_bytesIn_25 ?_
  refine lv_topi (fun v_8 e_8 => ?_)
  obtain rfl : v_8 = nI ((0 + (bz p0 24)) + (bz p0 16)) := by rw [e_8]; exact nI_add (0 + (bz p0 24)) (bz p0 16)
  refine lv_istore_n (lv' := [(1, .int (nI ((0 + (bz p0 24)) + (bz p0 16)))), (2, .int 16), (0, .int p0)]) hx hb dX12_bytesIn_26 rfl hl (by decide) rfl (fun ls hl => ?_)
  refine lv_iinc (v := 8) (lv' := [(2, .int 8), (1, .int (nI ((0 + (bz p0 24)) + (bz p0 16)))), (0, .int p0)]) hx hb dX12_bytesIn_27 hl (k := 1) rfl (by decide) (by decide) rfl (fun ls hl => ?_)
  refine lv_goto (tgt := 5) hx hb dX12_bytesIn_30 (by decide) ?_
  refine lv_iload_n hx hb dX12_bytesIn_5 rfl (lv_at hl 0 rfl) ?_
  refine lv_if_lt (tgt := 33) hx hb dX12_bytesIn_6 (by decide) (fun c_9 => absurd c_9 (by decide)) (fun c_9 => ?_)
  refine lv_iload_n hx hb dX12_bytesIn_9 rfl (lv_at hl 1 rfl) ?_
  refine lv_iload_n hx hb dX12_bytesIn_10 rfl (lv_at hl 2 rfl) ?_
  refine lv_iload_n hx hb dX12_bytesIn_11 rfl (lv_at hl 0 rfl) ?_
  refine lv_ishr hx hb dX12_bytesIn_12 ?_
  refine lv_sipush (v := 255) hx hb dX12_bytesIn_13 (by decide) ?_
  refine lv_iand hx hb dX12_bytesIn_16 ?_
  refine lv_topi (fun v_10 e_10 => ?_)
  refine lv_tern (a := 1) (b := 0) hx hb dX12_bytesIn_17 (by decide) dX12_bytesIn_20 (by decide) dX12_bytesIn_21 (by decide) dX12_bytesIn_24 (by decide) rfl (fun y_11 ey_11 => ?_)
  obtain rfl : y_11 = nI (bz p0 8) := by rw [ey_11]; by_cases h : v_10 = 0; exact (by rw [if_pos h, bz0 (show v_10 = uA p0 8 from sA_u 8 rfl (by decide) e_10) h]; rfl); exact (by rw [if_neg h, bz1 (show v_10 = uA p0 8 from sA_u 8 rfl (by decide) e_10) h]; rfl)
  refine lv_iadd hx hb dX12_bytesIn_25 ?_
  refine lv_topi (fun v_12 e_12 => ?_)
  obtain rfl : v_12 = nI (((0 + (bz p0 24)) + (bz p0 16)) + (bz p0 8)) := by rw [e_12]; exact nI_add ((0 + (bz p0 24)) + (bz p0 16)) (bz p0 8)
  refine lv_istore_n (lv' := [(1, .int (nI (((0 + (bz p0 24)) + (bz p0 16)) + (bz p0 8)))), (2, .int 8), (0, .int p0)]) hx hb dX12_bytesIn_26 rfl hl (by decide) rfl (fun ls hl => ?_)
  refine lv_iinc (v := 0) (lv' := [(2, .int 0), (1, .int (nI (((0 + (bz p0 24)) + (bz p0 16)) + (bz p0 8)))), (0, .int p0)]) hx hb dX12_bytesIn_27 hl (k := 1) rfl (by decide) (by decide) rfl (fun ls hl => ?_)
  refine lv_goto (tgt := 5) hx hb dX12_bytesIn_30 (by decide) ?_
  refine lv_iload_n hx hb dX12_bytesIn_5 rfl (lv_at hl 0 rfl) ?_
  refine lv_if_lt (tgt := 33) hx hb dX12_bytesIn_6 (by decide) (fun c_13 => absurd c_13 (by decide)) (fun c_13 => ?_)
  refine lv_iload_n hx hb dX12_bytesIn_9 rfl (lv_at hl 1 rfl) ?_
  refine lv_iload_n hx hb dX12_bytesIn_10 rfl (lv_at hl 2 rfl) ?_
  refine lv_iload_n hx hb dX12_bytesIn_11 rfl (lv_at hl 0 rfl) ?_
  refine lv_ishr hx hb dX12_bytesIn_12 ?_
  refine lv_sipush (v := 255) hx hb dX12_bytesIn_13 (by decide) ?_
  refine lv_iand hx hb dX12_bytesIn_16 ?_
  refine lv_topi (fun v_14 e_14 => ?_)
  refine lv_tern (a := 1) (b := 0) hx hb dX12_bytesIn_17 (by decide) dX12_bytesIn_20 (by decide) dX12_bytesIn_21 (by decide) dX12_bytesIn_24 (by decide) rfl (fun y_15 ey_15 => ?_)
  obtain rfl : y_15 = nI (bz p0 0) := by rw [ey_15]; by_cases h : v_14 = 0; exact (by rw [if_pos h, bz0 (show v_14 = uA p0 0 from sA_u 0 rfl (by decide) e_14) h]; rfl); exact (by rw [if_neg h, bz1 (show v_14 = uA p0 0 from sA_u 0 rfl (by decide) e_14) h]; rfl)
  refine lv_iadd hx hb dX12_bytesIn_25 ?_
  refine lv_topi (fun v_16 e_16 => ?_)
  obtain rfl : v_16 = nI ((((0 + (bz p0 24)) + (bz p0 16)) + (bz p0 8)) + (bz p0 0)) := by rw [e_16]; exact nI_add (((0 + (bz p0 24)) + (bz p0 16)) + (bz p0 8)) (bz p0 0)
  refine lv_istore_n (lv' := [(1, .int (nI ((((0 + (bz p0 24)) + (bz p0 16)) + (bz p0 8)) + (bz p0 0)))), (2, .int 0), (0, .int p0)]) hx hb dX12_bytesIn_26 rfl hl (by decide) rfl (fun ls hl => ?_)
  refine lv_iinc (v := (-8)) (lv' := [(2, .int (-8)), (1, .int (nI ((((0 + (bz p0 24)) + (bz p0 16)) + (bz p0 8)) + (bz p0 0)))), (0, .int p0)]) hx hb dX12_bytesIn_27 hl (k := 1) rfl (by decide) (by decide) rfl (fun ls hl => ?_)
  refine lv_goto (tgt := 5) hx hb dX12_bytesIn_30 (by decide) ?_
  refine lv_iload_n hx hb dX12_bytesIn_5 rfl (lv_at hl 0 rfl) ?_
  refine lv_if_lt (tgt := 33) hx hb dX12_bytesIn_6 (by decide) (fun c_17 => ?_) (fun c_17 => absurd (by decide) c_17)
  refine lv_iload_n hx hb dX12_bytesIn_33 rfl (lv_at hl 1 rfl) ?_
  exact W.iret (v := (nI ((((0 + (bz p0 24)) + (bz p0 16)) + (bz p0 8)) + (bz p0 0)))) hx hb hr (fun t ht hW => ⟨⟨(nI ((((0 + (bz p0 24)) + (bz p0 16)) + (bz p0 8)) + (bz p0 0))), (), rfl, congrArg nI (by unfold cA; omega), trivial⟩, hS.F ht⟩) hS.2.2 dX12_bytesIn_34
def vs_f_X8_append : List Cond := .code yX8_append cX8_append 4 none :: ([.fieldLink RX8 15 "WallChapels$Tape" "length" "I", .fieldLink RX8 9 "WallChapels$Tape" "bytes" "[I"] ++ (u_ws RX8 TX8 4))
theorem vs_f_X8_append_uX8 : ∀ w ∈ u_ws RX8 TX8 4, w ∈ vs_f_X8_append := fun _ h => List.mem_cons_of_mem _ (List.mem_append_right _ (h))
set_option maxHeartbeats 4000000 in
set_option maxRecDepth 100000 in
theorem f_X8_append_24 {p : Program} {l : Launch} {e : Env} {R : Room} {s : State} {m : MethodId} {args : Array Value} {below : List Frame} {meth : Method} {c : Code} {H0 H : Heap} {locs : List Loc} {cells slots : Nat} {Q : State → Prop} {dC : Nat → ClassId} {dI : Nat → Nat → Nat} {A : Nat → Prop} {ls : Array Slot} (q : Nat → Nat) (kB : ClassId) (n : Nat) (hn : n < 200) (f : Nat → Int32) (p0 : Int32) (hx : p.tables.exec = Jvm.exec) (hb : c.code = cX8_append) (hts : ∀ w ∈ vs_f_X8_append, w.before args s = true) (hown : s.vm.findClass RX8 = some m.cls) (hG : gxP s) (hK : va_K (dC, dI) vwCl [(kB, .int)] s) (hP : va_P (dC, dI) vwCl [((q 0), .inr (8, [.ref (q 16), .int (nI n), .int 0, .int 0])), ((q 16), .inl (kB, 240, .inl f))] H) (hD : va_D A [((q 0), .inr (8, [.ref (q 16), .int (nI n), .int 0, .int 0])), ((q 16), .inl (kB, 240, .inl f))]) (hS : va_S A H0 H locs) (hl : lv_has ls 4 [(0, .ref (q 0)), (1, .int p0), (2, .int 24)])
    (kk : ∀ (H : Heap) (locs : List Loc) (n2 : Nat) (f2 : Nat → Int32) (ls : Array Slot), n2 = n + bz p0 24 → va_P (dC, dI) vwCl [((q 0), .inr (8, [.ref (q 16), .int (nI n2), .int 0, .int 0])), ((q 16), .inl (kB, 240, .inl f2))] H → va_D A [((q 0), .inr (8, [.ref (q 16), .int (nI n2), .int 0, .int 0])), ((q 16), .inl (kB, 240, .inl f2))] → va_S A H0 H locs → lv_has ls 4 [(0, .ref (q 0)), (1, .int p0), (2, .int 16)] → W p l e R s m args below meth c H locs cells slots Q (F0 m 3 ls [])) : W p l e R s m args below meth c H locs cells slots Q (F0 m 3 ls []) := by
  have hiX8 : ∀ w ∈ u_ws RX8 TX8 4, w ∈ vs_f_X8_append := vs_f_X8_append_uX8
  refine lv_iload_n hx hb dX8_append_3 rfl (lv_at hl 2 rfl) ?_
  refine lv_if_lt (tgt := 55) hx hb dX8_append_4 (by decide) (fun c_1 => absurd c_1 (by decide)) (fun c_1 => ?_)
  refine lv_iload_n hx hb dX8_append_7 rfl (lv_at hl 1 rfl) ?_
  refine lv_iload_n hx hb dX8_append_8 rfl (lv_at hl 2 rfl) ?_
  refine lv_iushr (v := (p0.toUInt32 >>> ((24 : Int32).toUInt32 &&& Int32.toUInt32 31)).toInt32) hx hb dX8_append_9 rfl ?_
  refine lv_sipush (v := 255) hx hb dX8_append_10 (by decide) ?_
  refine lv_iand hx hb dX8_append_13 ?_
  refine lv_topi (fun v_2 e_2 => ?_)
  refine lv_istore_n (lv' := [(3, .int v_2), (0, .ref (q 0)), (1, .int p0), (2, .int 24)]) hx hb dX8_append_14 rfl hl (by decide) rfl (fun ls hl => ?_)
  refine lv_iload_n hx hb dX8_append_15 rfl (lv_at hl 0 rfl) ?_
  refine lv_if_eq (tgt := 49) hx hb dX8_append_16 (by decide) (fun c_z => ?_) (fun c_z => ?_)
  · refine lv_iinc (v := 16) (lv' := [(2, .int 16), (3, .int v_2), (0, .ref (q 0)), (1, .int p0)]) hx hb dX8_append_49 hl (k := 3) rfl (by decide) (by decide) rfl (fun ls hl => ?_)
    refine lv_goto (tgt := 3) hx hb dX8_append_52 (by decide) ?_
    exact kk _ _ _ _ ls (by rw [bz0 (show v_2 = uA p0 24 from e_2) c_z]; rfl) hP hD hS (lv_sub hl [2, 3, 0] rfl)
  · refine lv_aload_n hx hb dX8_append_19 rfl (lv_at hl 1 rfl) ?_
    refine va_get (D := (dC, dI)) (ci := 8) (v := .int (nI n)) (C := RX8) (T := TX8) (N := 4) hx hb hts hiX8 hown hK hP 0 rfl rfl 1 (by decide) (hts (.fieldLink RX8 15 "WallChapels$Tape" "length" "I") (by decide +kernel)) (fun _ h9 => h9) rfl dX8_append_20 ?_
    refine lv_sipush (v := 240) hx hb dX8_append_23 (by decide) ?_
    refine lv_icmp_ge (tgt := 49) hx hb dX8_append_26 (by decide) (fun c9 => absurd c9 (nI_ge (a := n) (b := 240) (by omega) (by decide))) (fun _ => ?_)
    refine lv_aload_n hx hb dX8_append_29 rfl (lv_at hl 1 rfl) ?_
    refine va_get (D := (dC, dI)) (ci := 8) (v := .ref (q 16)) (C := RX8) (T := TX8) (N := 4) hx hb hts hiX8 hown hK hP 0 rfl rfl 0 (by decide) (hts (.fieldLink RX8 9 "WallChapels$Tape" "bytes" "[I") (by decide +kernel)) (fun _ h9 => h9) rfl dX8_append_30 ?_
    refine lv_aload_n hx hb dX8_append_33 rfl (lv_at hl 1 rfl) ?_
    refine va_get (D := (dC, dI)) (ci := 8) (v := .int (nI n)) (C := RX8) (T := TX8) (N := 4) hx hb hts hiX8 hown hK hP 0 rfl rfl 1 (by decide) (hts (.fieldLink RX8 15 "WallChapels$Tape" "length" "I") (by decide +kernel)) (fun _ h9 => h9) rfl dX8_append_34 ?_
    refine lv_iload_n hx hb dX8_append_37 rfl (lv_at hl 0 rfl) ?_
    refine va_iast (D := (dC, dI)) hx hb hK hP hD hS 1 0 rfl rfl (i := nI n) (vp_in_nI (by omega) (by decide)) dX8_append_38 (fun H locs hP hD hS => ?_)
    have hP : va_P (dC, dI) vwCl [((q 0), .inr (8, [.ref (q 16), .int (nI n), .int 0, .int 0])), ((q 16), .inl (kB, 240, .inl (upd f (nI n).toNatClampNeg v_2)))] H := hP
    have hD : va_D A [((q 0), .inr (8, [.ref (q 16), .int (nI n), .int 0, .int 0])), ((q 16), .inl (kB, 240, .inl (upd f (nI n).toNatClampNeg v_2)))] := hD
    refine lv_aload_n hx hb dX8_append_39 rfl (lv_at hl 1 rfl) ?_
    refine lv_dup hx hb dX8_append_40 rfl ?_
    refine va_get (D := (dC, dI)) (ci := 8) (v := .int (nI n)) (C := RX8) (T := TX8) (N := 4) hx hb hts hiX8 hown hK hP 0 rfl rfl 1 (by decide) (hts (.fieldLink RX8 15 "WallChapels$Tape" "length" "I") (by decide +kernel)) (fun _ h9 => h9) rfl dX8_append_41 ?_
    refine lv_iconst (v := 1) hx hb dX8_append_44 (by decide) ?_
    refine lv_iadd hx hb dX8_append_45 ?_
    refine lv_topi (fun v_3 e_3 => ?_)
    obtain rfl : v_3 = nI (n + 1) := by rw [e_3]; exact nI_add n 1
    refine va_put (D := (dC, dI)) (ci := 8) (v := .int (nI (n + 1))) (ty := .int) (C := RX8) (T := TX8) (N := 4) hx hb hts hiX8 tyX8 tyX8_ok nmX8 hown hK hP hD hS 0 rfl rfl 1 (by decide) (hts (.fieldLink RX8 15 "WallChapels$Tape" "length" "I") (by decide +kernel)) (fun _ h9 => h9) rfl (by decide +kernel) rfl rfl (Nat.le_of_ble_eq_true rfl) dX8_append_46 (fun H locs hP hD hS => ?_)
    have hP : va_P (dC, dI) vwCl [((q 0), .inr (8, [.ref (q 16), .int (nI (n + 1)), .int 0, .int 0])), ((q 16), .inl (kB, 240, .inl (upd f (nI n).toNatClampNeg v_2)))] H := hP
    have hD : va_D A [((q 0), .inr (8, [.ref (q 16), .int (nI (n + 1)), .int 0, .int 0])), ((q 16), .inl (kB, 240, .inl (upd f (nI n).toNatClampNeg v_2)))] := hD
    refine lv_iinc (v := 16) (lv' := [(2, .int 16), (3, .int v_2), (0, .ref (q 0)), (1, .int p0)]) hx hb dX8_append_49 hl (k := 3) rfl (by decide) (by decide) rfl (fun ls hl => ?_)
    refine lv_goto (tgt := 3) hx hb dX8_append_52 (by decide) ?_
    exact kk _ _ _ _ ls (by rw [bz1 (show v_2 = uA p0 24 from e_2) c_z]) hP hD hS (lv_sub hl [2, 3, 0] rfl)
set_option maxHeartbeats 4000000 in
set_option maxRecDepth 100000 in
theorem f_X8_append_16 {p : Program} {l : Launch} {e : Env} {R : Room} {s : State} {m : MethodId} {args : Array Value} {below : List Frame} {meth : Method} {c : Code} {H0 H : Heap} {locs : List Loc} {cells slots : Nat} {Q : State → Prop} {dC : Nat → ClassId} {dI : Nat → Nat → Nat} {A : Nat → Prop} {ls : Array Slot} (q : Nat → Nat) (kB : ClassId) (n : Nat) (hn : n < 200) (f : Nat → Int32) (p0 : Int32) (hx : p.tables.exec = Jvm.exec) (hb : c.code = cX8_append) (hts : ∀ w ∈ vs_f_X8_append, w.before args s = true) (hown : s.vm.findClass RX8 = some m.cls) (hG : gxP s) (hK : va_K (dC, dI) vwCl [(kB, .int)] s) (hP : va_P (dC, dI) vwCl [((q 0), .inr (8, [.ref (q 16), .int (nI n), .int 0, .int 0])), ((q 16), .inl (kB, 240, .inl f))] H) (hD : va_D A [((q 0), .inr (8, [.ref (q 16), .int (nI n), .int 0, .int 0])), ((q 16), .inl (kB, 240, .inl f))]) (hS : va_S A H0 H locs) (hl : lv_has ls 4 [(0, .ref (q 0)), (1, .int p0), (2, .int 16)])
    (kk : ∀ (H : Heap) (locs : List Loc) (n2 : Nat) (f2 : Nat → Int32) (ls : Array Slot), n2 = n + bz p0 16 → va_P (dC, dI) vwCl [((q 0), .inr (8, [.ref (q 16), .int (nI n2), .int 0, .int 0])), ((q 16), .inl (kB, 240, .inl f2))] H → va_D A [((q 0), .inr (8, [.ref (q 16), .int (nI n2), .int 0, .int 0])), ((q 16), .inl (kB, 240, .inl f2))] → va_S A H0 H locs → lv_has ls 4 [(0, .ref (q 0)), (1, .int p0), (2, .int 8)] → W p l e R s m args below meth c H locs cells slots Q (F0 m 3 ls [])) : W p l e R s m args below meth c H locs cells slots Q (F0 m 3 ls []) := by
  have hiX8 : ∀ w ∈ u_ws RX8 TX8 4, w ∈ vs_f_X8_append := vs_f_X8_append_uX8
  refine lv_iload_n hx hb dX8_append_3 rfl (lv_at hl 2 rfl) ?_
  refine lv_if_lt (tgt := 55) hx hb dX8_append_4 (by decide) (fun c_4 => absurd c_4 (by decide)) (fun c_4 => ?_)
  refine lv_iload_n hx hb dX8_append_7 rfl (lv_at hl 1 rfl) ?_
  refine lv_iload_n hx hb dX8_append_8 rfl (lv_at hl 2 rfl) ?_
  refine lv_iushr (v := (p0.toUInt32 >>> ((16 : Int32).toUInt32 &&& Int32.toUInt32 31)).toInt32) hx hb dX8_append_9 rfl ?_
  refine lv_sipush (v := 255) hx hb dX8_append_10 (by decide) ?_
  refine lv_iand hx hb dX8_append_13 ?_
  refine lv_topi (fun v_5 e_5 => ?_)
  refine lv_istore_n (lv' := [(3, .int v_5), (0, .ref (q 0)), (1, .int p0), (2, .int 16)]) hx hb dX8_append_14 rfl hl (by decide) rfl (fun ls hl => ?_)
  refine lv_iload_n hx hb dX8_append_15 rfl (lv_at hl 0 rfl) ?_
  refine lv_if_eq (tgt := 49) hx hb dX8_append_16 (by decide) (fun c_z => ?_) (fun c_z => ?_)
  · refine lv_iinc (v := 8) (lv' := [(2, .int 8), (3, .int v_5), (0, .ref (q 0)), (1, .int p0)]) hx hb dX8_append_49 hl (k := 3) rfl (by decide) (by decide) rfl (fun ls hl => ?_)
    refine lv_goto (tgt := 3) hx hb dX8_append_52 (by decide) ?_
    exact kk _ _ _ _ ls (by rw [bz0 (show v_5 = uA p0 16 from e_5) c_z]; rfl) hP hD hS (lv_sub hl [2, 3, 0] rfl)
  · refine lv_aload_n hx hb dX8_append_19 rfl (lv_at hl 1 rfl) ?_
    refine va_get (D := (dC, dI)) (ci := 8) (v := .int (nI n)) (C := RX8) (T := TX8) (N := 4) hx hb hts hiX8 hown hK hP 0 rfl rfl 1 (by decide) (hts (.fieldLink RX8 15 "WallChapels$Tape" "length" "I") (by decide +kernel)) (fun _ h9 => h9) rfl dX8_append_20 ?_
    refine lv_sipush (v := 240) hx hb dX8_append_23 (by decide) ?_
    refine lv_icmp_ge (tgt := 49) hx hb dX8_append_26 (by decide) (fun c9 => absurd c9 (nI_ge (a := n) (b := 240) (by omega) (by decide))) (fun _ => ?_)
    refine lv_aload_n hx hb dX8_append_29 rfl (lv_at hl 1 rfl) ?_
    refine va_get (D := (dC, dI)) (ci := 8) (v := .ref (q 16)) (C := RX8) (T := TX8) (N := 4) hx hb hts hiX8 hown hK hP 0 rfl rfl 0 (by decide) (hts (.fieldLink RX8 9 "WallChapels$Tape" "bytes" "[I") (by decide +kernel)) (fun _ h9 => h9) rfl dX8_append_30 ?_
    refine lv_aload_n hx hb dX8_append_33 rfl (lv_at hl 1 rfl) ?_
    refine va_get (D := (dC, dI)) (ci := 8) (v := .int (nI n)) (C := RX8) (T := TX8) (N := 4) hx hb hts hiX8 hown hK hP 0 rfl rfl 1 (by decide) (hts (.fieldLink RX8 15 "WallChapels$Tape" "length" "I") (by decide +kernel)) (fun _ h9 => h9) rfl dX8_append_34 ?_
    refine lv_iload_n hx hb dX8_append_37 rfl (lv_at hl 0 rfl) ?_
    refine va_iast (D := (dC, dI)) hx hb hK hP hD hS 1 0 rfl rfl (i := nI n) (vp_in_nI (by omega) (by decide)) dX8_append_38 (fun H locs hP hD hS => ?_)
    have hP : va_P (dC, dI) vwCl [((q 0), .inr (8, [.ref (q 16), .int (nI n), .int 0, .int 0])), ((q 16), .inl (kB, 240, .inl (upd f (nI n).toNatClampNeg v_5)))] H := hP
    have hD : va_D A [((q 0), .inr (8, [.ref (q 16), .int (nI n), .int 0, .int 0])), ((q 16), .inl (kB, 240, .inl (upd f (nI n).toNatClampNeg v_5)))] := hD
    refine lv_aload_n hx hb dX8_append_39 rfl (lv_at hl 1 rfl) ?_
    refine lv_dup hx hb dX8_append_40 rfl ?_
    refine va_get (D := (dC, dI)) (ci := 8) (v := .int (nI n)) (C := RX8) (T := TX8) (N := 4) hx hb hts hiX8 hown hK hP 0 rfl rfl 1 (by decide) (hts (.fieldLink RX8 15 "WallChapels$Tape" "length" "I") (by decide +kernel)) (fun _ h9 => h9) rfl dX8_append_41 ?_
    refine lv_iconst (v := 1) hx hb dX8_append_44 (by decide) ?_
    refine lv_iadd hx hb dX8_append_45 ?_
    refine lv_topi (fun v_6 e_6 => ?_)
    obtain rfl : v_6 = nI (n + 1) := by rw [e_6]; exact nI_add n 1
    refine va_put (D := (dC, dI)) (ci := 8) (v := .int (nI (n + 1))) (ty := .int) (C := RX8) (T := TX8) (N := 4) hx hb hts hiX8 tyX8 tyX8_ok nmX8 hown hK hP hD hS 0 rfl rfl 1 (by decide) (hts (.fieldLink RX8 15 "WallChapels$Tape" "length" "I") (by decide +kernel)) (fun _ h9 => h9) rfl (by decide +kernel) rfl rfl (Nat.le_of_ble_eq_true rfl) dX8_append_46 (fun H locs hP hD hS => ?_)
    have hP : va_P (dC, dI) vwCl [((q 0), .inr (8, [.ref (q 16), .int (nI (n + 1)), .int 0, .int 0])), ((q 16), .inl (kB, 240, .inl (upd f (nI n).toNatClampNeg v_5)))] H := hP
    have hD : va_D A [((q 0), .inr (8, [.ref (q 16), .int (nI (n + 1)), .int 0, .int 0])), ((q 16), .inl (kB, 240, .inl (upd f (nI n).toNatClampNeg v_5)))] := hD
    refine lv_iinc (v := 8) (lv' := [(2, .int 8), (3, .int v_5), (0, .ref (q 0)), (1, .int p0)]) hx hb dX8_append_49 hl (k := 3) rfl (by decide) (by decide) rfl (fun ls hl => ?_)
    refine lv_goto (tgt := 3) hx hb dX8_append_52 (by decide) ?_
    exact kk _ _ _ _ ls (by rw [bz1 (show v_5 = uA p0 16 from e_5) c_z]) hP hD hS (lv_sub hl [2, 3, 0] rfl)
set_option maxHeartbeats 4000000 in
set_option maxRecDepth 100000 in
theorem f_X8_append_8 {p : Program} {l : Launch} {e : Env} {R : Room} {s : State} {m : MethodId} {args : Array Value} {below : List Frame} {meth : Method} {c : Code} {H0 H : Heap} {locs : List Loc} {cells slots : Nat} {Q : State → Prop} {dC : Nat → ClassId} {dI : Nat → Nat → Nat} {A : Nat → Prop} {ls : Array Slot} (q : Nat → Nat) (kB : ClassId) (n : Nat) (hn : n < 200) (f : Nat → Int32) (p0 : Int32) (hx : p.tables.exec = Jvm.exec) (hb : c.code = cX8_append) (hts : ∀ w ∈ vs_f_X8_append, w.before args s = true) (hown : s.vm.findClass RX8 = some m.cls) (hG : gxP s) (hK : va_K (dC, dI) vwCl [(kB, .int)] s) (hP : va_P (dC, dI) vwCl [((q 0), .inr (8, [.ref (q 16), .int (nI n), .int 0, .int 0])), ((q 16), .inl (kB, 240, .inl f))] H) (hD : va_D A [((q 0), .inr (8, [.ref (q 16), .int (nI n), .int 0, .int 0])), ((q 16), .inl (kB, 240, .inl f))]) (hS : va_S A H0 H locs) (hl : lv_has ls 4 [(0, .ref (q 0)), (1, .int p0), (2, .int 8)])
    (kk : ∀ (H : Heap) (locs : List Loc) (n2 : Nat) (f2 : Nat → Int32) (ls : Array Slot), n2 = n + bz p0 8 → va_P (dC, dI) vwCl [((q 0), .inr (8, [.ref (q 16), .int (nI n2), .int 0, .int 0])), ((q 16), .inl (kB, 240, .inl f2))] H → va_D A [((q 0), .inr (8, [.ref (q 16), .int (nI n2), .int 0, .int 0])), ((q 16), .inl (kB, 240, .inl f2))] → va_S A H0 H locs → lv_has ls 4 [(0, .ref (q 0)), (1, .int p0), (2, .int 0)] → W p l e R s m args below meth c H locs cells slots Q (F0 m 3 ls [])) : W p l e R s m args below meth c H locs cells slots Q (F0 m 3 ls []) := by
  have hiX8 : ∀ w ∈ u_ws RX8 TX8 4, w ∈ vs_f_X8_append := vs_f_X8_append_uX8
  refine lv_iload_n hx hb dX8_append_3 rfl (lv_at hl 2 rfl) ?_
  refine lv_if_lt (tgt := 55) hx hb dX8_append_4 (by decide) (fun c_7 => absurd c_7 (by decide)) (fun c_7 => ?_)
  refine lv_iload_n hx hb dX8_append_7 rfl (lv_at hl 1 rfl) ?_
  refine lv_iload_n hx hb dX8_append_8 rfl (lv_at hl 2 rfl) ?_
  refine lv_iushr (v := (p0.toUInt32 >>> ((8 : Int32).toUInt32 &&& Int32.toUInt32 31)).toInt32) hx hb dX8_append_9 rfl ?_
  refine lv_sipush (v := 255) hx hb dX8_append_10 (by decide) ?_
  refine lv_iand hx hb dX8_append_13 ?_
  refine lv_topi (fun v_8 e_8 => ?_)
  refine lv_istore_n (lv' := [(3, .int v_8), (0, .ref (q 0)), (1, .int p0), (2, .int 8)]) hx hb dX8_append_14 rfl hl (by decide) rfl (fun ls hl => ?_)
  refine lv_iload_n hx hb dX8_append_15 rfl (lv_at hl 0 rfl) ?_
  refine lv_if_eq (tgt := 49) hx hb dX8_append_16 (by decide) (fun c_z => ?_) (fun c_z => ?_)
  · refine lv_iinc (v := 0) (lv' := [(2, .int 0), (3, .int v_8), (0, .ref (q 0)), (1, .int p0)]) hx hb dX8_append_49 hl (k := 3) rfl (by decide) (by decide) rfl (fun ls hl => ?_)
    refine lv_goto (tgt := 3) hx hb dX8_append_52 (by decide) ?_
    exact kk _ _ _ _ ls (by rw [bz0 (show v_8 = uA p0 8 from e_8) c_z]; rfl) hP hD hS (lv_sub hl [2, 3, 0] rfl)
  · refine lv_aload_n hx hb dX8_append_19 rfl (lv_at hl 1 rfl) ?_
    refine va_get (D := (dC, dI)) (ci := 8) (v := .int (nI n)) (C := RX8) (T := TX8) (N := 4) hx hb hts hiX8 hown hK hP 0 rfl rfl 1 (by decide) (hts (.fieldLink RX8 15 "WallChapels$Tape" "length" "I") (by decide +kernel)) (fun _ h9 => h9) rfl dX8_append_20 ?_
    refine lv_sipush (v := 240) hx hb dX8_append_23 (by decide) ?_
    refine lv_icmp_ge (tgt := 49) hx hb dX8_append_26 (by decide) (fun c9 => absurd c9 (nI_ge (a := n) (b := 240) (by omega) (by decide))) (fun _ => ?_)
    refine lv_aload_n hx hb dX8_append_29 rfl (lv_at hl 1 rfl) ?_
    refine va_get (D := (dC, dI)) (ci := 8) (v := .ref (q 16)) (C := RX8) (T := TX8) (N := 4) hx hb hts hiX8 hown hK hP 0 rfl rfl 0 (by decide) (hts (.fieldLink RX8 9 "WallChapels$Tape" "bytes" "[I") (by decide +kernel)) (fun _ h9 => h9) rfl dX8_append_30 ?_
    refine lv_aload_n hx hb dX8_append_33 rfl (lv_at hl 1 rfl) ?_
    refine va_get (D := (dC, dI)) (ci := 8) (v := .int (nI n)) (C := RX8) (T := TX8) (N := 4) hx hb hts hiX8 hown hK hP 0 rfl rfl 1 (by decide) (hts (.fieldLink RX8 15 "WallChapels$Tape" "length" "I") (by decide +kernel)) (fun _ h9 => h9) rfl dX8_append_34 ?_
    refine lv_iload_n hx hb dX8_append_37 rfl (lv_at hl 0 rfl) ?_
    refine va_iast (D := (dC, dI)) hx hb hK hP hD hS 1 0 rfl rfl (i := nI n) (vp_in_nI (by omega) (by decide)) dX8_append_38 (fun H locs hP hD hS => ?_)
    have hP : va_P (dC, dI) vwCl [((q 0), .inr (8, [.ref (q 16), .int (nI n), .int 0, .int 0])), ((q 16), .inl (kB, 240, .inl (upd f (nI n).toNatClampNeg v_8)))] H := hP
    have hD : va_D A [((q 0), .inr (8, [.ref (q 16), .int (nI n), .int 0, .int 0])), ((q 16), .inl (kB, 240, .inl (upd f (nI n).toNatClampNeg v_8)))] := hD
    refine lv_aload_n hx hb dX8_append_39 rfl (lv_at hl 1 rfl) ?_
    refine lv_dup hx hb dX8_append_40 rfl ?_
    refine va_get (D := (dC, dI)) (ci := 8) (v := .int (nI n)) (C := RX8) (T := TX8) (N := 4) hx hb hts hiX8 hown hK hP 0 rfl rfl 1 (by decide) (hts (.fieldLink RX8 15 "WallChapels$Tape" "length" "I") (by decide +kernel)) (fun _ h9 => h9) rfl dX8_append_41 ?_
    refine lv_iconst (v := 1) hx hb dX8_append_44 (by decide) ?_
    refine lv_iadd hx hb dX8_append_45 ?_
    refine lv_topi (fun v_9 e_9 => ?_)
    obtain rfl : v_9 = nI (n + 1) := by rw [e_9]; exact nI_add n 1
    refine va_put (D := (dC, dI)) (ci := 8) (v := .int (nI (n + 1))) (ty := .int) (C := RX8) (T := TX8) (N := 4) hx hb hts hiX8 tyX8 tyX8_ok nmX8 hown hK hP hD hS 0 rfl rfl 1 (by decide) (hts (.fieldLink RX8 15 "WallChapels$Tape" "length" "I") (by decide +kernel)) (fun _ h9 => h9) rfl (by decide +kernel) rfl rfl (Nat.le_of_ble_eq_true rfl) dX8_append_46 (fun H locs hP hD hS => ?_)
    have hP : va_P (dC, dI) vwCl [((q 0), .inr (8, [.ref (q 16), .int (nI (n + 1)), .int 0, .int 0])), ((q 16), .inl (kB, 240, .inl (upd f (nI n).toNatClampNeg v_8)))] H := hP
    have hD : va_D A [((q 0), .inr (8, [.ref (q 16), .int (nI (n + 1)), .int 0, .int 0])), ((q 16), .inl (kB, 240, .inl (upd f (nI n).toNatClampNeg v_8)))] := hD
    refine lv_iinc (v := 0) (lv' := [(2, .int 0), (3, .int v_8), (0, .ref (q 0)), (1, .int p0)]) hx hb dX8_append_49 hl (k := 3) rfl (by decide) (by decide) rfl (fun ls hl => ?_)
    refine lv_goto (tgt := 3) hx hb dX8_append_52 (by decide) ?_
    exact kk _ _ _ _ ls (by rw [bz1 (show v_8 = uA p0 8 from e_8) c_z]) hP hD hS (lv_sub hl [2, 3, 0] rfl)
set_option maxHeartbeats 4000000 in
set_option maxRecDepth 100000 in
theorem f_X8_append_0 {p : Program} {l : Launch} {e : Env} {R : Room} {s : State} {m : MethodId} {args : Array Value} {below : List Frame} {meth : Method} {c : Code} {H0 H : Heap} {locs : List Loc} {cells slots : Nat} {Q : State → Prop} {dC : Nat → ClassId} {dI : Nat → Nat → Nat} {A : Nat → Prop} {ls : Array Slot} (q : Nat → Nat) (kB : ClassId) (n : Nat) (hn : n < 200) (f : Nat → Int32) (p0 : Int32) (hx : p.tables.exec = Jvm.exec) (hb : c.code = cX8_append) (hts : ∀ w ∈ vs_f_X8_append, w.before args s = true) (hown : s.vm.findClass RX8 = some m.cls) (hG : gxP s) (hK : va_K (dC, dI) vwCl [(kB, .int)] s) (hP : va_P (dC, dI) vwCl [((q 0), .inr (8, [.ref (q 16), .int (nI n), .int 0, .int 0])), ((q 16), .inl (kB, 240, .inl f))] H) (hD : va_D A [((q 0), .inr (8, [.ref (q 16), .int (nI n), .int 0, .int 0])), ((q 16), .inl (kB, 240, .inl f))]) (hS : va_S A H0 H locs) (hl : lv_has ls 4 [(0, .ref (q 0)), (1, .int p0), (2, .int 0)])
    (kk : ∀ (H : Heap) (locs : List Loc) (n2 : Nat) (f2 : Nat → Int32) (ls : Array Slot), n2 = n + bz p0 0 → va_P (dC, dI) vwCl [((q 0), .inr (8, [.ref (q 16), .int (nI n2), .int 0, .int 0])), ((q 16), .inl (kB, 240, .inl f2))] H → va_D A [((q 0), .inr (8, [.ref (q 16), .int (nI n2), .int 0, .int 0])), ((q 16), .inl (kB, 240, .inl f2))] → va_S A H0 H locs → lv_has ls 4 [(0, .ref (q 0)), (1, .int p0), (2, .int (-8))] → W p l e R s m args below meth c H locs cells slots Q (F0 m 3 ls [])) : W p l e R s m args below meth c H locs cells slots Q (F0 m 3 ls []) := by
  have hiX8 : ∀ w ∈ u_ws RX8 TX8 4, w ∈ vs_f_X8_append := vs_f_X8_append_uX8
  refine lv_iload_n hx hb dX8_append_3 rfl (lv_at hl 2 rfl) ?_
  refine lv_if_lt (tgt := 55) hx hb dX8_append_4 (by decide) (fun c_10 => absurd c_10 (by decide)) (fun c_10 => ?_)
  refine lv_iload_n hx hb dX8_append_7 rfl (lv_at hl 1 rfl) ?_
  refine lv_iload_n hx hb dX8_append_8 rfl (lv_at hl 2 rfl) ?_
  refine lv_iushr (v := (p0.toUInt32 >>> ((0 : Int32).toUInt32 &&& Int32.toUInt32 31)).toInt32) hx hb dX8_append_9 rfl ?_
  refine lv_sipush (v := 255) hx hb dX8_append_10 (by decide) ?_
  refine lv_iand hx hb dX8_append_13 ?_
  refine lv_topi (fun v_11 e_11 => ?_)
  refine lv_istore_n (lv' := [(3, .int v_11), (0, .ref (q 0)), (1, .int p0), (2, .int 0)]) hx hb dX8_append_14 rfl hl (by decide) rfl (fun ls hl => ?_)
  refine lv_iload_n hx hb dX8_append_15 rfl (lv_at hl 0 rfl) ?_
  refine lv_if_eq (tgt := 49) hx hb dX8_append_16 (by decide) (fun c_z => ?_) (fun c_z => ?_)
  · refine lv_iinc (v := (-8)) (lv' := [(2, .int (-8)), (3, .int v_11), (0, .ref (q 0)), (1, .int p0)]) hx hb dX8_append_49 hl (k := 3) rfl (by decide) (by decide) rfl (fun ls hl => ?_)
    refine lv_goto (tgt := 3) hx hb dX8_append_52 (by decide) ?_
    exact kk _ _ _ _ ls (by rw [bz0 (show v_11 = uA p0 0 from e_11) c_z]; rfl) hP hD hS (lv_sub hl [2, 3, 0] rfl)
  · refine lv_aload_n hx hb dX8_append_19 rfl (lv_at hl 1 rfl) ?_
    refine va_get (D := (dC, dI)) (ci := 8) (v := .int (nI n)) (C := RX8) (T := TX8) (N := 4) hx hb hts hiX8 hown hK hP 0 rfl rfl 1 (by decide) (hts (.fieldLink RX8 15 "WallChapels$Tape" "length" "I") (by decide +kernel)) (fun _ h9 => h9) rfl dX8_append_20 ?_
    refine lv_sipush (v := 240) hx hb dX8_append_23 (by decide) ?_
    refine lv_icmp_ge (tgt := 49) hx hb dX8_append_26 (by decide) (fun c9 => absurd c9 (nI_ge (a := n) (b := 240) (by omega) (by decide))) (fun _ => ?_)
    refine lv_aload_n hx hb dX8_append_29 rfl (lv_at hl 1 rfl) ?_
    refine va_get (D := (dC, dI)) (ci := 8) (v := .ref (q 16)) (C := RX8) (T := TX8) (N := 4) hx hb hts hiX8 hown hK hP 0 rfl rfl 0 (by decide) (hts (.fieldLink RX8 9 "WallChapels$Tape" "bytes" "[I") (by decide +kernel)) (fun _ h9 => h9) rfl dX8_append_30 ?_
    refine lv_aload_n hx hb dX8_append_33 rfl (lv_at hl 1 rfl) ?_
    refine va_get (D := (dC, dI)) (ci := 8) (v := .int (nI n)) (C := RX8) (T := TX8) (N := 4) hx hb hts hiX8 hown hK hP 0 rfl rfl 1 (by decide) (hts (.fieldLink RX8 15 "WallChapels$Tape" "length" "I") (by decide +kernel)) (fun _ h9 => h9) rfl dX8_append_34 ?_
    refine lv_iload_n hx hb dX8_append_37 rfl (lv_at hl 0 rfl) ?_
    refine va_iast (D := (dC, dI)) hx hb hK hP hD hS 1 0 rfl rfl (i := nI n) (vp_in_nI (by omega) (by decide)) dX8_append_38 (fun H locs hP hD hS => ?_)
    have hP : va_P (dC, dI) vwCl [((q 0), .inr (8, [.ref (q 16), .int (nI n), .int 0, .int 0])), ((q 16), .inl (kB, 240, .inl (upd f (nI n).toNatClampNeg v_11)))] H := hP
    have hD : va_D A [((q 0), .inr (8, [.ref (q 16), .int (nI n), .int 0, .int 0])), ((q 16), .inl (kB, 240, .inl (upd f (nI n).toNatClampNeg v_11)))] := hD
    refine lv_aload_n hx hb dX8_append_39 rfl (lv_at hl 1 rfl) ?_
    refine lv_dup hx hb dX8_append_40 rfl ?_
    refine va_get (D := (dC, dI)) (ci := 8) (v := .int (nI n)) (C := RX8) (T := TX8) (N := 4) hx hb hts hiX8 hown hK hP 0 rfl rfl 1 (by decide) (hts (.fieldLink RX8 15 "WallChapels$Tape" "length" "I") (by decide +kernel)) (fun _ h9 => h9) rfl dX8_append_41 ?_
    refine lv_iconst (v := 1) hx hb dX8_append_44 (by decide) ?_
    refine lv_iadd hx hb dX8_append_45 ?_
    refine lv_topi (fun v_12 e_12 => ?_)
    obtain rfl : v_12 = nI (n + 1) := by rw [e_12]; exact nI_add n 1
    refine va_put (D := (dC, dI)) (ci := 8) (v := .int (nI (n + 1))) (ty := .int) (C := RX8) (T := TX8) (N := 4) hx hb hts hiX8 tyX8 tyX8_ok nmX8 hown hK hP hD hS 0 rfl rfl 1 (by decide) (hts (.fieldLink RX8 15 "WallChapels$Tape" "length" "I") (by decide +kernel)) (fun _ h9 => h9) rfl (by decide +kernel) rfl rfl (Nat.le_of_ble_eq_true rfl) dX8_append_46 (fun H locs hP hD hS => ?_)
    have hP : va_P (dC, dI) vwCl [((q 0), .inr (8, [.ref (q 16), .int (nI (n + 1)), .int 0, .int 0])), ((q 16), .inl (kB, 240, .inl (upd f (nI n).toNatClampNeg v_11)))] H := hP
    have hD : va_D A [((q 0), .inr (8, [.ref (q 16), .int (nI (n + 1)), .int 0, .int 0])), ((q 16), .inl (kB, 240, .inl (upd f (nI n).toNatClampNeg v_11)))] := hD
    refine lv_iinc (v := (-8)) (lv' := [(2, .int (-8)), (3, .int v_11), (0, .ref (q 0)), (1, .int p0)]) hx hb dX8_append_49 hl (k := 3) rfl (by decide) (by decide) rfl (fun ls hl => ?_)
    refine lv_goto (tgt := 3) hx hb dX8_append_52 (by decide) ?_
    exact kk _ _ _ _ ls (by rw [bz1 (show v_11 = uA p0 0 from e_11) c_z]) hP hD hS (lv_sub hl [2, 3, 0] rfl)
set_option maxHeartbeats 4000000 in
set_option maxRecDepth 100000 in
theorem f_X8_append (l : Launch) (dC : Nat → ClassId) (dI : Nat → Nat → Nat) (sz : Nat) (q : Nat → Nat) (kB : ClassId) (n : Nat) (f : Nat → Int32) (p0 : Int32) (hn : n < 190) : Met l yX8_append vs_f_X8_append ({ frames := 0, cells := 0, slots := 0, locals := 0 }) (va_Pc [.ref (q 0), .int p0] (cW dC dI [((q 0), .inr (8, [.ref (q 16), .int (nI n), .int 0, .int 0])), ((q 16), .inl (kB, 240, .inl f))] [(kB, .int)] sz)) (va_Qv (fun (_ : Unit) => True) (fun (_ : Unit) (t : State) => ∃ f2 : Nat → Int32, cB dC dI (va_A [((q 0), .inr (8, [.ref (q 16), .int (nI n), .int 0, .int 0])), ((q 16), .inl (kB, 240, .inl f))] sz) [((q 0), .inr (8, [.ref (q 16), .int (nI (n + cA p0)), .int 0, .int 0])), ((q 16), .inl (kB, 240, .inl f2))] [(kB, .int)] t) (va_A [((q 0), .inr (8, [.ref (q 16), .int (nI n), .int 0, .int 0])), ((q 16), .inl (kB, 240, .inl f))] sz)) 0 0 (va_A [((q 0), .inr (8, [.ref (q 16), .int (nI n), .int 0, .int 0])), ((q 16), .inl (kB, 240, .inl f))] sz) := by
  refine Met.ofW (cc := cX8_append) (maxL := 4) (ret := none) (by decide) rfl ?_
  intro p e s m args below meth c s₁ B hml hv
  obtain ⟨rfl, hsz, hP, hK, hD0, hG⟩ := hv
  have hx := B.exec
  have hb := B.bytes
  have hr := B.returns
  have hts := atoms_spec (ws := vs_f_X8_append) B.pre
  have hown : s.vm.findClass RX8 = some m.cls := findClass_of_methodNamed B.named
  have hlocks := B.notSynchronized
  have hiX8 : ∀ w ∈ u_ws RX8 TX8 4, w ∈ vs_f_X8_append := vs_f_X8_append_uX8
  subst hsz
  have hD := hD0.self (sz := s.heap.size)
  generalize hAe : va_A [((q 0), .inr (8, [.ref (q 16), .int (nI n), .int 0, .int 0])), ((q 16), .inl (kB, 240, .inl f))] s.heap.size = A at hD ⊢
  have hA : ∀ q : Nat, s.heap.size ≤ q → A q := fun q h => by rw [← hAe]; exact Or.inr h
  have hS : va_S A s.heap s.heap [] := va_S.rf
  have hP : va_P (dC, dI) vwCl [((q 0), .inr (8, [.ref (q 16), .int (nI n), .int 0, .int 0])), ((q 16), .inl (kB, 240, .inl f))] s.heap := hP
  have hl := lv_entry ([.ref (q 0), .int p0]) (n := 4) (Nat.le_of_ble_eq_true rfl)
  rw [lg_entry_eq]
  generalize (lg_sl ([.ref (q 0), .int p0]) ++ List.replicate (4 - (lg_sl ([.ref (q 0), .int p0])).length) Slot.unset).toArray = ls at hl ⊢
  have hl : lv_has ls 4 [(0, .ref (q 0)), (1, .int p0)] := hl
  refine lv_bipush (v := 24) hx hb dX8_append_0 (by decide) ?_
  refine lv_istore_n (lv' := [(2, .int 24), (0, .ref (q 0)), (1, .int p0)]) hx hb dX8_append_2 rfl hl (by decide) rfl (fun ls hl => ?_)
  refine f_X8_append_24 q kB n (by omega) f p0 hx hb hts hown hG hK hP hD hS (lv_sub hl [1, 2, 0] rfl) (fun H locs n_0 f_0 ls en_0 hP hD hS hl => ?_)
  have hl := hl
  refine f_X8_append_16 q kB n_0 (by have := bz_le p0 24; omega) f_0 p0 hx hb hts hown hG hK hP hD hS (lv_sub hl [0, 1, 2] rfl) (fun H locs n_1 f_1 ls en_1 hP hD hS hl => ?_)
  have hl := hl
  refine f_X8_append_8 q kB n_1 (by have := bz_le p0 24; have := bz_le p0 16; omega) f_1 p0 hx hb hts hown hG hK hP hD hS (lv_sub hl [0, 1, 2] rfl) (fun H locs n_2 f_2 ls en_2 hP hD hS hl => ?_)
  have hl := hl
  refine f_X8_append_0 q kB n_2 (by have := bz_le p0 24; have := bz_le p0 16; have := bz_le p0 8; omega) f_2 p0 hx hb hts hown hG hK hP hD hS (lv_sub hl [0, 1, 2] rfl) (fun H locs n_3 f_3 ls en_3 hP hD hS hl => ?_)
  obtain rfl : n_3 = n + cA p0 := by unfold cA; omega
  refine lv_iload_n hx hb dX8_append_3 rfl (lv_at hl 2 rfl) ?_
  refine lv_if_lt (tgt := 55) hx hb dX8_append_4 (by decide) (fun c_13 => ?_) (fun c_13 => absurd (by decide) c_13)
  have hP9 := hP.sub (ws' := [((q 0), .inr (8, [.ref (q 16), .int (nI (n + cA p0)), .int 0, .int 0])), ((q 16), .inl (kB, 240, .inl f_3))]) [0, 1] rfl
  have hD9 := hD.sub (ws' := [((q 0), .inr (8, [.ref (q 16), .int (nI (n + cA p0)), .int 0, .int 0])), ((q 16), .inl (kB, 240, .inl f_3))]) [0, 1] (by decide) rfl
  have hK9 := hK.sub (tys' := [(kB, .int)]) [0] rfl
  exact W.vret hx hb hr (fun t ht hW => ⟨⟨(), rfl, trivial, ⟨f_3, by rw [ht]; exact hP9, va_K.moved hW.alike hK9, hD9⟩⟩, hS.F ht⟩) hS.2.2 dX8_append_55
end
section
set_option maxRecDepth 20000 in
theorem dX12_put_3 : decode cX12_put 3 = .ok (.iload_n 2, 1) := by decide +kernel
set_option maxRecDepth 20000 in
theorem dX12_put_4 : decode cX12_put 4 = .ok (.ifCond .lt 45, 3) := by decide +kernel
set_option maxRecDepth 20000 in
theorem dX12_put_7 : decode cX12_put 7 = .ok (.iload_n 1, 1) := by decide +kernel
set_option maxRecDepth 20000 in
theorem dX12_put_8 : decode cX12_put 8 = .ok (.iload_n 2, 1) := by decide +kernel
set_option maxRecDepth 20000 in
theorem dX12_put_9 : decode cX12_put 9 = .ok (.ishr, 1) := by decide +kernel
set_option maxRecDepth 20000 in
theorem dX12_put_10 : decode cX12_put 10 = .ok (.sipush 255, 3) := by decide +kernel
set_option maxRecDepth 20000 in
theorem dX12_put_13 : decode cX12_put 13 = .ok (.iand, 1) := by decide +kernel
set_option maxRecDepth 20000 in
theorem dX12_put_14 : decode cX12_put 14 = .ok (.ifCond .ne 6, 3) := by decide +kernel
set_option maxRecDepth 20000 in
theorem dX12_put_20 : decode cX12_put 20 = .ok (.aload_n 0, 1) := by decide +kernel
set_option maxRecDepth 20000 in
theorem dX12_put_21 : decode cX12_put 21 = .ok (.getfield 9, 3) := by decide +kernel
set_option maxRecDepth 20000 in
theorem dX12_put_24 : decode cX12_put 24 = .ok (.aload_n 0, 1) := by decide +kernel
set_option maxRecDepth 20000 in
theorem dX12_put_25 : decode cX12_put 25 = .ok (.getfield 103, 3) := by decide +kernel
set_option maxRecDepth 20000 in
theorem dX12_put_28 : decode cX12_put 28 = .ok (.iload_n 1, 1) := by decide +kernel
set_option maxRecDepth 20000 in
theorem dX12_put_29 : decode cX12_put 29 = .ok (.iload_n 2, 1) := by decide +kernel
set_option maxRecDepth 20000 in
theorem dX12_put_30 : decode cX12_put 30 = .ok (.ishr, 1) := by decide +kernel
set_option maxRecDepth 20000 in
theorem dX12_put_31 : decode cX12_put 31 = .ok (.i2b, 1) := by decide +kernel
set_option maxRecDepth 20000 in
theorem dX12_put_32 : decode cX12_put 32 = .ok (.bastore, 1) := by decide +kernel
set_option maxRecDepth 20000 in
theorem dX12_put_33 : decode cX12_put 33 = .ok (.aload_n 0, 1) := by decide +kernel
set_option maxRecDepth 20000 in
theorem dX12_put_34 : decode cX12_put 34 = .ok (.dup, 1) := by decide +kernel
set_option maxRecDepth 20000 in
theorem dX12_put_35 : decode cX12_put 35 = .ok (.getfield 103, 3) := by decide +kernel
set_option maxRecDepth 20000 in
theorem dX12_put_38 : decode cX12_put 38 = .ok (.iconst 1, 1) := by decide +kernel
set_option maxRecDepth 20000 in
theorem dX12_put_39 : decode cX12_put 39 = .ok (.iadd, 1) := by decide +kernel
set_option maxRecDepth 20000 in
theorem dX12_put_40 : decode cX12_put 40 = .ok (.putfield 103, 3) := by decide +kernel
set_option maxRecDepth 20000 in
theorem dX12_put_43 : decode cX12_put 43 = .ok (.iinc 2 (-8), 3) := by decide +kernel
set_option maxRecDepth 20000 in
theorem dX12_put_46 : decode cX12_put 46 = .ok (.goto (-43), 3) := by decide +kernel
set_option maxRecDepth 20000 in
theorem dX12_put_17 : decode cX12_put 17 = .ok (.goto 26, 3) := by decide +kernel
set_option maxRecDepth 20000 in
theorem dX12_put_0 : decode cX12_put 0 = .ok (.bipush 24, 2) := by decide +kernel
set_option maxRecDepth 20000 in
theorem dX12_put_2 : decode cX12_put 2 = .ok (.istore_n 2, 1) := by decide +kernel
set_option maxRecDepth 20000 in
theorem dX12_put_49 : decode cX12_put 49 = .ok (.return_, 1) := by decide +kernel
def vs_f_X12_put : List Cond := .code yX12_put cX12_put 3 none :: ([.fieldLink RX12 9 "WallChapelsModel" "tape" "[B", .fieldLink RX12 103 "WallChapelsModel" "length" "I"] ++ (u_ws RX12 TX12 54))
theorem vs_f_X12_put_uX12 : ∀ w ∈ u_ws RX12 TX12 54, w ∈ vs_f_X12_put := fun _ h => List.mem_cons_of_mem _ (List.mem_append_right _ (h))
set_option maxHeartbeats 4000000 in
set_option maxRecDepth 100000 in
theorem f_X12_put_24 {p : Program} {l : Launch} {e : Env} {R : Room} {s : State} {m : MethodId} {args : Array Value} {below : List Frame} {meth : Method} {c : Code} {H0 H : Heap} {locs : List Loc} {cells slots : Nat} {Q : State → Prop} {dC : Nat → ClassId} {dI : Nat → Nat → Nat} {A : Nat → Prop} {ls : Array Slot} (r : Nat → Nat) (kT : ClassId) (n : Nat) (hn : n < 200) (f : Nat → Int32) (p0 : Int32) (hx : p.tables.exec = Jvm.exec) (hb : c.code = cX12_put) (hts : ∀ w ∈ vs_f_X12_put, w.before args s = true) (hown : s.vm.findClass RX12 = some m.cls) (hG : gxP s) (hK : va_K (dC, dI) vwCl [(kT, .byte)] s) (hP : va_P (dC, dI) vwCl [((r 100), .inr (12, mF r 0 (nI n) 0 0 0 0 0 0 0 0 0 0 0 (-1) 1)), ((r 1), .inl (kT, 240, .inl f))] H) (hD : va_D A [((r 100), .inr (12, mF r 0 (nI n) 0 0 0 0 0 0 0 0 0 0 0 (-1) 1)), ((r 1), .inl (kT, 240, .inl f))]) (hS : va_S A H0 H locs) (hl : lv_has ls 3 [(0, .ref (r 100)), (1, .int p0), (2, .int 24)])
    (kk : ∀ (H : Heap) (locs : List Loc) (n2 : Nat) (f2 : Nat → Int32) (ls : Array Slot), n2 = n + bz p0 24 → va_P (dC, dI) vwCl [((r 100), .inr (12, mF r 0 (nI n2) 0 0 0 0 0 0 0 0 0 0 0 (-1) 1)), ((r 1), .inl (kT, 240, .inl f2))] H → va_D A [((r 100), .inr (12, mF r 0 (nI n2) 0 0 0 0 0 0 0 0 0 0 0 (-1) 1)), ((r 1), .inl (kT, 240, .inl f2))] → va_S A H0 H locs → lv_has ls 3 [(0, .ref (r 100)), (1, .int p0), (2, .int 16)] → W p l e R s m args below meth c H locs cells slots Q (F0 m 3 ls [])) : W p l e R s m args below meth c H locs cells slots Q (F0 m 3 ls []) := by
  have hiX12 : ∀ w ∈ u_ws RX12 TX12 54, w ∈ vs_f_X12_put := vs_f_X12_put_uX12
  refine lv_iload_n hx hb dX12_put_3 rfl (lv_at hl 2 rfl) ?_
  refine lv_if_lt (tgt := 49) hx hb dX12_put_4 (by decide) (fun c_1 => absurd c_1 (by decide)) (fun c_1 => ?_)
  refine lv_iload_n hx hb dX12_put_7 rfl (lv_at hl 1 rfl) ?_
  refine lv_iload_n hx hb dX12_put_8 rfl (lv_at hl 2 rfl) ?_
  refine lv_ishr hx hb dX12_put_9 ?_
  refine lv_sipush (v := 255) hx hb dX12_put_10 (by decide) ?_
  refine lv_iand hx hb dX12_put_13 ?_
  refine lv_topi (fun v_2 e_2 => ?_)
  refine lv_if_ne (tgt := 20) hx hb dX12_put_14 (by decide) (fun c_z => ?_) (fun c_z => ?_)
  · refine lv_aload_n hx hb dX12_put_20 rfl (lv_at hl 0 rfl) ?_
    refine va_get (D := (dC, dI)) (ci := 12) (v := .ref (r 1)) (C := RX12) (T := TX12) (N := 54) hx hb hts hiX12 hown hK hP 0 rfl rfl 1 (by decide) (hts (.fieldLink RX12 9 "WallChapelsModel" "tape" "[B") (by decide +kernel)) (fun _ h9 => h9) rfl dX12_put_21 ?_
    refine lv_aload_n hx hb dX12_put_24 rfl (lv_at hl 0 rfl) ?_
    refine va_get (D := (dC, dI)) (ci := 12) (v := .int (nI n)) (C := RX12) (T := TX12) (N := 54) hx hb hts hiX12 hown hK hP 0 rfl rfl 6 (by decide) (hts (.fieldLink RX12 103 "WallChapelsModel" "length" "I") (by decide +kernel)) (fun _ h9 => h9) rfl dX12_put_25 ?_
    refine lv_iload_n hx hb dX12_put_28 rfl (lv_at hl 1 rfl) ?_
    refine lv_iload_n hx hb dX12_put_29 rfl (lv_at hl 2 rfl) ?_
    refine lv_ishr hx hb dX12_put_30 ?_
    refine lv_i2b (v := (p0 >>> ((24 : Int32) &&& 31)).toInt8.toInt32) hx hb dX12_put_31 rfl ?_
    refine va_bast (D := (dC, dI)) hx hb hK hP hD hS 1 0 rfl rfl (i := nI n) (vp_in_nI (by omega) (by decide)) dX12_put_32 (fun H locs hP hD hS => ?_)
    have hP : va_P (dC, dI) vwCl [((r 100), .inr (12, mF r 0 (nI n) 0 0 0 0 0 0 0 0 0 0 0 (-1) 1)), ((r 1), .inl (kT, 240, .inl (upd f (nI n).toNatClampNeg (vp_nar .byte ((p0 >>> ((24 : Int32) &&& 31)).toInt8.toInt32)))))] H := hP
    have hD : va_D A [((r 100), .inr (12, mF r 0 (nI n) 0 0 0 0 0 0 0 0 0 0 0 (-1) 1)), ((r 1), .inl (kT, 240, .inl (upd f (nI n).toNatClampNeg (vp_nar .byte ((p0 >>> ((24 : Int32) &&& 31)).toInt8.toInt32)))))] := hD
    refine lv_aload_n hx hb dX12_put_33 rfl (lv_at hl 0 rfl) ?_
    refine lv_dup hx hb dX12_put_34 rfl ?_
    refine va_get (D := (dC, dI)) (ci := 12) (v := .int (nI n)) (C := RX12) (T := TX12) (N := 54) hx hb hts hiX12 hown hK hP 0 rfl rfl 6 (by decide) (hts (.fieldLink RX12 103 "WallChapelsModel" "length" "I") (by decide +kernel)) (fun _ h9 => h9) rfl dX12_put_35 ?_
    refine lv_iconst (v := 1) hx hb dX12_put_38 (by decide) ?_
    refine lv_iadd hx hb dX12_put_39 ?_
    refine lv_topi (fun v_3 e_3 => ?_)
    obtain rfl : v_3 = nI (n + 1) := by rw [e_3]; exact nI_add n 1
    refine va_put (D := (dC, dI)) (ci := 12) (v := .int (nI (n + 1))) (ty := .int) (C := RX12) (T := TX12) (N := 54) hx hb hts hiX12 tyX12 tyX12_ok nmX12 hown hK hP hD hS 0 rfl rfl 6 (by decide) (hts (.fieldLink RX12 103 "WallChapelsModel" "length" "I") (by decide +kernel)) (fun _ h9 => h9) rfl (by decide +kernel) rfl rfl (Nat.le_of_ble_eq_true rfl) dX12_put_40 (fun H locs hP hD hS => ?_)
    have hP : va_P (dC, dI) vwCl [((r 100), .inr (12, mF r 0 (nI (n + 1)) 0 0 0 0 0 0 0 0 0 0 0 (-1) 1)), ((r 1), .inl (kT, 240, .inl (upd f (nI n).toNatClampNeg (vp_nar .byte ((p0 >>> ((24 : Int32) &&& 31)).toInt8.toInt32)))))] H := hP
    have hD : va_D A [((r 100), .inr (12, mF r 0 (nI (n + 1)) 0 0 0 0 0 0 0 0 0 0 0 (-1) 1)), ((r 1), .inl (kT, 240, .inl (upd f (nI n).toNatClampNeg (vp_nar .byte ((p0 >>> ((24 : Int32) &&& 31)).toInt8.toInt32)))))] := hD
    refine lv_iinc (v := 16) (lv' := [(2, .int 16), (0, .ref (r 100)), (1, .int p0)]) hx hb dX12_put_43 hl (k := 2) rfl (by decide) (by decide) rfl (fun ls hl => ?_)
    refine lv_goto (tgt := 3) hx hb dX12_put_46 (by decide) ?_
    exact kk _ _ _ _ ls (by rw [bz1 (show v_2 = uA p0 24 from sA_u 24 rfl (by decide) e_2) c_z]) hP hD hS (lv_sub hl [1, 2, 0] rfl)
  · refine lv_goto (tgt := 43) hx hb dX12_put_17 (by decide) ?_
    refine lv_iinc (v := 16) (lv' := [(2, .int 16), (0, .ref (r 100)), (1, .int p0)]) hx hb dX12_put_43 hl (k := 2) rfl (by decide) (by decide) rfl (fun ls hl => ?_)
    refine lv_goto (tgt := 3) hx hb dX12_put_46 (by decide) ?_
    exact kk _ _ _ _ ls (by rw [bz0 (show v_2 = uA p0 24 from sA_u 24 rfl (by decide) e_2) c_z]; rfl) hP hD hS (lv_sub hl [1, 2, 0] rfl)
set_option maxHeartbeats 4000000 in
set_option maxRecDepth 100000 in
theorem f_X12_put_16 {p : Program} {l : Launch} {e : Env} {R : Room} {s : State} {m : MethodId} {args : Array Value} {below : List Frame} {meth : Method} {c : Code} {H0 H : Heap} {locs : List Loc} {cells slots : Nat} {Q : State → Prop} {dC : Nat → ClassId} {dI : Nat → Nat → Nat} {A : Nat → Prop} {ls : Array Slot} (r : Nat → Nat) (kT : ClassId) (n : Nat) (hn : n < 200) (f : Nat → Int32) (p0 : Int32) (hx : p.tables.exec = Jvm.exec) (hb : c.code = cX12_put) (hts : ∀ w ∈ vs_f_X12_put, w.before args s = true) (hown : s.vm.findClass RX12 = some m.cls) (hG : gxP s) (hK : va_K (dC, dI) vwCl [(kT, .byte)] s) (hP : va_P (dC, dI) vwCl [((r 100), .inr (12, mF r 0 (nI n) 0 0 0 0 0 0 0 0 0 0 0 (-1) 1)), ((r 1), .inl (kT, 240, .inl f))] H) (hD : va_D A [((r 100), .inr (12, mF r 0 (nI n) 0 0 0 0 0 0 0 0 0 0 0 (-1) 1)), ((r 1), .inl (kT, 240, .inl f))]) (hS : va_S A H0 H locs) (hl : lv_has ls 3 [(0, .ref (r 100)), (1, .int p0), (2, .int 16)])
    (kk : ∀ (H : Heap) (locs : List Loc) (n2 : Nat) (f2 : Nat → Int32) (ls : Array Slot), n2 = n + bz p0 16 → va_P (dC, dI) vwCl [((r 100), .inr (12, mF r 0 (nI n2) 0 0 0 0 0 0 0 0 0 0 0 (-1) 1)), ((r 1), .inl (kT, 240, .inl f2))] H → va_D A [((r 100), .inr (12, mF r 0 (nI n2) 0 0 0 0 0 0 0 0 0 0 0 (-1) 1)), ((r 1), .inl (kT, 240, .inl f2))] → va_S A H0 H locs → lv_has ls 3 [(0, .ref (r 100)), (1, .int p0), (2, .int 8)] → W p l e R s m args below meth c H locs cells slots Q (F0 m 3 ls [])) : W p l e R s m args below meth c H locs cells slots Q (F0 m 3 ls []) := by
  have hiX12 : ∀ w ∈ u_ws RX12 TX12 54, w ∈ vs_f_X12_put := vs_f_X12_put_uX12
  refine lv_iload_n hx hb dX12_put_3 rfl (lv_at hl 2 rfl) ?_
  refine lv_if_lt (tgt := 49) hx hb dX12_put_4 (by decide) (fun c_4 => absurd c_4 (by decide)) (fun c_4 => ?_)
  refine lv_iload_n hx hb dX12_put_7 rfl (lv_at hl 1 rfl) ?_
  refine lv_iload_n hx hb dX12_put_8 rfl (lv_at hl 2 rfl) ?_
  refine lv_ishr hx hb dX12_put_9 ?_
  refine lv_sipush (v := 255) hx hb dX12_put_10 (by decide) ?_
  refine lv_iand hx hb dX12_put_13 ?_
  refine lv_topi (fun v_5 e_5 => ?_)
  refine lv_if_ne (tgt := 20) hx hb dX12_put_14 (by decide) (fun c_z => ?_) (fun c_z => ?_)
  · refine lv_aload_n hx hb dX12_put_20 rfl (lv_at hl 0 rfl) ?_
    refine va_get (D := (dC, dI)) (ci := 12) (v := .ref (r 1)) (C := RX12) (T := TX12) (N := 54) hx hb hts hiX12 hown hK hP 0 rfl rfl 1 (by decide) (hts (.fieldLink RX12 9 "WallChapelsModel" "tape" "[B") (by decide +kernel)) (fun _ h9 => h9) rfl dX12_put_21 ?_
    refine lv_aload_n hx hb dX12_put_24 rfl (lv_at hl 0 rfl) ?_
    refine va_get (D := (dC, dI)) (ci := 12) (v := .int (nI n)) (C := RX12) (T := TX12) (N := 54) hx hb hts hiX12 hown hK hP 0 rfl rfl 6 (by decide) (hts (.fieldLink RX12 103 "WallChapelsModel" "length" "I") (by decide +kernel)) (fun _ h9 => h9) rfl dX12_put_25 ?_
    refine lv_iload_n hx hb dX12_put_28 rfl (lv_at hl 1 rfl) ?_
    refine lv_iload_n hx hb dX12_put_29 rfl (lv_at hl 2 rfl) ?_
    refine lv_ishr hx hb dX12_put_30 ?_
    refine lv_i2b (v := (p0 >>> ((16 : Int32) &&& 31)).toInt8.toInt32) hx hb dX12_put_31 rfl ?_
    refine va_bast (D := (dC, dI)) hx hb hK hP hD hS 1 0 rfl rfl (i := nI n) (vp_in_nI (by omega) (by decide)) dX12_put_32 (fun H locs hP hD hS => ?_)
    have hP : va_P (dC, dI) vwCl [((r 100), .inr (12, mF r 0 (nI n) 0 0 0 0 0 0 0 0 0 0 0 (-1) 1)), ((r 1), .inl (kT, 240, .inl (upd f (nI n).toNatClampNeg (vp_nar .byte ((p0 >>> ((16 : Int32) &&& 31)).toInt8.toInt32)))))] H := hP
    have hD : va_D A [((r 100), .inr (12, mF r 0 (nI n) 0 0 0 0 0 0 0 0 0 0 0 (-1) 1)), ((r 1), .inl (kT, 240, .inl (upd f (nI n).toNatClampNeg (vp_nar .byte ((p0 >>> ((16 : Int32) &&& 31)).toInt8.toInt32)))))] := hD
    refine lv_aload_n hx hb dX12_put_33 rfl (lv_at hl 0 rfl) ?_
    refine lv_dup hx hb dX12_put_34 rfl ?_
    refine va_get (D := (dC, dI)) (ci := 12) (v := .int (nI n)) (C := RX12) (T := TX12) (N := 54) hx hb hts hiX12 hown hK hP 0 rfl rfl 6 (by decide) (hts (.fieldLink RX12 103 "WallChapelsModel" "length" "I") (by decide +kernel)) (fun _ h9 => h9) rfl dX12_put_35 ?_
    refine lv_iconst (v := 1) hx hb dX12_put_38 (by decide) ?_
    refine lv_iadd hx hb dX12_put_39 ?_
    refine lv_topi (fun v_6 e_6 => ?_)
    obtain rfl : v_6 = nI (n + 1) := by rw [e_6]; exact nI_add n 1
    refine va_put (D := (dC, dI)) (ci := 12) (v := .int (nI (n + 1))) (ty := .int) (C := RX12) (T := TX12) (N := 54) hx hb hts hiX12 tyX12 tyX12_ok nmX12 hown hK hP hD hS 0 rfl rfl 6 (by decide) (hts (.fieldLink RX12 103 "WallChapelsModel" "length" "I") (by decide +kernel)) (fun _ h9 => h9) rfl (by decide +kernel) rfl rfl (Nat.le_of_ble_eq_true rfl) dX12_put_40 (fun H locs hP hD hS => ?_)
    have hP : va_P (dC, dI) vwCl [((r 100), .inr (12, mF r 0 (nI (n + 1)) 0 0 0 0 0 0 0 0 0 0 0 (-1) 1)), ((r 1), .inl (kT, 240, .inl (upd f (nI n).toNatClampNeg (vp_nar .byte ((p0 >>> ((16 : Int32) &&& 31)).toInt8.toInt32)))))] H := hP
    have hD : va_D A [((r 100), .inr (12, mF r 0 (nI (n + 1)) 0 0 0 0 0 0 0 0 0 0 0 (-1) 1)), ((r 1), .inl (kT, 240, .inl (upd f (nI n).toNatClampNeg (vp_nar .byte ((p0 >>> ((16 : Int32) &&& 31)).toInt8.toInt32)))))] := hD
    refine lv_iinc (v := 8) (lv' := [(2, .int 8), (0, .ref (r 100)), (1, .int p0)]) hx hb dX12_put_43 hl (k := 2) rfl (by decide) (by decide) rfl (fun ls hl => ?_)
    refine lv_goto (tgt := 3) hx hb dX12_put_46 (by decide) ?_
    exact kk _ _ _ _ ls (by rw [bz1 (show v_5 = uA p0 16 from sA_u 16 rfl (by decide) e_5) c_z]) hP hD hS (lv_sub hl [1, 2, 0] rfl)
  · refine lv_goto (tgt := 43) hx hb dX12_put_17 (by decide) ?_
    refine lv_iinc (v := 8) (lv' := [(2, .int 8), (0, .ref (r 100)), (1, .int p0)]) hx hb dX12_put_43 hl (k := 2) rfl (by decide) (by decide) rfl (fun ls hl => ?_)
    refine lv_goto (tgt := 3) hx hb dX12_put_46 (by decide) ?_
    exact kk _ _ _ _ ls (by rw [bz0 (show v_5 = uA p0 16 from sA_u 16 rfl (by decide) e_5) c_z]; rfl) hP hD hS (lv_sub hl [1, 2, 0] rfl)
set_option maxHeartbeats 4000000 in
set_option maxRecDepth 100000 in
theorem f_X12_put_8 {p : Program} {l : Launch} {e : Env} {R : Room} {s : State} {m : MethodId} {args : Array Value} {below : List Frame} {meth : Method} {c : Code} {H0 H : Heap} {locs : List Loc} {cells slots : Nat} {Q : State → Prop} {dC : Nat → ClassId} {dI : Nat → Nat → Nat} {A : Nat → Prop} {ls : Array Slot} (r : Nat → Nat) (kT : ClassId) (n : Nat) (hn : n < 200) (f : Nat → Int32) (p0 : Int32) (hx : p.tables.exec = Jvm.exec) (hb : c.code = cX12_put) (hts : ∀ w ∈ vs_f_X12_put, w.before args s = true) (hown : s.vm.findClass RX12 = some m.cls) (hG : gxP s) (hK : va_K (dC, dI) vwCl [(kT, .byte)] s) (hP : va_P (dC, dI) vwCl [((r 100), .inr (12, mF r 0 (nI n) 0 0 0 0 0 0 0 0 0 0 0 (-1) 1)), ((r 1), .inl (kT, 240, .inl f))] H) (hD : va_D A [((r 100), .inr (12, mF r 0 (nI n) 0 0 0 0 0 0 0 0 0 0 0 (-1) 1)), ((r 1), .inl (kT, 240, .inl f))]) (hS : va_S A H0 H locs) (hl : lv_has ls 3 [(0, .ref (r 100)), (1, .int p0), (2, .int 8)])
    (kk : ∀ (H : Heap) (locs : List Loc) (n2 : Nat) (f2 : Nat → Int32) (ls : Array Slot), n2 = n + bz p0 8 → va_P (dC, dI) vwCl [((r 100), .inr (12, mF r 0 (nI n2) 0 0 0 0 0 0 0 0 0 0 0 (-1) 1)), ((r 1), .inl (kT, 240, .inl f2))] H → va_D A [((r 100), .inr (12, mF r 0 (nI n2) 0 0 0 0 0 0 0 0 0 0 0 (-1) 1)), ((r 1), .inl (kT, 240, .inl f2))] → va_S A H0 H locs → lv_has ls 3 [(0, .ref (r 100)), (1, .int p0), (2, .int 0)] → W p l e R s m args below meth c H locs cells slots Q (F0 m 3 ls [])) : W p l e R s m args below meth c H locs cells slots Q (F0 m 3 ls []) := by
  have hiX12 : ∀ w ∈ u_ws RX12 TX12 54, w ∈ vs_f_X12_put := vs_f_X12_put_uX12
  refine lv_iload_n hx hb dX12_put_3 rfl (lv_at hl 2 rfl) ?_
  refine lv_if_lt (tgt := 49) hx hb dX12_put_4 (by decide) (fun c_7 => absurd c_7 (by decide)) (fun c_7 => ?_)
  refine lv_iload_n hx hb dX12_put_7 rfl (lv_at hl 1 rfl) ?_
  refine lv_iload_n hx hb dX12_put_8 rfl (lv_at hl 2 rfl) ?_
  refine lv_ishr hx hb dX12_put_9 ?_
  refine lv_sipush (v := 255) hx hb dX12_put_10 (by decide) ?_
  refine lv_iand hx hb dX12_put_13 ?_
  refine lv_topi (fun v_8 e_8 => ?_)
  refine lv_if_ne (tgt := 20) hx hb dX12_put_14 (by decide) (fun c_z => ?_) (fun c_z => ?_)
  · refine lv_aload_n hx hb dX12_put_20 rfl (lv_at hl 0 rfl) ?_
    refine va_get (D := (dC, dI)) (ci := 12) (v := .ref (r 1)) (C := RX12) (T := TX12) (N := 54) hx hb hts hiX12 hown hK hP 0 rfl rfl 1 (by decide) (hts (.fieldLink RX12 9 "WallChapelsModel" "tape" "[B") (by decide +kernel)) (fun _ h9 => h9) rfl dX12_put_21 ?_
    refine lv_aload_n hx hb dX12_put_24 rfl (lv_at hl 0 rfl) ?_
    refine va_get (D := (dC, dI)) (ci := 12) (v := .int (nI n)) (C := RX12) (T := TX12) (N := 54) hx hb hts hiX12 hown hK hP 0 rfl rfl 6 (by decide) (hts (.fieldLink RX12 103 "WallChapelsModel" "length" "I") (by decide +kernel)) (fun _ h9 => h9) rfl dX12_put_25 ?_
    refine lv_iload_n hx hb dX12_put_28 rfl (lv_at hl 1 rfl) ?_
    refine lv_iload_n hx hb dX12_put_29 rfl (lv_at hl 2 rfl) ?_
    refine lv_ishr hx hb dX12_put_30 ?_
    refine lv_i2b (v := (p0 >>> ((8 : Int32) &&& 31)).toInt8.toInt32) hx hb dX12_put_31 rfl ?_
    refine va_bast (D := (dC, dI)) hx hb hK hP hD hS 1 0 rfl rfl (i := nI n) (vp_in_nI (by omega) (by decide)) dX12_put_32 (fun H locs hP hD hS => ?_)
    have hP : va_P (dC, dI) vwCl [((r 100), .inr (12, mF r 0 (nI n) 0 0 0 0 0 0 0 0 0 0 0 (-1) 1)), ((r 1), .inl (kT, 240, .inl (upd f (nI n).toNatClampNeg (vp_nar .byte ((p0 >>> ((8 : Int32) &&& 31)).toInt8.toInt32)))))] H := hP
    have hD : va_D A [((r 100), .inr (12, mF r 0 (nI n) 0 0 0 0 0 0 0 0 0 0 0 (-1) 1)), ((r 1), .inl (kT, 240, .inl (upd f (nI n).toNatClampNeg (vp_nar .byte ((p0 >>> ((8 : Int32) &&& 31)).toInt8.toInt32)))))] := hD
    refine lv_aload_n hx hb dX12_put_33 rfl (lv_at hl 0 rfl) ?_
    refine lv_dup hx hb dX12_put_34 rfl ?_
    refine va_get (D := (dC, dI)) (ci := 12) (v := .int (nI n)) (C := RX12) (T := TX12) (N := 54) hx hb hts hiX12 hown hK hP 0 rfl rfl 6 (by decide) (hts (.fieldLink RX12 103 "WallChapelsModel" "length" "I") (by decide +kernel)) (fun _ h9 => h9) rfl dX12_put_35 ?_
    refine lv_iconst (v := 1) hx hb dX12_put_38 (by decide) ?_
    refine lv_iadd hx hb dX12_put_39 ?_
    refine lv_topi (fun v_9 e_9 => ?_)
    obtain rfl : v_9 = nI (n + 1) := by rw [e_9]; exact nI_add n 1
    refine va_put (D := (dC, dI)) (ci := 12) (v := .int (nI (n + 1))) (ty := .int) (C := RX12) (T := TX12) (N := 54) hx hb hts hiX12 tyX12 tyX12_ok nmX12 hown hK hP hD hS 0 rfl rfl 6 (by decide) (hts (.fieldLink RX12 103 "WallChapelsModel" "length" "I") (by decide +kernel)) (fun _ h9 => h9) rfl (by decide +kernel) rfl rfl (Nat.le_of_ble_eq_true rfl) dX12_put_40 (fun H locs hP hD hS => ?_)
    have hP : va_P (dC, dI) vwCl [((r 100), .inr (12, mF r 0 (nI (n + 1)) 0 0 0 0 0 0 0 0 0 0 0 (-1) 1)), ((r 1), .inl (kT, 240, .inl (upd f (nI n).toNatClampNeg (vp_nar .byte ((p0 >>> ((8 : Int32) &&& 31)).toInt8.toInt32)))))] H := hP
    have hD : va_D A [((r 100), .inr (12, mF r 0 (nI (n + 1)) 0 0 0 0 0 0 0 0 0 0 0 (-1) 1)), ((r 1), .inl (kT, 240, .inl (upd f (nI n).toNatClampNeg (vp_nar .byte ((p0 >>> ((8 : Int32) &&& 31)).toInt8.toInt32)))))] := hD
    refine lv_iinc (v := 0) (lv' := [(2, .int 0), (0, .ref (r 100)), (1, .int p0)]) hx hb dX12_put_43 hl (k := 2) rfl (by decide) (by decide) rfl (fun ls hl => ?_)
    refine lv_goto (tgt := 3) hx hb dX12_put_46 (by decide) ?_
    exact kk _ _ _ _ ls (by rw [bz1 (show v_8 = uA p0 8 from sA_u 8 rfl (by decide) e_8) c_z]) hP hD hS (lv_sub hl [1, 2, 0] rfl)
  · refine lv_goto (tgt := 43) hx hb dX12_put_17 (by decide) ?_
    refine lv_iinc (v := 0) (lv' := [(2, .int 0), (0, .ref (r 100)), (1, .int p0)]) hx hb dX12_put_43 hl (k := 2) rfl (by decide) (by decide) rfl (fun ls hl => ?_)
    refine lv_goto (tgt := 3) hx hb dX12_put_46 (by decide) ?_
    exact kk _ _ _ _ ls (by rw [bz0 (show v_8 = uA p0 8 from sA_u 8 rfl (by decide) e_8) c_z]; rfl) hP hD hS (lv_sub hl [1, 2, 0] rfl)
set_option maxHeartbeats 4000000 in
set_option maxRecDepth 100000 in
theorem f_X12_put_0 {p : Program} {l : Launch} {e : Env} {R : Room} {s : State} {m : MethodId} {args : Array Value} {below : List Frame} {meth : Method} {c : Code} {H0 H : Heap} {locs : List Loc} {cells slots : Nat} {Q : State → Prop} {dC : Nat → ClassId} {dI : Nat → Nat → Nat} {A : Nat → Prop} {ls : Array Slot} (r : Nat → Nat) (kT : ClassId) (n : Nat) (hn : n < 200) (f : Nat → Int32) (p0 : Int32) (hx : p.tables.exec = Jvm.exec) (hb : c.code = cX12_put) (hts : ∀ w ∈ vs_f_X12_put, w.before args s = true) (hown : s.vm.findClass RX12 = some m.cls) (hG : gxP s) (hK : va_K (dC, dI) vwCl [(kT, .byte)] s) (hP : va_P (dC, dI) vwCl [((r 100), .inr (12, mF r 0 (nI n) 0 0 0 0 0 0 0 0 0 0 0 (-1) 1)), ((r 1), .inl (kT, 240, .inl f))] H) (hD : va_D A [((r 100), .inr (12, mF r 0 (nI n) 0 0 0 0 0 0 0 0 0 0 0 (-1) 1)), ((r 1), .inl (kT, 240, .inl f))]) (hS : va_S A H0 H locs) (hl : lv_has ls 3 [(0, .ref (r 100)), (1, .int p0), (2, .int 0)])
    (kk : ∀ (H : Heap) (locs : List Loc) (n2 : Nat) (f2 : Nat → Int32) (ls : Array Slot), n2 = n + bz p0 0 → va_P (dC, dI) vwCl [((r 100), .inr (12, mF r 0 (nI n2) 0 0 0 0 0 0 0 0 0 0 0 (-1) 1)), ((r 1), .inl (kT, 240, .inl f2))] H → va_D A [((r 100), .inr (12, mF r 0 (nI n2) 0 0 0 0 0 0 0 0 0 0 0 (-1) 1)), ((r 1), .inl (kT, 240, .inl f2))] → va_S A H0 H locs → lv_has ls 3 [(0, .ref (r 100)), (1, .int p0), (2, .int (-8))] → W p l e R s m args below meth c H locs cells slots Q (F0 m 3 ls [])) : W p l e R s m args below meth c H locs cells slots Q (F0 m 3 ls []) := by
  have hiX12 : ∀ w ∈ u_ws RX12 TX12 54, w ∈ vs_f_X12_put := vs_f_X12_put_uX12
  refine lv_iload_n hx hb dX12_put_3 rfl (lv_at hl 2 rfl) ?_
  refine lv_if_lt (tgt := 49) hx hb dX12_put_4 (by decide) (fun c_10 => absurd c_10 (by decide)) (fun c_10 => ?_)
  refine lv_iload_n hx hb dX12_put_7 rfl (lv_at hl 1 rfl) ?_
  refine lv_iload_n hx hb dX12_put_8 rfl (lv_at hl 2 rfl) ?_
  refine lv_ishr hx hb dX12_put_9 ?_
  refine lv_sipush (v := 255) hx hb dX12_put_10 (by decide) ?_
  refine lv_iand hx hb dX12_put_13 ?_
  refine lv_topi (fun v_11 e_11 => ?_)
  refine lv_if_ne (tgt := 20) hx hb dX12_put_14 (by decide) (fun c_z => ?_) (fun c_z => ?_)
  · refine lv_aload_n hx hb dX12_put_20 rfl (lv_at hl 0 rfl) ?_
    refine va_get (D := (dC, dI)) (ci := 12) (v := .ref (r 1)) (C := RX12) (T := TX12) (N := 54) hx hb hts hiX12 hown hK hP 0 rfl rfl 1 (by decide) (hts (.fieldLink RX12 9 "WallChapelsModel" "tape" "[B") (by decide +kernel)) (fun _ h9 => h9) rfl dX12_put_21 ?_
    refine lv_aload_n hx hb dX12_put_24 rfl (lv_at hl 0 rfl) ?_
    refine va_get (D := (dC, dI)) (ci := 12) (v := .int (nI n)) (C := RX12) (T := TX12) (N := 54) hx hb hts hiX12 hown hK hP 0 rfl rfl 6 (by decide) (hts (.fieldLink RX12 103 "WallChapelsModel" "length" "I") (by decide +kernel)) (fun _ h9 => h9) rfl dX12_put_25 ?_
    refine lv_iload_n hx hb dX12_put_28 rfl (lv_at hl 1 rfl) ?_
    refine lv_iload_n hx hb dX12_put_29 rfl (lv_at hl 2 rfl) ?_
    refine lv_ishr hx hb dX12_put_30 ?_
    refine lv_i2b (v := (p0 >>> ((0 : Int32) &&& 31)).toInt8.toInt32) hx hb dX12_put_31 rfl ?_
    refine va_bast (D := (dC, dI)) hx hb hK hP hD hS 1 0 rfl rfl (i := nI n) (vp_in_nI (by omega) (by decide)) dX12_put_32 (fun H locs hP hD hS => ?_)
    have hP : va_P (dC, dI) vwCl [((r 100), .inr (12, mF r 0 (nI n) 0 0 0 0 0 0 0 0 0 0 0 (-1) 1)), ((r 1), .inl (kT, 240, .inl (upd f (nI n).toNatClampNeg (vp_nar .byte ((p0 >>> ((0 : Int32) &&& 31)).toInt8.toInt32)))))] H := hP
    have hD : va_D A [((r 100), .inr (12, mF r 0 (nI n) 0 0 0 0 0 0 0 0 0 0 0 (-1) 1)), ((r 1), .inl (kT, 240, .inl (upd f (nI n).toNatClampNeg (vp_nar .byte ((p0 >>> ((0 : Int32) &&& 31)).toInt8.toInt32)))))] := hD
    refine lv_aload_n hx hb dX12_put_33 rfl (lv_at hl 0 rfl) ?_
    refine lv_dup hx hb dX12_put_34 rfl ?_
    refine va_get (D := (dC, dI)) (ci := 12) (v := .int (nI n)) (C := RX12) (T := TX12) (N := 54) hx hb hts hiX12 hown hK hP 0 rfl rfl 6 (by decide) (hts (.fieldLink RX12 103 "WallChapelsModel" "length" "I") (by decide +kernel)) (fun _ h9 => h9) rfl dX12_put_35 ?_
    refine lv_iconst (v := 1) hx hb dX12_put_38 (by decide) ?_
    refine lv_iadd hx hb dX12_put_39 ?_
    refine lv_topi (fun v_12 e_12 => ?_)
    obtain rfl : v_12 = nI (n + 1) := by rw [e_12]; exact nI_add n 1
    refine va_put (D := (dC, dI)) (ci := 12) (v := .int (nI (n + 1))) (ty := .int) (C := RX12) (T := TX12) (N := 54) hx hb hts hiX12 tyX12 tyX12_ok nmX12 hown hK hP hD hS 0 rfl rfl 6 (by decide) (hts (.fieldLink RX12 103 "WallChapelsModel" "length" "I") (by decide +kernel)) (fun _ h9 => h9) rfl (by decide +kernel) rfl rfl (Nat.le_of_ble_eq_true rfl) dX12_put_40 (fun H locs hP hD hS => ?_)
    have hP : va_P (dC, dI) vwCl [((r 100), .inr (12, mF r 0 (nI (n + 1)) 0 0 0 0 0 0 0 0 0 0 0 (-1) 1)), ((r 1), .inl (kT, 240, .inl (upd f (nI n).toNatClampNeg (vp_nar .byte ((p0 >>> ((0 : Int32) &&& 31)).toInt8.toInt32)))))] H := hP
    have hD : va_D A [((r 100), .inr (12, mF r 0 (nI (n + 1)) 0 0 0 0 0 0 0 0 0 0 0 (-1) 1)), ((r 1), .inl (kT, 240, .inl (upd f (nI n).toNatClampNeg (vp_nar .byte ((p0 >>> ((0 : Int32) &&& 31)).toInt8.toInt32)))))] := hD
    refine lv_iinc (v := (-8)) (lv' := [(2, .int (-8)), (0, .ref (r 100)), (1, .int p0)]) hx hb dX12_put_43 hl (k := 2) rfl (by decide) (by decide) rfl (fun ls hl => ?_)
    refine lv_goto (tgt := 3) hx hb dX12_put_46 (by decide) ?_
    exact kk _ _ _ _ ls (by rw [bz1 (show v_11 = uA p0 0 from sA_u 0 rfl (by decide) e_11) c_z]) hP hD hS (lv_sub hl [1, 2, 0] rfl)
  · refine lv_goto (tgt := 43) hx hb dX12_put_17 (by decide) ?_
    refine lv_iinc (v := (-8)) (lv' := [(2, .int (-8)), (0, .ref (r 100)), (1, .int p0)]) hx hb dX12_put_43 hl (k := 2) rfl (by decide) (by decide) rfl (fun ls hl => ?_)
    refine lv_goto (tgt := 3) hx hb dX12_put_46 (by decide) ?_
    exact kk _ _ _ _ ls (by rw [bz0 (show v_11 = uA p0 0 from sA_u 0 rfl (by decide) e_11) c_z]; rfl) hP hD hS (lv_sub hl [1, 2, 0] rfl)
set_option maxHeartbeats 4000000 in
set_option maxRecDepth 100000 in
theorem f_X12_put (l : Launch) (dC : Nat → ClassId) (dI : Nat → Nat → Nat) (sz : Nat) (r : Nat → Nat) (kT : ClassId) (n : Nat) (f : Nat → Int32) (p0 : Int32) (hn : n < 190) : Met l yX12_put vs_f_X12_put ({ frames := 0, cells := 0, slots := 0, locals := 0 }) (va_Pc [.ref (r 100), .int p0] (cW dC dI [((r 100), .inr (12, mF r 0 (nI n) 0 0 0 0 0 0 0 0 0 0 0 (-1) 1)), ((r 1), .inl (kT, 240, .inl f))] [(kT, .byte)] sz)) (va_Qv (fun (_ : Unit) => True) (fun (_ : Unit) (t : State) => ∃ f2 : Nat → Int32, cB dC dI (va_A [((r 100), .inr (12, mF r 0 (nI n) 0 0 0 0 0 0 0 0 0 0 0 (-1) 1)), ((r 1), .inl (kT, 240, .inl f))] sz) [((r 100), .inr (12, mF r 0 (nI (n + cA p0)) 0 0 0 0 0 0 0 0 0 0 0 (-1) 1)), ((r 1), .inl (kT, 240, .inl f2))] [(kT, .byte)] t) (va_A [((r 100), .inr (12, mF r 0 (nI n) 0 0 0 0 0 0 0 0 0 0 0 (-1) 1)), ((r 1), .inl (kT, 240, .inl f))] sz)) 0 0 (va_A [((r 100), .inr (12, mF r 0 (nI n) 0 0 0 0 0 0 0 0 0 0 0 (-1) 1)), ((r 1), .inl (kT, 240, .inl f))] sz) := by
  refine Met.ofW (cc := cX12_put) (maxL := 3) (ret := none) (by decide) rfl ?_
  intro p e s m args below meth c s₁ B hml hv
  obtain ⟨rfl, hsz, hP, hK, hD0, hG⟩ := hv
  have hx := B.exec
  have hb := B.bytes
  have hr := B.returns
  have hts := atoms_spec (ws := vs_f_X12_put) B.pre
  have hown : s.vm.findClass RX12 = some m.cls := findClass_of_methodNamed B.named
  have hlocks := B.notSynchronized
  have hiX12 : ∀ w ∈ u_ws RX12 TX12 54, w ∈ vs_f_X12_put := vs_f_X12_put_uX12
  subst hsz
  have hD := hD0.self (sz := s.heap.size)
  generalize hAe : va_A [((r 100), .inr (12, mF r 0 (nI n) 0 0 0 0 0 0 0 0 0 0 0 (-1) 1)), ((r 1), .inl (kT, 240, .inl f))] s.heap.size = A at hD ⊢
  have hA : ∀ q : Nat, s.heap.size ≤ q → A q := fun q h => by rw [← hAe]; exact Or.inr h
  have hS : va_S A s.heap s.heap [] := va_S.rf
  have hP : va_P (dC, dI) vwCl [((r 100), .inr (12, mF r 0 (nI n) 0 0 0 0 0 0 0 0 0 0 0 (-1) 1)), ((r 1), .inl (kT, 240, .inl f))] s.heap := hP
  have hl := lv_entry ([.ref (r 100), .int p0]) (n := 3) (Nat.le_of_ble_eq_true rfl)
  rw [lg_entry_eq]
  generalize (lg_sl ([.ref (r 100), .int p0]) ++ List.replicate (3 - (lg_sl ([.ref (r 100), .int p0])).length) Slot.unset).toArray = ls at hl ⊢
  have hl : lv_has ls 3 [(0, .ref (r 100)), (1, .int p0)] := hl
  refine lv_bipush (v := 24) hx hb dX12_put_0 (by decide) ?_
  refine lv_istore_n (lv' := [(2, .int 24), (0, .ref (r 100)), (1, .int p0)]) hx hb dX12_put_2 rfl hl (by decide) rfl (fun ls hl => ?_)
  refine f_X12_put_24 r kT n (by omega) f p0 hx hb hts hown hG hK hP hD hS (lv_sub hl [1, 2, 0] rfl) (fun H locs n_0 f_0 ls en_0 hP hD hS hl => ?_)
  have hl := hl
  refine f_X12_put_16 r kT n_0 (by have := bz_le p0 24; omega) f_0 p0 hx hb hts hown hG hK hP hD hS (lv_sub hl [0, 1, 2] rfl) (fun H locs n_1 f_1 ls en_1 hP hD hS hl => ?_)
  have hl := hl
  refine f_X12_put_8 r kT n_1 (by have := bz_le p0 24; have := bz_le p0 16; omega) f_1 p0 hx hb hts hown hG hK hP hD hS (lv_sub hl [0, 1, 2] rfl) (fun H locs n_2 f_2 ls en_2 hP hD hS hl => ?_)
  have hl := hl
  refine f_X12_put_0 r kT n_2 (by have := bz_le p0 24; have := bz_le p0 16; have := bz_le p0 8; omega) f_2 p0 hx hb hts hown hG hK hP hD hS (lv_sub hl [0, 1, 2] rfl) (fun H locs n_3 f_3 ls en_3 hP hD hS hl => ?_)
  obtain rfl : n_3 = n + cA p0 := by unfold cA; omega
  refine lv_iload_n hx hb dX12_put_3 rfl (lv_at hl 2 rfl) ?_
  refine lv_if_lt (tgt := 49) hx hb dX12_put_4 (by decide) (fun c_13 => ?_) (fun c_13 => absurd (by decide) c_13)
  have hP9 := hP.sub (ws' := [((r 100), .inr (12, mF r 0 (nI (n + cA p0)) 0 0 0 0 0 0 0 0 0 0 0 (-1) 1)), ((r 1), .inl (kT, 240, .inl f_3))]) [0, 1] rfl
  have hD9 := hD.sub (ws' := [((r 100), .inr (12, mF r 0 (nI (n + cA p0)) 0 0 0 0 0 0 0 0 0 0 0 (-1) 1)), ((r 1), .inl (kT, 240, .inl f_3))]) [0, 1] (by decide) rfl
  have hK9 := hK.sub (tys' := [(kT, .byte)]) [0] rfl
  exact W.vret hx hb hr (fun t ht hW => ⟨⟨(), rfl, trivial, ⟨f_3, by rw [ht]; exact hP9, va_K.moved hW.alike hK9, hD9⟩⟩, hS.F ht⟩) hS.2.2 dX12_put_49
end
section
set_option maxRecDepth 20000 in
theorem dX11_feed_0 : decode cX11_feed 0 = .ok (.iload_n 1, 1) := by decide +kernel
set_option maxRecDepth 20000 in
theorem dX11_feed_1 : decode cX11_feed 1 = .ok (.invokestatic 106, 3) := by decide +kernel
set_option maxRecDepth 20000 in
theorem dX11_feed_4 : decode cX11_feed 4 = .ok (.iload_n 2, 1) := by decide +kernel
set_option maxRecDepth 20000 in
theorem dX11_feed_5 : decode cX11_feed 5 = .ok (.invokestatic 106, 3) := by decide +kernel
set_option maxRecDepth 20000 in
theorem dX11_feed_8 : decode cX11_feed 8 = .ok (.iadd, 1) := by decide +kernel
set_option maxRecDepth 20000 in
theorem dX11_feed_9 : decode cX11_feed 9 = .ok (.iload_n 3, 1) := by decide +kernel
set_option maxRecDepth 20000 in
theorem dX11_feed_10 : decode cX11_feed 10 = .ok (.invokestatic 106, 3) := by decide +kernel
set_option maxRecDepth 20000 in
theorem dX11_feed_13 : decode cX11_feed 13 = .ok (.iadd, 1) := by decide +kernel
set_option maxRecDepth 20000 in
theorem dX11_feed_14 : decode cX11_feed 14 = .ok (.iload 4, 2) := by decide +kernel
set_option maxRecDepth 20000 in
theorem dX11_feed_16 : decode cX11_feed 16 = .ok (.invokestatic 106, 3) := by decide +kernel
set_option maxRecDepth 20000 in
theorem dX11_feed_19 : decode cX11_feed 19 = .ok (.iadd, 1) := by decide +kernel
set_option maxRecDepth 20000 in
theorem dX11_feed_20 : decode cX11_feed 20 = .ok (.iload 5, 2) := by decide +kernel
set_option maxRecDepth 20000 in
theorem dX11_feed_22 : decode cX11_feed 22 = .ok (.invokestatic 106, 3) := by decide +kernel
set_option maxRecDepth 20000 in
theorem dX11_feed_25 : decode cX11_feed 25 = .ok (.iadd, 1) := by decide +kernel
set_option maxRecDepth 20000 in
theorem dX11_feed_26 : decode cX11_feed 26 = .ok (.istore 6, 2) := by decide +kernel
set_option maxRecDepth 20000 in
theorem dX11_feed_28 : decode cX11_feed 28 = .ok (.aload_n 0, 1) := by decide +kernel
set_option maxRecDepth 20000 in
theorem dX11_feed_29 : decode cX11_feed 29 = .ok (.getfield 10, 3) := by decide +kernel
set_option maxRecDepth 20000 in
theorem dX11_feed_32 : decode cX11_feed 32 = .ok (.getfield 110, 3) := by decide +kernel
set_option maxRecDepth 20000 in
theorem dX11_feed_35 : decode cX11_feed 35 = .ok (.iload 6, 2) := by decide +kernel
set_option maxRecDepth 20000 in
theorem dX11_feed_37 : decode cX11_feed 37 = .ok (.iadd, 1) := by decide +kernel
set_option maxRecDepth 20000 in
theorem dX11_feed_38 : decode cX11_feed 38 = .ok (.sipush 240, 3) := by decide +kernel
set_option maxRecDepth 20000 in
theorem dX11_feed_41 : decode cX11_feed 41 = .ok (.if_icmp .le 5, 3) := by decide +kernel
set_option maxRecDepth 20000 in
theorem dX11_feed_46 : decode cX11_feed 46 = .ok (.aload_n 0, 1) := by decide +kernel
set_option maxRecDepth 20000 in
theorem dX11_feed_47 : decode cX11_feed 47 = .ok (.getfield 10, 3) := by decide +kernel
set_option maxRecDepth 20000 in
theorem dX11_feed_50 : decode cX11_feed 50 = .ok (.iload_n 1, 1) := by decide +kernel
set_option maxRecDepth 20000 in
theorem dX11_feed_51 : decode cX11_feed 51 = .ok (.invokevirtual 113, 3) := by decide +kernel
set_option maxRecDepth 20000 in
theorem dX11_feed_54 : decode cX11_feed 54 = .ok (.aload_n 0, 1) := by decide +kernel
set_option maxRecDepth 20000 in
theorem dX11_feed_55 : decode cX11_feed 55 = .ok (.getfield 10, 3) := by decide +kernel
set_option maxRecDepth 20000 in
theorem dX11_feed_58 : decode cX11_feed 58 = .ok (.iload_n 2, 1) := by decide +kernel
set_option maxRecDepth 20000 in
theorem dX11_feed_59 : decode cX11_feed 59 = .ok (.invokevirtual 113, 3) := by decide +kernel
set_option maxRecDepth 20000 in
theorem dX11_feed_62 : decode cX11_feed 62 = .ok (.aload_n 0, 1) := by decide +kernel
set_option maxRecDepth 20000 in
theorem dX11_feed_63 : decode cX11_feed 63 = .ok (.getfield 10, 3) := by decide +kernel
set_option maxRecDepth 20000 in
theorem dX11_feed_66 : decode cX11_feed 66 = .ok (.iload_n 3, 1) := by decide +kernel
set_option maxRecDepth 20000 in
theorem dX11_feed_67 : decode cX11_feed 67 = .ok (.invokevirtual 113, 3) := by decide +kernel
set_option maxRecDepth 20000 in
theorem dX11_feed_70 : decode cX11_feed 70 = .ok (.aload_n 0, 1) := by decide +kernel
set_option maxRecDepth 20000 in
theorem dX11_feed_71 : decode cX11_feed 71 = .ok (.getfield 10, 3) := by decide +kernel
set_option maxRecDepth 20000 in
theorem dX11_feed_74 : decode cX11_feed 74 = .ok (.iload 4, 2) := by decide +kernel
set_option maxRecDepth 20000 in
theorem dX11_feed_76 : decode cX11_feed 76 = .ok (.invokevirtual 113, 3) := by decide +kernel
set_option maxRecDepth 20000 in
theorem dX11_feed_79 : decode cX11_feed 79 = .ok (.aload_n 0, 1) := by decide +kernel
set_option maxRecDepth 20000 in
theorem dX11_feed_80 : decode cX11_feed 80 = .ok (.getfield 10, 3) := by decide +kernel
set_option maxRecDepth 20000 in
theorem dX11_feed_83 : decode cX11_feed 83 = .ok (.iload 5, 2) := by decide +kernel
set_option maxRecDepth 20000 in
theorem dX11_feed_85 : decode cX11_feed 85 = .ok (.invokevirtual 113, 3) := by decide +kernel
set_option maxRecDepth 20000 in
theorem dX11_feed_88 : decode cX11_feed 88 = .ok (.aload_n 0, 1) := by decide +kernel
set_option maxRecDepth 20000 in
theorem dX11_feed_89 : decode cX11_feed 89 = .ok (.getfield 10, 3) := by decide +kernel
set_option maxRecDepth 20000 in
theorem dX11_feed_92 : decode cX11_feed 92 = .ok (.getfield 110, 3) := by decide +kernel
set_option maxRecDepth 20000 in
theorem dX11_feed_95 : decode cX11_feed 95 = .ok (.ireturn, 1) := by decide +kernel
set_option maxRecDepth 20000 in
theorem dX12_feed_0 : decode cX12_feed 0 = .ok (.aload_n 0, 1) := by decide +kernel
set_option maxRecDepth 20000 in
theorem dX12_feed_1 : decode cX12_feed 1 = .ok (.iconst 0, 1) := by decide +kernel
set_option maxRecDepth 20000 in
theorem dX12_feed_2 : decode cX12_feed 2 = .ok (.putfield 90, 3) := by decide +kernel
set_option maxRecDepth 20000 in
theorem dX12_feed_5 : decode cX12_feed 5 = .ok (.aload_n 0, 1) := by decide +kernel
set_option maxRecDepth 20000 in
theorem dX12_feed_6 : decode cX12_feed 6 = .ok (.getfield 103, 3) := by decide +kernel
set_option maxRecDepth 20000 in
theorem dX12_feed_9 : decode cX12_feed 9 = .ok (.iload_n 1, 1) := by decide +kernel
set_option maxRecDepth 20000 in
theorem dX12_feed_10 : decode cX12_feed 10 = .ok (.invokestatic 105, 3) := by decide +kernel
set_option maxRecDepth 20000 in
theorem dX12_feed_13 : decode cX12_feed 13 = .ok (.iadd, 1) := by decide +kernel
set_option maxRecDepth 20000 in
theorem dX12_feed_14 : decode cX12_feed 14 = .ok (.iload_n 2, 1) := by decide +kernel
set_option maxRecDepth 20000 in
theorem dX12_feed_15 : decode cX12_feed 15 = .ok (.invokestatic 105, 3) := by decide +kernel
set_option maxRecDepth 20000 in
theorem dX12_feed_18 : decode cX12_feed 18 = .ok (.iadd, 1) := by decide +kernel
set_option maxRecDepth 20000 in
theorem dX12_feed_19 : decode cX12_feed 19 = .ok (.iload_n 3, 1) := by decide +kernel
set_option maxRecDepth 20000 in
theorem dX12_feed_20 : decode cX12_feed 20 = .ok (.invokestatic 105, 3) := by decide +kernel
set_option maxRecDepth 20000 in
theorem dX12_feed_23 : decode cX12_feed 23 = .ok (.iadd, 1) := by decide +kernel
set_option maxRecDepth 20000 in
theorem dX12_feed_24 : decode cX12_feed 24 = .ok (.iload 4, 2) := by decide +kernel
set_option maxRecDepth 20000 in
theorem dX12_feed_26 : decode cX12_feed 26 = .ok (.invokestatic 105, 3) := by decide +kernel
set_option maxRecDepth 20000 in
theorem dX12_feed_29 : decode cX12_feed 29 = .ok (.iadd, 1) := by decide +kernel
set_option maxRecDepth 20000 in
theorem dX12_feed_30 : decode cX12_feed 30 = .ok (.iload 5, 2) := by decide +kernel
set_option maxRecDepth 20000 in
theorem dX12_feed_32 : decode cX12_feed 32 = .ok (.invokestatic 105, 3) := by decide +kernel
set_option maxRecDepth 20000 in
theorem dX12_feed_35 : decode cX12_feed 35 = .ok (.iadd, 1) := by decide +kernel
set_option maxRecDepth 20000 in
theorem dX12_feed_36 : decode cX12_feed 36 = .ok (.sipush 240, 3) := by decide +kernel
set_option maxRecDepth 20000 in
theorem dX12_feed_39 : decode cX12_feed 39 = .ok (.if_icmp .le 5, 3) := by decide +kernel
set_option maxRecDepth 20000 in
theorem dX12_feed_44 : decode cX12_feed 44 = .ok (.aload_n 0, 1) := by decide +kernel
set_option maxRecDepth 20000 in
theorem dX12_feed_45 : decode cX12_feed 45 = .ok (.iload_n 1, 1) := by decide +kernel
set_option maxRecDepth 20000 in
theorem dX12_feed_46 : decode cX12_feed 46 = .ok (.invokevirtual 109, 3) := by decide +kernel
set_option maxRecDepth 20000 in
theorem dX12_feed_49 : decode cX12_feed 49 = .ok (.aload_n 0, 1) := by decide +kernel
set_option maxRecDepth 20000 in
theorem dX12_feed_50 : decode cX12_feed 50 = .ok (.iload_n 2, 1) := by decide +kernel
set_option maxRecDepth 20000 in
theorem dX12_feed_51 : decode cX12_feed 51 = .ok (.invokevirtual 109, 3) := by decide +kernel
set_option maxRecDepth 20000 in
theorem dX12_feed_54 : decode cX12_feed 54 = .ok (.aload_n 0, 1) := by decide +kernel
set_option maxRecDepth 20000 in
theorem dX12_feed_55 : decode cX12_feed 55 = .ok (.iload_n 3, 1) := by decide +kernel
set_option maxRecDepth 20000 in
theorem dX12_feed_56 : decode cX12_feed 56 = .ok (.invokevirtual 109, 3) := by decide +kernel
set_option maxRecDepth 20000 in
theorem dX12_feed_59 : decode cX12_feed 59 = .ok (.aload_n 0, 1) := by decide +kernel
set_option maxRecDepth 20000 in
theorem dX12_feed_60 : decode cX12_feed 60 = .ok (.iload 4, 2) := by decide +kernel
set_option maxRecDepth 20000 in
theorem dX12_feed_62 : decode cX12_feed 62 = .ok (.invokevirtual 109, 3) := by decide +kernel
set_option maxRecDepth 20000 in
theorem dX12_feed_65 : decode cX12_feed 65 = .ok (.aload_n 0, 1) := by decide +kernel
set_option maxRecDepth 20000 in
theorem dX12_feed_66 : decode cX12_feed 66 = .ok (.iload 5, 2) := by decide +kernel
set_option maxRecDepth 20000 in
theorem dX12_feed_68 : decode cX12_feed 68 = .ok (.invokevirtual 109, 3) := by decide +kernel
set_option maxRecDepth 20000 in
theorem dX12_feed_71 : decode cX12_feed 71 = .ok (.aload_n 0, 1) := by decide +kernel
set_option maxRecDepth 20000 in
theorem dX12_feed_72 : decode cX12_feed 72 = .ok (.getfield 103, 3) := by decide +kernel
set_option maxRecDepth 20000 in
theorem dX12_feed_75 : decode cX12_feed 75 = .ok (.ireturn, 1) := by decide +kernel
def vs_f_X11_feed : List Cond := .code yX11_feed cX11_feed 7 (some .int) :: ([.initialized RX8, .static yX8_bytesOf, .code yX8_bytesOf cX8_bytesOf 3 (some .int), .fieldLink RX11 10 "WallChapels" "tape" "LWallChapels$Tape;", .instanceMethod yX8_append, .selects RX8 yX8_append yX8_append, .fieldLink RX8 15 "WallChapels$Tape" "length" "I", .fieldLink RX8 9 "WallChapels$Tape" "bytes" "[I", .code yX8_append cX8_append 4 none] ++ (u_ws RX11 TX11 17 ++ (u_ws RX8 TX8 4)))
theorem vs_f_X11_feed_uX11 : ∀ w ∈ u_ws RX11 TX11 17, w ∈ vs_f_X11_feed := fun _ h => List.mem_cons_of_mem _ (List.mem_append_right _ (List.mem_append_left _ h))
theorem vs_f_X11_feed_uX8 : ∀ w ∈ u_ws RX8 TX8 4, w ∈ vs_f_X11_feed := fun _ h => List.mem_cons_of_mem _ (List.mem_append_right _ (List.mem_append_right _ (h)))
set_option maxRecDepth 20000 in
theorem g_f_X11_feed_f_X8_bytesOf : GoodIn vs_f_X11_feed vs_f_X8_bytesOf := goodIn_r _ [3] (by decide +kernel) (by decide +kernel)
set_option maxRecDepth 20000 in
theorem g_f_X11_feed_f_X8_append : GoodIn vs_f_X11_feed vs_f_X8_append := goodIn_r _ [9, 7, 8, 27, 28, 29, 30] (by decide +kernel) (by decide +kernel)
set_option maxHeartbeats 4000000 in
set_option maxRecDepth 100000 in
theorem f_X11_feed (l : Launch) (dC : Nat → ClassId) (dI : Nat → Nat → Nat) (sz : Nat) (q : Nat → Nat) (kB : ClassId) (fB : Nat → Int32) (p0 : Int32) (p1 : Int32) (p2 : Int32) (p3 : Int32) (p4 : Int32) : Met l yX11_feed vs_f_X11_feed ({ frames := 1, cells := 0, slots := 0, locals := 23 }) (va_Pc [.ref (q 15), .int p0, .int p1, .int p2, .int p3, .int p4] (cW dC dI [((q 15), .inr (11, xF q 0 1)), ((q 0), .inr (8, [.ref (q 16), .int 0, .int 0, .int 0])), ((q 16), .inl (kB, 240, .inl fB))] [(kB, .int)] sz)) (va_Qi (fun (r : Int32) (_ : Unit) => r = nI (cA p0 + cA p1 + cA p2 + cA p3 + cA p4)) (fun (_ : Unit) (t : State) => True) (va_A [((q 15), .inr (11, xF q 0 1)), ((q 0), .inr (8, [.ref (q 16), .int 0, .int 0, .int 0])), ((q 16), .inl (kB, 240, .inl fB))] sz)) 0 0 (va_A [((q 15), .inr (11, xF q 0 1)), ((q 0), .inr (8, [.ref (q 16), .int 0, .int 0, .int 0])), ((q 16), .inl (kB, 240, .inl fB))] sz) := by
  refine Met.ofW (cc := cX11_feed) (maxL := 7) (ret := (some .int)) (by decide) rfl ?_
  intro p e s m args below meth c s₁ B hml hv
  obtain ⟨rfl, hsz, hP, hK, hD0, hG⟩ := hv
  have hx := B.exec
  have hb := B.bytes
  have hr := B.returns
  have hts := atoms_spec (ws := vs_f_X11_feed) B.pre
  have hown : s.vm.findClass RX11 = some m.cls := findClass_of_methodNamed B.named
  have hlocks := B.notSynchronized
  have hiX11 : ∀ w ∈ u_ws RX11 TX11 17, w ∈ vs_f_X11_feed := vs_f_X11_feed_uX11
  have hiX8 : ∀ w ∈ u_ws RX8 TX8 4, w ∈ vs_f_X11_feed := vs_f_X11_feed_uX8
  subst hsz
  have hD := hD0.self (sz := s.heap.size)
  generalize hAe : va_A [((q 15), .inr (11, xF q 0 1)), ((q 0), .inr (8, [.ref (q 16), .int 0, .int 0, .int 0])), ((q 16), .inl (kB, 240, .inl fB))] s.heap.size = A at hD ⊢
  have hA : ∀ q : Nat, s.heap.size ≤ q → A q := fun q h => by rw [← hAe]; exact Or.inr h
  have hS : va_S A s.heap s.heap [] := va_S.rf
  have hP : va_P (dC, dI) vwCl [((q 15), .inr (11, xF q 0 1)), ((q 0), .inr (8, [.ref (q 16), .int 0, .int 0, .int 0])), ((q 16), .inl (kB, 240, .inl fB))] s.heap := hP
  have hl := lv_entry ([.ref (q 15), .int p0, .int p1, .int p2, .int p3, .int p4]) (n := 7) (Nat.le_of_ble_eq_true rfl)
  rw [lg_entry_eq]
  generalize (lg_sl ([.ref (q 15), .int p0, .int p1, .int p2, .int p3, .int p4]) ++ List.replicate (7 - (lg_sl ([.ref (q 15), .int p0, .int p1, .int p2, .int p3, .int p4])).length) Slot.unset).toArray = ls at hl ⊢
  have hl : lv_has ls 7 [(0, .ref (q 15)), (1, .int p0), (2, .int p1), (3, .int p2), (4, .int p3), (5, .int p4)] := hl
  refine lv_iload_n hx hb dX11_feed_0 rfl (lv_at hl 1 rfl) ?_
  have hPc := hP.sub (ws' := []) [] rfl
  have hDc := hD.sub (ws' := []) [] (by decide) rfl
  have hKc := hK.sub (tys' := []) [] rfl
  have hFc := va_free (wc := []) hD hS hA [] rfl
  refine va_calli (va_runSN (As := [.int p0]) (rest := []) ⟨hx, hb, hml, hown, hts⟩ (f_X8_bytesOf l dC dI s.heap.size p0) ⟨va_cnB 1 hts g_f_X11_feed_f_X8_bytesOf rfl rfl rfl (gx_n hG 59 rfl) (hts (.initialized RX8) (by decide +kernel)) (by decide +kernel) ⟨Nat.le_of_ble_eq_true rfl, Nat.le_of_ble_eq_true rfl⟩, (hts (.static yX8_bytesOf) (by decide +kernel)), trivial⟩ ⟨cW_blind, fun U hU hW => ⟨rfl, cW_use hU hW hPc hKc hDc hG⟩⟩ rfl rfl hl.1 rfl (lv_room (Nat.le_of_ble_eq_true rfl)) dX11_feed_1 ⟨Nat.le_of_ble_eq_true rfl, Nat.le_of_ble_eq_true rfl⟩) hS (fun q _ h => hFc q h) hFc (fun r_1 u t H1 locs ht hvm hw hB hz1 hk1 hS => ?_)
  obtain ⟨hP, hD⟩ := va_join (wr := [((q 15), .inr (11, xF q 0 1)), ((q 0), .inr (8, [.ref (q 16), .int 0, .int 0, .int 0])), ((q 16), .inl (kB, 240, .inl fB))]) (w1 := []) hP hD [] [0, 1, 2] rfl rfl (by decide) (by decide) hk1 hFc (va_P_nil H1) va_D_nil
  generalize H1 = H at hP hS ⊢
  have hP : va_P (dC, dI) vwCl [((q 15), .inr (11, xF q 0 1)), ((q 0), .inr (8, [.ref (q 16), .int 0, .int 0, .int 0])), ((q 16), .inl (kB, 240, .inl fB))] H := hP
  have hD : va_D A [((q 15), .inr (11, xF q 0 1)), ((q 0), .inr (8, [.ref (q 16), .int 0, .int 0, .int 0])), ((q 16), .inl (kB, 240, .inl fB))] := hD
  refine W.widen (k := 0) (n := 0) (Nat.le_of_ble_eq_true rfl) (Nat.le_of_ble_eq_true rfl) ?_
  obtain rfl : r_1 = nI (cA p0) := hw
  refine lv_iload_n hx hb dX11_feed_4 rfl (lv_at hl 2 rfl) ?_
  have hPc := hP.sub (ws' := []) [] rfl
  have hDc := hD.sub (ws' := []) [] (by decide) rfl
  have hKc := hK.sub (tys' := []) [] rfl
  have hFc := va_free (wc := []) hD hS hA [] rfl
  refine va_calli (va_runSN (As := [.int p1]) (rest := [.int (nI (cA p0))]) ⟨hx, hb, hml, hown, hts⟩ (f_X8_bytesOf l dC dI H.size p1) ⟨va_cnB 1 hts g_f_X11_feed_f_X8_bytesOf rfl rfl rfl (gx_n hG 59 rfl) (hts (.initialized RX8) (by decide +kernel)) (by decide +kernel) ⟨Nat.le_of_ble_eq_true rfl, Nat.le_of_ble_eq_true rfl⟩, (hts (.static yX8_bytesOf) (by decide +kernel)), trivial⟩ ⟨cW_blind, fun U hU hW => ⟨rfl, cW_use hU hW hPc hKc hDc hG⟩⟩ rfl rfl hl.1 rfl (lv_room (Nat.le_of_ble_eq_true rfl)) dX11_feed_5 ⟨Nat.le_of_ble_eq_true rfl, Nat.le_of_ble_eq_true rfl⟩) hS (fun q _ h => hFc q h) hFc (fun r_2 u t H1 locs ht hvm hw hB hz1 hk1 hS => ?_)
  obtain ⟨hP, hD⟩ := va_join (wr := [((q 15), .inr (11, xF q 0 1)), ((q 0), .inr (8, [.ref (q 16), .int 0, .int 0, .int 0])), ((q 16), .inl (kB, 240, .inl fB))]) (w1 := []) hP hD [] [0, 1, 2] rfl rfl (by decide) (by decide) hk1 hFc (va_P_nil H1) va_D_nil
  generalize H1 = H at hP hS ⊢
  have hP : va_P (dC, dI) vwCl [((q 15), .inr (11, xF q 0 1)), ((q 0), .inr (8, [.ref (q 16), .int 0, .int 0, .int 0])), ((q 16), .inl (kB, 240, .inl fB))] H := hP
  have hD : va_D A [((q 15), .inr (11, xF q 0 1)), ((q 0), .inr (8, [.ref (q 16), .int 0, .int 0, .int 0])), ((q 16), .inl (kB, 240, .inl fB))] := hD
  refine W.widen (k := 0) (n := 0) (Nat.le_of_ble_eq_true rfl) (Nat.le_of_ble_eq_true rfl) ?_
  obtain rfl : r_2 = nI (cA p1) := hw
  refine lv_iadd hx hb dX11_feed_8 ?_
  refine lv_topi (fun v_3 e_3 => ?_)
  obtain rfl : v_3 = nI ((cA p0) + (cA p1)) := by rw [e_3]; exact nI_add (cA p0) (cA p1)
  refine lv_iload_n hx hb dX11_feed_9 rfl (lv_at hl 3 rfl) ?_
  have hPc := hP.sub (ws' := []) [] rfl
  have hDc := hD.sub (ws' := []) [] (by decide) rfl
  have hKc := hK.sub (tys' := []) [] rfl
  have hFc := va_free (wc := []) hD hS hA [] rfl
  refine va_calli (va_runSN (As := [.int p2]) (rest := [.int (nI ((cA p0) + (cA p1)))]) ⟨hx, hb, hml, hown, hts⟩ (f_X8_bytesOf l dC dI H.size p2) ⟨va_cnB 1 hts g_f_X11_feed_f_X8_bytesOf rfl rfl rfl (gx_n hG 59 rfl) (hts (.initialized RX8) (by decide +kernel)) (by decide +kernel) ⟨Nat.le_of_ble_eq_true rfl, Nat.le_of_ble_eq_true rfl⟩, (hts (.static yX8_bytesOf) (by decide +kernel)), trivial⟩ ⟨cW_blind, fun U hU hW => ⟨rfl, cW_use hU hW hPc hKc hDc hG⟩⟩ rfl rfl hl.1 rfl (lv_room (Nat.le_of_ble_eq_true rfl)) dX11_feed_10 ⟨Nat.le_of_ble_eq_true rfl, Nat.le_of_ble_eq_true rfl⟩) hS (fun q _ h => hFc q h) hFc (fun r_4 u t H1 locs ht hvm hw hB hz1 hk1 hS => ?_)
  obtain ⟨hP, hD⟩ := va_join (wr := [((q 15), .inr (11, xF q 0 1)), ((q 0), .inr (8, [.ref (q 16), .int 0, .int 0, .int 0])), ((q 16), .inl (kB, 240, .inl fB))]) (w1 := []) hP hD [] [0, 1, 2] rfl rfl (by decide) (by decide) hk1 hFc (va_P_nil H1) va_D_nil
  generalize H1 = H at hP hS ⊢
  have hP : va_P (dC, dI) vwCl [((q 15), .inr (11, xF q 0 1)), ((q 0), .inr (8, [.ref (q 16), .int 0, .int 0, .int 0])), ((q 16), .inl (kB, 240, .inl fB))] H := hP
  have hD : va_D A [((q 15), .inr (11, xF q 0 1)), ((q 0), .inr (8, [.ref (q 16), .int 0, .int 0, .int 0])), ((q 16), .inl (kB, 240, .inl fB))] := hD
  refine W.widen (k := 0) (n := 0) (Nat.le_of_ble_eq_true rfl) (Nat.le_of_ble_eq_true rfl) ?_
  obtain rfl : r_4 = nI (cA p2) := hw
  refine lv_iadd hx hb dX11_feed_13 ?_
  refine lv_topi (fun v_5 e_5 => ?_)
  obtain rfl : v_5 = nI (((cA p0) + (cA p1)) + (cA p2)) := by rw [e_5]; exact nI_add ((cA p0) + (cA p1)) (cA p2)
  refine lv_iload hx hb dX11_feed_14 (lv_at hl 4 rfl) ?_
  have hPc := hP.sub (ws' := []) [] rfl
  have hDc := hD.sub (ws' := []) [] (by decide) rfl
  have hKc := hK.sub (tys' := []) [] rfl
  have hFc := va_free (wc := []) hD hS hA [] rfl
  refine va_calli (va_runSN (As := [.int p3]) (rest := [.int (nI (((cA p0) + (cA p1)) + (cA p2)))]) ⟨hx, hb, hml, hown, hts⟩ (f_X8_bytesOf l dC dI H.size p3) ⟨va_cnB 1 hts g_f_X11_feed_f_X8_bytesOf rfl rfl rfl (gx_n hG 59 rfl) (hts (.initialized RX8) (by decide +kernel)) (by decide +kernel) ⟨Nat.le_of_ble_eq_true rfl, Nat.le_of_ble_eq_true rfl⟩, (hts (.static yX8_bytesOf) (by decide +kernel)), trivial⟩ ⟨cW_blind, fun U hU hW => ⟨rfl, cW_use hU hW hPc hKc hDc hG⟩⟩ rfl rfl hl.1 rfl (lv_room (Nat.le_of_ble_eq_true rfl)) dX11_feed_16 ⟨Nat.le_of_ble_eq_true rfl, Nat.le_of_ble_eq_true rfl⟩) hS (fun q _ h => hFc q h) hFc (fun r_6 u t H1 locs ht hvm hw hB hz1 hk1 hS => ?_)
  obtain ⟨hP, hD⟩ := va_join (wr := [((q 15), .inr (11, xF q 0 1)), ((q 0), .inr (8, [.ref (q 16), .int 0, .int 0, .int 0])), ((q 16), .inl (kB, 240, .inl fB))]) (w1 := []) hP hD [] [0, 1, 2] rfl rfl (by decide) (by decide) hk1 hFc (va_P_nil H1) va_D_nil
  generalize H1 = H at hP hS ⊢
  have hP : va_P (dC, dI) vwCl [((q 15), .inr (11, xF q 0 1)), ((q 0), .inr (8, [.ref (q 16), .int 0, .int 0, .int 0])), ((q 16), .inl (kB, 240, .inl fB))] H := hP
  have hD : va_D A [((q 15), .inr (11, xF q 0 1)), ((q 0), .inr (8, [.ref (q 16), .int 0, .int 0, .int 0])), ((q 16), .inl (kB, 240, .inl fB))] := hD
  refine W.widen (k := 0) (n := 0) (Nat.le_of_ble_eq_true rfl) (Nat.le_of_ble_eq_true rfl) ?_
  obtain rfl : r_6 = nI (cA p3) := hw
  refine lv_iadd hx hb dX11_feed_19 ?_
  refine lv_topi (fun v_7 e_7 => ?_)
  obtain rfl : v_7 = nI ((((cA p0) + (cA p1)) + (cA p2)) + (cA p3)) := by rw [e_7]; exact nI_add (((cA p0) + (cA p1)) + (cA p2)) (cA p3)
  refine lv_iload hx hb dX11_feed_20 (lv_at hl 5 rfl) ?_
  have hPc := hP.sub (ws' := []) [] rfl
  have hDc := hD.sub (ws' := []) [] (by decide) rfl
  have hKc := hK.sub (tys' := []) [] rfl
  have hFc := va_free (wc := []) hD hS hA [] rfl
  refine va_calli (va_runSN (As := [.int p4]) (rest := [.int (nI ((((cA p0) + (cA p1)) + (cA p2)) + (cA p3)))]) ⟨hx, hb, hml, hown, hts⟩ (f_X8_bytesOf l dC dI H.size p4) ⟨va_cnB 1 hts g_f_X11_feed_f_X8_bytesOf rfl rfl rfl (gx_n hG 59 rfl) (hts (.initialized RX8) (by decide +kernel)) (by decide +kernel) ⟨Nat.le_of_ble_eq_true rfl, Nat.le_of_ble_eq_true rfl⟩, (hts (.static yX8_bytesOf) (by decide +kernel)), trivial⟩ ⟨cW_blind, fun U hU hW => ⟨rfl, cW_use hU hW hPc hKc hDc hG⟩⟩ rfl rfl hl.1 rfl (lv_room (Nat.le_of_ble_eq_true rfl)) dX11_feed_22 ⟨Nat.le_of_ble_eq_true rfl, Nat.le_of_ble_eq_true rfl⟩) hS (fun q _ h => hFc q h) hFc (fun r_8 u t H1 locs ht hvm hw hB hz1 hk1 hS => ?_)
  obtain ⟨hP, hD⟩ := va_join (wr := [((q 15), .inr (11, xF q 0 1)), ((q 0), .inr (8, [.ref (q 16), .int 0, .int 0, .int 0])), ((q 16), .inl (kB, 240, .inl fB))]) (w1 := []) hP hD [] [0, 1, 2] rfl rfl (by decide) (by decide) hk1 hFc (va_P_nil H1) va_D_nil
  generalize H1 = H at hP hS ⊢
  have hP : va_P (dC, dI) vwCl [((q 15), .inr (11, xF q 0 1)), ((q 0), .inr (8, [.ref (q 16), .int 0, .int 0, .int 0])), ((q 16), .inl (kB, 240, .inl fB))] H := hP
  have hD : va_D A [((q 15), .inr (11, xF q 0 1)), ((q 0), .inr (8, [.ref (q 16), .int 0, .int 0, .int 0])), ((q 16), .inl (kB, 240, .inl fB))] := hD
  refine W.widen (k := 0) (n := 0) (Nat.le_of_ble_eq_true rfl) (Nat.le_of_ble_eq_true rfl) ?_
  obtain rfl : r_8 = nI (cA p4) := hw
  refine lv_iadd hx hb dX11_feed_25 ?_
  refine lv_topi (fun v_9 e_9 => ?_)
  obtain rfl : v_9 = nI (((((cA p0) + (cA p1)) + (cA p2)) + (cA p3)) + (cA p4)) := by rw [e_9]; exact nI_add ((((cA p0) + (cA p1)) + (cA p2)) + (cA p3)) (cA p4)
  refine lv_istore (lv' := [(6, .int (nI (((((cA p0) + (cA p1)) + (cA p2)) + (cA p3)) + (cA p4)))), (0, .ref (q 15)), (1, .int p0), (2, .int p1), (3, .int p2), (4, .int p3), (5, .int p4)]) hx hb dX11_feed_26 hl (by decide) rfl (fun ls hl => ?_)
  refine lv_aload_n hx hb dX11_feed_28 rfl (lv_at hl 1 rfl) ?_
  refine va_get (D := (dC, dI)) (ci := 11) (v := .ref (q 0)) (C := RX11) (T := TX11) (N := 17) hx hb hts hiX11 hown hK hP 0 rfl rfl 0 (by decide) (hts (.fieldLink RX11 10 "WallChapels" "tape" "LWallChapels$Tape;") (by decide +kernel)) (fun _ h9 => h9) rfl dX11_feed_29 ?_
  refine va_getN (D := (dC, dI)) (ci := 8) (v := .int 0) (C := RX8) (T := TX8) (N := 4) hx hb hts hiX8 hown hK hP 1 rfl rfl 1 (by decide) (gx_u hG 1 rfl rfl) (fun _ h9 => h9) rfl dX11_feed_32 ?_
  refine lv_iload hx hb dX11_feed_35 (lv_at hl 0 rfl) ?_
  refine lv_iadd hx hb dX11_feed_37 ?_
  refine lv_topi (fun v_10 e_10 => ?_)
  obtain rfl : v_10 = nI (0 + (((((cA p0) + (cA p1)) + (cA p2)) + (cA p3)) + (cA p4))) := by rw [e_10]; exact nI_add 0 (((((cA p0) + (cA p1)) + (cA p2)) + (cA p3)) + (cA p4))
  refine lv_sipush (v := 240) hx hb dX11_feed_38 (by decide) ?_
  refine lv_icmp_le (tgt := 46) hx hb dX11_feed_41 (by decide) (fun _ => ?_) (fun c_11 => absurd (nI_le (a := (0 + (((((cA p0) + (cA p1)) + (cA p2)) + (cA p3)) + (cA p4)))) (b := 240) (by have := cA_le p0; have := cA_le p1; have := cA_le p2; have := cA_le p3; have := cA_le p4; omega) (by decide)) c_11)
  refine lv_aload_n hx hb dX11_feed_46 rfl (lv_at hl 1 rfl) ?_
  refine va_get (D := (dC, dI)) (ci := 11) (v := .ref (q 0)) (C := RX11) (T := TX11) (N := 17) hx hb hts hiX11 hown hK hP 0 rfl rfl 0 (by decide) (hts (.fieldLink RX11 10 "WallChapels" "tape" "LWallChapels$Tape;") (by decide +kernel)) (fun _ h9 => h9) rfl dX11_feed_47 ?_
  refine lv_iload_n hx hb dX11_feed_50 rfl (lv_at hl 2 rfl) ?_
  have hPc := hP.sub (ws' := [((q 0), .inr (8, [.ref (q 16), .int 0, .int 0, .int 0])), ((q 16), .inl (kB, 240, .inl fB))]) [1, 2] rfl
  have hDc := hD.sub (ws' := [((q 0), .inr (8, [.ref (q 16), .int 0, .int 0, .int 0])), ((q 16), .inl (kB, 240, .inl fB))]) [1, 2] (by decide) rfl
  have hKc := hK.sub (tys' := [(kB, .int)]) [0] rfl
  have hFc := va_free (wc := [((q 0), .inr (8, [.ref (q 16), .int 0, .int 0, .int 0])), ((q 16), .inl (kB, 240, .inl fB))]) hD hS hA [1, 2] rfl
  refine va_callv (va_runVN (As := [.int p0]) (rest := []) ⟨hx, hb, hml, hown, hts⟩ (f_X8_append l dC dI H.size q kB 0 fB p0 (by omega)) ⟨va_cnB 1 hts g_f_X11_feed_f_X8_append rfl rfl rfl (gx_n hG 60 rfl) (hts (.initialized RX8) (by decide +kernel)) (by decide +kernel) ⟨Nat.le_of_ble_eq_true rfl, Nat.le_of_ble_eq_true rfl⟩, (hts (.instanceMethod yX8_append) (by decide +kernel)), (hts (.selects RX8 yX8_append yX8_append) (by decide +kernel))⟩ ⟨cW_blind, va_recv hKc hPc (ci := 8) (q0 := 0) rfl rfl, fun U hU hW => ⟨rfl, cW_use hU hW hPc hKc hDc hG⟩⟩ rfl rfl hl.1 rfl (lv_room (Nat.le_of_ble_eq_true rfl)) dX11_feed_51 ⟨Nat.le_of_ble_eq_true rfl, Nat.le_of_ble_eq_true rfl⟩) hS (fun q _ h => hFc q h) hFc (fun u t H1 locs ht hvm hw hB hz1 hk1 hS => ?_)
  obtain ⟨f_12, hP1, hK1, hD1⟩ := hB
  rw [ht] at hP1
  have hK1 := va_K.moved hvm.symm hK1
  obtain ⟨hP, hD⟩ := va_join (wr := [((q 15), .inr (11, xF q 0 1))]) (w1 := [((q 0), .inr (8, [.ref (q 16), .int (nI (0 + cA p0)), .int 0, .int 0])), ((q 16), .inl (kB, 240, .inl f_12))]) hP hD [1, 2] [0] rfl rfl (by decide) (by decide) hk1 hFc hP1 hD1
  generalize H1 = H at hP hS ⊢
  have hP : va_P (dC, dI) vwCl [((q 15), .inr (11, xF q 0 1)), ((q 0), .inr (8, [.ref (q 16), .int (nI (0 + cA p0)), .int 0, .int 0])), ((q 16), .inl (kB, 240, .inl f_12))] H := hP
  have hD : va_D A [((q 15), .inr (11, xF q 0 1)), ((q 0), .inr (8, [.ref (q 16), .int (nI (0 + cA p0)), .int 0, .int 0])), ((q 16), .inl (kB, 240, .inl f_12))] := hD
  refine W.widen (k := 0) (n := 0) (Nat.le_of_ble_eq_true rfl) (Nat.le_of_ble_eq_true rfl) ?_
  refine lv_aload_n hx hb dX11_feed_54 rfl (lv_at hl 1 rfl) ?_
  refine va_get (D := (dC, dI)) (ci := 11) (v := .ref (q 0)) (C := RX11) (T := TX11) (N := 17) hx hb hts hiX11 hown hK hP 0 rfl rfl 0 (by decide) (hts (.fieldLink RX11 10 "WallChapels" "tape" "LWallChapels$Tape;") (by decide +kernel)) (fun _ h9 => h9) rfl dX11_feed_55 ?_
  refine lv_iload_n hx hb dX11_feed_58 rfl (lv_at hl 3 rfl) ?_
  have hPc := hP.sub (ws' := [((q 0), .inr (8, [.ref (q 16), .int (nI (0 + cA p0)), .int 0, .int 0])), ((q 16), .inl (kB, 240, .inl f_12))]) [1, 2] rfl
  have hDc := hD.sub (ws' := [((q 0), .inr (8, [.ref (q 16), .int (nI (0 + cA p0)), .int 0, .int 0])), ((q 16), .inl (kB, 240, .inl f_12))]) [1, 2] (by decide) rfl
  have hKc := hK.sub (tys' := [(kB, .int)]) [0] rfl
  have hFc := va_free (wc := [((q 0), .inr (8, [.ref (q 16), .int (nI (0 + cA p0)), .int 0, .int 0])), ((q 16), .inl (kB, 240, .inl f_12))]) hD hS hA [1, 2] rfl
  refine va_callv (va_runVN (As := [.int p1]) (rest := []) ⟨hx, hb, hml, hown, hts⟩ (f_X8_append l dC dI H.size q kB (0 + cA p0) f_12 p1 (by have := cA_le p0; omega)) ⟨va_cnB 1 hts g_f_X11_feed_f_X8_append rfl rfl rfl (gx_n hG 60 rfl) (hts (.initialized RX8) (by decide +kernel)) (by decide +kernel) ⟨Nat.le_of_ble_eq_true rfl, Nat.le_of_ble_eq_true rfl⟩, (hts (.instanceMethod yX8_append) (by decide +kernel)), (hts (.selects RX8 yX8_append yX8_append) (by decide +kernel))⟩ ⟨cW_blind, va_recv hKc hPc (ci := 8) (q0 := 0) rfl rfl, fun U hU hW => ⟨rfl, cW_use hU hW hPc hKc hDc hG⟩⟩ rfl rfl hl.1 rfl (lv_room (Nat.le_of_ble_eq_true rfl)) dX11_feed_59 ⟨Nat.le_of_ble_eq_true rfl, Nat.le_of_ble_eq_true rfl⟩) hS (fun q _ h => hFc q h) hFc (fun u t H1 locs ht hvm hw hB hz1 hk1 hS => ?_)
  obtain ⟨f_14, hP1, hK1, hD1⟩ := hB
  rw [ht] at hP1
  have hK1 := va_K.moved hvm.symm hK1
  obtain ⟨hP, hD⟩ := va_join (wr := [((q 15), .inr (11, xF q 0 1))]) (w1 := [((q 0), .inr (8, [.ref (q 16), .int (nI ((0 + cA p0) + cA p1)), .int 0, .int 0])), ((q 16), .inl (kB, 240, .inl f_14))]) hP hD [1, 2] [0] rfl rfl (by decide) (by decide) hk1 hFc hP1 hD1
  generalize H1 = H at hP hS ⊢
  have hP : va_P (dC, dI) vwCl [((q 15), .inr (11, xF q 0 1)), ((q 0), .inr (8, [.ref (q 16), .int (nI ((0 + cA p0) + cA p1)), .int 0, .int 0])), ((q 16), .inl (kB, 240, .inl f_14))] H := hP
  have hD : va_D A [((q 15), .inr (11, xF q 0 1)), ((q 0), .inr (8, [.ref (q 16), .int (nI ((0 + cA p0) + cA p1)), .int 0, .int 0])), ((q 16), .inl (kB, 240, .inl f_14))] := hD
  refine W.widen (k := 0) (n := 0) (Nat.le_of_ble_eq_true rfl) (Nat.le_of_ble_eq_true rfl) ?_
  refine lv_aload_n hx hb dX11_feed_62 rfl (lv_at hl 1 rfl) ?_
  refine va_get (D := (dC, dI)) (ci := 11) (v := .ref (q 0)) (C := RX11) (T := TX11) (N := 17) hx hb hts hiX11 hown hK hP 0 rfl rfl 0 (by decide) (hts (.fieldLink RX11 10 "WallChapels" "tape" "LWallChapels$Tape;") (by decide +kernel)) (fun _ h9 => h9) rfl dX11_feed_63 ?_
  refine lv_iload_n hx hb dX11_feed_66 rfl (lv_at hl 4 rfl) ?_
  have hPc := hP.sub (ws' := [((q 0), .inr (8, [.ref (q 16), .int (nI ((0 + cA p0) + cA p1)), .int 0, .int 0])), ((q 16), .inl (kB, 240, .inl f_14))]) [1, 2] rfl
  have hDc := hD.sub (ws' := [((q 0), .inr (8, [.ref (q 16), .int (nI ((0 + cA p0) + cA p1)), .int 0, .int 0])), ((q 16), .inl (kB, 240, .inl f_14))]) [1, 2] (by decide) rfl
  have hKc := hK.sub (tys' := [(kB, .int)]) [0] rfl
  have hFc := va_free (wc := [((q 0), .inr (8, [.ref (q 16), .int (nI ((0 + cA p0) + cA p1)), .int 0, .int 0])), ((q 16), .inl (kB, 240, .inl f_14))]) hD hS hA [1, 2] rfl
  refine va_callv (va_runVN (As := [.int p2]) (rest := []) ⟨hx, hb, hml, hown, hts⟩ (f_X8_append l dC dI H.size q kB ((0 + cA p0) + cA p1) f_14 p2 (by have := cA_le p0; have := cA_le p1; omega)) ⟨va_cnB 1 hts g_f_X11_feed_f_X8_append rfl rfl rfl (gx_n hG 60 rfl) (hts (.initialized RX8) (by decide +kernel)) (by decide +kernel) ⟨Nat.le_of_ble_eq_true rfl, Nat.le_of_ble_eq_true rfl⟩, (hts (.instanceMethod yX8_append) (by decide +kernel)), (hts (.selects RX8 yX8_append yX8_append) (by decide +kernel))⟩ ⟨cW_blind, va_recv hKc hPc (ci := 8) (q0 := 0) rfl rfl, fun U hU hW => ⟨rfl, cW_use hU hW hPc hKc hDc hG⟩⟩ rfl rfl hl.1 rfl (lv_room (Nat.le_of_ble_eq_true rfl)) dX11_feed_67 ⟨Nat.le_of_ble_eq_true rfl, Nat.le_of_ble_eq_true rfl⟩) hS (fun q _ h => hFc q h) hFc (fun u t H1 locs ht hvm hw hB hz1 hk1 hS => ?_)
  obtain ⟨f_16, hP1, hK1, hD1⟩ := hB
  rw [ht] at hP1
  have hK1 := va_K.moved hvm.symm hK1
  obtain ⟨hP, hD⟩ := va_join (wr := [((q 15), .inr (11, xF q 0 1))]) (w1 := [((q 0), .inr (8, [.ref (q 16), .int (nI (((0 + cA p0) + cA p1) + cA p2)), .int 0, .int 0])), ((q 16), .inl (kB, 240, .inl f_16))]) hP hD [1, 2] [0] rfl rfl (by decide) (by decide) hk1 hFc hP1 hD1
  generalize H1 = H at hP hS ⊢
  have hP : va_P (dC, dI) vwCl [((q 15), .inr (11, xF q 0 1)), ((q 0), .inr (8, [.ref (q 16), .int (nI (((0 + cA p0) + cA p1) + cA p2)), .int 0, .int 0])), ((q 16), .inl (kB, 240, .inl f_16))] H := hP
  have hD : va_D A [((q 15), .inr (11, xF q 0 1)), ((q 0), .inr (8, [.ref (q 16), .int (nI (((0 + cA p0) + cA p1) + cA p2)), .int 0, .int 0])), ((q 16), .inl (kB, 240, .inl f_16))] := hD
  refine W.widen (k := 0) (n := 0) (Nat.le_of_ble_eq_true rfl) (Nat.le_of_ble_eq_true rfl) ?_
  refine lv_aload_n hx hb dX11_feed_70 rfl (lv_at hl 1 rfl) ?_
  refine va_get (D := (dC, dI)) (ci := 11) (v := .ref (q 0)) (C := RX11) (T := TX11) (N := 17) hx hb hts hiX11 hown hK hP 0 rfl rfl 0 (by decide) (hts (.fieldLink RX11 10 "WallChapels" "tape" "LWallChapels$Tape;") (by decide +kernel)) (fun _ h9 => h9) rfl dX11_feed_71 ?_
  refine lv_iload hx hb dX11_feed_74 (lv_at hl 5 rfl) ?_
  have hPc := hP.sub (ws' := [((q 0), .inr (8, [.ref (q 16), .int (nI (((0 + cA p0) + cA p1) + cA p2)), .int 0, .int 0])), ((q 16), .inl (kB, 240, .inl f_16))]) [1, 2] rfl
  have hDc := hD.sub (ws' := [((q 0), .inr (8, [.ref (q 16), .int (nI (((0 + cA p0) + cA p1) + cA p2)), .int 0, .int 0])), ((q 16), .inl (kB, 240, .inl f_16))]) [1, 2] (by decide) rfl
  have hKc := hK.sub (tys' := [(kB, .int)]) [0] rfl
  have hFc := va_free (wc := [((q 0), .inr (8, [.ref (q 16), .int (nI (((0 + cA p0) + cA p1) + cA p2)), .int 0, .int 0])), ((q 16), .inl (kB, 240, .inl f_16))]) hD hS hA [1, 2] rfl
  refine va_callv (va_runVN (As := [.int p3]) (rest := []) ⟨hx, hb, hml, hown, hts⟩ (f_X8_append l dC dI H.size q kB (((0 + cA p0) + cA p1) + cA p2) f_16 p3 (by have := cA_le p0; have := cA_le p1; have := cA_le p2; omega)) ⟨va_cnB 1 hts g_f_X11_feed_f_X8_append rfl rfl rfl (gx_n hG 60 rfl) (hts (.initialized RX8) (by decide +kernel)) (by decide +kernel) ⟨Nat.le_of_ble_eq_true rfl, Nat.le_of_ble_eq_true rfl⟩, (hts (.instanceMethod yX8_append) (by decide +kernel)), (hts (.selects RX8 yX8_append yX8_append) (by decide +kernel))⟩ ⟨cW_blind, va_recv hKc hPc (ci := 8) (q0 := 0) rfl rfl, fun U hU hW => ⟨rfl, cW_use hU hW hPc hKc hDc hG⟩⟩ rfl rfl hl.1 rfl (lv_room (Nat.le_of_ble_eq_true rfl)) dX11_feed_76 ⟨Nat.le_of_ble_eq_true rfl, Nat.le_of_ble_eq_true rfl⟩) hS (fun q _ h => hFc q h) hFc (fun u t H1 locs ht hvm hw hB hz1 hk1 hS => ?_)
  obtain ⟨f_18, hP1, hK1, hD1⟩ := hB
  rw [ht] at hP1
  have hK1 := va_K.moved hvm.symm hK1
  obtain ⟨hP, hD⟩ := va_join (wr := [((q 15), .inr (11, xF q 0 1))]) (w1 := [((q 0), .inr (8, [.ref (q 16), .int (nI ((((0 + cA p0) + cA p1) + cA p2) + cA p3)), .int 0, .int 0])), ((q 16), .inl (kB, 240, .inl f_18))]) hP hD [1, 2] [0] rfl rfl (by decide) (by decide) hk1 hFc hP1 hD1
  generalize H1 = H at hP hS ⊢
  have hP : va_P (dC, dI) vwCl [((q 15), .inr (11, xF q 0 1)), ((q 0), .inr (8, [.ref (q 16), .int (nI ((((0 + cA p0) + cA p1) + cA p2) + cA p3)), .int 0, .int 0])), ((q 16), .inl (kB, 240, .inl f_18))] H := hP
  have hD : va_D A [((q 15), .inr (11, xF q 0 1)), ((q 0), .inr (8, [.ref (q 16), .int (nI ((((0 + cA p0) + cA p1) + cA p2) + cA p3)), .int 0, .int 0])), ((q 16), .inl (kB, 240, .inl f_18))] := hD
  refine W.widen (k := 0) (n := 0) (Nat.le_of_ble_eq_true rfl) (Nat.le_of_ble_eq_true rfl) ?_
  refine lv_aload_n hx hb dX11_feed_79 rfl (lv_at hl 1 rfl) ?_
  refine va_get (D := (dC, dI)) (ci := 11) (v := .ref (q 0)) (C := RX11) (T := TX11) (N := 17) hx hb hts hiX11 hown hK hP 0 rfl rfl 0 (by decide) (hts (.fieldLink RX11 10 "WallChapels" "tape" "LWallChapels$Tape;") (by decide +kernel)) (fun _ h9 => h9) rfl dX11_feed_80 ?_
  refine lv_iload hx hb dX11_feed_83 (lv_at hl 6 rfl) ?_
  have hPc := hP.sub (ws' := [((q 0), .inr (8, [.ref (q 16), .int (nI ((((0 + cA p0) + cA p1) + cA p2) + cA p3)), .int 0, .int 0])), ((q 16), .inl (kB, 240, .inl f_18))]) [1, 2] rfl
  have hDc := hD.sub (ws' := [((q 0), .inr (8, [.ref (q 16), .int (nI ((((0 + cA p0) + cA p1) + cA p2) + cA p3)), .int 0, .int 0])), ((q 16), .inl (kB, 240, .inl f_18))]) [1, 2] (by decide) rfl
  have hKc := hK.sub (tys' := [(kB, .int)]) [0] rfl
  have hFc := va_free (wc := [((q 0), .inr (8, [.ref (q 16), .int (nI ((((0 + cA p0) + cA p1) + cA p2) + cA p3)), .int 0, .int 0])), ((q 16), .inl (kB, 240, .inl f_18))]) hD hS hA [1, 2] rfl
  refine va_callv (va_runVN (As := [.int p4]) (rest := []) ⟨hx, hb, hml, hown, hts⟩ (f_X8_append l dC dI H.size q kB ((((0 + cA p0) + cA p1) + cA p2) + cA p3) f_18 p4 (by have := cA_le p0; have := cA_le p1; have := cA_le p2; have := cA_le p3; omega)) ⟨va_cnB 1 hts g_f_X11_feed_f_X8_append rfl rfl rfl (gx_n hG 60 rfl) (hts (.initialized RX8) (by decide +kernel)) (by decide +kernel) ⟨Nat.le_of_ble_eq_true rfl, Nat.le_of_ble_eq_true rfl⟩, (hts (.instanceMethod yX8_append) (by decide +kernel)), (hts (.selects RX8 yX8_append yX8_append) (by decide +kernel))⟩ ⟨cW_blind, va_recv hKc hPc (ci := 8) (q0 := 0) rfl rfl, fun U hU hW => ⟨rfl, cW_use hU hW hPc hKc hDc hG⟩⟩ rfl rfl hl.1 rfl (lv_room (Nat.le_of_ble_eq_true rfl)) dX11_feed_85 ⟨Nat.le_of_ble_eq_true rfl, Nat.le_of_ble_eq_true rfl⟩) hS (fun q _ h => hFc q h) hFc (fun u t H1 locs ht hvm hw hB hz1 hk1 hS => ?_)
  obtain ⟨f_20, hP1, hK1, hD1⟩ := hB
  rw [ht] at hP1
  have hK1 := va_K.moved hvm.symm hK1
  obtain ⟨hP, hD⟩ := va_join (wr := [((q 15), .inr (11, xF q 0 1))]) (w1 := [((q 0), .inr (8, [.ref (q 16), .int (nI (((((0 + cA p0) + cA p1) + cA p2) + cA p3) + cA p4)), .int 0, .int 0])), ((q 16), .inl (kB, 240, .inl f_20))]) hP hD [1, 2] [0] rfl rfl (by decide) (by decide) hk1 hFc hP1 hD1
  generalize H1 = H at hP hS ⊢
  have hP : va_P (dC, dI) vwCl [((q 15), .inr (11, xF q 0 1)), ((q 0), .inr (8, [.ref (q 16), .int (nI (((((0 + cA p0) + cA p1) + cA p2) + cA p3) + cA p4)), .int 0, .int 0])), ((q 16), .inl (kB, 240, .inl f_20))] H := hP
  have hD : va_D A [((q 15), .inr (11, xF q 0 1)), ((q 0), .inr (8, [.ref (q 16), .int (nI (((((0 + cA p0) + cA p1) + cA p2) + cA p3) + cA p4)), .int 0, .int 0])), ((q 16), .inl (kB, 240, .inl f_20))] := hD
  refine W.widen (k := 0) (n := 0) (Nat.le_of_ble_eq_true rfl) (Nat.le_of_ble_eq_true rfl) ?_
  refine lv_aload_n hx hb dX11_feed_88 rfl (lv_at hl 1 rfl) ?_
  refine va_get (D := (dC, dI)) (ci := 11) (v := .ref (q 0)) (C := RX11) (T := TX11) (N := 17) hx hb hts hiX11 hown hK hP 0 rfl rfl 0 (by decide) (hts (.fieldLink RX11 10 "WallChapels" "tape" "LWallChapels$Tape;") (by decide +kernel)) (fun _ h9 => h9) rfl dX11_feed_89 ?_
  refine va_getN (D := (dC, dI)) (ci := 8) (v := .int (nI (((((0 + cA p0) + cA p1) + cA p2) + cA p3) + cA p4))) (C := RX8) (T := TX8) (N := 4) hx hb hts hiX8 hown hK hP 1 rfl rfl 1 (by decide) (gx_u hG 1 rfl rfl) (fun _ h9 => h9) rfl dX11_feed_92 ?_
  exact W.iret (v := (nI (((((0 + cA p0) + cA p1) + cA p2) + cA p3) + cA p4))) hx hb hr (fun t ht hW => ⟨⟨(nI (((((0 + cA p0) + cA p1) + cA p2) + cA p3) + cA p4)), (), rfl, congrArg nI (by omega), trivial⟩, hS.F ht⟩) hS.2.2 dX11_feed_95
def vs_f_X12_feed : List Cond := .code yX12_feed cX12_feed 6 (some .int) :: ([.fieldLink RX12 90 "WallChapelsModel" "thrown" "I", .fieldLink RX12 103 "WallChapelsModel" "length" "I", .initialized RX12, .static yX12_bytesIn, .code yX12_bytesIn cX12_bytesIn 3 (some .int), .methodLink RX12 105 yX12_bytesIn, .instanceMethod yX12_put, .selects RX12 yX12_put yX12_put, .fieldLink RX12 9 "WallChapelsModel" "tape" "[B", .code yX12_put cX12_put 3 none, .methodLink RX12 109 yX12_put] ++ (u_ws RX12 TX12 54))
theorem vs_f_X12_feed_uX12 : ∀ w ∈ u_ws RX12 TX12 54, w ∈ vs_f_X12_feed := fun _ h => List.mem_cons_of_mem _ (List.mem_append_right _ (h))
set_option maxRecDepth 20000 in
theorem g_f_X12_feed_f_X12_bytesIn : GoodIn vs_f_X12_feed (va_wsS RX12 105 yX12_bytesIn vs_f_X12_bytesIn) := goodIn_r _ [6, 4, 3, 5] (by decide +kernel) (by decide +kernel)
set_option maxRecDepth 20000 in
theorem g_f_X12_feed_f_X12_put : GoodIn vs_f_X12_feed (wsV RX12 109 RX12 yX12_put vs_f_X12_put) := goodIn_r _ [11, 7, 8, 3, 10, 9, 2, 12, 13, 14, 15, 16, 17, 18, 19, 20, 21, 22, 23, 24, 25, 26, 27, 28, 29, 30, 31, 32, 33, 34, 35, 36, 37, 38, 39, 40, 41, 42, 43, 44, 45, 46, 47, 48, 49, 50, 51, 52, 53, 54, 55, 56, 57, 58, 59, 60, 61, 62, 63, 64, 65] (by decide +kernel) (by decide +kernel)
set_option maxHeartbeats 4000000 in
set_option maxRecDepth 100000 in
theorem f_X12_feed (l : Launch) (dC : Nat → ClassId) (dI : Nat → Nat → Nat) (sz : Nat) (r : Nat → Nat) (kT : ClassId) (fT : Nat → Int32) (p0 : Int32) (p1 : Int32) (p2 : Int32) (p3 : Int32) (p4 : Int32) : Met l yX12_feed vs_f_X12_feed ({ frames := 1, cells := 0, slots := 0, locals := 22 }) (va_Pc [.ref (r 100), .int p0, .int p1, .int p2, .int p3, .int p4] (cW dC dI [((r 100), .inr (12, mF r 0 0 0 0 0 0 0 0 0 0 0 0 0 (-1) 1)), ((r 1), .inl (kT, 240, .inl fT))] [(kT, .byte)] sz)) (va_Qi (fun (r : Int32) (_ : Unit) => r = nI (cA p0 + cA p1 + cA p2 + cA p3 + cA p4)) (fun (_ : Unit) (t : State) => True) (va_A [((r 100), .inr (12, mF r 0 0 0 0 0 0 0 0 0 0 0 0 0 (-1) 1)), ((r 1), .inl (kT, 240, .inl fT))] sz)) 0 0 (va_A [((r 100), .inr (12, mF r 0 0 0 0 0 0 0 0 0 0 0 0 0 (-1) 1)), ((r 1), .inl (kT, 240, .inl fT))] sz) := by
  refine Met.ofW (cc := cX12_feed) (maxL := 6) (ret := (some .int)) (by decide) rfl ?_
  intro p e s m args below meth c s₁ B hml hv
  obtain ⟨rfl, hsz, hP, hK, hD0, hG⟩ := hv
  have hx := B.exec
  have hb := B.bytes
  have hr := B.returns
  have hts := atoms_spec (ws := vs_f_X12_feed) B.pre
  have hown : s.vm.findClass RX12 = some m.cls := findClass_of_methodNamed B.named
  have hlocks := B.notSynchronized
  have hiX12 : ∀ w ∈ u_ws RX12 TX12 54, w ∈ vs_f_X12_feed := vs_f_X12_feed_uX12
  subst hsz
  have hD := hD0.self (sz := s.heap.size)
  generalize hAe : va_A [((r 100), .inr (12, mF r 0 0 0 0 0 0 0 0 0 0 0 0 0 (-1) 1)), ((r 1), .inl (kT, 240, .inl fT))] s.heap.size = A at hD ⊢
  have hA : ∀ q : Nat, s.heap.size ≤ q → A q := fun q h => by rw [← hAe]; exact Or.inr h
  have hS : va_S A s.heap s.heap [] := va_S.rf
  have hP : va_P (dC, dI) vwCl [((r 100), .inr (12, mF r 0 0 0 0 0 0 0 0 0 0 0 0 0 (-1) 1)), ((r 1), .inl (kT, 240, .inl fT))] s.heap := hP
  have hl := lv_entry ([.ref (r 100), .int p0, .int p1, .int p2, .int p3, .int p4]) (n := 6) (Nat.le_of_ble_eq_true rfl)
  rw [lg_entry_eq]
  generalize (lg_sl ([.ref (r 100), .int p0, .int p1, .int p2, .int p3, .int p4]) ++ List.replicate (6 - (lg_sl ([.ref (r 100), .int p0, .int p1, .int p2, .int p3, .int p4])).length) Slot.unset).toArray = ls at hl ⊢
  have hl : lv_has ls 6 [(0, .ref (r 100)), (1, .int p0), (2, .int p1), (3, .int p2), (4, .int p3), (5, .int p4)] := hl
  refine lv_aload_n hx hb dX12_feed_0 rfl (lv_at hl 0 rfl) ?_
  refine lv_iconst (v := 0) hx hb dX12_feed_1 (by decide) ?_
  refine va_put (D := (dC, dI)) (ci := 12) (v := .int 0) (ty := .int) (C := RX12) (T := TX12) (N := 54) hx hb hts hiX12 tyX12 tyX12_ok nmX12 hown hK hP hD hS 0 rfl rfl 0 (by decide) (hts (.fieldLink RX12 90 "WallChapelsModel" "thrown" "I") (by decide +kernel)) (fun _ h9 => h9) rfl (by decide +kernel) rfl rfl (Nat.le_of_ble_eq_true rfl) dX12_feed_2 (fun H locs hP hD hS => ?_)
  have hP : va_P (dC, dI) vwCl [((r 100), .inr (12, mF r 0 0 0 0 0 0 0 0 0 0 0 0 0 (-1) 1)), ((r 1), .inl (kT, 240, .inl fT))] H := hP
  have hD : va_D A [((r 100), .inr (12, mF r 0 0 0 0 0 0 0 0 0 0 0 0 0 (-1) 1)), ((r 1), .inl (kT, 240, .inl fT))] := hD
  refine lv_aload_n hx hb dX12_feed_5 rfl (lv_at hl 0 rfl) ?_
  refine va_get (D := (dC, dI)) (ci := 12) (v := .int 0) (C := RX12) (T := TX12) (N := 54) hx hb hts hiX12 hown hK hP 0 rfl rfl 6 (by decide) (hts (.fieldLink RX12 103 "WallChapelsModel" "length" "I") (by decide +kernel)) (fun _ h9 => h9) rfl dX12_feed_6 ?_
  refine lv_iload_n hx hb dX12_feed_9 rfl (lv_at hl 1 rfl) ?_
  have hPc := hP.sub (ws' := []) [] rfl
  have hDc := hD.sub (ws' := []) [] (by decide) rfl
  have hKc := hK.sub (tys' := []) [] rfl
  have hFc := va_free (wc := []) hD hS hA [] rfl
  refine va_calli (va_runS (As := [.int p0]) (rest := [.int 0]) ⟨hx, hb, hml, hown, hts⟩ (f_X12_bytesIn l dC dI H.size p0) (va_cwS 1 hts g_f_X12_feed_f_X12_bytesIn rfl rfl rfl (by decide +kernel) ⟨Nat.le_of_ble_eq_true rfl, Nat.le_of_ble_eq_true rfl⟩) ⟨cW_blind, fun U hU hW => ⟨rfl, cW_use hU hW hPc hKc hDc hG⟩⟩ rfl rfl hl.1 rfl (lv_room (Nat.le_of_ble_eq_true rfl)) dX12_feed_10 ⟨Nat.le_of_ble_eq_true rfl, Nat.le_of_ble_eq_true rfl⟩) hS (fun q _ h => hFc q h) hFc (fun r_1 u t H1 locs ht hvm hw hB hz1 hk1 hS => ?_)
  obtain ⟨hP, hD⟩ := va_join (wr := [((r 100), .inr (12, mF r 0 0 0 0 0 0 0 0 0 0 0 0 0 (-1) 1)), ((r 1), .inl (kT, 240, .inl fT))]) (w1 := []) hP hD [] [0, 1] rfl rfl (by decide) (by decide) hk1 hFc (va_P_nil H1) va_D_nil
  generalize H1 = H at hP hS ⊢
  have hP : va_P (dC, dI) vwCl [((r 100), .inr (12, mF r 0 0 0 0 0 0 0 0 0 0 0 0 0 (-1) 1)), ((r 1), .inl (kT, 240, .inl fT))] H := hP
  have hD : va_D A [((r 100), .inr (12, mF r 0 0 0 0 0 0 0 0 0 0 0 0 0 (-1) 1)), ((r 1), .inl (kT, 240, .inl fT))] := hD
  refine W.widen (k := 0) (n := 0) (Nat.le_of_ble_eq_true rfl) (Nat.le_of_ble_eq_true rfl) ?_
  obtain rfl : r_1 = nI (cA p0) := hw
  refine lv_iadd hx hb dX12_feed_13 ?_
  refine lv_topi (fun v_2 e_2 => ?_)
  obtain rfl : v_2 = nI (0 + (cA p0)) := by rw [e_2]; exact nI_add 0 (cA p0)
  refine lv_iload_n hx hb dX12_feed_14 rfl (lv_at hl 2 rfl) ?_
  have hPc := hP.sub (ws' := []) [] rfl
  have hDc := hD.sub (ws' := []) [] (by decide) rfl
  have hKc := hK.sub (tys' := []) [] rfl
  have hFc := va_free (wc := []) hD hS hA [] rfl
  refine va_calli (va_runS (As := [.int p1]) (rest := [.int (nI (0 + (cA p0)))]) ⟨hx, hb, hml, hown, hts⟩ (f_X12_bytesIn l dC dI H.size p1) (va_cwS 1 hts g_f_X12_feed_f_X12_bytesIn rfl rfl rfl (by decide +kernel) ⟨Nat.le_of_ble_eq_true rfl, Nat.le_of_ble_eq_true rfl⟩) ⟨cW_blind, fun U hU hW => ⟨rfl, cW_use hU hW hPc hKc hDc hG⟩⟩ rfl rfl hl.1 rfl (lv_room (Nat.le_of_ble_eq_true rfl)) dX12_feed_15 ⟨Nat.le_of_ble_eq_true rfl, Nat.le_of_ble_eq_true rfl⟩) hS (fun q _ h => hFc q h) hFc (fun r_3 u t H1 locs ht hvm hw hB hz1 hk1 hS => ?_)
  obtain ⟨hP, hD⟩ := va_join (wr := [((r 100), .inr (12, mF r 0 0 0 0 0 0 0 0 0 0 0 0 0 (-1) 1)), ((r 1), .inl (kT, 240, .inl fT))]) (w1 := []) hP hD [] [0, 1] rfl rfl (by decide) (by decide) hk1 hFc (va_P_nil H1) va_D_nil
  generalize H1 = H at hP hS ⊢
  have hP : va_P (dC, dI) vwCl [((r 100), .inr (12, mF r 0 0 0 0 0 0 0 0 0 0 0 0 0 (-1) 1)), ((r 1), .inl (kT, 240, .inl fT))] H := hP
  have hD : va_D A [((r 100), .inr (12, mF r 0 0 0 0 0 0 0 0 0 0 0 0 0 (-1) 1)), ((r 1), .inl (kT, 240, .inl fT))] := hD
  refine W.widen (k := 0) (n := 0) (Nat.le_of_ble_eq_true rfl) (Nat.le_of_ble_eq_true rfl) ?_
  obtain rfl : r_3 = nI (cA p1) := hw
  refine lv_iadd hx hb dX12_feed_18 ?_
  refine lv_topi (fun v_4 e_4 => ?_)
  obtain rfl : v_4 = nI ((0 + (cA p0)) + (cA p1)) := by rw [e_4]; exact nI_add (0 + (cA p0)) (cA p1)
  refine lv_iload_n hx hb dX12_feed_19 rfl (lv_at hl 3 rfl) ?_
  have hPc := hP.sub (ws' := []) [] rfl
  have hDc := hD.sub (ws' := []) [] (by decide) rfl
  have hKc := hK.sub (tys' := []) [] rfl
  have hFc := va_free (wc := []) hD hS hA [] rfl
  refine va_calli (va_runS (As := [.int p2]) (rest := [.int (nI ((0 + (cA p0)) + (cA p1)))]) ⟨hx, hb, hml, hown, hts⟩ (f_X12_bytesIn l dC dI H.size p2) (va_cwS 1 hts g_f_X12_feed_f_X12_bytesIn rfl rfl rfl (by decide +kernel) ⟨Nat.le_of_ble_eq_true rfl, Nat.le_of_ble_eq_true rfl⟩) ⟨cW_blind, fun U hU hW => ⟨rfl, cW_use hU hW hPc hKc hDc hG⟩⟩ rfl rfl hl.1 rfl (lv_room (Nat.le_of_ble_eq_true rfl)) dX12_feed_20 ⟨Nat.le_of_ble_eq_true rfl, Nat.le_of_ble_eq_true rfl⟩) hS (fun q _ h => hFc q h) hFc (fun r_5 u t H1 locs ht hvm hw hB hz1 hk1 hS => ?_)
  obtain ⟨hP, hD⟩ := va_join (wr := [((r 100), .inr (12, mF r 0 0 0 0 0 0 0 0 0 0 0 0 0 (-1) 1)), ((r 1), .inl (kT, 240, .inl fT))]) (w1 := []) hP hD [] [0, 1] rfl rfl (by decide) (by decide) hk1 hFc (va_P_nil H1) va_D_nil
  generalize H1 = H at hP hS ⊢
  have hP : va_P (dC, dI) vwCl [((r 100), .inr (12, mF r 0 0 0 0 0 0 0 0 0 0 0 0 0 (-1) 1)), ((r 1), .inl (kT, 240, .inl fT))] H := hP
  have hD : va_D A [((r 100), .inr (12, mF r 0 0 0 0 0 0 0 0 0 0 0 0 0 (-1) 1)), ((r 1), .inl (kT, 240, .inl fT))] := hD
  refine W.widen (k := 0) (n := 0) (Nat.le_of_ble_eq_true rfl) (Nat.le_of_ble_eq_true rfl) ?_
  obtain rfl : r_5 = nI (cA p2) := hw
  refine lv_iadd hx hb dX12_feed_23 ?_
  refine lv_topi (fun v_6 e_6 => ?_)
  obtain rfl : v_6 = nI (((0 + (cA p0)) + (cA p1)) + (cA p2)) := by rw [e_6]; exact nI_add ((0 + (cA p0)) + (cA p1)) (cA p2)
  refine lv_iload hx hb dX12_feed_24 (lv_at hl 4 rfl) ?_
  have hPc := hP.sub (ws' := []) [] rfl
  have hDc := hD.sub (ws' := []) [] (by decide) rfl
  have hKc := hK.sub (tys' := []) [] rfl
  have hFc := va_free (wc := []) hD hS hA [] rfl
  refine va_calli (va_runS (As := [.int p3]) (rest := [.int (nI (((0 + (cA p0)) + (cA p1)) + (cA p2)))]) ⟨hx, hb, hml, hown, hts⟩ (f_X12_bytesIn l dC dI H.size p3) (va_cwS 1 hts g_f_X12_feed_f_X12_bytesIn rfl rfl rfl (by decide +kernel) ⟨Nat.le_of_ble_eq_true rfl, Nat.le_of_ble_eq_true rfl⟩) ⟨cW_blind, fun U hU hW => ⟨rfl, cW_use hU hW hPc hKc hDc hG⟩⟩ rfl rfl hl.1 rfl (lv_room (Nat.le_of_ble_eq_true rfl)) dX12_feed_26 ⟨Nat.le_of_ble_eq_true rfl, Nat.le_of_ble_eq_true rfl⟩) hS (fun q _ h => hFc q h) hFc (fun r_7 u t H1 locs ht hvm hw hB hz1 hk1 hS => ?_)
  obtain ⟨hP, hD⟩ := va_join (wr := [((r 100), .inr (12, mF r 0 0 0 0 0 0 0 0 0 0 0 0 0 (-1) 1)), ((r 1), .inl (kT, 240, .inl fT))]) (w1 := []) hP hD [] [0, 1] rfl rfl (by decide) (by decide) hk1 hFc (va_P_nil H1) va_D_nil
  generalize H1 = H at hP hS ⊢
  have hP : va_P (dC, dI) vwCl [((r 100), .inr (12, mF r 0 0 0 0 0 0 0 0 0 0 0 0 0 (-1) 1)), ((r 1), .inl (kT, 240, .inl fT))] H := hP
  have hD : va_D A [((r 100), .inr (12, mF r 0 0 0 0 0 0 0 0 0 0 0 0 0 (-1) 1)), ((r 1), .inl (kT, 240, .inl fT))] := hD
  refine W.widen (k := 0) (n := 0) (Nat.le_of_ble_eq_true rfl) (Nat.le_of_ble_eq_true rfl) ?_
  obtain rfl : r_7 = nI (cA p3) := hw
  refine lv_iadd hx hb dX12_feed_29 ?_
  refine lv_topi (fun v_8 e_8 => ?_)
  obtain rfl : v_8 = nI ((((0 + (cA p0)) + (cA p1)) + (cA p2)) + (cA p3)) := by rw [e_8]; exact nI_add (((0 + (cA p0)) + (cA p1)) + (cA p2)) (cA p3)
  refine lv_iload hx hb dX12_feed_30 (lv_at hl 5 rfl) ?_
  have hPc := hP.sub (ws' := []) [] rfl
  have hDc := hD.sub (ws' := []) [] (by decide) rfl
  have hKc := hK.sub (tys' := []) [] rfl
  have hFc := va_free (wc := []) hD hS hA [] rfl
  refine va_calli (va_runS (As := [.int p4]) (rest := [.int (nI ((((0 + (cA p0)) + (cA p1)) + (cA p2)) + (cA p3)))]) ⟨hx, hb, hml, hown, hts⟩ (f_X12_bytesIn l dC dI H.size p4) (va_cwS 1 hts g_f_X12_feed_f_X12_bytesIn rfl rfl rfl (by decide +kernel) ⟨Nat.le_of_ble_eq_true rfl, Nat.le_of_ble_eq_true rfl⟩) ⟨cW_blind, fun U hU hW => ⟨rfl, cW_use hU hW hPc hKc hDc hG⟩⟩ rfl rfl hl.1 rfl (lv_room (Nat.le_of_ble_eq_true rfl)) dX12_feed_32 ⟨Nat.le_of_ble_eq_true rfl, Nat.le_of_ble_eq_true rfl⟩) hS (fun q _ h => hFc q h) hFc (fun r_9 u t H1 locs ht hvm hw hB hz1 hk1 hS => ?_)
  obtain ⟨hP, hD⟩ := va_join (wr := [((r 100), .inr (12, mF r 0 0 0 0 0 0 0 0 0 0 0 0 0 (-1) 1)), ((r 1), .inl (kT, 240, .inl fT))]) (w1 := []) hP hD [] [0, 1] rfl rfl (by decide) (by decide) hk1 hFc (va_P_nil H1) va_D_nil
  generalize H1 = H at hP hS ⊢
  have hP : va_P (dC, dI) vwCl [((r 100), .inr (12, mF r 0 0 0 0 0 0 0 0 0 0 0 0 0 (-1) 1)), ((r 1), .inl (kT, 240, .inl fT))] H := hP
  have hD : va_D A [((r 100), .inr (12, mF r 0 0 0 0 0 0 0 0 0 0 0 0 0 (-1) 1)), ((r 1), .inl (kT, 240, .inl fT))] := hD
  refine W.widen (k := 0) (n := 0) (Nat.le_of_ble_eq_true rfl) (Nat.le_of_ble_eq_true rfl) ?_
  obtain rfl : r_9 = nI (cA p4) := hw
  refine lv_iadd hx hb dX12_feed_35 ?_
  refine lv_topi (fun v_10 e_10 => ?_)
  obtain rfl : v_10 = nI (((((0 + (cA p0)) + (cA p1)) + (cA p2)) + (cA p3)) + (cA p4)) := by rw [e_10]; exact nI_add ((((0 + (cA p0)) + (cA p1)) + (cA p2)) + (cA p3)) (cA p4)
  refine lv_sipush (v := 240) hx hb dX12_feed_36 (by decide) ?_
  refine lv_icmp_le (tgt := 44) hx hb dX12_feed_39 (by decide) (fun _ => ?_) (fun c_11 => absurd (nI_le (a := (((((0 + (cA p0)) + (cA p1)) + (cA p2)) + (cA p3)) + (cA p4))) (b := 240) (by have := cA_le p0; have := cA_le p1; have := cA_le p2; have := cA_le p3; have := cA_le p4; omega) (by decide)) c_11)
  refine lv_aload_n hx hb dX12_feed_44 rfl (lv_at hl 0 rfl) ?_
  refine lv_iload_n hx hb dX12_feed_45 rfl (lv_at hl 1 rfl) ?_
  have hPc := hP.sub (ws' := [((r 100), .inr (12, mF r 0 0 0 0 0 0 0 0 0 0 0 0 0 (-1) 1)), ((r 1), .inl (kT, 240, .inl fT))]) [0, 1] rfl
  have hDc := hD.sub (ws' := [((r 100), .inr (12, mF r 0 0 0 0 0 0 0 0 0 0 0 0 0 (-1) 1)), ((r 1), .inl (kT, 240, .inl fT))]) [0, 1] (by decide) rfl
  have hKc := hK.sub (tys' := [(kT, .byte)]) [0] rfl
  have hFc := va_free (wc := [((r 100), .inr (12, mF r 0 0 0 0 0 0 0 0 0 0 0 0 0 (-1) 1)), ((r 1), .inl (kT, 240, .inl fT))]) hD hS hA [0, 1] rfl
  refine va_callv (va_runV (As := [.int p0]) (rest := []) ⟨hx, hb, hml, hown, hts⟩ (f_X12_put l dC dI H.size r kT 0 fT p0 (by omega)) (cwV 1 hts g_f_X12_feed_f_X12_put rfl rfl rfl (by decide +kernel) ⟨Nat.le_of_ble_eq_true rfl, Nat.le_of_ble_eq_true rfl⟩) ⟨cW_blind, va_recv hKc hPc (ci := 12) (q0 := 0) rfl rfl, fun U hU hW => ⟨rfl, cW_use hU hW hPc hKc hDc hG⟩⟩ rfl rfl hl.1 rfl (lv_room (Nat.le_of_ble_eq_true rfl)) dX12_feed_46 ⟨Nat.le_of_ble_eq_true rfl, Nat.le_of_ble_eq_true rfl⟩) hS (fun q _ h => hFc q h) hFc (fun u t H1 locs ht hvm hw hB hz1 hk1 hS => ?_)
  obtain ⟨f_12, hP1, hK1, hD1⟩ := hB
  rw [ht] at hP1
  have hK1 := va_K.moved hvm.symm hK1
  obtain ⟨hP, hD⟩ := va_join (wr := []) (w1 := [((r 100), .inr (12, mF r 0 (nI (0 + cA p0)) 0 0 0 0 0 0 0 0 0 0 0 (-1) 1)), ((r 1), .inl (kT, 240, .inl f_12))]) hP hD [0, 1] [] rfl rfl (by decide) (by decide) hk1 hFc hP1 hD1
  generalize H1 = H at hP hS ⊢
  have hP : va_P (dC, dI) vwCl [((r 100), .inr (12, mF r 0 (nI (0 + cA p0)) 0 0 0 0 0 0 0 0 0 0 0 (-1) 1)), ((r 1), .inl (kT, 240, .inl f_12))] H := hP
  have hD : va_D A [((r 100), .inr (12, mF r 0 (nI (0 + cA p0)) 0 0 0 0 0 0 0 0 0 0 0 (-1) 1)), ((r 1), .inl (kT, 240, .inl f_12))] := hD
  refine W.widen (k := 0) (n := 0) (Nat.le_of_ble_eq_true rfl) (Nat.le_of_ble_eq_true rfl) ?_
  refine lv_aload_n hx hb dX12_feed_49 rfl (lv_at hl 0 rfl) ?_
  refine lv_iload_n hx hb dX12_feed_50 rfl (lv_at hl 2 rfl) ?_
  have hPc := hP.sub (ws' := [((r 100), .inr (12, mF r 0 (nI (0 + cA p0)) 0 0 0 0 0 0 0 0 0 0 0 (-1) 1)), ((r 1), .inl (kT, 240, .inl f_12))]) [0, 1] rfl
  have hDc := hD.sub (ws' := [((r 100), .inr (12, mF r 0 (nI (0 + cA p0)) 0 0 0 0 0 0 0 0 0 0 0 (-1) 1)), ((r 1), .inl (kT, 240, .inl f_12))]) [0, 1] (by decide) rfl
  have hKc := hK.sub (tys' := [(kT, .byte)]) [0] rfl
  have hFc := va_free (wc := [((r 100), .inr (12, mF r 0 (nI (0 + cA p0)) 0 0 0 0 0 0 0 0 0 0 0 (-1) 1)), ((r 1), .inl (kT, 240, .inl f_12))]) hD hS hA [0, 1] rfl
  refine va_callv (va_runV (As := [.int p1]) (rest := []) ⟨hx, hb, hml, hown, hts⟩ (f_X12_put l dC dI H.size r kT (0 + cA p0) f_12 p1 (by have := cA_le p0; omega)) (cwV 1 hts g_f_X12_feed_f_X12_put rfl rfl rfl (by decide +kernel) ⟨Nat.le_of_ble_eq_true rfl, Nat.le_of_ble_eq_true rfl⟩) ⟨cW_blind, va_recv hKc hPc (ci := 12) (q0 := 0) rfl rfl, fun U hU hW => ⟨rfl, cW_use hU hW hPc hKc hDc hG⟩⟩ rfl rfl hl.1 rfl (lv_room (Nat.le_of_ble_eq_true rfl)) dX12_feed_51 ⟨Nat.le_of_ble_eq_true rfl, Nat.le_of_ble_eq_true rfl⟩) hS (fun q _ h => hFc q h) hFc (fun u t H1 locs ht hvm hw hB hz1 hk1 hS => ?_)
  obtain ⟨f_14, hP1, hK1, hD1⟩ := hB
  rw [ht] at hP1
  have hK1 := va_K.moved hvm.symm hK1
  obtain ⟨hP, hD⟩ := va_join (wr := []) (w1 := [((r 100), .inr (12, mF r 0 (nI ((0 + cA p0) + cA p1)) 0 0 0 0 0 0 0 0 0 0 0 (-1) 1)), ((r 1), .inl (kT, 240, .inl f_14))]) hP hD [0, 1] [] rfl rfl (by decide) (by decide) hk1 hFc hP1 hD1
  generalize H1 = H at hP hS ⊢
  have hP : va_P (dC, dI) vwCl [((r 100), .inr (12, mF r 0 (nI ((0 + cA p0) + cA p1)) 0 0 0 0 0 0 0 0 0 0 0 (-1) 1)), ((r 1), .inl (kT, 240, .inl f_14))] H := hP
  have hD : va_D A [((r 100), .inr (12, mF r 0 (nI ((0 + cA p0) + cA p1)) 0 0 0 0 0 0 0 0 0 0 0 (-1) 1)), ((r 1), .inl (kT, 240, .inl f_14))] := hD
  refine W.widen (k := 0) (n := 0) (Nat.le_of_ble_eq_true rfl) (Nat.le_of_ble_eq_true rfl) ?_
  refine lv_aload_n hx hb dX12_feed_54 rfl (lv_at hl 0 rfl) ?_
  refine lv_iload_n hx hb dX12_feed_55 rfl (lv_at hl 3 rfl) ?_
  have hPc := hP.sub (ws' := [((r 100), .inr (12, mF r 0 (nI ((0 + cA p0) + cA p1)) 0 0 0 0 0 0 0 0 0 0 0 (-1) 1)), ((r 1), .inl (kT, 240, .inl f_14))]) [0, 1] rfl
  have hDc := hD.sub (ws' := [((r 100), .inr (12, mF r 0 (nI ((0 + cA p0) + cA p1)) 0 0 0 0 0 0 0 0 0 0 0 (-1) 1)), ((r 1), .inl (kT, 240, .inl f_14))]) [0, 1] (by decide) rfl
  have hKc := hK.sub (tys' := [(kT, .byte)]) [0] rfl
  have hFc := va_free (wc := [((r 100), .inr (12, mF r 0 (nI ((0 + cA p0) + cA p1)) 0 0 0 0 0 0 0 0 0 0 0 (-1) 1)), ((r 1), .inl (kT, 240, .inl f_14))]) hD hS hA [0, 1] rfl
  refine va_callv (va_runV (As := [.int p2]) (rest := []) ⟨hx, hb, hml, hown, hts⟩ (f_X12_put l dC dI H.size r kT ((0 + cA p0) + cA p1) f_14 p2 (by have := cA_le p0; have := cA_le p1; omega)) (cwV 1 hts g_f_X12_feed_f_X12_put rfl rfl rfl (by decide +kernel) ⟨Nat.le_of_ble_eq_true rfl, Nat.le_of_ble_eq_true rfl⟩) ⟨cW_blind, va_recv hKc hPc (ci := 12) (q0 := 0) rfl rfl, fun U hU hW => ⟨rfl, cW_use hU hW hPc hKc hDc hG⟩⟩ rfl rfl hl.1 rfl (lv_room (Nat.le_of_ble_eq_true rfl)) dX12_feed_56 ⟨Nat.le_of_ble_eq_true rfl, Nat.le_of_ble_eq_true rfl⟩) hS (fun q _ h => hFc q h) hFc (fun u t H1 locs ht hvm hw hB hz1 hk1 hS => ?_)
  obtain ⟨f_16, hP1, hK1, hD1⟩ := hB
  rw [ht] at hP1
  have hK1 := va_K.moved hvm.symm hK1
  obtain ⟨hP, hD⟩ := va_join (wr := []) (w1 := [((r 100), .inr (12, mF r 0 (nI (((0 + cA p0) + cA p1) + cA p2)) 0 0 0 0 0 0 0 0 0 0 0 (-1) 1)), ((r 1), .inl (kT, 240, .inl f_16))]) hP hD [0, 1] [] rfl rfl (by decide) (by decide) hk1 hFc hP1 hD1
  generalize H1 = H at hP hS ⊢
  have hP : va_P (dC, dI) vwCl [((r 100), .inr (12, mF r 0 (nI (((0 + cA p0) + cA p1) + cA p2)) 0 0 0 0 0 0 0 0 0 0 0 (-1) 1)), ((r 1), .inl (kT, 240, .inl f_16))] H := hP
  have hD : va_D A [((r 100), .inr (12, mF r 0 (nI (((0 + cA p0) + cA p1) + cA p2)) 0 0 0 0 0 0 0 0 0 0 0 (-1) 1)), ((r 1), .inl (kT, 240, .inl f_16))] := hD
  refine W.widen (k := 0) (n := 0) (Nat.le_of_ble_eq_true rfl) (Nat.le_of_ble_eq_true rfl) ?_
  refine lv_aload_n hx hb dX12_feed_59 rfl (lv_at hl 0 rfl) ?_
  refine lv_iload hx hb dX12_feed_60 (lv_at hl 4 rfl) ?_
  have hPc := hP.sub (ws' := [((r 100), .inr (12, mF r 0 (nI (((0 + cA p0) + cA p1) + cA p2)) 0 0 0 0 0 0 0 0 0 0 0 (-1) 1)), ((r 1), .inl (kT, 240, .inl f_16))]) [0, 1] rfl
  have hDc := hD.sub (ws' := [((r 100), .inr (12, mF r 0 (nI (((0 + cA p0) + cA p1) + cA p2)) 0 0 0 0 0 0 0 0 0 0 0 (-1) 1)), ((r 1), .inl (kT, 240, .inl f_16))]) [0, 1] (by decide) rfl
  have hKc := hK.sub (tys' := [(kT, .byte)]) [0] rfl
  have hFc := va_free (wc := [((r 100), .inr (12, mF r 0 (nI (((0 + cA p0) + cA p1) + cA p2)) 0 0 0 0 0 0 0 0 0 0 0 (-1) 1)), ((r 1), .inl (kT, 240, .inl f_16))]) hD hS hA [0, 1] rfl
  refine va_callv (va_runV (As := [.int p3]) (rest := []) ⟨hx, hb, hml, hown, hts⟩ (f_X12_put l dC dI H.size r kT (((0 + cA p0) + cA p1) + cA p2) f_16 p3 (by have := cA_le p0; have := cA_le p1; have := cA_le p2; omega)) (cwV 1 hts g_f_X12_feed_f_X12_put rfl rfl rfl (by decide +kernel) ⟨Nat.le_of_ble_eq_true rfl, Nat.le_of_ble_eq_true rfl⟩) ⟨cW_blind, va_recv hKc hPc (ci := 12) (q0 := 0) rfl rfl, fun U hU hW => ⟨rfl, cW_use hU hW hPc hKc hDc hG⟩⟩ rfl rfl hl.1 rfl (lv_room (Nat.le_of_ble_eq_true rfl)) dX12_feed_62 ⟨Nat.le_of_ble_eq_true rfl, Nat.le_of_ble_eq_true rfl⟩) hS (fun q _ h => hFc q h) hFc (fun u t H1 locs ht hvm hw hB hz1 hk1 hS => ?_)
  obtain ⟨f_18, hP1, hK1, hD1⟩ := hB
  rw [ht] at hP1
  have hK1 := va_K.moved hvm.symm hK1
  obtain ⟨hP, hD⟩ := va_join (wr := []) (w1 := [((r 100), .inr (12, mF r 0 (nI ((((0 + cA p0) + cA p1) + cA p2) + cA p3)) 0 0 0 0 0 0 0 0 0 0 0 (-1) 1)), ((r 1), .inl (kT, 240, .inl f_18))]) hP hD [0, 1] [] rfl rfl (by decide) (by decide) hk1 hFc hP1 hD1
  generalize H1 = H at hP hS ⊢
  have hP : va_P (dC, dI) vwCl [((r 100), .inr (12, mF r 0 (nI ((((0 + cA p0) + cA p1) + cA p2) + cA p3)) 0 0 0 0 0 0 0 0 0 0 0 (-1) 1)), ((r 1), .inl (kT, 240, .inl f_18))] H := hP
  have hD : va_D A [((r 100), .inr (12, mF r 0 (nI ((((0 + cA p0) + cA p1) + cA p2) + cA p3)) 0 0 0 0 0 0 0 0 0 0 0 (-1) 1)), ((r 1), .inl (kT, 240, .inl f_18))] := hD
  refine W.widen (k := 0) (n := 0) (Nat.le_of_ble_eq_true rfl) (Nat.le_of_ble_eq_true rfl) ?_
  refine lv_aload_n hx hb dX12_feed_65 rfl (lv_at hl 0 rfl) ?_
  refine lv_iload hx hb dX12_feed_66 (lv_at hl 5 rfl) ?_
  have hPc := hP.sub (ws' := [((r 100), .inr (12, mF r 0 (nI ((((0 + cA p0) + cA p1) + cA p2) + cA p3)) 0 0 0 0 0 0 0 0 0 0 0 (-1) 1)), ((r 1), .inl (kT, 240, .inl f_18))]) [0, 1] rfl
  have hDc := hD.sub (ws' := [((r 100), .inr (12, mF r 0 (nI ((((0 + cA p0) + cA p1) + cA p2) + cA p3)) 0 0 0 0 0 0 0 0 0 0 0 (-1) 1)), ((r 1), .inl (kT, 240, .inl f_18))]) [0, 1] (by decide) rfl
  have hKc := hK.sub (tys' := [(kT, .byte)]) [0] rfl
  have hFc := va_free (wc := [((r 100), .inr (12, mF r 0 (nI ((((0 + cA p0) + cA p1) + cA p2) + cA p3)) 0 0 0 0 0 0 0 0 0 0 0 (-1) 1)), ((r 1), .inl (kT, 240, .inl f_18))]) hD hS hA [0, 1] rfl
  refine va_callv (va_runV (As := [.int p4]) (rest := []) ⟨hx, hb, hml, hown, hts⟩ (f_X12_put l dC dI H.size r kT ((((0 + cA p0) + cA p1) + cA p2) + cA p3) f_18 p4 (by have := cA_le p0; have := cA_le p1; have := cA_le p2; have := cA_le p3; omega)) (cwV 1 hts g_f_X12_feed_f_X12_put rfl rfl rfl (by decide +kernel) ⟨Nat.le_of_ble_eq_true rfl, Nat.le_of_ble_eq_true rfl⟩) ⟨cW_blind, va_recv hKc hPc (ci := 12) (q0 := 0) rfl rfl, fun U hU hW => ⟨rfl, cW_use hU hW hPc hKc hDc hG⟩⟩ rfl rfl hl.1 rfl (lv_room (Nat.le_of_ble_eq_true rfl)) dX12_feed_68 ⟨Nat.le_of_ble_eq_true rfl, Nat.le_of_ble_eq_true rfl⟩) hS (fun q _ h => hFc q h) hFc (fun u t H1 locs ht hvm hw hB hz1 hk1 hS => ?_)
  obtain ⟨f_20, hP1, hK1, hD1⟩ := hB
  rw [ht] at hP1
  have hK1 := va_K.moved hvm.symm hK1
  obtain ⟨hP, hD⟩ := va_join (wr := []) (w1 := [((r 100), .inr (12, mF r 0 (nI (((((0 + cA p0) + cA p1) + cA p2) + cA p3) + cA p4)) 0 0 0 0 0 0 0 0 0 0 0 (-1) 1)), ((r 1), .inl (kT, 240, .inl f_20))]) hP hD [0, 1] [] rfl rfl (by decide) (by decide) hk1 hFc hP1 hD1
  generalize H1 = H at hP hS ⊢
  have hP : va_P (dC, dI) vwCl [((r 100), .inr (12, mF r 0 (nI (((((0 + cA p0) + cA p1) + cA p2) + cA p3) + cA p4)) 0 0 0 0 0 0 0 0 0 0 0 (-1) 1)), ((r 1), .inl (kT, 240, .inl f_20))] H := hP
  have hD : va_D A [((r 100), .inr (12, mF r 0 (nI (((((0 + cA p0) + cA p1) + cA p2) + cA p3) + cA p4)) 0 0 0 0 0 0 0 0 0 0 0 (-1) 1)), ((r 1), .inl (kT, 240, .inl f_20))] := hD
  refine W.widen (k := 0) (n := 0) (Nat.le_of_ble_eq_true rfl) (Nat.le_of_ble_eq_true rfl) ?_
  refine lv_aload_n hx hb dX12_feed_71 rfl (lv_at hl 0 rfl) ?_
  refine va_get (D := (dC, dI)) (ci := 12) (v := .int (nI (((((0 + cA p0) + cA p1) + cA p2) + cA p3) + cA p4))) (C := RX12) (T := TX12) (N := 54) hx hb hts hiX12 hown hK hP 0 rfl rfl 6 (by decide) (hts (.fieldLink RX12 103 "WallChapelsModel" "length" "I") (by decide +kernel)) (fun _ h9 => h9) rfl dX12_feed_72 ?_
  exact W.iret (v := (nI (((((0 + cA p0) + cA p1) + cA p2) + cA p3) + cA p4))) hx hb hr (fun t ht hW => ⟨⟨(nI (((((0 + cA p0) + cA p1) + cA p2) + cA p3) + cA p4)), (), rfl, congrArg nI (by omega), trivial⟩, hS.F ht⟩) hS.2.2 dX12_feed_75
end
section
set_option maxRecDepth 20000 in
theorem dX6_init_0 : decode cX6_init 0 = .ok (.aload_n 0, 1) := by decide +kernel
set_option maxRecDepth 20000 in
theorem dX6_init_1 : decode cX6_init 1 = .ok (.invokespecial 3, 3) := by decide +kernel
set_option maxRecDepth 20000 in
theorem dX6_init_4 : decode cX6_init 4 = .ok (.aload_n 0, 1) := by decide +kernel
set_option maxRecDepth 20000 in
theorem dX6_init_5 : decode cX6_init 5 = .ok (.bipush 8, 2) := by decide +kernel
set_option maxRecDepth 20000 in
theorem dX6_init_7 : decode cX6_init 7 = .ok (.newarray .int, 2) := by decide +kernel
set_option maxRecDepth 20000 in
theorem dX6_init_9 : decode cX6_init 9 = .ok (.putfield 9, 3) := by decide +kernel
set_option maxRecDepth 20000 in
theorem dX6_init_12 : decode cX6_init 12 = .ok (.aload_n 0, 1) := by decide +kernel
set_option maxRecDepth 20000 in
theorem dX6_init_13 : decode cX6_init 13 = .ok (.bipush 8, 2) := by decide +kernel
set_option maxRecDepth 20000 in
theorem dX6_init_15 : decode cX6_init 15 = .ok (.newarray .int, 2) := by decide +kernel
set_option maxRecDepth 20000 in
theorem dX6_init_17 : decode cX6_init 17 = .ok (.putfield 15, 3) := by decide +kernel
set_option maxRecDepth 20000 in
theorem dX6_init_20 : decode cX6_init 20 = .ok (.aload_n 0, 1) := by decide +kernel
set_option maxRecDepth 20000 in
theorem dX6_init_21 : decode cX6_init 21 = .ok (.iconst 4, 1) := by decide +kernel
set_option maxRecDepth 20000 in
theorem dX6_init_22 : decode cX6_init 22 = .ok (.newarray .int, 2) := by decide +kernel
set_option maxRecDepth 20000 in
theorem dX6_init_24 : decode cX6_init 24 = .ok (.putfield 18, 3) := by decide +kernel
set_option maxRecDepth 20000 in
theorem dX6_init_27 : decode cX6_init 27 = .ok (.aload_n 0, 1) := by decide +kernel
set_option maxRecDepth 20000 in
theorem dX6_init_28 : decode cX6_init 28 = .ok (.iconst 4, 1) := by decide +kernel
set_option maxRecDepth 20000 in
theorem dX6_init_29 : decode cX6_init 29 = .ok (.newarray .int, 2) := by decide +kernel
set_option maxRecDepth 20000 in
theorem dX6_init_31 : decode cX6_init 31 = .ok (.putfield 21, 3) := by decide +kernel
set_option maxRecDepth 20000 in
theorem dX6_init_34 : decode cX6_init 34 = .ok (.return_, 1) := by decide +kernel
set_option maxRecDepth 20000 in
theorem dX8_init_0 : decode cX8_init 0 = .ok (.aload_n 0, 1) := by decide +kernel
set_option maxRecDepth 20000 in
theorem dX8_init_1 : decode cX8_init 1 = .ok (.invokespecial 3, 3) := by decide +kernel
set_option maxRecDepth 20000 in
theorem dX8_init_4 : decode cX8_init 4 = .ok (.aload_n 0, 1) := by decide +kernel
set_option maxRecDepth 20000 in
theorem dX8_init_5 : decode cX8_init 5 = .ok (.sipush 240, 3) := by decide +kernel
set_option maxRecDepth 20000 in
theorem dX8_init_8 : decode cX8_init 8 = .ok (.newarray .int, 2) := by decide +kernel
set_option maxRecDepth 20000 in
theorem dX8_init_10 : decode cX8_init 10 = .ok (.putfield 9, 3) := by decide +kernel
set_option maxRecDepth 20000 in
theorem dX8_init_13 : decode cX8_init 13 = .ok (.return_, 1) := by decide +kernel
set_option maxRecDepth 20000 in
theorem dX5_init_0 : decode cX5_init 0 = .ok (.aload_n 0, 1) := by decide +kernel
set_option maxRecDepth 20000 in
theorem dX5_init_1 : decode cX5_init 1 = .ok (.invokespecial 3, 3) := by decide +kernel
set_option maxRecDepth 20000 in
theorem dX5_init_4 : decode cX5_init 4 = .ok (.aload_n 0, 1) := by decide +kernel
set_option maxRecDepth 20000 in
theorem dX5_init_5 : decode cX5_init 5 = .ok (.iconst 2, 1) := by decide +kernel
set_option maxRecDepth 20000 in
theorem dX5_init_6 : decode cX5_init 6 = .ok (.newarray .int, 2) := by decide +kernel
set_option maxRecDepth 20000 in
theorem dX5_init_8 : decode cX5_init 8 = .ok (.putfield 9, 3) := by decide +kernel
set_option maxRecDepth 20000 in
theorem dX5_init_11 : decode cX5_init 11 = .ok (.aload_n 0, 1) := by decide +kernel
set_option maxRecDepth 20000 in
theorem dX5_init_12 : decode cX5_init 12 = .ok (.bipush 12, 2) := by decide +kernel
set_option maxRecDepth 20000 in
theorem dX5_init_14 : decode cX5_init 14 = .ok (.iconst 4, 1) := by decide +kernel
set_option maxRecDepth 20000 in
theorem dX5_init_15 : decode cX5_init 15 = .ok (.multianewarray 15 2, 4) := by decide +kernel
set_option maxRecDepth 20000 in
theorem dX5_init_19 : decode cX5_init 19 = .ok (.putfield 17, 3) := by decide +kernel
set_option maxRecDepth 20000 in
theorem dX5_init_22 : decode cX5_init 22 = .ok (.aload_n 0, 1) := by decide +kernel
set_option maxRecDepth 20000 in
theorem dX5_init_23 : decode cX5_init 23 = .ok (.iconst 4, 1) := by decide +kernel
set_option maxRecDepth 20000 in
theorem dX5_init_24 : decode cX5_init 24 = .ok (.iconst 2, 1) := by decide +kernel
set_option maxRecDepth 20000 in
theorem dX5_init_25 : decode cX5_init 25 = .ok (.multianewarray 15 2, 4) := by decide +kernel
set_option maxRecDepth 20000 in
theorem dX5_init_29 : decode cX5_init 29 = .ok (.putfield 20, 3) := by decide +kernel
set_option maxRecDepth 20000 in
theorem dX5_init_32 : decode cX5_init 32 = .ok (.aload_n 0, 1) := by decide +kernel
set_option maxRecDepth 20000 in
theorem dX5_init_33 : decode cX5_init 33 = .ok (.bipush 8, 2) := by decide +kernel
set_option maxRecDepth 20000 in
theorem dX5_init_35 : decode cX5_init 35 = .ok (.newarray .int, 2) := by decide +kernel
set_option maxRecDepth 20000 in
theorem dX5_init_37 : decode cX5_init 37 = .ok (.putfield 23, 3) := by decide +kernel
set_option maxRecDepth 20000 in
theorem dX5_init_40 : decode cX5_init 40 = .ok (.return_, 1) := by decide +kernel
set_option maxRecDepth 20000 in
theorem dX2_init_0 : decode cX2_init 0 = .ok (.aload_n 0, 1) := by decide +kernel
set_option maxRecDepth 20000 in
theorem dX2_init_1 : decode cX2_init 1 = .ok (.invokespecial 3, 3) := by decide +kernel
set_option maxRecDepth 20000 in
theorem dX2_init_4 : decode cX2_init 4 = .ok (.aload_n 0, 1) := by decide +kernel
set_option maxRecDepth 20000 in
theorem dX2_init_5 : decode cX2_init 5 = .ok (.sipush 240, 3) := by decide +kernel
set_option maxRecDepth 20000 in
theorem dX2_init_8 : decode cX2_init 8 = .ok (.newarray .int, 2) := by decide +kernel
set_option maxRecDepth 20000 in
theorem dX2_init_10 : decode cX2_init 10 = .ok (.putfield 9, 3) := by decide +kernel
set_option maxRecDepth 20000 in
theorem dX2_init_13 : decode cX2_init 13 = .ok (.aload_n 0, 1) := by decide +kernel
set_option maxRecDepth 20000 in
theorem dX2_init_14 : decode cX2_init 14 = .ok (.aload_n 1, 1) := by decide +kernel
set_option maxRecDepth 20000 in
theorem dX2_init_15 : decode cX2_init 15 = .ok (.putfield 15, 3) := by decide +kernel
set_option maxRecDepth 20000 in
theorem dX2_init_18 : decode cX2_init 18 = .ok (.return_, 1) := by decide +kernel
set_option maxRecDepth 20000 in
theorem dX3_init_0 : decode cX3_init 0 = .ok (.aload_n 0, 1) := by decide +kernel
set_option maxRecDepth 20000 in
theorem dX3_init_1 : decode cX3_init 1 = .ok (.invokespecial 3, 3) := by decide +kernel
set_option maxRecDepth 20000 in
theorem dX3_init_4 : decode cX3_init 4 = .ok (.aload_n 0, 1) := by decide +kernel
set_option maxRecDepth 20000 in
theorem dX3_init_5 : decode cX3_init 5 = .ok (.iconst 4, 1) := by decide +kernel
set_option maxRecDepth 20000 in
theorem dX3_init_6 : decode cX3_init 6 = .ok (.sipush 240, 3) := by decide +kernel
set_option maxRecDepth 20000 in
theorem dX3_init_9 : decode cX3_init 9 = .ok (.multianewarray 9 2, 4) := by decide +kernel
set_option maxRecDepth 20000 in
theorem dX3_init_13 : decode cX3_init 13 = .ok (.putfield 11, 3) := by decide +kernel
set_option maxRecDepth 20000 in
theorem dX3_init_16 : decode cX3_init 16 = .ok (.aload_n 0, 1) := by decide +kernel
set_option maxRecDepth 20000 in
theorem dX3_init_17 : decode cX3_init 17 = .ok (.iconst 4, 1) := by decide +kernel
set_option maxRecDepth 20000 in
theorem dX3_init_18 : decode cX3_init 18 = .ok (.newarray .int, 2) := by decide +kernel
set_option maxRecDepth 20000 in
theorem dX3_init_20 : decode cX3_init 20 = .ok (.putfield 16, 3) := by decide +kernel
set_option maxRecDepth 20000 in
theorem dX3_init_23 : decode cX3_init 23 = .ok (.aload_n 0, 1) := by decide +kernel
set_option maxRecDepth 20000 in
theorem dX3_init_24 : decode cX3_init 24 = .ok (.bipush 64, 2) := by decide +kernel
set_option maxRecDepth 20000 in
theorem dX3_init_26 : decode cX3_init 26 = .ok (.newarray .int, 2) := by decide +kernel
set_option maxRecDepth 20000 in
theorem dX3_init_28 : decode cX3_init 28 = .ok (.putfield 20, 3) := by decide +kernel
set_option maxRecDepth 20000 in
theorem dX3_init_31 : decode cX3_init 31 = .ok (.aload_n 0, 1) := by decide +kernel
set_option maxRecDepth 20000 in
theorem dX3_init_32 : decode cX3_init 32 = .ok (.iconst (-1), 1) := by decide +kernel
set_option maxRecDepth 20000 in
theorem dX3_init_33 : decode cX3_init 33 = .ok (.putfield 23, 3) := by decide +kernel
set_option maxRecDepth 20000 in
theorem dX3_init_36 : decode cX3_init 36 = .ok (.return_, 1) := by decide +kernel
set_option maxRecDepth 20000 in
theorem dX9_init_0 : decode cX9_init 0 = .ok (.aload_n 0, 1) := by decide +kernel
set_option maxRecDepth 20000 in
theorem dX9_init_1 : decode cX9_init 1 = .ok (.invokespecial 3, 3) := by decide +kernel
set_option maxRecDepth 20000 in
theorem dX9_init_4 : decode cX9_init 4 = .ok (.aload_n 0, 1) := by decide +kernel
set_option maxRecDepth 20000 in
theorem dX9_init_5 : decode cX9_init 5 = .ok (.iconst 4, 1) := by decide +kernel
set_option maxRecDepth 20000 in
theorem dX9_init_6 : decode cX9_init 6 = .ok (.bipush 16, 2) := by decide +kernel
set_option maxRecDepth 20000 in
theorem dX9_init_8 : decode cX9_init 8 = .ok (.multianewarray 9 2, 4) := by decide +kernel
set_option maxRecDepth 20000 in
theorem dX9_init_12 : decode cX9_init 12 = .ok (.putfield 11, 3) := by decide +kernel
set_option maxRecDepth 20000 in
theorem dX9_init_15 : decode cX9_init 15 = .ok (.aload_n 0, 1) := by decide +kernel
set_option maxRecDepth 20000 in
theorem dX9_init_16 : decode cX9_init 16 = .ok (.iconst 4, 1) := by decide +kernel
set_option maxRecDepth 20000 in
theorem dX9_init_17 : decode cX9_init 17 = .ok (.newarray .int, 2) := by decide +kernel
set_option maxRecDepth 20000 in
theorem dX9_init_19 : decode cX9_init 19 = .ok (.putfield 16, 3) := by decide +kernel
set_option maxRecDepth 20000 in
theorem dX9_init_22 : decode cX9_init 22 = .ok (.aload_n 0, 1) := by decide +kernel
set_option maxRecDepth 20000 in
theorem dX9_init_23 : decode cX9_init 23 = .ok (.bipush 16, 2) := by decide +kernel
set_option maxRecDepth 20000 in
theorem dX9_init_25 : decode cX9_init 25 = .ok (.newarray .int, 2) := by decide +kernel
set_option maxRecDepth 20000 in
theorem dX9_init_27 : decode cX9_init 27 = .ok (.putfield 20, 3) := by decide +kernel
set_option maxRecDepth 20000 in
theorem dX9_init_30 : decode cX9_init 30 = .ok (.return_, 1) := by decide +kernel
set_option maxRecDepth 20000 in
theorem dX10_init_0 : decode cX10_init 0 = .ok (.aload_n 0, 1) := by decide +kernel
set_option maxRecDepth 20000 in
theorem dX10_init_1 : decode cX10_init 1 = .ok (.invokespecial 3, 3) := by decide +kernel
set_option maxRecDepth 20000 in
theorem dX10_init_4 : decode cX10_init 4 = .ok (.aload_n 0, 1) := by decide +kernel
set_option maxRecDepth 20000 in
theorem dX10_init_5 : decode cX10_init 5 = .ok (.bipush 8, 2) := by decide +kernel
set_option maxRecDepth 20000 in
theorem dX10_init_7 : decode cX10_init 7 = .ok (.bipush 8, 2) := by decide +kernel
set_option maxRecDepth 20000 in
theorem dX10_init_9 : decode cX10_init 9 = .ok (.multianewarray 9 2, 4) := by decide +kernel
set_option maxRecDepth 20000 in
theorem dX10_init_13 : decode cX10_init 13 = .ok (.putfield 11, 3) := by decide +kernel
set_option maxRecDepth 20000 in
theorem dX10_init_16 : decode cX10_init 16 = .ok (.aload_n 0, 1) := by decide +kernel
set_option maxRecDepth 20000 in
theorem dX10_init_17 : decode cX10_init 17 = .ok (.bipush 8, 2) := by decide +kernel
set_option maxRecDepth 20000 in
theorem dX10_init_19 : decode cX10_init 19 = .ok (.bipush 8, 2) := by decide +kernel
set_option maxRecDepth 20000 in
theorem dX10_init_21 : decode cX10_init 21 = .ok (.multianewarray 9 2, 4) := by decide +kernel
set_option maxRecDepth 20000 in
theorem dX10_init_25 : decode cX10_init 25 = .ok (.putfield 16, 3) := by decide +kernel
set_option maxRecDepth 20000 in
theorem dX10_init_28 : decode cX10_init 28 = .ok (.aload_n 0, 1) := by decide +kernel
set_option maxRecDepth 20000 in
theorem dX10_init_29 : decode cX10_init 29 = .ok (.sipush 2048, 3) := by decide +kernel
set_option maxRecDepth 20000 in
theorem dX10_init_32 : decode cX10_init 32 = .ok (.newarray .int, 2) := by decide +kernel
set_option maxRecDepth 20000 in
theorem dX10_init_34 : decode cX10_init 34 = .ok (.putfield 19, 3) := by decide +kernel
set_option maxRecDepth 20000 in
theorem dX10_init_37 : decode cX10_init 37 = .ok (.return_, 1) := by decide +kernel
set_option maxRecDepth 20000 in
theorem dX1_init_0 : decode cX1_init 0 = .ok (.aload_n 0, 1) := by decide +kernel
set_option maxRecDepth 20000 in
theorem dX1_init_1 : decode cX1_init 1 = .ok (.invokespecial 3, 3) := by decide +kernel
set_option maxRecDepth 20000 in
theorem dX1_init_4 : decode cX1_init 4 = .ok (.aload_n 0, 1) := by decide +kernel
set_option maxRecDepth 20000 in
theorem dX1_init_5 : decode cX1_init 5 = .ok (.aload_n 1, 1) := by decide +kernel
set_option maxRecDepth 20000 in
theorem dX1_init_6 : decode cX1_init 6 = .ok (.putfield 9, 3) := by decide +kernel
set_option maxRecDepth 20000 in
theorem dX1_init_9 : decode cX1_init 9 = .ok (.aload_n 0, 1) := by decide +kernel
set_option maxRecDepth 20000 in
theorem dX1_init_10 : decode cX1_init 10 = .ok (.aload_n 2, 1) := by decide +kernel
set_option maxRecDepth 20000 in
theorem dX1_init_11 : decode cX1_init 11 = .ok (.putfield 15, 3) := by decide +kernel
set_option maxRecDepth 20000 in
theorem dX1_init_14 : decode cX1_init 14 = .ok (.aload_n 0, 1) := by decide +kernel
set_option maxRecDepth 20000 in
theorem dX1_init_15 : decode cX1_init 15 = .ok (.aload_n 3, 1) := by decide +kernel
set_option maxRecDepth 20000 in
theorem dX1_init_16 : decode cX1_init 16 = .ok (.putfield 19, 3) := by decide +kernel
set_option maxRecDepth 20000 in
theorem dX1_init_19 : decode cX1_init 19 = .ok (.return_, 1) := by decide +kernel
set_option maxRecDepth 20000 in
theorem dX7_init_0 : decode cX7_init 0 = .ok (.aload_n 0, 1) := by decide +kernel
set_option maxRecDepth 20000 in
theorem dX7_init_1 : decode cX7_init 1 = .ok (.invokespecial 3, 3) := by decide +kernel
set_option maxRecDepth 20000 in
theorem dX7_init_4 : decode cX7_init 4 = .ok (.aload_n 0, 1) := by decide +kernel
set_option maxRecDepth 20000 in
theorem dX7_init_5 : decode cX7_init 5 = .ok (.bipush 10, 2) := by decide +kernel
set_option maxRecDepth 20000 in
theorem dX7_init_7 : decode cX7_init 7 = .ok (.newarray .int, 2) := by decide +kernel
set_option maxRecDepth 20000 in
theorem dX7_init_9 : decode cX7_init 9 = .ok (.putfield 9, 3) := by decide +kernel
set_option maxRecDepth 20000 in
theorem dX7_init_12 : decode cX7_init 12 = .ok (.aload_n 0, 1) := by decide +kernel
set_option maxRecDepth 20000 in
theorem dX7_init_13 : decode cX7_init 13 = .ok (.bipush 10, 2) := by decide +kernel
set_option maxRecDepth 20000 in
theorem dX7_init_15 : decode cX7_init 15 = .ok (.newarray .boolean, 2) := by decide +kernel
set_option maxRecDepth 20000 in
theorem dX7_init_17 : decode cX7_init 17 = .ok (.putfield 15, 3) := by decide +kernel
set_option maxRecDepth 20000 in
theorem dX7_init_20 : decode cX7_init 20 = .ok (.aload_n 0, 1) := by decide +kernel
set_option maxRecDepth 20000 in
theorem dX7_init_21 : decode cX7_init 21 = .ok (.bipush 13, 2) := by decide +kernel
set_option maxRecDepth 20000 in
theorem dX7_init_23 : decode cX7_init 23 = .ok (.newarray .int, 2) := by decide +kernel
set_option maxRecDepth 20000 in
theorem dX7_init_25 : decode cX7_init 25 = .ok (.putfield 19, 3) := by decide +kernel
set_option maxRecDepth 20000 in
theorem dX7_init_28 : decode cX7_init 28 = .ok (.aload_n 0, 1) := by decide +kernel
set_option maxRecDepth 20000 in
theorem dX7_init_29 : decode cX7_init 29 = .ok (.bipush 13, 2) := by decide +kernel
set_option maxRecDepth 20000 in
theorem dX7_init_31 : decode cX7_init 31 = .ok (.newarray .int, 2) := by decide +kernel
set_option maxRecDepth 20000 in
theorem dX7_init_33 : decode cX7_init 33 = .ok (.putfield 22, 3) := by decide +kernel
set_option maxRecDepth 20000 in
theorem dX7_init_36 : decode cX7_init 36 = .ok (.return_, 1) := by decide +kernel
set_option maxRecDepth 20000 in
theorem dX4_init_0 : decode cX4_init 0 = .ok (.aload_n 0, 1) := by decide +kernel
set_option maxRecDepth 20000 in
theorem dX4_init_1 : decode cX4_init 1 = .ok (.invokespecial 3, 3) := by decide +kernel
set_option maxRecDepth 20000 in
theorem dX4_init_4 : decode cX4_init 4 = .ok (.aload_n 0, 1) := by decide +kernel
set_option maxRecDepth 20000 in
theorem dX4_init_5 : decode cX4_init 5 = .ok (.bipush 100, 2) := by decide +kernel
set_option maxRecDepth 20000 in
theorem dX4_init_7 : decode cX4_init 7 = .ok (.newarray .int, 2) := by decide +kernel
set_option maxRecDepth 20000 in
theorem dX4_init_9 : decode cX4_init 9 = .ok (.putfield 11, 3) := by decide +kernel
set_option maxRecDepth 20000 in
theorem dX4_init_12 : decode cX4_init 12 = .ok (.aload_n 0, 1) := by decide +kernel
set_option maxRecDepth 20000 in
theorem dX4_init_13 : decode cX4_init 13 = .ok (.bipush 100, 2) := by decide +kernel
set_option maxRecDepth 20000 in
theorem dX4_init_15 : decode cX4_init 15 = .ok (.newarray .int, 2) := by decide +kernel
set_option maxRecDepth 20000 in
theorem dX4_init_17 : decode cX4_init 17 = .ok (.putfield 15, 3) := by decide +kernel
set_option maxRecDepth 20000 in
theorem dX4_init_20 : decode cX4_init 20 = .ok (.aload_n 0, 1) := by decide +kernel
set_option maxRecDepth 20000 in
theorem dX4_init_21 : decode cX4_init 21 = .ok (.bipush 100, 2) := by decide +kernel
set_option maxRecDepth 20000 in
theorem dX4_init_23 : decode cX4_init 23 = .ok (.newarray .int, 2) := by decide +kernel
set_option maxRecDepth 20000 in
theorem dX4_init_25 : decode cX4_init 25 = .ok (.putfield 18, 3) := by decide +kernel
set_option maxRecDepth 20000 in
theorem dX4_init_28 : decode cX4_init 28 = .ok (.return_, 1) := by decide +kernel
def vs_f_X6_init : List Cond := .code yX6_init cX6_init 1 none :: ([.code objectInit ⟨#[0xb1]⟩ 1 none, .methodLink RX6 3 objectInit, .instanceMethod objectInit, .arrayClass .int, .fieldLink RX6 9 "WallChapels$Scene" "marks" "[I", .fieldLink RX6 15 "WallChapels$Scene" "lamps" "[I", .fieldLink RX6 18 "WallChapels$Scene" "homes" "[I", .fieldLink RX6 21 "WallChapels$Scene" "faith" "[I"] ++ (u_ws RX6 TX6 7))
theorem vs_f_X6_init_uX6 : ∀ w ∈ u_ws RX6 TX6 7, w ∈ vs_f_X6_init := fun _ h => List.mem_cons_of_mem _ (List.mem_append_right _ (h))
set_option maxHeartbeats 4000000 in
set_option maxRecDepth 100000 in
theorem f_X6_init (l : Launch) (dC : Nat → ClassId) (dI : Nat → Nat → Nat) (sz : Nat) (h : Nat) : Met l yX6_init vs_f_X6_init ({ frames := 1, cells := 4, slots := 24, locals := 12 }) (va_Pc [.ref h] (cW dC dI [(h, .inr (6, [.int 0, .int 0, .int 0, .null, .null, .null, .null]))] [] sz)) (va_Qv (fun (_ : Unit) => True) (fun (_ : Unit) (t : State) => ∃ a3 : Nat, ∃ a4 : Nat, ∃ a5 : Nat, ∃ a6 : Nat, cB dC dI (va_A [(h, .inr (6, [.int 0, .int 0, .int 0, .null, .null, .null, .null]))] sz) [(h, .inr (6, [.int 0, .int 0, .int 0, .ref a3, .ref a4, .ref a5, .ref a6]))] [] t) (va_A [(h, .inr (6, [.int 0, .int 0, .int 0, .null, .null, .null, .null]))] sz)) 4 24 (va_A [(h, .inr (6, [.int 0, .int 0, .int 0, .null, .null, .null, .null]))] sz) := by
  refine Met.ofW (cc := cX6_init) (maxL := 1) (ret := none) (by decide) rfl ?_
  intro p e s m args below meth c s₁ B hml hv
  obtain ⟨rfl, hsz, hP, hK, hD0, hG⟩ := hv
  have hx := B.exec
  have hb := B.bytes
  have hr := B.returns
  have hts := atoms_spec (ws := vs_f_X6_init) B.pre
  have hown : s.vm.findClass RX6 = some m.cls := findClass_of_methodNamed B.named
  have hlocks := B.notSynchronized
  have hin : meth.name = "<init>" := (name_of_methodNamed B.named B.method).1
  have hiX6 : ∀ w ∈ u_ws RX6 TX6 7, w ∈ vs_f_X6_init := vs_f_X6_init_uX6
  subst hsz
  have hD := hD0.self (sz := s.heap.size)
  generalize hAe : va_A [(h, .inr (6, [.int 0, .int 0, .int 0, .null, .null, .null, .null]))] s.heap.size = A at hD ⊢
  have hA : ∀ q : Nat, s.heap.size ≤ q → A q := fun q h => by rw [← hAe]; exact Or.inr h
  have hS : va_S A s.heap s.heap [] := va_S.rf
  have hP : va_P (dC, dI) vwCl [(h, .inr (6, [.int 0, .int 0, .int 0, .null, .null, .null, .null]))] s.heap := hP
  have hl := lv_entry ([.ref h]) (n := 1) (Nat.le_of_ble_eq_true rfl)
  rw [lg_entry_eq]
  generalize (lg_sl ([.ref h]) ++ List.replicate (1 - (lg_sl ([.ref h])).length) Slot.unset).toArray = ls at hl ⊢
  have hl : lv_has ls 1 [(0, .ref h)] := hl
  refine lv_aload_n hx hb dX6_init_0 rfl (lv_at hl 0 rfl) ?_
  refine W.objInit hx hb hown (hts (.methodLink RX6 3 objectInit) (by decide +kernel)) (hts (.instanceMethod objectInit) (by decide +kernel)) (hts (.code objectInit ⟨#[0xb1]⟩ 1 none) (List.mem_of_getElem? (i := 1) rfl)) rfl (by rw [hml]; exact hl.1) rfl dX6_init_1 (Nat.le_of_ble_eq_true rfl) (Nat.le_of_ble_eq_true rfl) ?_
  refine W.eq (g2 := F0 m 4 ls []) rfl ?_
  refine lv_aload_n hx hb dX6_init_4 rfl (lv_at hl 0 rfl) ?_
  refine lv_bipush (v := 8) hx hb dX6_init_5 (by decide) ?_
  refine va_newa (atype := .int) (ty := .int) (a0 := (8, .inl (fun _ => 0))) hx hb (hts (.arrayClass .int) (by decide +kernel)) rfl hK hP hD hS hA (fun _ => rfl) (by decide) (by decide) (Nat.le_of_ble_eq_true rfl) (Nat.le_of_ble_eq_true rfl) (Nat.le_of_ble_eq_true rfl) dX6_init_7 (fun q1 c1 H hK hP hD hS => ?_)
  have hP : va_P (dC, dI) vwCl [(h, .inr (6, [.int 0, .int 0, .int 0, .null, .null, .null, .null])), (q1, .inl (c1, 8, .inl (fun _ => 0)))] H := hP
  have hD : va_D A [(h, .inr (6, [.int 0, .int 0, .int 0, .null, .null, .null, .null])), (q1, .inl (c1, 8, .inl (fun _ => 0)))] := hD
  have hK : va_K (dC, dI) vwCl [(c1, .int)] s := hK
  refine W.widen (k := 1) (n := 8) (Nat.le_of_ble_eq_true rfl) (Nat.le_of_ble_eq_true rfl) ?_
  refine va_putF (D := (dC, dI)) (ci := 6) (v := .ref q1) (ty := .array .int) (C := RX6) (T := TX6) (N := 7) hx hb hts hiX6 tyX6 tyX6_ok nmX6 hown hK hP hD hS 0 rfl rfl 3 (by decide) (hts (.fieldLink RX6 9 "WallChapels$Scene" "marks" "[I") (by decide +kernel)) (fun _ h9 => h9) rfl hin rfl (by decide +kernel) rfl rfl (Nat.le_of_ble_eq_true rfl) dX6_init_9 (fun H locs hP hD hS => ?_)
  have hP : va_P (dC, dI) vwCl [(h, .inr (6, [.int 0, .int 0, .int 0, .ref q1, .null, .null, .null])), (q1, .inl (c1, 8, .inl (fun _ => 0)))] H := hP
  have hD : va_D A [(h, .inr (6, [.int 0, .int 0, .int 0, .ref q1, .null, .null, .null])), (q1, .inl (c1, 8, .inl (fun _ => 0)))] := hD
  refine lv_aload_n hx hb dX6_init_12 rfl (lv_at hl 0 rfl) ?_
  refine lv_bipush (v := 8) hx hb dX6_init_13 (by decide) ?_
  refine va_newa (atype := .int) (ty := .int) (a0 := (8, .inl (fun _ => 0))) hx hb (hts (.arrayClass .int) (by decide +kernel)) rfl hK hP hD hS hA (fun _ => rfl) (by decide) (by decide) (Nat.le_of_ble_eq_true rfl) (Nat.le_of_ble_eq_true rfl) (Nat.le_of_ble_eq_true rfl) dX6_init_15 (fun q2 c2 H hK hP hD hS => ?_)
  have hP : va_P (dC, dI) vwCl [(h, .inr (6, [.int 0, .int 0, .int 0, .ref q1, .null, .null, .null])), (q1, .inl (c1, 8, .inl (fun _ => 0))), (q2, .inl (c2, 8, .inl (fun _ => 0)))] H := hP
  have hD : va_D A [(h, .inr (6, [.int 0, .int 0, .int 0, .ref q1, .null, .null, .null])), (q1, .inl (c1, 8, .inl (fun _ => 0))), (q2, .inl (c2, 8, .inl (fun _ => 0)))] := hD
  have hK : va_K (dC, dI) vwCl [(c1, .int), (c2, .int)] s := hK
  refine W.widen (k := 2) (n := 16) (Nat.le_of_ble_eq_true rfl) (Nat.le_of_ble_eq_true rfl) ?_
  refine va_putF (D := (dC, dI)) (ci := 6) (v := .ref q2) (ty := .array .int) (C := RX6) (T := TX6) (N := 7) hx hb hts hiX6 tyX6 tyX6_ok nmX6 hown hK hP hD hS 0 rfl rfl 4 (by decide) (hts (.fieldLink RX6 15 "WallChapels$Scene" "lamps" "[I") (by decide +kernel)) (fun _ h9 => h9) rfl hin rfl (by decide +kernel) rfl rfl (Nat.le_of_ble_eq_true rfl) dX6_init_17 (fun H locs hP hD hS => ?_)
  have hP : va_P (dC, dI) vwCl [(h, .inr (6, [.int 0, .int 0, .int 0, .ref q1, .ref q2, .null, .null])), (q1, .inl (c1, 8, .inl (fun _ => 0))), (q2, .inl (c2, 8, .inl (fun _ => 0)))] H := hP
  have hD : va_D A [(h, .inr (6, [.int 0, .int 0, .int 0, .ref q1, .ref q2, .null, .null])), (q1, .inl (c1, 8, .inl (fun _ => 0))), (q2, .inl (c2, 8, .inl (fun _ => 0)))] := hD
  refine lv_aload_n hx hb dX6_init_20 rfl (lv_at hl 0 rfl) ?_
  refine lv_iconst (v := 4) hx hb dX6_init_21 (by decide) ?_
  refine va_newa (atype := .int) (ty := .int) (a0 := (4, .inl (fun _ => 0))) hx hb (hts (.arrayClass .int) (by decide +kernel)) rfl hK hP hD hS hA (fun _ => rfl) (by decide) (by decide) (Nat.le_of_ble_eq_true rfl) (Nat.le_of_ble_eq_true rfl) (Nat.le_of_ble_eq_true rfl) dX6_init_22 (fun q3 c3 H hK hP hD hS => ?_)
  have hP : va_P (dC, dI) vwCl [(h, .inr (6, [.int 0, .int 0, .int 0, .ref q1, .ref q2, .null, .null])), (q1, .inl (c1, 8, .inl (fun _ => 0))), (q2, .inl (c2, 8, .inl (fun _ => 0))), (q3, .inl (c3, 4, .inl (fun _ => 0)))] H := hP
  have hD : va_D A [(h, .inr (6, [.int 0, .int 0, .int 0, .ref q1, .ref q2, .null, .null])), (q1, .inl (c1, 8, .inl (fun _ => 0))), (q2, .inl (c2, 8, .inl (fun _ => 0))), (q3, .inl (c3, 4, .inl (fun _ => 0)))] := hD
  have hK : va_K (dC, dI) vwCl [(c1, .int), (c2, .int), (c3, .int)] s := hK
  refine W.widen (k := 3) (n := 20) (Nat.le_of_ble_eq_true rfl) (Nat.le_of_ble_eq_true rfl) ?_
  refine va_putF (D := (dC, dI)) (ci := 6) (v := .ref q3) (ty := .array .int) (C := RX6) (T := TX6) (N := 7) hx hb hts hiX6 tyX6 tyX6_ok nmX6 hown hK hP hD hS 0 rfl rfl 5 (by decide) (hts (.fieldLink RX6 18 "WallChapels$Scene" "homes" "[I") (by decide +kernel)) (fun _ h9 => h9) rfl hin rfl (by decide +kernel) rfl rfl (Nat.le_of_ble_eq_true rfl) dX6_init_24 (fun H locs hP hD hS => ?_)
  have hP : va_P (dC, dI) vwCl [(h, .inr (6, [.int 0, .int 0, .int 0, .ref q1, .ref q2, .ref q3, .null])), (q1, .inl (c1, 8, .inl (fun _ => 0))), (q2, .inl (c2, 8, .inl (fun _ => 0))), (q3, .inl (c3, 4, .inl (fun _ => 0)))] H := hP
  have hD : va_D A [(h, .inr (6, [.int 0, .int 0, .int 0, .ref q1, .ref q2, .ref q3, .null])), (q1, .inl (c1, 8, .inl (fun _ => 0))), (q2, .inl (c2, 8, .inl (fun _ => 0))), (q3, .inl (c3, 4, .inl (fun _ => 0)))] := hD
  refine lv_aload_n hx hb dX6_init_27 rfl (lv_at hl 0 rfl) ?_
  refine lv_iconst (v := 4) hx hb dX6_init_28 (by decide) ?_
  refine va_newa (atype := .int) (ty := .int) (a0 := (4, .inl (fun _ => 0))) hx hb (hts (.arrayClass .int) (by decide +kernel)) rfl hK hP hD hS hA (fun _ => rfl) (by decide) (by decide) (Nat.le_of_ble_eq_true rfl) (Nat.le_of_ble_eq_true rfl) (Nat.le_of_ble_eq_true rfl) dX6_init_29 (fun q4 c4 H hK hP hD hS => ?_)
  have hP : va_P (dC, dI) vwCl [(h, .inr (6, [.int 0, .int 0, .int 0, .ref q1, .ref q2, .ref q3, .null])), (q1, .inl (c1, 8, .inl (fun _ => 0))), (q2, .inl (c2, 8, .inl (fun _ => 0))), (q3, .inl (c3, 4, .inl (fun _ => 0))), (q4, .inl (c4, 4, .inl (fun _ => 0)))] H := hP
  have hD : va_D A [(h, .inr (6, [.int 0, .int 0, .int 0, .ref q1, .ref q2, .ref q3, .null])), (q1, .inl (c1, 8, .inl (fun _ => 0))), (q2, .inl (c2, 8, .inl (fun _ => 0))), (q3, .inl (c3, 4, .inl (fun _ => 0))), (q4, .inl (c4, 4, .inl (fun _ => 0)))] := hD
  have hK : va_K (dC, dI) vwCl [(c1, .int), (c2, .int), (c3, .int), (c4, .int)] s := hK
  refine W.widen (k := 4) (n := 24) (Nat.le_of_ble_eq_true rfl) (Nat.le_of_ble_eq_true rfl) ?_
  refine va_putF (D := (dC, dI)) (ci := 6) (v := .ref q4) (ty := .array .int) (C := RX6) (T := TX6) (N := 7) hx hb hts hiX6 tyX6 tyX6_ok nmX6 hown hK hP hD hS 0 rfl rfl 6 (by decide) (hts (.fieldLink RX6 21 "WallChapels$Scene" "faith" "[I") (by decide +kernel)) (fun _ h9 => h9) rfl hin rfl (by decide +kernel) rfl rfl (Nat.le_of_ble_eq_true rfl) dX6_init_31 (fun H locs hP hD hS => ?_)
  have hP : va_P (dC, dI) vwCl [(h, .inr (6, [.int 0, .int 0, .int 0, .ref q1, .ref q2, .ref q3, .ref q4])), (q1, .inl (c1, 8, .inl (fun _ => 0))), (q2, .inl (c2, 8, .inl (fun _ => 0))), (q3, .inl (c3, 4, .inl (fun _ => 0))), (q4, .inl (c4, 4, .inl (fun _ => 0)))] H := hP
  have hD : va_D A [(h, .inr (6, [.int 0, .int 0, .int 0, .ref q1, .ref q2, .ref q3, .ref q4])), (q1, .inl (c1, 8, .inl (fun _ => 0))), (q2, .inl (c2, 8, .inl (fun _ => 0))), (q3, .inl (c3, 4, .inl (fun _ => 0))), (q4, .inl (c4, 4, .inl (fun _ => 0)))] := hD
  have hP9 := hP.sub (ws' := [(h, .inr (6, [.int 0, .int 0, .int 0, .ref q1, .ref q2, .ref q3, .ref q4]))]) [0] rfl
  have hD9 := hD.sub (ws' := [(h, .inr (6, [.int 0, .int 0, .int 0, .ref q1, .ref q2, .ref q3, .ref q4]))]) [0] (by decide) rfl
  have hK9 := hK.sub (tys' := []) [] rfl
  exact W.vret hx hb hr (fun t ht hW => ⟨⟨(), rfl, trivial, ⟨q1, q2, q3, q4, by rw [ht]; exact hP9, va_K.moved hW.alike hK9, hD9⟩⟩, hS.F ht⟩) hS.2.2 dX6_init_34
def vs_f_X8_init : List Cond := .code yX8_init cX8_init 1 none :: ([.code objectInit ⟨#[0xb1]⟩ 1 none, .methodLink RX8 3 objectInit, .instanceMethod objectInit, .arrayClass .int, .fieldLink RX8 9 "WallChapels$Tape" "bytes" "[I"] ++ (u_ws RX8 TX8 4))
theorem vs_f_X8_init_uX8 : ∀ w ∈ u_ws RX8 TX8 4, w ∈ vs_f_X8_init := fun _ h => List.mem_cons_of_mem _ (List.mem_append_right _ (h))
set_option maxHeartbeats 4000000 in
set_option maxRecDepth 100000 in
theorem f_X8_init (l : Launch) (dC : Nat → ClassId) (dI : Nat → Nat → Nat) (sz : Nat) (h : Nat) : Met l yX8_init vs_f_X8_init ({ frames := 1, cells := 1, slots := 240, locals := 12 }) (va_Pc [.ref h] (cW dC dI [(h, .inr (8, [.null, .int 0, .int 0, .int 0]))] [] sz)) (va_Qv (fun (_ : Unit) => True) (fun (_ : Unit) (t : State) => ∃ a0 : Nat, ∃ k0 : ClassId, cB dC dI (va_A [(h, .inr (8, [.null, .int 0, .int 0, .int 0]))] sz) [(h, .inr (8, [.ref a0, .int 0, .int 0, .int 0])), (a0, .inl (k0, 240, .inl (fun _ => 0)))] [(k0, .int)] t) (va_A [(h, .inr (8, [.null, .int 0, .int 0, .int 0]))] sz)) 1 240 (va_A [(h, .inr (8, [.null, .int 0, .int 0, .int 0]))] sz) := by
  refine Met.ofW (cc := cX8_init) (maxL := 1) (ret := none) (by decide) rfl ?_
  intro p e s m args below meth c s₁ B hml hv
  obtain ⟨rfl, hsz, hP, hK, hD0, hG⟩ := hv
  have hx := B.exec
  have hb := B.bytes
  have hr := B.returns
  have hts := atoms_spec (ws := vs_f_X8_init) B.pre
  have hown : s.vm.findClass RX8 = some m.cls := findClass_of_methodNamed B.named
  have hlocks := B.notSynchronized
  have hin : meth.name = "<init>" := (name_of_methodNamed B.named B.method).1
  have hiX8 : ∀ w ∈ u_ws RX8 TX8 4, w ∈ vs_f_X8_init := vs_f_X8_init_uX8
  subst hsz
  have hD := hD0.self (sz := s.heap.size)
  generalize hAe : va_A [(h, .inr (8, [.null, .int 0, .int 0, .int 0]))] s.heap.size = A at hD ⊢
  have hA : ∀ q : Nat, s.heap.size ≤ q → A q := fun q h => by rw [← hAe]; exact Or.inr h
  have hS : va_S A s.heap s.heap [] := va_S.rf
  have hP : va_P (dC, dI) vwCl [(h, .inr (8, [.null, .int 0, .int 0, .int 0]))] s.heap := hP
  have hl := lv_entry ([.ref h]) (n := 1) (Nat.le_of_ble_eq_true rfl)
  rw [lg_entry_eq]
  generalize (lg_sl ([.ref h]) ++ List.replicate (1 - (lg_sl ([.ref h])).length) Slot.unset).toArray = ls at hl ⊢
  have hl : lv_has ls 1 [(0, .ref h)] := hl
  refine lv_aload_n hx hb dX8_init_0 rfl (lv_at hl 0 rfl) ?_
  refine W.objInit hx hb hown (hts (.methodLink RX8 3 objectInit) (by decide +kernel)) (hts (.instanceMethod objectInit) (by decide +kernel)) (hts (.code objectInit ⟨#[0xb1]⟩ 1 none) (List.mem_of_getElem? (i := 1) rfl)) rfl (by rw [hml]; exact hl.1) rfl dX8_init_1 (Nat.le_of_ble_eq_true rfl) (Nat.le_of_ble_eq_true rfl) ?_
  refine W.eq (g2 := F0 m 4 ls []) rfl ?_
  refine lv_aload_n hx hb dX8_init_4 rfl (lv_at hl 0 rfl) ?_
  refine lv_sipush (v := 240) hx hb dX8_init_5 (by decide) ?_
  refine va_newa (atype := .int) (ty := .int) (a0 := (240, .inl (fun _ => 0))) hx hb (hts (.arrayClass .int) (by decide +kernel)) rfl hK hP hD hS hA (fun _ => rfl) (by decide) (by decide) (Nat.le_of_ble_eq_true rfl) (Nat.le_of_ble_eq_true rfl) (Nat.le_of_ble_eq_true rfl) dX8_init_8 (fun q1 c1 H hK hP hD hS => ?_)
  have hP : va_P (dC, dI) vwCl [(h, .inr (8, [.null, .int 0, .int 0, .int 0])), (q1, .inl (c1, 240, .inl (fun _ => 0)))] H := hP
  have hD : va_D A [(h, .inr (8, [.null, .int 0, .int 0, .int 0])), (q1, .inl (c1, 240, .inl (fun _ => 0)))] := hD
  have hK : va_K (dC, dI) vwCl [(c1, .int)] s := hK
  refine W.widen (k := 1) (n := 240) (Nat.le_of_ble_eq_true rfl) (Nat.le_of_ble_eq_true rfl) ?_
  refine va_putF (D := (dC, dI)) (ci := 8) (v := .ref q1) (ty := .array .int) (C := RX8) (T := TX8) (N := 4) hx hb hts hiX8 tyX8 tyX8_ok nmX8 hown hK hP hD hS 0 rfl rfl 0 (by decide) (hts (.fieldLink RX8 9 "WallChapels$Tape" "bytes" "[I") (by decide +kernel)) (fun _ h9 => h9) rfl hin rfl (by decide +kernel) rfl rfl (Nat.le_of_ble_eq_true rfl) dX8_init_10 (fun H locs hP hD hS => ?_)
  have hP : va_P (dC, dI) vwCl [(h, .inr (8, [.ref q1, .int 0, .int 0, .int 0])), (q1, .inl (c1, 240, .inl (fun _ => 0)))] H := hP
  have hD : va_D A [(h, .inr (8, [.ref q1, .int 0, .int 0, .int 0])), (q1, .inl (c1, 240, .inl (fun _ => 0)))] := hD
  have hP9 := hP.sub (ws' := [(h, .inr (8, [.ref q1, .int 0, .int 0, .int 0])), (q1, .inl (c1, 240, .inl (fun _ => 0)))]) [0, 1] rfl
  have hD9 := hD.sub (ws' := [(h, .inr (8, [.ref q1, .int 0, .int 0, .int 0])), (q1, .inl (c1, 240, .inl (fun _ => 0)))]) [0, 1] (by decide) rfl
  have hK9 := hK.sub (tys' := [(c1, .int)]) [0] rfl
  exact W.vret hx hb hr (fun t ht hW => ⟨⟨(), rfl, trivial, ⟨q1, c1, by rw [ht]; exact hP9, va_K.moved hW.alike hK9, hD9⟩⟩, hS.F ht⟩) hS.2.2 dX8_init_13
def vs_f_X5_init : List Cond := .code yX5_init cX5_init 1 none :: ([.code objectInit ⟨#[0xb1]⟩ 1 none, .methodLink RX5 3 objectInit, .instanceMethod objectInit, .arrayClass .int, .fieldLink RX5 9 "WallChapels$Plan" "rules" "[I", .classLink RX5 15 "[[I", .fieldLink RX5 17 "WallChapels$Plan" "streetRows" "[[I", .fieldLink RX5 20 "WallChapels$Plan" "walkerRows" "[[I", .fieldLink RX5 23 "WallChapels$Plan" "touching" "[I"] ++ (u_ws RX5 TX5 8))
theorem vs_f_X5_init_uX5 : ∀ w ∈ u_ws RX5 TX5 8, w ∈ vs_f_X5_init := fun _ h => List.mem_cons_of_mem _ (List.mem_append_right _ (h))
set_option maxHeartbeats 4000000 in
set_option maxRecDepth 100000 in
theorem f_X5_init (l : Launch) (dC : Nat → ClassId) (dI : Nat → Nat → Nat) (sz : Nat) (h : Nat) : Met l yX5_init vs_f_X5_init ({ frames := 1, cells := 20, slots := 82, locals := 12 }) (va_Pc [.ref h] (cW dC dI [(h, .inr (5, [.int 0, .int 0, .int 0, .int 0, .null, .null, .null, .null]))] [] sz)) (va_Qv (fun (_ : Unit) => True) (fun (_ : Unit) (t : State) => ∃ a4 : Nat, ∃ a5 : Nat, ∃ a6 : Nat, ∃ a7 : Nat, ∃ k4 : ClassId, cB dC dI (va_A [(h, .inr (5, [.int 0, .int 0, .int 0, .int 0, .null, .null, .null, .null]))] sz) [(h, .inr (5, [.int 0, .int 0, .int 0, .int 0, .ref a4, .ref a5, .ref a6, .ref a7])), (a4, .inl (k4, 2, .inl (fun _ => 0)))] [(k4, .int)] t) (va_A [(h, .inr (5, [.int 0, .int 0, .int 0, .int 0, .null, .null, .null, .null]))] sz)) 20 82 (va_A [(h, .inr (5, [.int 0, .int 0, .int 0, .int 0, .null, .null, .null, .null]))] sz) := by
  refine Met.ofW (cc := cX5_init) (maxL := 1) (ret := none) (by decide) rfl ?_
  intro p e s m args below meth c s₁ B hml hv
  obtain ⟨rfl, hsz, hP, hK, hD0, hG⟩ := hv
  have hx := B.exec
  have hb := B.bytes
  have hr := B.returns
  have hts := atoms_spec (ws := vs_f_X5_init) B.pre
  have hown : s.vm.findClass RX5 = some m.cls := findClass_of_methodNamed B.named
  have hlocks := B.notSynchronized
  have hin : meth.name = "<init>" := (name_of_methodNamed B.named B.method).1
  have hiX5 : ∀ w ∈ u_ws RX5 TX5 8, w ∈ vs_f_X5_init := vs_f_X5_init_uX5
  subst hsz
  have hD := hD0.self (sz := s.heap.size)
  generalize hAe : va_A [(h, .inr (5, [.int 0, .int 0, .int 0, .int 0, .null, .null, .null, .null]))] s.heap.size = A at hD ⊢
  have hA : ∀ q : Nat, s.heap.size ≤ q → A q := fun q h => by rw [← hAe]; exact Or.inr h
  have hS : va_S A s.heap s.heap [] := va_S.rf
  have hP : va_P (dC, dI) vwCl [(h, .inr (5, [.int 0, .int 0, .int 0, .int 0, .null, .null, .null, .null]))] s.heap := hP
  have hl := lv_entry ([.ref h]) (n := 1) (Nat.le_of_ble_eq_true rfl)
  rw [lg_entry_eq]
  generalize (lg_sl ([.ref h]) ++ List.replicate (1 - (lg_sl ([.ref h])).length) Slot.unset).toArray = ls at hl ⊢
  have hl : lv_has ls 1 [(0, .ref h)] := hl
  refine lv_aload_n hx hb dX5_init_0 rfl (lv_at hl 0 rfl) ?_
  refine W.objInit hx hb hown (hts (.methodLink RX5 3 objectInit) (by decide +kernel)) (hts (.instanceMethod objectInit) (by decide +kernel)) (hts (.code objectInit ⟨#[0xb1]⟩ 1 none) (List.mem_of_getElem? (i := 1) rfl)) rfl (by rw [hml]; exact hl.1) rfl dX5_init_1 (Nat.le_of_ble_eq_true rfl) (Nat.le_of_ble_eq_true rfl) ?_
  refine W.eq (g2 := F0 m 4 ls []) rfl ?_
  refine lv_aload_n hx hb dX5_init_4 rfl (lv_at hl 0 rfl) ?_
  refine lv_iconst (v := 2) hx hb dX5_init_5 (by decide) ?_
  refine va_newa (atype := .int) (ty := .int) (a0 := (2, .inl (fun _ => 0))) hx hb (hts (.arrayClass .int) (by decide +kernel)) rfl hK hP hD hS hA (fun _ => rfl) (by decide) (by decide) (Nat.le_of_ble_eq_true rfl) (Nat.le_of_ble_eq_true rfl) (Nat.le_of_ble_eq_true rfl) dX5_init_6 (fun q1 c1 H hK hP hD hS => ?_)
  have hP : va_P (dC, dI) vwCl [(h, .inr (5, [.int 0, .int 0, .int 0, .int 0, .null, .null, .null, .null])), (q1, .inl (c1, 2, .inl (fun _ => 0)))] H := hP
  have hD : va_D A [(h, .inr (5, [.int 0, .int 0, .int 0, .int 0, .null, .null, .null, .null])), (q1, .inl (c1, 2, .inl (fun _ => 0)))] := hD
  have hK : va_K (dC, dI) vwCl [(c1, .int)] s := hK
  refine W.widen (k := 1) (n := 2) (Nat.le_of_ble_eq_true rfl) (Nat.le_of_ble_eq_true rfl) ?_
  refine va_putF (D := (dC, dI)) (ci := 5) (v := .ref q1) (ty := .array .int) (C := RX5) (T := TX5) (N := 8) hx hb hts hiX5 tyX5 tyX5_ok nmX5 hown hK hP hD hS 0 rfl rfl 4 (by decide) (hts (.fieldLink RX5 9 "WallChapels$Plan" "rules" "[I") (by decide +kernel)) (fun _ h9 => h9) rfl hin rfl (by decide +kernel) rfl rfl (Nat.le_of_ble_eq_true rfl) dX5_init_8 (fun H locs hP hD hS => ?_)
  have hP : va_P (dC, dI) vwCl [(h, .inr (5, [.int 0, .int 0, .int 0, .int 0, .ref q1, .null, .null, .null])), (q1, .inl (c1, 2, .inl (fun _ => 0)))] H := hP
  have hD : va_D A [(h, .inr (5, [.int 0, .int 0, .int 0, .int 0, .ref q1, .null, .null, .null])), (q1, .inl (c1, 2, .inl (fun _ => 0)))] := hD
  refine lv_aload_n hx hb dX5_init_11 rfl (lv_at hl 0 rfl) ?_
  refine lv_bipush (v := 12) hx hb dX5_init_12 (by decide) ?_
  refine lv_iconst (v := 4) hx hb dX5_init_14 (by decide) ?_
  refine mna0 (n := 12) (k := 4) (N' := 12) (K' := 4) hx hb hown (hts (.classLink RX5 15 "[[I") (by decide +kernel)) hG (hts (.arrayClass .int) (by decide +kernel)) hK hP hD hS hA (by decide) (by decide) (by decide) (by decide) (Nat.le_of_ble_eq_true rfl) (Nat.le_of_ble_eq_true rfl) (Nat.le_of_ble_eq_true rfl) (Nat.le_of_ble_eq_true rfl) (Nat.le_of_ble_eq_true rfl) dX5_init_15 (fun q2 H hP hD hS => ?_)
  refine W.widen (k := 14) (n := 62) (Nat.le_of_ble_eq_true rfl) (Nat.le_of_ble_eq_true rfl) ?_
  refine va_putF (D := (dC, dI)) (ci := 5) (v := .ref q2) (ty := .array (.array .int)) (C := RX5) (T := TX5) (N := 8) hx hb hts hiX5 tyX5 tyX5_ok nmX5 hown hK hP hD hS 0 rfl rfl 5 (by decide) (hts (.fieldLink RX5 17 "WallChapels$Plan" "streetRows" "[[I") (by decide +kernel)) (fun _ h9 => h9) rfl hin rfl (by decide +kernel) rfl rfl (Nat.le_of_ble_eq_true rfl) dX5_init_19 (fun H locs hP hD hS => ?_)
  have hP : va_P (dC, dI) vwCl [(h, .inr (5, [.int 0, .int 0, .int 0, .int 0, .ref q1, .ref q2, .null, .null])), (q1, .inl (c1, 2, .inl (fun _ => 0)))] H := hP
  have hD : va_D A [(h, .inr (5, [.int 0, .int 0, .int 0, .int 0, .ref q1, .ref q2, .null, .null])), (q1, .inl (c1, 2, .inl (fun _ => 0)))] := hD
  refine lv_aload_n hx hb dX5_init_22 rfl (lv_at hl 0 rfl) ?_
  refine lv_iconst (v := 4) hx hb dX5_init_23 (by decide) ?_
  refine lv_iconst (v := 2) hx hb dX5_init_24 (by decide) ?_
  refine mna0 (n := 4) (k := 2) (N' := 4) (K' := 2) hx hb hown (hts (.classLink RX5 15 "[[I") (by decide +kernel)) hG (hts (.arrayClass .int) (by decide +kernel)) hK hP hD hS hA (by decide) (by decide) (by decide) (by decide) (Nat.le_of_ble_eq_true rfl) (Nat.le_of_ble_eq_true rfl) (Nat.le_of_ble_eq_true rfl) (Nat.le_of_ble_eq_true rfl) (Nat.le_of_ble_eq_true rfl) dX5_init_25 (fun q3 H hP hD hS => ?_)
  refine W.widen (k := 19) (n := 74) (Nat.le_of_ble_eq_true rfl) (Nat.le_of_ble_eq_true rfl) ?_
  refine va_putF (D := (dC, dI)) (ci := 5) (v := .ref q3) (ty := .array (.array .int)) (C := RX5) (T := TX5) (N := 8) hx hb hts hiX5 tyX5 tyX5_ok nmX5 hown hK hP hD hS 0 rfl rfl 6 (by decide) (hts (.fieldLink RX5 20 "WallChapels$Plan" "walkerRows" "[[I") (by decide +kernel)) (fun _ h9 => h9) rfl hin rfl (by decide +kernel) rfl rfl (Nat.le_of_ble_eq_true rfl) dX5_init_29 (fun H locs hP hD hS => ?_)
  have hP : va_P (dC, dI) vwCl [(h, .inr (5, [.int 0, .int 0, .int 0, .int 0, .ref q1, .ref q2, .ref q3, .null])), (q1, .inl (c1, 2, .inl (fun _ => 0)))] H := hP
  have hD : va_D A [(h, .inr (5, [.int 0, .int 0, .int 0, .int 0, .ref q1, .ref q2, .ref q3, .null])), (q1, .inl (c1, 2, .inl (fun _ => 0)))] := hD
  refine lv_aload_n hx hb dX5_init_32 rfl (lv_at hl 0 rfl) ?_
  refine lv_bipush (v := 8) hx hb dX5_init_33 (by decide) ?_
  refine va_newa (atype := .int) (ty := .int) (a0 := (8, .inl (fun _ => 0))) hx hb (hts (.arrayClass .int) (by decide +kernel)) rfl hK hP hD hS hA (fun _ => rfl) (by decide) (by decide) (Nat.le_of_ble_eq_true rfl) (Nat.le_of_ble_eq_true rfl) (Nat.le_of_ble_eq_true rfl) dX5_init_35 (fun q4 c4 H hK hP hD hS => ?_)
  have hP : va_P (dC, dI) vwCl [(h, .inr (5, [.int 0, .int 0, .int 0, .int 0, .ref q1, .ref q2, .ref q3, .null])), (q1, .inl (c1, 2, .inl (fun _ => 0))), (q4, .inl (c4, 8, .inl (fun _ => 0)))] H := hP
  have hD : va_D A [(h, .inr (5, [.int 0, .int 0, .int 0, .int 0, .ref q1, .ref q2, .ref q3, .null])), (q1, .inl (c1, 2, .inl (fun _ => 0))), (q4, .inl (c4, 8, .inl (fun _ => 0)))] := hD
  have hK : va_K (dC, dI) vwCl [(c1, .int), (c4, .int)] s := hK
  refine W.widen (k := 20) (n := 82) (Nat.le_of_ble_eq_true rfl) (Nat.le_of_ble_eq_true rfl) ?_
  refine va_putF (D := (dC, dI)) (ci := 5) (v := .ref q4) (ty := .array .int) (C := RX5) (T := TX5) (N := 8) hx hb hts hiX5 tyX5 tyX5_ok nmX5 hown hK hP hD hS 0 rfl rfl 7 (by decide) (hts (.fieldLink RX5 23 "WallChapels$Plan" "touching" "[I") (by decide +kernel)) (fun _ h9 => h9) rfl hin rfl (by decide +kernel) rfl rfl (Nat.le_of_ble_eq_true rfl) dX5_init_37 (fun H locs hP hD hS => ?_)
  have hP : va_P (dC, dI) vwCl [(h, .inr (5, [.int 0, .int 0, .int 0, .int 0, .ref q1, .ref q2, .ref q3, .ref q4])), (q1, .inl (c1, 2, .inl (fun _ => 0))), (q4, .inl (c4, 8, .inl (fun _ => 0)))] H := hP
  have hD : va_D A [(h, .inr (5, [.int 0, .int 0, .int 0, .int 0, .ref q1, .ref q2, .ref q3, .ref q4])), (q1, .inl (c1, 2, .inl (fun _ => 0))), (q4, .inl (c4, 8, .inl (fun _ => 0)))] := hD
  have hP9 := hP.sub (ws' := [(h, .inr (5, [.int 0, .int 0, .int 0, .int 0, .ref q1, .ref q2, .ref q3, .ref q4])), (q1, .inl (c1, 2, .inl (fun _ => 0)))]) [0, 1] rfl
  have hD9 := hD.sub (ws' := [(h, .inr (5, [.int 0, .int 0, .int 0, .int 0, .ref q1, .ref q2, .ref q3, .ref q4])), (q1, .inl (c1, 2, .inl (fun _ => 0)))]) [0, 1] (by decide) rfl
  have hK9 := hK.sub (tys' := [(c1, .int)]) [0] rfl
  exact W.vret hx hb hr (fun t ht hW => ⟨⟨(), rfl, trivial, ⟨q1, q2, q3, q4, c1, by rw [ht]; exact hP9, va_K.moved hW.alike hK9, hD9⟩⟩, hS.F ht⟩) hS.2.2 dX5_init_40
def vs_f_X2_init : List Cond := .code yX2_init cX2_init 2 none :: ([.code objectInit ⟨#[0xb1]⟩ 1 none, .methodLink RX2 3 objectInit, .instanceMethod objectInit, .arrayClass .int, .fieldLink RX2 9 "WallChapels$LawReader" "steps" "[I", .fieldLink RX2 15 "WallChapels$LawReader" "tape" "LWallChapels$Tape;"] ++ (u_ws RX2 TX2 3))
theorem vs_f_X2_init_uX2 : ∀ w ∈ u_ws RX2 TX2 3, w ∈ vs_f_X2_init := fun _ h => List.mem_cons_of_mem _ (List.mem_append_right _ (h))
set_option maxHeartbeats 4000000 in
set_option maxRecDepth 100000 in
theorem f_X2_init (l : Launch) (dC : Nat → ClassId) (dI : Nat → Nat → Nat) (sz : Nat) (h : Nat) (tp : Nat) : Met l yX2_init vs_f_X2_init ({ frames := 1, cells := 1, slots := 240, locals := 12 }) (va_Pc [.ref h, .ref tp] (cW dC dI [(h, .inr (2, [.null, .null, .int 0]))] [] sz)) (va_Qv (fun (_ : Unit) => True) (fun (_ : Unit) (t : State) => ∃ a1 : Nat, cB dC dI (va_A [(h, .inr (2, [.null, .null, .int 0]))] sz) [(h, .inr (2, [.ref tp, .ref a1, .int 0]))] [] t) (va_A [(h, .inr (2, [.null, .null, .int 0]))] sz)) 1 240 (va_A [(h, .inr (2, [.null, .null, .int 0]))] sz) := by
  refine Met.ofW (cc := cX2_init) (maxL := 2) (ret := none) (by decide) rfl ?_
  intro p e s m args below meth c s₁ B hml hv
  obtain ⟨rfl, hsz, hP, hK, hD0, hG⟩ := hv
  have hx := B.exec
  have hb := B.bytes
  have hr := B.returns
  have hts := atoms_spec (ws := vs_f_X2_init) B.pre
  have hown : s.vm.findClass RX2 = some m.cls := findClass_of_methodNamed B.named
  have hlocks := B.notSynchronized
  have hin : meth.name = "<init>" := (name_of_methodNamed B.named B.method).1
  have hiX2 : ∀ w ∈ u_ws RX2 TX2 3, w ∈ vs_f_X2_init := vs_f_X2_init_uX2
  subst hsz
  have hD := hD0.self (sz := s.heap.size)
  generalize hAe : va_A [(h, .inr (2, [.null, .null, .int 0]))] s.heap.size = A at hD ⊢
  have hA : ∀ q : Nat, s.heap.size ≤ q → A q := fun q h => by rw [← hAe]; exact Or.inr h
  have hS : va_S A s.heap s.heap [] := va_S.rf
  have hP : va_P (dC, dI) vwCl [(h, .inr (2, [.null, .null, .int 0]))] s.heap := hP
  have hl := lv_entry ([.ref h, .ref tp]) (n := 2) (Nat.le_of_ble_eq_true rfl)
  rw [lg_entry_eq]
  generalize (lg_sl ([.ref h, .ref tp]) ++ List.replicate (2 - (lg_sl ([.ref h, .ref tp])).length) Slot.unset).toArray = ls at hl ⊢
  have hl : lv_has ls 2 [(0, .ref h), (1, .ref tp)] := hl
  refine lv_aload_n hx hb dX2_init_0 rfl (lv_at hl 0 rfl) ?_
  refine W.objInit hx hb hown (hts (.methodLink RX2 3 objectInit) (by decide +kernel)) (hts (.instanceMethod objectInit) (by decide +kernel)) (hts (.code objectInit ⟨#[0xb1]⟩ 1 none) (List.mem_of_getElem? (i := 1) rfl)) rfl (by rw [hml]; exact hl.1) rfl dX2_init_1 (Nat.le_of_ble_eq_true rfl) (Nat.le_of_ble_eq_true rfl) ?_
  refine W.eq (g2 := F0 m 4 ls []) rfl ?_
  refine lv_aload_n hx hb dX2_init_4 rfl (lv_at hl 0 rfl) ?_
  refine lv_sipush (v := 240) hx hb dX2_init_5 (by decide) ?_
  refine va_newa (atype := .int) (ty := .int) (a0 := (240, .inl (fun _ => 0))) hx hb (hts (.arrayClass .int) (by decide +kernel)) rfl hK hP hD hS hA (fun _ => rfl) (by decide) (by decide) (Nat.le_of_ble_eq_true rfl) (Nat.le_of_ble_eq_true rfl) (Nat.le_of_ble_eq_true rfl) dX2_init_8 (fun q1 c1 H hK hP hD hS => ?_)
  have hP : va_P (dC, dI) vwCl [(h, .inr (2, [.null, .null, .int 0])), (q1, .inl (c1, 240, .inl (fun _ => 0)))] H := hP
  have hD : va_D A [(h, .inr (2, [.null, .null, .int 0])), (q1, .inl (c1, 240, .inl (fun _ => 0)))] := hD
  have hK : va_K (dC, dI) vwCl [(c1, .int)] s := hK
  refine W.widen (k := 1) (n := 240) (Nat.le_of_ble_eq_true rfl) (Nat.le_of_ble_eq_true rfl) ?_
  refine va_putF (D := (dC, dI)) (ci := 2) (v := .ref q1) (ty := .array .int) (C := RX2) (T := TX2) (N := 3) hx hb hts hiX2 tyX2 tyX2_ok nmX2 hown hK hP hD hS 0 rfl rfl 1 (by decide) (hts (.fieldLink RX2 9 "WallChapels$LawReader" "steps" "[I") (by decide +kernel)) (fun _ h9 => h9) rfl hin rfl (by decide +kernel) rfl rfl (Nat.le_of_ble_eq_true rfl) dX2_init_10 (fun H locs hP hD hS => ?_)
  have hP : va_P (dC, dI) vwCl [(h, .inr (2, [.null, .ref q1, .int 0])), (q1, .inl (c1, 240, .inl (fun _ => 0)))] H := hP
  have hD : va_D A [(h, .inr (2, [.null, .ref q1, .int 0])), (q1, .inl (c1, 240, .inl (fun _ => 0)))] := hD
  refine lv_aload_n hx hb dX2_init_13 rfl (lv_at hl 0 rfl) ?_
  refine lv_aload_n hx hb dX2_init_14 rfl (lv_at hl 1 rfl) ?_
  refine va_putF (D := (dC, dI)) (ci := 2) (v := .ref tp) (ty := .object "WallChapels$Tape") (C := RX2) (T := TX2) (N := 3) hx hb hts hiX2 tyX2 tyX2_ok nmX2 hown hK hP hD hS 0 rfl rfl 0 (by decide) (hts (.fieldLink RX2 15 "WallChapels$LawReader" "tape" "LWallChapels$Tape;") (by decide +kernel)) (fun _ h9 => h9) rfl hin rfl (by decide +kernel) rfl rfl (Nat.le_of_ble_eq_true rfl) dX2_init_15 (fun H locs hP hD hS => ?_)
  have hP : va_P (dC, dI) vwCl [(h, .inr (2, [.ref tp, .ref q1, .int 0])), (q1, .inl (c1, 240, .inl (fun _ => 0)))] H := hP
  have hD : va_D A [(h, .inr (2, [.ref tp, .ref q1, .int 0])), (q1, .inl (c1, 240, .inl (fun _ => 0)))] := hD
  have hP9 := hP.sub (ws' := [(h, .inr (2, [.ref tp, .ref q1, .int 0]))]) [0] rfl
  have hD9 := hD.sub (ws' := [(h, .inr (2, [.ref tp, .ref q1, .int 0]))]) [0] (by decide) rfl
  have hK9 := hK.sub (tys' := []) [] rfl
  exact W.vret hx hb hr (fun t ht hW => ⟨⟨(), rfl, trivial, ⟨q1, by rw [ht]; exact hP9, va_K.moved hW.alike hK9, hD9⟩⟩, hS.F ht⟩) hS.2.2 dX2_init_18
def vs_f_X3_init : List Cond := .code yX3_init cX3_init 1 none :: ([.code objectInit ⟨#[0xb1]⟩ 1 none, .methodLink RX3 3 objectInit, .instanceMethod objectInit, .classLink RX3 9 "[[I", .arrayClass .int, .fieldLink RX3 11 "WallChapels$Laws" "rows" "[[I", .fieldLink RX3 16 "WallChapels$Laws" "sizes" "[I", .fieldLink RX3 20 "WallChapels$Laws" "stack" "[I", .fieldLink RX3 23 "WallChapels$Laws" "holding" "I"] ++ (u_ws RX3 TX3 12))
theorem vs_f_X3_init_uX3 : ∀ w ∈ u_ws RX3 TX3 12, w ∈ vs_f_X3_init := fun _ h => List.mem_cons_of_mem _ (List.mem_append_right _ (h))
set_option maxHeartbeats 4000000 in
set_option maxRecDepth 100000 in
theorem f_X3_init (l : Launch) (dC : Nat → ClassId) (dI : Nat → Nat → Nat) (sz : Nat) (h : Nat) : Met l yX3_init vs_f_X3_init ({ frames := 1, cells := 7, slots := 1032, locals := 12 }) (va_Pc [.ref h] (cW dC dI [(h, .inr (3, [.null, .null, .null, .int 0, .int 0, .int 0, .int 0, .int 0, .int 0, .int 0, .int 0, .int 0]))] [] sz)) (va_Qv (fun (_ : Unit) => True) (fun (_ : Unit) (t : State) => ∃ a0 : Nat, ∃ a1 : Nat, ∃ a2 : Nat, cB dC dI (va_A [(h, .inr (3, [.null, .null, .null, .int 0, .int 0, .int 0, .int 0, .int 0, .int 0, .int 0, .int 0, .int 0]))] sz) [(h, .inr (3, [.ref a0, .ref a1, .ref a2, .int 0, .int 0, .int (-1), .int 0, .int 0, .int 0, .int 0, .int 0, .int 0]))] [] t) (va_A [(h, .inr (3, [.null, .null, .null, .int 0, .int 0, .int 0, .int 0, .int 0, .int 0, .int 0, .int 0, .int 0]))] sz)) 7 1032 (va_A [(h, .inr (3, [.null, .null, .null, .int 0, .int 0, .int 0, .int 0, .int 0, .int 0, .int 0, .int 0, .int 0]))] sz) := by
  refine Met.ofW (cc := cX3_init) (maxL := 1) (ret := none) (by decide) rfl ?_
  intro p e s m args below meth c s₁ B hml hv
  obtain ⟨rfl, hsz, hP, hK, hD0, hG⟩ := hv
  have hx := B.exec
  have hb := B.bytes
  have hr := B.returns
  have hts := atoms_spec (ws := vs_f_X3_init) B.pre
  have hown : s.vm.findClass RX3 = some m.cls := findClass_of_methodNamed B.named
  have hlocks := B.notSynchronized
  have hin : meth.name = "<init>" := (name_of_methodNamed B.named B.method).1
  have hiX3 : ∀ w ∈ u_ws RX3 TX3 12, w ∈ vs_f_X3_init := vs_f_X3_init_uX3
  subst hsz
  have hD := hD0.self (sz := s.heap.size)
  generalize hAe : va_A [(h, .inr (3, [.null, .null, .null, .int 0, .int 0, .int 0, .int 0, .int 0, .int 0, .int 0, .int 0, .int 0]))] s.heap.size = A at hD ⊢
  have hA : ∀ q : Nat, s.heap.size ≤ q → A q := fun q h => by rw [← hAe]; exact Or.inr h
  have hS : va_S A s.heap s.heap [] := va_S.rf
  have hP : va_P (dC, dI) vwCl [(h, .inr (3, [.null, .null, .null, .int 0, .int 0, .int 0, .int 0, .int 0, .int 0, .int 0, .int 0, .int 0]))] s.heap := hP
  have hl := lv_entry ([.ref h]) (n := 1) (Nat.le_of_ble_eq_true rfl)
  rw [lg_entry_eq]
  generalize (lg_sl ([.ref h]) ++ List.replicate (1 - (lg_sl ([.ref h])).length) Slot.unset).toArray = ls at hl ⊢
  have hl : lv_has ls 1 [(0, .ref h)] := hl
  refine lv_aload_n hx hb dX3_init_0 rfl (lv_at hl 0 rfl) ?_
  refine W.objInit hx hb hown (hts (.methodLink RX3 3 objectInit) (by decide +kernel)) (hts (.instanceMethod objectInit) (by decide +kernel)) (hts (.code objectInit ⟨#[0xb1]⟩ 1 none) (List.mem_of_getElem? (i := 1) rfl)) rfl (by rw [hml]; exact hl.1) rfl dX3_init_1 (Nat.le_of_ble_eq_true rfl) (Nat.le_of_ble_eq_true rfl) ?_
  refine W.eq (g2 := F0 m 4 ls []) rfl ?_
  refine lv_aload_n hx hb dX3_init_4 rfl (lv_at hl 0 rfl) ?_
  refine lv_iconst (v := 4) hx hb dX3_init_5 (by decide) ?_
  refine lv_sipush (v := 240) hx hb dX3_init_6 (by decide) ?_
  refine mna0 (n := 4) (k := 240) (N' := 4) (K' := 240) hx hb hown (hts (.classLink RX3 9 "[[I") (by decide +kernel)) hG (hts (.arrayClass .int) (by decide +kernel)) hK hP hD hS hA (by decide) (by decide) (by decide) (by decide) (Nat.le_of_ble_eq_true rfl) (Nat.le_of_ble_eq_true rfl) (Nat.le_of_ble_eq_true rfl) (Nat.le_of_ble_eq_true rfl) (Nat.le_of_ble_eq_true rfl) dX3_init_9 (fun q1 H hP hD hS => ?_)
  refine W.widen (k := 5) (n := 964) (Nat.le_of_ble_eq_true rfl) (Nat.le_of_ble_eq_true rfl) ?_
  refine va_putF (D := (dC, dI)) (ci := 3) (v := .ref q1) (ty := .array (.array .int)) (C := RX3) (T := TX3) (N := 12) hx hb hts hiX3 tyX3 tyX3_ok nmX3 hown hK hP hD hS 0 rfl rfl 0 (by decide) (hts (.fieldLink RX3 11 "WallChapels$Laws" "rows" "[[I") (by decide +kernel)) (fun _ h9 => h9) rfl hin rfl (by decide +kernel) rfl rfl (Nat.le_of_ble_eq_true rfl) dX3_init_13 (fun H locs hP hD hS => ?_)
  have hP : va_P (dC, dI) vwCl [(h, .inr (3, [.ref q1, .null, .null, .int 0, .int 0, .int 0, .int 0, .int 0, .int 0, .int 0, .int 0, .int 0]))] H := hP
  have hD : va_D A [(h, .inr (3, [.ref q1, .null, .null, .int 0, .int 0, .int 0, .int 0, .int 0, .int 0, .int 0, .int 0, .int 0]))] := hD
  refine lv_aload_n hx hb dX3_init_16 rfl (lv_at hl 0 rfl) ?_
  refine lv_iconst (v := 4) hx hb dX3_init_17 (by decide) ?_
  refine va_newa (atype := .int) (ty := .int) (a0 := (4, .inl (fun _ => 0))) hx hb (hts (.arrayClass .int) (by decide +kernel)) rfl hK hP hD hS hA (fun _ => rfl) (by decide) (by decide) (Nat.le_of_ble_eq_true rfl) (Nat.le_of_ble_eq_true rfl) (Nat.le_of_ble_eq_true rfl) dX3_init_18 (fun q2 c2 H hK hP hD hS => ?_)
  have hP : va_P (dC, dI) vwCl [(h, .inr (3, [.ref q1, .null, .null, .int 0, .int 0, .int 0, .int 0, .int 0, .int 0, .int 0, .int 0, .int 0])), (q2, .inl (c2, 4, .inl (fun _ => 0)))] H := hP
  have hD : va_D A [(h, .inr (3, [.ref q1, .null, .null, .int 0, .int 0, .int 0, .int 0, .int 0, .int 0, .int 0, .int 0, .int 0])), (q2, .inl (c2, 4, .inl (fun _ => 0)))] := hD
  have hK : va_K (dC, dI) vwCl [(c2, .int)] s := hK
  refine W.widen (k := 6) (n := 968) (Nat.le_of_ble_eq_true rfl) (Nat.le_of_ble_eq_true rfl) ?_
  refine va_putF (D := (dC, dI)) (ci := 3) (v := .ref q2) (ty := .array .int) (C := RX3) (T := TX3) (N := 12) hx hb hts hiX3 tyX3 tyX3_ok nmX3 hown hK hP hD hS 0 rfl rfl 1 (by decide) (hts (.fieldLink RX3 16 "WallChapels$Laws" "sizes" "[I") (by decide +kernel)) (fun _ h9 => h9) rfl hin rfl (by decide +kernel) rfl rfl (Nat.le_of_ble_eq_true rfl) dX3_init_20 (fun H locs hP hD hS => ?_)
  have hP : va_P (dC, dI) vwCl [(h, .inr (3, [.ref q1, .ref q2, .null, .int 0, .int 0, .int 0, .int 0, .int 0, .int 0, .int 0, .int 0, .int 0])), (q2, .inl (c2, 4, .inl (fun _ => 0)))] H := hP
  have hD : va_D A [(h, .inr (3, [.ref q1, .ref q2, .null, .int 0, .int 0, .int 0, .int 0, .int 0, .int 0, .int 0, .int 0, .int 0])), (q2, .inl (c2, 4, .inl (fun _ => 0)))] := hD
  refine lv_aload_n hx hb dX3_init_23 rfl (lv_at hl 0 rfl) ?_
  refine lv_bipush (v := 64) hx hb dX3_init_24 (by decide) ?_
  refine va_newa (atype := .int) (ty := .int) (a0 := (64, .inl (fun _ => 0))) hx hb (hts (.arrayClass .int) (by decide +kernel)) rfl hK hP hD hS hA (fun _ => rfl) (by decide) (by decide) (Nat.le_of_ble_eq_true rfl) (Nat.le_of_ble_eq_true rfl) (Nat.le_of_ble_eq_true rfl) dX3_init_26 (fun q3 c3 H hK hP hD hS => ?_)
  have hP : va_P (dC, dI) vwCl [(h, .inr (3, [.ref q1, .ref q2, .null, .int 0, .int 0, .int 0, .int 0, .int 0, .int 0, .int 0, .int 0, .int 0])), (q2, .inl (c2, 4, .inl (fun _ => 0))), (q3, .inl (c3, 64, .inl (fun _ => 0)))] H := hP
  have hD : va_D A [(h, .inr (3, [.ref q1, .ref q2, .null, .int 0, .int 0, .int 0, .int 0, .int 0, .int 0, .int 0, .int 0, .int 0])), (q2, .inl (c2, 4, .inl (fun _ => 0))), (q3, .inl (c3, 64, .inl (fun _ => 0)))] := hD
  have hK : va_K (dC, dI) vwCl [(c2, .int), (c3, .int)] s := hK
  refine W.widen (k := 7) (n := 1032) (Nat.le_of_ble_eq_true rfl) (Nat.le_of_ble_eq_true rfl) ?_
  refine va_putF (D := (dC, dI)) (ci := 3) (v := .ref q3) (ty := .array .int) (C := RX3) (T := TX3) (N := 12) hx hb hts hiX3 tyX3 tyX3_ok nmX3 hown hK hP hD hS 0 rfl rfl 2 (by decide) (hts (.fieldLink RX3 20 "WallChapels$Laws" "stack" "[I") (by decide +kernel)) (fun _ h9 => h9) rfl hin rfl (by decide +kernel) rfl rfl (Nat.le_of_ble_eq_true rfl) dX3_init_28 (fun H locs hP hD hS => ?_)
  have hP : va_P (dC, dI) vwCl [(h, .inr (3, [.ref q1, .ref q2, .ref q3, .int 0, .int 0, .int 0, .int 0, .int 0, .int 0, .int 0, .int 0, .int 0])), (q2, .inl (c2, 4, .inl (fun _ => 0))), (q3, .inl (c3, 64, .inl (fun _ => 0)))] H := hP
  have hD : va_D A [(h, .inr (3, [.ref q1, .ref q2, .ref q3, .int 0, .int 0, .int 0, .int 0, .int 0, .int 0, .int 0, .int 0, .int 0])), (q2, .inl (c2, 4, .inl (fun _ => 0))), (q3, .inl (c3, 64, .inl (fun _ => 0)))] := hD
  refine lv_aload_n hx hb dX3_init_31 rfl (lv_at hl 0 rfl) ?_
  refine lv_iconst (v := (-1)) hx hb dX3_init_32 (by decide) ?_
  refine va_put (D := (dC, dI)) (ci := 3) (v := .int (-1)) (ty := .int) (C := RX3) (T := TX3) (N := 12) hx hb hts hiX3 tyX3 tyX3_ok nmX3 hown hK hP hD hS 0 rfl rfl 5 (by decide) (hts (.fieldLink RX3 23 "WallChapels$Laws" "holding" "I") (by decide +kernel)) (fun _ h9 => h9) rfl (by decide +kernel) rfl rfl (Nat.le_of_ble_eq_true rfl) dX3_init_33 (fun H locs hP hD hS => ?_)
  have hP : va_P (dC, dI) vwCl [(h, .inr (3, [.ref q1, .ref q2, .ref q3, .int 0, .int 0, .int (-1), .int 0, .int 0, .int 0, .int 0, .int 0, .int 0])), (q2, .inl (c2, 4, .inl (fun _ => 0))), (q3, .inl (c3, 64, .inl (fun _ => 0)))] H := hP
  have hD : va_D A [(h, .inr (3, [.ref q1, .ref q2, .ref q3, .int 0, .int 0, .int (-1), .int 0, .int 0, .int 0, .int 0, .int 0, .int 0])), (q2, .inl (c2, 4, .inl (fun _ => 0))), (q3, .inl (c3, 64, .inl (fun _ => 0)))] := hD
  have hP9 := hP.sub (ws' := [(h, .inr (3, [.ref q1, .ref q2, .ref q3, .int 0, .int 0, .int (-1), .int 0, .int 0, .int 0, .int 0, .int 0, .int 0]))]) [0] rfl
  have hD9 := hD.sub (ws' := [(h, .inr (3, [.ref q1, .ref q2, .ref q3, .int 0, .int 0, .int (-1), .int 0, .int 0, .int 0, .int 0, .int 0, .int 0]))]) [0] (by decide) rfl
  have hK9 := hK.sub (tys' := []) [] rfl
  exact W.vret hx hb hr (fun t ht hW => ⟨⟨(), rfl, trivial, ⟨q1, q2, q3, by rw [ht]; exact hP9, va_K.moved hW.alike hK9, hD9⟩⟩, hS.F ht⟩) hS.2.2 dX3_init_36
def vs_f_X9_init : List Cond := .code yX9_init cX9_init 1 none :: ([.code objectInit ⟨#[0xb1]⟩ 1 none, .methodLink RX9 3 objectInit, .instanceMethod objectInit, .classLink RX9 9 "[[I", .arrayClass .int, .fieldLink RX9 11 "WallChapels$Walks" "stops" "[[I", .fieldLink RX9 16 "WallChapels$Walks" "lengths" "[I", .fieldLink RX9 20 "WallChapels$Walks" "draftStops" "[I"] ++ (u_ws RX9 TX9 5))
theorem vs_f_X9_init_uX9 : ∀ w ∈ u_ws RX9 TX9 5, w ∈ vs_f_X9_init := fun _ h => List.mem_cons_of_mem _ (List.mem_append_right _ (h))
set_option maxHeartbeats 4000000 in
set_option maxRecDepth 100000 in
theorem f_X9_init (l : Launch) (dC : Nat → ClassId) (dI : Nat → Nat → Nat) (sz : Nat) (h : Nat) : Met l yX9_init vs_f_X9_init ({ frames := 1, cells := 7, slots := 88, locals := 12 }) (va_Pc [.ref h] (cW dC dI [(h, .inr (9, [.null, .null, .null, .int 0, .int 0]))] [] sz)) (va_Qv (fun (_ : Unit) => True) (fun (_ : Unit) (t : State) => ∃ a0 : Nat, ∃ a1 : Nat, ∃ a2 : Nat, cB dC dI (va_A [(h, .inr (9, [.null, .null, .null, .int 0, .int 0]))] sz) [(h, .inr (9, [.ref a0, .ref a1, .ref a2, .int 0, .int 0]))] [] t) (va_A [(h, .inr (9, [.null, .null, .null, .int 0, .int 0]))] sz)) 7 88 (va_A [(h, .inr (9, [.null, .null, .null, .int 0, .int 0]))] sz) := by
  refine Met.ofW (cc := cX9_init) (maxL := 1) (ret := none) (by decide) rfl ?_
  intro p e s m args below meth c s₁ B hml hv
  obtain ⟨rfl, hsz, hP, hK, hD0, hG⟩ := hv
  have hx := B.exec
  have hb := B.bytes
  have hr := B.returns
  have hts := atoms_spec (ws := vs_f_X9_init) B.pre
  have hown : s.vm.findClass RX9 = some m.cls := findClass_of_methodNamed B.named
  have hlocks := B.notSynchronized
  have hin : meth.name = "<init>" := (name_of_methodNamed B.named B.method).1
  have hiX9 : ∀ w ∈ u_ws RX9 TX9 5, w ∈ vs_f_X9_init := vs_f_X9_init_uX9
  subst hsz
  have hD := hD0.self (sz := s.heap.size)
  generalize hAe : va_A [(h, .inr (9, [.null, .null, .null, .int 0, .int 0]))] s.heap.size = A at hD ⊢
  have hA : ∀ q : Nat, s.heap.size ≤ q → A q := fun q h => by rw [← hAe]; exact Or.inr h
  have hS : va_S A s.heap s.heap [] := va_S.rf
  have hP : va_P (dC, dI) vwCl [(h, .inr (9, [.null, .null, .null, .int 0, .int 0]))] s.heap := hP
  have hl := lv_entry ([.ref h]) (n := 1) (Nat.le_of_ble_eq_true rfl)
  rw [lg_entry_eq]
  generalize (lg_sl ([.ref h]) ++ List.replicate (1 - (lg_sl ([.ref h])).length) Slot.unset).toArray = ls at hl ⊢
  have hl : lv_has ls 1 [(0, .ref h)] := hl
  refine lv_aload_n hx hb dX9_init_0 rfl (lv_at hl 0 rfl) ?_
  refine W.objInit hx hb hown (hts (.methodLink RX9 3 objectInit) (by decide +kernel)) (hts (.instanceMethod objectInit) (by decide +kernel)) (hts (.code objectInit ⟨#[0xb1]⟩ 1 none) (List.mem_of_getElem? (i := 1) rfl)) rfl (by rw [hml]; exact hl.1) rfl dX9_init_1 (Nat.le_of_ble_eq_true rfl) (Nat.le_of_ble_eq_true rfl) ?_
  refine W.eq (g2 := F0 m 4 ls []) rfl ?_
  refine lv_aload_n hx hb dX9_init_4 rfl (lv_at hl 0 rfl) ?_
  refine lv_iconst (v := 4) hx hb dX9_init_5 (by decide) ?_
  refine lv_bipush (v := 16) hx hb dX9_init_6 (by decide) ?_
  refine mna0 (n := 4) (k := 16) (N' := 4) (K' := 16) hx hb hown (hts (.classLink RX9 9 "[[I") (by decide +kernel)) hG (hts (.arrayClass .int) (by decide +kernel)) hK hP hD hS hA (by decide) (by decide) (by decide) (by decide) (Nat.le_of_ble_eq_true rfl) (Nat.le_of_ble_eq_true rfl) (Nat.le_of_ble_eq_true rfl) (Nat.le_of_ble_eq_true rfl) (Nat.le_of_ble_eq_true rfl) dX9_init_8 (fun q1 H hP hD hS => ?_)
  refine W.widen (k := 5) (n := 68) (Nat.le_of_ble_eq_true rfl) (Nat.le_of_ble_eq_true rfl) ?_
  refine va_putF (D := (dC, dI)) (ci := 9) (v := .ref q1) (ty := .array (.array .int)) (C := RX9) (T := TX9) (N := 5) hx hb hts hiX9 tyX9 tyX9_ok nmX9 hown hK hP hD hS 0 rfl rfl 0 (by decide) (hts (.fieldLink RX9 11 "WallChapels$Walks" "stops" "[[I") (by decide +kernel)) (fun _ h9 => h9) rfl hin rfl (by decide +kernel) rfl rfl (Nat.le_of_ble_eq_true rfl) dX9_init_12 (fun H locs hP hD hS => ?_)
  have hP : va_P (dC, dI) vwCl [(h, .inr (9, [.ref q1, .null, .null, .int 0, .int 0]))] H := hP
  have hD : va_D A [(h, .inr (9, [.ref q1, .null, .null, .int 0, .int 0]))] := hD
  refine lv_aload_n hx hb dX9_init_15 rfl (lv_at hl 0 rfl) ?_
  refine lv_iconst (v := 4) hx hb dX9_init_16 (by decide) ?_
  refine va_newa (atype := .int) (ty := .int) (a0 := (4, .inl (fun _ => 0))) hx hb (hts (.arrayClass .int) (by decide +kernel)) rfl hK hP hD hS hA (fun _ => rfl) (by decide) (by decide) (Nat.le_of_ble_eq_true rfl) (Nat.le_of_ble_eq_true rfl) (Nat.le_of_ble_eq_true rfl) dX9_init_17 (fun q2 c2 H hK hP hD hS => ?_)
  have hP : va_P (dC, dI) vwCl [(h, .inr (9, [.ref q1, .null, .null, .int 0, .int 0])), (q2, .inl (c2, 4, .inl (fun _ => 0)))] H := hP
  have hD : va_D A [(h, .inr (9, [.ref q1, .null, .null, .int 0, .int 0])), (q2, .inl (c2, 4, .inl (fun _ => 0)))] := hD
  have hK : va_K (dC, dI) vwCl [(c2, .int)] s := hK
  refine W.widen (k := 6) (n := 72) (Nat.le_of_ble_eq_true rfl) (Nat.le_of_ble_eq_true rfl) ?_
  refine va_putF (D := (dC, dI)) (ci := 9) (v := .ref q2) (ty := .array .int) (C := RX9) (T := TX9) (N := 5) hx hb hts hiX9 tyX9 tyX9_ok nmX9 hown hK hP hD hS 0 rfl rfl 1 (by decide) (hts (.fieldLink RX9 16 "WallChapels$Walks" "lengths" "[I") (by decide +kernel)) (fun _ h9 => h9) rfl hin rfl (by decide +kernel) rfl rfl (Nat.le_of_ble_eq_true rfl) dX9_init_19 (fun H locs hP hD hS => ?_)
  have hP : va_P (dC, dI) vwCl [(h, .inr (9, [.ref q1, .ref q2, .null, .int 0, .int 0])), (q2, .inl (c2, 4, .inl (fun _ => 0)))] H := hP
  have hD : va_D A [(h, .inr (9, [.ref q1, .ref q2, .null, .int 0, .int 0])), (q2, .inl (c2, 4, .inl (fun _ => 0)))] := hD
  refine lv_aload_n hx hb dX9_init_22 rfl (lv_at hl 0 rfl) ?_
  refine lv_bipush (v := 16) hx hb dX9_init_23 (by decide) ?_
  refine va_newa (atype := .int) (ty := .int) (a0 := (16, .inl (fun _ => 0))) hx hb (hts (.arrayClass .int) (by decide +kernel)) rfl hK hP hD hS hA (fun _ => rfl) (by decide) (by decide) (Nat.le_of_ble_eq_true rfl) (Nat.le_of_ble_eq_true rfl) (Nat.le_of_ble_eq_true rfl) dX9_init_25 (fun q3 c3 H hK hP hD hS => ?_)
  have hP : va_P (dC, dI) vwCl [(h, .inr (9, [.ref q1, .ref q2, .null, .int 0, .int 0])), (q2, .inl (c2, 4, .inl (fun _ => 0))), (q3, .inl (c3, 16, .inl (fun _ => 0)))] H := hP
  have hD : va_D A [(h, .inr (9, [.ref q1, .ref q2, .null, .int 0, .int 0])), (q2, .inl (c2, 4, .inl (fun _ => 0))), (q3, .inl (c3, 16, .inl (fun _ => 0)))] := hD
  have hK : va_K (dC, dI) vwCl [(c2, .int), (c3, .int)] s := hK
  refine W.widen (k := 7) (n := 88) (Nat.le_of_ble_eq_true rfl) (Nat.le_of_ble_eq_true rfl) ?_
  refine va_putF (D := (dC, dI)) (ci := 9) (v := .ref q3) (ty := .array .int) (C := RX9) (T := TX9) (N := 5) hx hb hts hiX9 tyX9 tyX9_ok nmX9 hown hK hP hD hS 0 rfl rfl 2 (by decide) (hts (.fieldLink RX9 20 "WallChapels$Walks" "draftStops" "[I") (by decide +kernel)) (fun _ h9 => h9) rfl hin rfl (by decide +kernel) rfl rfl (Nat.le_of_ble_eq_true rfl) dX9_init_27 (fun H locs hP hD hS => ?_)
  have hP : va_P (dC, dI) vwCl [(h, .inr (9, [.ref q1, .ref q2, .ref q3, .int 0, .int 0])), (q2, .inl (c2, 4, .inl (fun _ => 0))), (q3, .inl (c3, 16, .inl (fun _ => 0)))] H := hP
  have hD : va_D A [(h, .inr (9, [.ref q1, .ref q2, .ref q3, .int 0, .int 0])), (q2, .inl (c2, 4, .inl (fun _ => 0))), (q3, .inl (c3, 16, .inl (fun _ => 0)))] := hD
  have hP9 := hP.sub (ws' := [(h, .inr (9, [.ref q1, .ref q2, .ref q3, .int 0, .int 0]))]) [0] rfl
  have hD9 := hD.sub (ws' := [(h, .inr (9, [.ref q1, .ref q2, .ref q3, .int 0, .int 0]))]) [0] (by decide) rfl
  have hK9 := hK.sub (tys' := []) [] rfl
  exact W.vret hx hb hr (fun t ht hW => ⟨⟨(), rfl, trivial, ⟨q1, q2, q3, by rw [ht]; exact hP9, va_K.moved hW.alike hK9, hD9⟩⟩, hS.F ht⟩) hS.2.2 dX9_init_30
def vs_f_X10_init : List Cond := .code yX10_init cX10_init 1 none :: ([.code objectInit ⟨#[0xb1]⟩ 1 none, .methodLink RX10 3 objectInit, .instanceMethod objectInit, .classLink RX10 9 "[[I", .arrayClass .int, .fieldLink RX10 11 "WallChapels$Ways" "steps" "[[I", .fieldLink RX10 16 "WallChapels$Ways" "costs" "[[I", .fieldLink RX10 19 "WallChapels$Ways" "feasts" "[I"] ++ (u_ws RX10 TX10 4))
theorem vs_f_X10_init_uX10 : ∀ w ∈ u_ws RX10 TX10 4, w ∈ vs_f_X10_init := fun _ h => List.mem_cons_of_mem _ (List.mem_append_right _ (h))
set_option maxHeartbeats 4000000 in
set_option maxRecDepth 100000 in
theorem f_X10_init (l : Launch) (dC : Nat → ClassId) (dI : Nat → Nat → Nat) (sz : Nat) (h : Nat) : Met l yX10_init vs_f_X10_init ({ frames := 1, cells := 19, slots := 2192, locals := 12 }) (va_Pc [.ref h] (cW dC dI [(h, .inr (10, [.null, .null, .null, .int 0]))] [] sz)) (va_Qv (fun (_ : Unit) => True) (fun (_ : Unit) (t : State) => ∃ a0 : Nat, ∃ a1 : Nat, ∃ a2 : Nat, cB dC dI (va_A [(h, .inr (10, [.null, .null, .null, .int 0]))] sz) [(h, .inr (10, [.ref a0, .ref a1, .ref a2, .int 0]))] [] t) (va_A [(h, .inr (10, [.null, .null, .null, .int 0]))] sz)) 19 2192 (va_A [(h, .inr (10, [.null, .null, .null, .int 0]))] sz) := by
  refine Met.ofW (cc := cX10_init) (maxL := 1) (ret := none) (by decide) rfl ?_
  intro p e s m args below meth c s₁ B hml hv
  obtain ⟨rfl, hsz, hP, hK, hD0, hG⟩ := hv
  have hx := B.exec
  have hb := B.bytes
  have hr := B.returns
  have hts := atoms_spec (ws := vs_f_X10_init) B.pre
  have hown : s.vm.findClass RX10 = some m.cls := findClass_of_methodNamed B.named
  have hlocks := B.notSynchronized
  have hin : meth.name = "<init>" := (name_of_methodNamed B.named B.method).1
  have hiX10 : ∀ w ∈ u_ws RX10 TX10 4, w ∈ vs_f_X10_init := vs_f_X10_init_uX10
  subst hsz
  have hD := hD0.self (sz := s.heap.size)
  generalize hAe : va_A [(h, .inr (10, [.null, .null, .null, .int 0]))] s.heap.size = A at hD ⊢
  have hA : ∀ q : Nat, s.heap.size ≤ q → A q := fun q h => by rw [← hAe]; exact Or.inr h
  have hS : va_S A s.heap s.heap [] := va_S.rf
  have hP : va_P (dC, dI) vwCl [(h, .inr (10, [.null, .null, .null, .int 0]))] s.heap := hP
  have hl := lv_entry ([.ref h]) (n := 1) (Nat.le_of_ble_eq_true rfl)
  rw [lg_entry_eq]
  generalize (lg_sl ([.ref h]) ++ List.replicate (1 - (lg_sl ([.ref h])).length) Slot.unset).toArray = ls at hl ⊢
  have hl : lv_has ls 1 [(0, .ref h)] := hl
  refine lv_aload_n hx hb dX10_init_0 rfl (lv_at hl 0 rfl) ?_
  refine W.objInit hx hb hown (hts (.methodLink RX10 3 objectInit) (by decide +kernel)) (hts (.instanceMethod objectInit) (by decide +kernel)) (hts (.code objectInit ⟨#[0xb1]⟩ 1 none) (List.mem_of_getElem? (i := 1) rfl)) rfl (by rw [hml]; exact hl.1) rfl dX10_init_1 (Nat.le_of_ble_eq_true rfl) (Nat.le_of_ble_eq_true rfl) ?_
  refine W.eq (g2 := F0 m 4 ls []) rfl ?_
  refine lv_aload_n hx hb dX10_init_4 rfl (lv_at hl 0 rfl) ?_
  refine lv_bipush (v := 8) hx hb dX10_init_5 (by decide) ?_
  refine lv_bipush (v := 8) hx hb dX10_init_7 (by decide) ?_
  refine mna0 (n := 8) (k := 8) (N' := 8) (K' := 8) hx hb hown (hts (.classLink RX10 9 "[[I") (by decide +kernel)) hG (hts (.arrayClass .int) (by decide +kernel)) hK hP hD hS hA (by decide) (by decide) (by decide) (by decide) (Nat.le_of_ble_eq_true rfl) (Nat.le_of_ble_eq_true rfl) (Nat.le_of_ble_eq_true rfl) (Nat.le_of_ble_eq_true rfl) (Nat.le_of_ble_eq_true rfl) dX10_init_9 (fun q1 H hP hD hS => ?_)
  refine W.widen (k := 9) (n := 72) (Nat.le_of_ble_eq_true rfl) (Nat.le_of_ble_eq_true rfl) ?_
  refine va_putF (D := (dC, dI)) (ci := 10) (v := .ref q1) (ty := .array (.array .int)) (C := RX10) (T := TX10) (N := 4) hx hb hts hiX10 tyX10 tyX10_ok nmX10 hown hK hP hD hS 0 rfl rfl 0 (by decide) (hts (.fieldLink RX10 11 "WallChapels$Ways" "steps" "[[I") (by decide +kernel)) (fun _ h9 => h9) rfl hin rfl (by decide +kernel) rfl rfl (Nat.le_of_ble_eq_true rfl) dX10_init_13 (fun H locs hP hD hS => ?_)
  have hP : va_P (dC, dI) vwCl [(h, .inr (10, [.ref q1, .null, .null, .int 0]))] H := hP
  have hD : va_D A [(h, .inr (10, [.ref q1, .null, .null, .int 0]))] := hD
  refine lv_aload_n hx hb dX10_init_16 rfl (lv_at hl 0 rfl) ?_
  refine lv_bipush (v := 8) hx hb dX10_init_17 (by decide) ?_
  refine lv_bipush (v := 8) hx hb dX10_init_19 (by decide) ?_
  refine mna0 (n := 8) (k := 8) (N' := 8) (K' := 8) hx hb hown (hts (.classLink RX10 9 "[[I") (by decide +kernel)) hG (hts (.arrayClass .int) (by decide +kernel)) hK hP hD hS hA (by decide) (by decide) (by decide) (by decide) (Nat.le_of_ble_eq_true rfl) (Nat.le_of_ble_eq_true rfl) (Nat.le_of_ble_eq_true rfl) (Nat.le_of_ble_eq_true rfl) (Nat.le_of_ble_eq_true rfl) dX10_init_21 (fun q2 H hP hD hS => ?_)
  refine W.widen (k := 18) (n := 144) (Nat.le_of_ble_eq_true rfl) (Nat.le_of_ble_eq_true rfl) ?_
  refine va_putF (D := (dC, dI)) (ci := 10) (v := .ref q2) (ty := .array (.array .int)) (C := RX10) (T := TX10) (N := 4) hx hb hts hiX10 tyX10 tyX10_ok nmX10 hown hK hP hD hS 0 rfl rfl 1 (by decide) (hts (.fieldLink RX10 16 "WallChapels$Ways" "costs" "[[I") (by decide +kernel)) (fun _ h9 => h9) rfl hin rfl (by decide +kernel) rfl rfl (Nat.le_of_ble_eq_true rfl) dX10_init_25 (fun H locs hP hD hS => ?_)
  have hP : va_P (dC, dI) vwCl [(h, .inr (10, [.ref q1, .ref q2, .null, .int 0]))] H := hP
  have hD : va_D A [(h, .inr (10, [.ref q1, .ref q2, .null, .int 0]))] := hD
  refine lv_aload_n hx hb dX10_init_28 rfl (lv_at hl 0 rfl) ?_
  refine lv_sipush (v := 2048) hx hb dX10_init_29 (by decide) ?_
  refine va_newa (atype := .int) (ty := .int) (a0 := (2048, .inl (fun _ => 0))) hx hb (hts (.arrayClass .int) (by decide +kernel)) rfl hK hP hD hS hA (fun _ => rfl) (by decide) (by decide) (Nat.le_of_ble_eq_true rfl) (Nat.le_of_ble_eq_true rfl) (Nat.le_of_ble_eq_true rfl) dX10_init_32 (fun q3 c3 H hK hP hD hS => ?_)
  have hP : va_P (dC, dI) vwCl [(h, .inr (10, [.ref q1, .ref q2, .null, .int 0])), (q3, .inl (c3, 2048, .inl (fun _ => 0)))] H := hP
  have hD : va_D A [(h, .inr (10, [.ref q1, .ref q2, .null, .int 0])), (q3, .inl (c3, 2048, .inl (fun _ => 0)))] := hD
  have hK : va_K (dC, dI) vwCl [(c3, .int)] s := hK
  refine W.widen (k := 19) (n := 2192) (Nat.le_of_ble_eq_true rfl) (Nat.le_of_ble_eq_true rfl) ?_
  refine va_putF (D := (dC, dI)) (ci := 10) (v := .ref q3) (ty := .array .int) (C := RX10) (T := TX10) (N := 4) hx hb hts hiX10 tyX10 tyX10_ok nmX10 hown hK hP hD hS 0 rfl rfl 2 (by decide) (hts (.fieldLink RX10 19 "WallChapels$Ways" "feasts" "[I") (by decide +kernel)) (fun _ h9 => h9) rfl hin rfl (by decide +kernel) rfl rfl (Nat.le_of_ble_eq_true rfl) dX10_init_34 (fun H locs hP hD hS => ?_)
  have hP : va_P (dC, dI) vwCl [(h, .inr (10, [.ref q1, .ref q2, .ref q3, .int 0])), (q3, .inl (c3, 2048, .inl (fun _ => 0)))] H := hP
  have hD : va_D A [(h, .inr (10, [.ref q1, .ref q2, .ref q3, .int 0])), (q3, .inl (c3, 2048, .inl (fun _ => 0)))] := hD
  have hP9 := hP.sub (ws' := [(h, .inr (10, [.ref q1, .ref q2, .ref q3, .int 0]))]) [0] rfl
  have hD9 := hD.sub (ws' := [(h, .inr (10, [.ref q1, .ref q2, .ref q3, .int 0]))]) [0] (by decide) rfl
  have hK9 := hK.sub (tys' := []) [] rfl
  exact W.vret hx hb hr (fun t ht hW => ⟨⟨(), rfl, trivial, ⟨q1, q2, q3, by rw [ht]; exact hP9, va_K.moved hW.alike hK9, hD9⟩⟩, hS.F ht⟩) hS.2.2 dX10_init_37
def vs_f_X1_init : List Cond := .code yX1_init cX1_init 4 none :: ([.code objectInit ⟨#[0xb1]⟩ 1 none, .methodLink RX1 3 objectInit, .instanceMethod objectInit, .fieldLink RX1 9 "WallChapels$Custom" "plan" "LWallChapels$Plan;", .fieldLink RX1 15 "WallChapels$Custom" "ways" "LWallChapels$Ways;", .fieldLink RX1 19 "WallChapels$Custom" "laws" "LWallChapels$Laws;"] ++ (u_ws RX1 TX1 7))
theorem vs_f_X1_init_uX1 : ∀ w ∈ u_ws RX1 TX1 7, w ∈ vs_f_X1_init := fun _ h => List.mem_cons_of_mem _ (List.mem_append_right _ (h))
set_option maxHeartbeats 4000000 in
set_option maxRecDepth 100000 in
theorem f_X1_init (l : Launch) (dC : Nat → ClassId) (dI : Nat → Nat → Nat) (sz : Nat) (h : Nat) (b1 : Nat) (b2 : Nat) (b3 : Nat) : Met l yX1_init vs_f_X1_init ({ frames := 1, cells := 0, slots := 0, locals := 12 }) (va_Pc [.ref h, .ref b1, .ref b2, .ref b3] (cW dC dI [(h, .inr (1, [.null, .null, .null, .int 0, .int 0, .int 0, .int 0]))] [] sz)) (va_Qv (fun (_ : Unit) => True) (fun (_ : Unit) (t : State) => cB dC dI (va_A [(h, .inr (1, [.null, .null, .null, .int 0, .int 0, .int 0, .int 0]))] sz) [(h, .inr (1, [.ref b1, .ref b2, .ref b3, .int 0, .int 0, .int 0, .int 0]))] [] t) (va_A [(h, .inr (1, [.null, .null, .null, .int 0, .int 0, .int 0, .int 0]))] sz)) 0 0 (va_A [(h, .inr (1, [.null, .null, .null, .int 0, .int 0, .int 0, .int 0]))] sz) := by
  refine Met.ofW (cc := cX1_init) (maxL := 4) (ret := none) (by decide) rfl ?_
  intro p e s m args below meth c s₁ B hml hv
  obtain ⟨rfl, hsz, hP, hK, hD0, hG⟩ := hv
  have hx := B.exec
  have hb := B.bytes
  have hr := B.returns
  have hts := atoms_spec (ws := vs_f_X1_init) B.pre
  have hown : s.vm.findClass RX1 = some m.cls := findClass_of_methodNamed B.named
  have hlocks := B.notSynchronized
  have hin : meth.name = "<init>" := (name_of_methodNamed B.named B.method).1
  have hiX1 : ∀ w ∈ u_ws RX1 TX1 7, w ∈ vs_f_X1_init := vs_f_X1_init_uX1
  subst hsz
  have hD := hD0.self (sz := s.heap.size)
  generalize hAe : va_A [(h, .inr (1, [.null, .null, .null, .int 0, .int 0, .int 0, .int 0]))] s.heap.size = A at hD ⊢
  have hA : ∀ q : Nat, s.heap.size ≤ q → A q := fun q h => by rw [← hAe]; exact Or.inr h
  have hS : va_S A s.heap s.heap [] := va_S.rf
  have hP : va_P (dC, dI) vwCl [(h, .inr (1, [.null, .null, .null, .int 0, .int 0, .int 0, .int 0]))] s.heap := hP
  have hl := lv_entry ([.ref h, .ref b1, .ref b2, .ref b3]) (n := 4) (Nat.le_of_ble_eq_true rfl)
  rw [lg_entry_eq]
  generalize (lg_sl ([.ref h, .ref b1, .ref b2, .ref b3]) ++ List.replicate (4 - (lg_sl ([.ref h, .ref b1, .ref b2, .ref b3])).length) Slot.unset).toArray = ls at hl ⊢
  have hl : lv_has ls 4 [(0, .ref h), (1, .ref b1), (2, .ref b2), (3, .ref b3)] := hl
  refine lv_aload_n hx hb dX1_init_0 rfl (lv_at hl 0 rfl) ?_
  refine W.objInit hx hb hown (hts (.methodLink RX1 3 objectInit) (by decide +kernel)) (hts (.instanceMethod objectInit) (by decide +kernel)) (hts (.code objectInit ⟨#[0xb1]⟩ 1 none) (List.mem_of_getElem? (i := 1) rfl)) rfl (by rw [hml]; exact hl.1) rfl dX1_init_1 (Nat.le_of_ble_eq_true rfl) (Nat.le_of_ble_eq_true rfl) ?_
  refine W.eq (g2 := F0 m 4 ls []) rfl ?_
  refine lv_aload_n hx hb dX1_init_4 rfl (lv_at hl 0 rfl) ?_
  refine lv_aload_n hx hb dX1_init_5 rfl (lv_at hl 1 rfl) ?_
  refine va_putF (D := (dC, dI)) (ci := 1) (v := .ref b1) (ty := .object "WallChapels$Plan") (C := RX1) (T := TX1) (N := 7) hx hb hts hiX1 tyX1 tyX1_ok nmX1 hown hK hP hD hS 0 rfl rfl 0 (by decide) (hts (.fieldLink RX1 9 "WallChapels$Custom" "plan" "LWallChapels$Plan;") (by decide +kernel)) (fun _ h9 => h9) rfl hin rfl (by decide +kernel) rfl rfl (Nat.le_of_ble_eq_true rfl) dX1_init_6 (fun H locs hP hD hS => ?_)
  have hP : va_P (dC, dI) vwCl [(h, .inr (1, [.ref b1, .null, .null, .int 0, .int 0, .int 0, .int 0]))] H := hP
  have hD : va_D A [(h, .inr (1, [.ref b1, .null, .null, .int 0, .int 0, .int 0, .int 0]))] := hD
  refine lv_aload_n hx hb dX1_init_9 rfl (lv_at hl 0 rfl) ?_
  refine lv_aload_n hx hb dX1_init_10 rfl (lv_at hl 2 rfl) ?_
  refine va_putF (D := (dC, dI)) (ci := 1) (v := .ref b2) (ty := .object "WallChapels$Ways") (C := RX1) (T := TX1) (N := 7) hx hb hts hiX1 tyX1 tyX1_ok nmX1 hown hK hP hD hS 0 rfl rfl 1 (by decide) (hts (.fieldLink RX1 15 "WallChapels$Custom" "ways" "LWallChapels$Ways;") (by decide +kernel)) (fun _ h9 => h9) rfl hin rfl (by decide +kernel) rfl rfl (Nat.le_of_ble_eq_true rfl) dX1_init_11 (fun H locs hP hD hS => ?_)
  have hP : va_P (dC, dI) vwCl [(h, .inr (1, [.ref b1, .ref b2, .null, .int 0, .int 0, .int 0, .int 0]))] H := hP
  have hD : va_D A [(h, .inr (1, [.ref b1, .ref b2, .null, .int 0, .int 0, .int 0, .int 0]))] := hD
  refine lv_aload_n hx hb dX1_init_14 rfl (lv_at hl 0 rfl) ?_
  refine lv_aload_n hx hb dX1_init_15 rfl (lv_at hl 3 rfl) ?_
  refine va_putF (D := (dC, dI)) (ci := 1) (v := .ref b3) (ty := .object "WallChapels$Laws") (C := RX1) (T := TX1) (N := 7) hx hb hts hiX1 tyX1 tyX1_ok nmX1 hown hK hP hD hS 0 rfl rfl 2 (by decide) (hts (.fieldLink RX1 19 "WallChapels$Custom" "laws" "LWallChapels$Laws;") (by decide +kernel)) (fun _ h9 => h9) rfl hin rfl (by decide +kernel) rfl rfl (Nat.le_of_ble_eq_true rfl) dX1_init_16 (fun H locs hP hD hS => ?_)
  have hP : va_P (dC, dI) vwCl [(h, .inr (1, [.ref b1, .ref b2, .ref b3, .int 0, .int 0, .int 0, .int 0]))] H := hP
  have hD : va_D A [(h, .inr (1, [.ref b1, .ref b2, .ref b3, .int 0, .int 0, .int 0, .int 0]))] := hD
  have hP9 := hP.sub (ws' := [(h, .inr (1, [.ref b1, .ref b2, .ref b3, .int 0, .int 0, .int 0, .int 0]))]) [0] rfl
  have hD9 := hD.sub (ws' := [(h, .inr (1, [.ref b1, .ref b2, .ref b3, .int 0, .int 0, .int 0, .int 0]))]) [0] (by decide) rfl
  have hK9 := hK.sub (tys' := []) [] rfl
  exact W.vret hx hb hr (fun t ht hW => ⟨⟨(), rfl, trivial, ⟨by rw [ht]; exact hP9, va_K.moved hW.alike hK9, hD9⟩⟩, hS.F ht⟩) hS.2.2 dX1_init_19
def vs_f_X7_init : List Cond := .code yX7_init cX7_init 1 none :: ([.code objectInit ⟨#[0xb1]⟩ 1 none, .methodLink RX7 3 objectInit, .instanceMethod objectInit, .arrayClass .int, .fieldLink RX7 9 "WallChapels$Sightings" "corners" "[I", .arrayClass .boolean, .fieldLink RX7 15 "WallChapels$Sightings" "chapels" "[Z", .fieldLink RX7 19 "WallChapels$Sightings" "fitting" "[I", .fieldLink RX7 22 "WallChapels$Sightings" "fittingChapels" "[I"] ++ (u_ws RX7 TX7 6))
theorem vs_f_X7_init_uX7 : ∀ w ∈ u_ws RX7 TX7 6, w ∈ vs_f_X7_init := fun _ h => List.mem_cons_of_mem _ (List.mem_append_right _ (h))
set_option maxHeartbeats 4000000 in
set_option maxRecDepth 100000 in
theorem f_X7_init (l : Launch) (dC : Nat → ClassId) (dI : Nat → Nat → Nat) (sz : Nat) (h : Nat) : Met l yX7_init vs_f_X7_init ({ frames := 1, cells := 4, slots := 46, locals := 12 }) (va_Pc [.ref h] (cW dC dI [(h, .inr (7, [.null, .null, .null, .null, .int 0, .int 0]))] [] sz)) (va_Qv (fun (_ : Unit) => True) (fun (_ : Unit) (t : State) => ∃ a0 : Nat, ∃ a1 : Nat, ∃ a2 : Nat, ∃ a3 : Nat, cB dC dI (va_A [(h, .inr (7, [.null, .null, .null, .null, .int 0, .int 0]))] sz) [(h, .inr (7, [.ref a0, .ref a1, .ref a2, .ref a3, .int 0, .int 0]))] [] t) (va_A [(h, .inr (7, [.null, .null, .null, .null, .int 0, .int 0]))] sz)) 4 46 (va_A [(h, .inr (7, [.null, .null, .null, .null, .int 0, .int 0]))] sz) := by
  refine Met.ofW (cc := cX7_init) (maxL := 1) (ret := none) (by decide) rfl ?_
  intro p e s m args below meth c s₁ B hml hv
  obtain ⟨rfl, hsz, hP, hK, hD0, hG⟩ := hv
  have hx := B.exec
  have hb := B.bytes
  have hr := B.returns
  have hts := atoms_spec (ws := vs_f_X7_init) B.pre
  have hown : s.vm.findClass RX7 = some m.cls := findClass_of_methodNamed B.named
  have hlocks := B.notSynchronized
  have hin : meth.name = "<init>" := (name_of_methodNamed B.named B.method).1
  have hiX7 : ∀ w ∈ u_ws RX7 TX7 6, w ∈ vs_f_X7_init := vs_f_X7_init_uX7
  subst hsz
  have hD := hD0.self (sz := s.heap.size)
  generalize hAe : va_A [(h, .inr (7, [.null, .null, .null, .null, .int 0, .int 0]))] s.heap.size = A at hD ⊢
  have hA : ∀ q : Nat, s.heap.size ≤ q → A q := fun q h => by rw [← hAe]; exact Or.inr h
  have hS : va_S A s.heap s.heap [] := va_S.rf
  have hP : va_P (dC, dI) vwCl [(h, .inr (7, [.null, .null, .null, .null, .int 0, .int 0]))] s.heap := hP
  have hl := lv_entry ([.ref h]) (n := 1) (Nat.le_of_ble_eq_true rfl)
  rw [lg_entry_eq]
  generalize (lg_sl ([.ref h]) ++ List.replicate (1 - (lg_sl ([.ref h])).length) Slot.unset).toArray = ls at hl ⊢
  have hl : lv_has ls 1 [(0, .ref h)] := hl
  refine lv_aload_n hx hb dX7_init_0 rfl (lv_at hl 0 rfl) ?_
  refine W.objInit hx hb hown (hts (.methodLink RX7 3 objectInit) (by decide +kernel)) (hts (.instanceMethod objectInit) (by decide +kernel)) (hts (.code objectInit ⟨#[0xb1]⟩ 1 none) (List.mem_of_getElem? (i := 1) rfl)) rfl (by rw [hml]; exact hl.1) rfl dX7_init_1 (Nat.le_of_ble_eq_true rfl) (Nat.le_of_ble_eq_true rfl) ?_
  refine W.eq (g2 := F0 m 4 ls []) rfl ?_
  refine lv_aload_n hx hb dX7_init_4 rfl (lv_at hl 0 rfl) ?_
  refine lv_bipush (v := 10) hx hb dX7_init_5 (by decide) ?_
  refine va_newa (atype := .int) (ty := .int) (a0 := (10, .inl (fun _ => 0))) hx hb (hts (.arrayClass .int) (by decide +kernel)) rfl hK hP hD hS hA (fun _ => rfl) (by decide) (by decide) (Nat.le_of_ble_eq_true rfl) (Nat.le_of_ble_eq_true rfl) (Nat.le_of_ble_eq_true rfl) dX7_init_7 (fun q1 c1 H hK hP hD hS => ?_)
  have hP : va_P (dC, dI) vwCl [(h, .inr (7, [.null, .null, .null, .null, .int 0, .int 0])), (q1, .inl (c1, 10, .inl (fun _ => 0)))] H := hP
  have hD : va_D A [(h, .inr (7, [.null, .null, .null, .null, .int 0, .int 0])), (q1, .inl (c1, 10, .inl (fun _ => 0)))] := hD
  have hK : va_K (dC, dI) vwCl [(c1, .int)] s := hK
  refine W.widen (k := 1) (n := 10) (Nat.le_of_ble_eq_true rfl) (Nat.le_of_ble_eq_true rfl) ?_
  refine va_putF (D := (dC, dI)) (ci := 7) (v := .ref q1) (ty := .array .int) (C := RX7) (T := TX7) (N := 6) hx hb hts hiX7 tyX7 tyX7_ok nmX7 hown hK hP hD hS 0 rfl rfl 0 (by decide) (hts (.fieldLink RX7 9 "WallChapels$Sightings" "corners" "[I") (by decide +kernel)) (fun _ h9 => h9) rfl hin rfl (by decide +kernel) rfl rfl (Nat.le_of_ble_eq_true rfl) dX7_init_9 (fun H locs hP hD hS => ?_)
  have hP : va_P (dC, dI) vwCl [(h, .inr (7, [.ref q1, .null, .null, .null, .int 0, .int 0])), (q1, .inl (c1, 10, .inl (fun _ => 0)))] H := hP
  have hD : va_D A [(h, .inr (7, [.ref q1, .null, .null, .null, .int 0, .int 0])), (q1, .inl (c1, 10, .inl (fun _ => 0)))] := hD
  refine lv_aload_n hx hb dX7_init_12 rfl (lv_at hl 0 rfl) ?_
  refine lv_bipush (v := 10) hx hb dX7_init_13 (by decide) ?_
  refine va_newa (atype := .boolean) (ty := .boolean) (a0 := (10, .inl (fun _ => 0))) hx hb (hts (.arrayClass .boolean) (by decide +kernel)) rfl hK hP hD hS hA (fun _ => rfl) (by decide) (by decide) (Nat.le_of_ble_eq_true rfl) (Nat.le_of_ble_eq_true rfl) (Nat.le_of_ble_eq_true rfl) dX7_init_15 (fun q2 c2 H hK hP hD hS => ?_)
  have hP : va_P (dC, dI) vwCl [(h, .inr (7, [.ref q1, .null, .null, .null, .int 0, .int 0])), (q1, .inl (c1, 10, .inl (fun _ => 0))), (q2, .inl (c2, 10, .inl (fun _ => 0)))] H := hP
  have hD : va_D A [(h, .inr (7, [.ref q1, .null, .null, .null, .int 0, .int 0])), (q1, .inl (c1, 10, .inl (fun _ => 0))), (q2, .inl (c2, 10, .inl (fun _ => 0)))] := hD
  have hK : va_K (dC, dI) vwCl [(c1, .int), (c2, .boolean)] s := hK
  refine W.widen (k := 2) (n := 20) (Nat.le_of_ble_eq_true rfl) (Nat.le_of_ble_eq_true rfl) ?_
  refine va_putF (D := (dC, dI)) (ci := 7) (v := .ref q2) (ty := .array .boolean) (C := RX7) (T := TX7) (N := 6) hx hb hts hiX7 tyX7 tyX7_ok nmX7 hown hK hP hD hS 0 rfl rfl 1 (by decide) (hts (.fieldLink RX7 15 "WallChapels$Sightings" "chapels" "[Z") (by decide +kernel)) (fun _ h9 => h9) rfl hin rfl (by decide +kernel) rfl rfl (Nat.le_of_ble_eq_true rfl) dX7_init_17 (fun H locs hP hD hS => ?_)
  have hP : va_P (dC, dI) vwCl [(h, .inr (7, [.ref q1, .ref q2, .null, .null, .int 0, .int 0])), (q1, .inl (c1, 10, .inl (fun _ => 0))), (q2, .inl (c2, 10, .inl (fun _ => 0)))] H := hP
  have hD : va_D A [(h, .inr (7, [.ref q1, .ref q2, .null, .null, .int 0, .int 0])), (q1, .inl (c1, 10, .inl (fun _ => 0))), (q2, .inl (c2, 10, .inl (fun _ => 0)))] := hD
  refine lv_aload_n hx hb dX7_init_20 rfl (lv_at hl 0 rfl) ?_
  refine lv_bipush (v := 13) hx hb dX7_init_21 (by decide) ?_
  refine va_newa (atype := .int) (ty := .int) (a0 := (13, .inl (fun _ => 0))) hx hb (hts (.arrayClass .int) (by decide +kernel)) rfl hK hP hD hS hA (fun _ => rfl) (by decide) (by decide) (Nat.le_of_ble_eq_true rfl) (Nat.le_of_ble_eq_true rfl) (Nat.le_of_ble_eq_true rfl) dX7_init_23 (fun q3 c3 H hK hP hD hS => ?_)
  have hP : va_P (dC, dI) vwCl [(h, .inr (7, [.ref q1, .ref q2, .null, .null, .int 0, .int 0])), (q1, .inl (c1, 10, .inl (fun _ => 0))), (q2, .inl (c2, 10, .inl (fun _ => 0))), (q3, .inl (c3, 13, .inl (fun _ => 0)))] H := hP
  have hD : va_D A [(h, .inr (7, [.ref q1, .ref q2, .null, .null, .int 0, .int 0])), (q1, .inl (c1, 10, .inl (fun _ => 0))), (q2, .inl (c2, 10, .inl (fun _ => 0))), (q3, .inl (c3, 13, .inl (fun _ => 0)))] := hD
  have hK : va_K (dC, dI) vwCl [(c1, .int), (c2, .boolean), (c3, .int)] s := hK
  refine W.widen (k := 3) (n := 33) (Nat.le_of_ble_eq_true rfl) (Nat.le_of_ble_eq_true rfl) ?_
  refine va_putF (D := (dC, dI)) (ci := 7) (v := .ref q3) (ty := .array .int) (C := RX7) (T := TX7) (N := 6) hx hb hts hiX7 tyX7 tyX7_ok nmX7 hown hK hP hD hS 0 rfl rfl 2 (by decide) (hts (.fieldLink RX7 19 "WallChapels$Sightings" "fitting" "[I") (by decide +kernel)) (fun _ h9 => h9) rfl hin rfl (by decide +kernel) rfl rfl (Nat.le_of_ble_eq_true rfl) dX7_init_25 (fun H locs hP hD hS => ?_)
  have hP : va_P (dC, dI) vwCl [(h, .inr (7, [.ref q1, .ref q2, .ref q3, .null, .int 0, .int 0])), (q1, .inl (c1, 10, .inl (fun _ => 0))), (q2, .inl (c2, 10, .inl (fun _ => 0))), (q3, .inl (c3, 13, .inl (fun _ => 0)))] H := hP
  have hD : va_D A [(h, .inr (7, [.ref q1, .ref q2, .ref q3, .null, .int 0, .int 0])), (q1, .inl (c1, 10, .inl (fun _ => 0))), (q2, .inl (c2, 10, .inl (fun _ => 0))), (q3, .inl (c3, 13, .inl (fun _ => 0)))] := hD
  refine lv_aload_n hx hb dX7_init_28 rfl (lv_at hl 0 rfl) ?_
  refine lv_bipush (v := 13) hx hb dX7_init_29 (by decide) ?_
  refine va_newa (atype := .int) (ty := .int) (a0 := (13, .inl (fun _ => 0))) hx hb (hts (.arrayClass .int) (by decide +kernel)) rfl hK hP hD hS hA (fun _ => rfl) (by decide) (by decide) (Nat.le_of_ble_eq_true rfl) (Nat.le_of_ble_eq_true rfl) (Nat.le_of_ble_eq_true rfl) dX7_init_31 (fun q4 c4 H hK hP hD hS => ?_)
  have hP : va_P (dC, dI) vwCl [(h, .inr (7, [.ref q1, .ref q2, .ref q3, .null, .int 0, .int 0])), (q1, .inl (c1, 10, .inl (fun _ => 0))), (q2, .inl (c2, 10, .inl (fun _ => 0))), (q3, .inl (c3, 13, .inl (fun _ => 0))), (q4, .inl (c4, 13, .inl (fun _ => 0)))] H := hP
  have hD : va_D A [(h, .inr (7, [.ref q1, .ref q2, .ref q3, .null, .int 0, .int 0])), (q1, .inl (c1, 10, .inl (fun _ => 0))), (q2, .inl (c2, 10, .inl (fun _ => 0))), (q3, .inl (c3, 13, .inl (fun _ => 0))), (q4, .inl (c4, 13, .inl (fun _ => 0)))] := hD
  have hK : va_K (dC, dI) vwCl [(c1, .int), (c2, .boolean), (c3, .int), (c4, .int)] s := hK
  refine W.widen (k := 4) (n := 46) (Nat.le_of_ble_eq_true rfl) (Nat.le_of_ble_eq_true rfl) ?_
  refine va_putF (D := (dC, dI)) (ci := 7) (v := .ref q4) (ty := .array .int) (C := RX7) (T := TX7) (N := 6) hx hb hts hiX7 tyX7 tyX7_ok nmX7 hown hK hP hD hS 0 rfl rfl 3 (by decide) (hts (.fieldLink RX7 22 "WallChapels$Sightings" "fittingChapels" "[I") (by decide +kernel)) (fun _ h9 => h9) rfl hin rfl (by decide +kernel) rfl rfl (Nat.le_of_ble_eq_true rfl) dX7_init_33 (fun H locs hP hD hS => ?_)
  have hP : va_P (dC, dI) vwCl [(h, .inr (7, [.ref q1, .ref q2, .ref q3, .ref q4, .int 0, .int 0])), (q1, .inl (c1, 10, .inl (fun _ => 0))), (q2, .inl (c2, 10, .inl (fun _ => 0))), (q3, .inl (c3, 13, .inl (fun _ => 0))), (q4, .inl (c4, 13, .inl (fun _ => 0)))] H := hP
  have hD : va_D A [(h, .inr (7, [.ref q1, .ref q2, .ref q3, .ref q4, .int 0, .int 0])), (q1, .inl (c1, 10, .inl (fun _ => 0))), (q2, .inl (c2, 10, .inl (fun _ => 0))), (q3, .inl (c3, 13, .inl (fun _ => 0))), (q4, .inl (c4, 13, .inl (fun _ => 0)))] := hD
  have hP9 := hP.sub (ws' := [(h, .inr (7, [.ref q1, .ref q2, .ref q3, .ref q4, .int 0, .int 0]))]) [0] rfl
  have hD9 := hD.sub (ws' := [(h, .inr (7, [.ref q1, .ref q2, .ref q3, .ref q4, .int 0, .int 0]))]) [0] (by decide) rfl
  have hK9 := hK.sub (tys' := []) [] rfl
  exact W.vret hx hb hr (fun t ht hW => ⟨⟨(), rfl, trivial, ⟨q1, q2, q3, q4, by rw [ht]; exact hP9, va_K.moved hW.alike hK9, hD9⟩⟩, hS.F ht⟩) hS.2.2 dX7_init_36
def vs_f_X4_init : List Cond := .code yX4_init cX4_init 1 none :: ([.code objectInit ⟨#[0xb1]⟩ 1 none, .methodLink RX4 3 objectInit, .instanceMethod objectInit, .arrayClass .int, .fieldLink RX4 11 "WallChapels$LogBook" "visited" "[I", .fieldLink RX4 15 "WallChapels$LogBook" "lapsed" "[I", .fieldLink RX4 18 "WallChapels$LogBook" "coins" "[I"] ++ (u_ws RX4 TX4 3))
theorem vs_f_X4_init_uX4 : ∀ w ∈ u_ws RX4 TX4 3, w ∈ vs_f_X4_init := fun _ h => List.mem_cons_of_mem _ (List.mem_append_right _ (h))
set_option maxHeartbeats 4000000 in
set_option maxRecDepth 100000 in
theorem f_X4_init (l : Launch) (dC : Nat → ClassId) (dI : Nat → Nat → Nat) (sz : Nat) (h : Nat) : Met l yX4_init vs_f_X4_init ({ frames := 1, cells := 3, slots := 300, locals := 12 }) (va_Pc [.ref h] (cW dC dI [(h, .inr (4, [.null, .null, .null]))] [] sz)) (va_Qv (fun (_ : Unit) => True) (fun (_ : Unit) (t : State) => ∃ a0 : Nat, ∃ a1 : Nat, ∃ a2 : Nat, cB dC dI (va_A [(h, .inr (4, [.null, .null, .null]))] sz) [(h, .inr (4, [.ref a0, .ref a1, .ref a2]))] [] t) (va_A [(h, .inr (4, [.null, .null, .null]))] sz)) 3 300 (va_A [(h, .inr (4, [.null, .null, .null]))] sz) := by
  refine Met.ofW (cc := cX4_init) (maxL := 1) (ret := none) (by decide) rfl ?_
  intro p e s m args below meth c s₁ B hml hv
  obtain ⟨rfl, hsz, hP, hK, hD0, hG⟩ := hv
  have hx := B.exec
  have hb := B.bytes
  have hr := B.returns
  have hts := atoms_spec (ws := vs_f_X4_init) B.pre
  have hown : s.vm.findClass RX4 = some m.cls := findClass_of_methodNamed B.named
  have hlocks := B.notSynchronized
  have hin : meth.name = "<init>" := (name_of_methodNamed B.named B.method).1
  have hiX4 : ∀ w ∈ u_ws RX4 TX4 3, w ∈ vs_f_X4_init := vs_f_X4_init_uX4
  subst hsz
  have hD := hD0.self (sz := s.heap.size)
  generalize hAe : va_A [(h, .inr (4, [.null, .null, .null]))] s.heap.size = A at hD ⊢
  have hA : ∀ q : Nat, s.heap.size ≤ q → A q := fun q h => by rw [← hAe]; exact Or.inr h
  have hS : va_S A s.heap s.heap [] := va_S.rf
  have hP : va_P (dC, dI) vwCl [(h, .inr (4, [.null, .null, .null]))] s.heap := hP
  have hl := lv_entry ([.ref h]) (n := 1) (Nat.le_of_ble_eq_true rfl)
  rw [lg_entry_eq]
  generalize (lg_sl ([.ref h]) ++ List.replicate (1 - (lg_sl ([.ref h])).length) Slot.unset).toArray = ls at hl ⊢
  have hl : lv_has ls 1 [(0, .ref h)] := hl
  refine lv_aload_n hx hb dX4_init_0 rfl (lv_at hl 0 rfl) ?_
  refine W.objInit hx hb hown (hts (.methodLink RX4 3 objectInit) (by decide +kernel)) (hts (.instanceMethod objectInit) (by decide +kernel)) (hts (.code objectInit ⟨#[0xb1]⟩ 1 none) (List.mem_of_getElem? (i := 1) rfl)) rfl (by rw [hml]; exact hl.1) rfl dX4_init_1 (Nat.le_of_ble_eq_true rfl) (Nat.le_of_ble_eq_true rfl) ?_
  refine W.eq (g2 := F0 m 4 ls []) rfl ?_
  refine lv_aload_n hx hb dX4_init_4 rfl (lv_at hl 0 rfl) ?_
  refine lv_bipush (v := 100) hx hb dX4_init_5 (by decide) ?_
  refine va_newa (atype := .int) (ty := .int) (a0 := (100, .inl (fun _ => 0))) hx hb (hts (.arrayClass .int) (by decide +kernel)) rfl hK hP hD hS hA (fun _ => rfl) (by decide) (by decide) (Nat.le_of_ble_eq_true rfl) (Nat.le_of_ble_eq_true rfl) (Nat.le_of_ble_eq_true rfl) dX4_init_7 (fun q1 c1 H hK hP hD hS => ?_)
  have hP : va_P (dC, dI) vwCl [(h, .inr (4, [.null, .null, .null])), (q1, .inl (c1, 100, .inl (fun _ => 0)))] H := hP
  have hD : va_D A [(h, .inr (4, [.null, .null, .null])), (q1, .inl (c1, 100, .inl (fun _ => 0)))] := hD
  have hK : va_K (dC, dI) vwCl [(c1, .int)] s := hK
  refine W.widen (k := 1) (n := 100) (Nat.le_of_ble_eq_true rfl) (Nat.le_of_ble_eq_true rfl) ?_
  refine va_putF (D := (dC, dI)) (ci := 4) (v := .ref q1) (ty := .array .int) (C := RX4) (T := TX4) (N := 3) hx hb hts hiX4 tyX4 tyX4_ok nmX4 hown hK hP hD hS 0 rfl rfl 0 (by decide) (hts (.fieldLink RX4 11 "WallChapels$LogBook" "visited" "[I") (by decide +kernel)) (fun _ h9 => h9) rfl hin rfl (by decide +kernel) rfl rfl (Nat.le_of_ble_eq_true rfl) dX4_init_9 (fun H locs hP hD hS => ?_)
  have hP : va_P (dC, dI) vwCl [(h, .inr (4, [.ref q1, .null, .null])), (q1, .inl (c1, 100, .inl (fun _ => 0)))] H := hP
  have hD : va_D A [(h, .inr (4, [.ref q1, .null, .null])), (q1, .inl (c1, 100, .inl (fun _ => 0)))] := hD
  refine lv_aload_n hx hb dX4_init_12 rfl (lv_at hl 0 rfl) ?_
  refine lv_bipush (v := 100) hx hb dX4_init_13 (by decide) ?_
  refine va_newa (atype := .int) (ty := .int) (a0 := (100, .inl (fun _ => 0))) hx hb (hts (.arrayClass .int) (by decide +kernel)) rfl hK hP hD hS hA (fun _ => rfl) (by decide) (by decide) (Nat.le_of_ble_eq_true rfl) (Nat.le_of_ble_eq_true rfl) (Nat.le_of_ble_eq_true rfl) dX4_init_15 (fun q2 c2 H hK hP hD hS => ?_)
  have hP : va_P (dC, dI) vwCl [(h, .inr (4, [.ref q1, .null, .null])), (q1, .inl (c1, 100, .inl (fun _ => 0))), (q2, .inl (c2, 100, .inl (fun _ => 0)))] H := hP
  have hD : va_D A [(h, .inr (4, [.ref q1, .null, .null])), (q1, .inl (c1, 100, .inl (fun _ => 0))), (q2, .inl (c2, 100, .inl (fun _ => 0)))] := hD
  have hK : va_K (dC, dI) vwCl [(c1, .int), (c2, .int)] s := hK
  refine W.widen (k := 2) (n := 200) (Nat.le_of_ble_eq_true rfl) (Nat.le_of_ble_eq_true rfl) ?_
  refine va_putF (D := (dC, dI)) (ci := 4) (v := .ref q2) (ty := .array .int) (C := RX4) (T := TX4) (N := 3) hx hb hts hiX4 tyX4 tyX4_ok nmX4 hown hK hP hD hS 0 rfl rfl 1 (by decide) (hts (.fieldLink RX4 15 "WallChapels$LogBook" "lapsed" "[I") (by decide +kernel)) (fun _ h9 => h9) rfl hin rfl (by decide +kernel) rfl rfl (Nat.le_of_ble_eq_true rfl) dX4_init_17 (fun H locs hP hD hS => ?_)
  have hP : va_P (dC, dI) vwCl [(h, .inr (4, [.ref q1, .ref q2, .null])), (q1, .inl (c1, 100, .inl (fun _ => 0))), (q2, .inl (c2, 100, .inl (fun _ => 0)))] H := hP
  have hD : va_D A [(h, .inr (4, [.ref q1, .ref q2, .null])), (q1, .inl (c1, 100, .inl (fun _ => 0))), (q2, .inl (c2, 100, .inl (fun _ => 0)))] := hD
  refine lv_aload_n hx hb dX4_init_20 rfl (lv_at hl 0 rfl) ?_
  refine lv_bipush (v := 100) hx hb dX4_init_21 (by decide) ?_
  refine va_newa (atype := .int) (ty := .int) (a0 := (100, .inl (fun _ => 0))) hx hb (hts (.arrayClass .int) (by decide +kernel)) rfl hK hP hD hS hA (fun _ => rfl) (by decide) (by decide) (Nat.le_of_ble_eq_true rfl) (Nat.le_of_ble_eq_true rfl) (Nat.le_of_ble_eq_true rfl) dX4_init_23 (fun q3 c3 H hK hP hD hS => ?_)
  have hP : va_P (dC, dI) vwCl [(h, .inr (4, [.ref q1, .ref q2, .null])), (q1, .inl (c1, 100, .inl (fun _ => 0))), (q2, .inl (c2, 100, .inl (fun _ => 0))), (q3, .inl (c3, 100, .inl (fun _ => 0)))] H := hP
  have hD : va_D A [(h, .inr (4, [.ref q1, .ref q2, .null])), (q1, .inl (c1, 100, .inl (fun _ => 0))), (q2, .inl (c2, 100, .inl (fun _ => 0))), (q3, .inl (c3, 100, .inl (fun _ => 0)))] := hD
  have hK : va_K (dC, dI) vwCl [(c1, .int), (c2, .int), (c3, .int)] s := hK
  refine W.widen (k := 3) (n := 300) (Nat.le_of_ble_eq_true rfl) (Nat.le_of_ble_eq_true rfl) ?_
  refine va_putF (D := (dC, dI)) (ci := 4) (v := .ref q3) (ty := .array .int) (C := RX4) (T := TX4) (N := 3) hx hb hts hiX4 tyX4 tyX4_ok nmX4 hown hK hP hD hS 0 rfl rfl 2 (by decide) (hts (.fieldLink RX4 18 "WallChapels$LogBook" "coins" "[I") (by decide +kernel)) (fun _ h9 => h9) rfl hin rfl (by decide +kernel) rfl rfl (Nat.le_of_ble_eq_true rfl) dX4_init_25 (fun H locs hP hD hS => ?_)
  have hP : va_P (dC, dI) vwCl [(h, .inr (4, [.ref q1, .ref q2, .ref q3])), (q1, .inl (c1, 100, .inl (fun _ => 0))), (q2, .inl (c2, 100, .inl (fun _ => 0))), (q3, .inl (c3, 100, .inl (fun _ => 0)))] H := hP
  have hD : va_D A [(h, .inr (4, [.ref q1, .ref q2, .ref q3])), (q1, .inl (c1, 100, .inl (fun _ => 0))), (q2, .inl (c2, 100, .inl (fun _ => 0))), (q3, .inl (c3, 100, .inl (fun _ => 0)))] := hD
  have hP9 := hP.sub (ws' := [(h, .inr (4, [.ref q1, .ref q2, .ref q3]))]) [0] rfl
  have hD9 := hD.sub (ws' := [(h, .inr (4, [.ref q1, .ref q2, .ref q3]))]) [0] (by decide) rfl
  have hK9 := hK.sub (tys' := []) [] rfl
  exact W.vret hx hb hr (fun t ht hW => ⟨⟨(), rfl, trivial, ⟨q1, q2, q3, by rw [ht]; exact hP9, va_K.moved hW.alike hK9, hD9⟩⟩, hS.F ht⟩) hS.2.2 dX4_init_28
end
