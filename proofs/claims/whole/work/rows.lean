section
-- ===== PART A: goes FIRST, ahead of the names: the tables' words, and 'selects' of the private methods out of them =====
/-- a private method of a class that the tables say can be made, by its rows of tables_1 -/
def lw_okq (q : MethodName × Nat) : Prop := (q.1.cls ≠ "java/lang/invoke/MethodHandle" ∧ q.1.cls ≠ "java/lang/invoke/VarHandle") ∧ Cond.instantiable q.1.cls q.2 ∈ tables_1 ∧ Cond.privateMethod q.1 ∈ tables_1 ∧ Cond.instanceMethod q.1 ∈ tables_1
theorem lw_p0 : lw_okq (⟨"SlangYears$Land", "reset", "()V"⟩, 11) := ⟨⟨by decide +kernel, by decide +kernel⟩, List.mem_of_getElem? (i := 185) (by decide +kernel), List.mem_of_getElem? (i := 191) (by decide +kernel), List.mem_of_getElem? (i := 192) (by decide +kernel)⟩
theorem lw_p1 : lw_okq (⟨"SlangYears$Reader", "append", "(JI)Z"⟩, 8) := ⟨⟨by decide +kernel, by decide +kernel⟩, List.mem_of_getElem? (i := 27) (by decide +kernel), List.mem_of_getElem? (i := 301) (by decide +kernel), List.mem_of_getElem? (i := 302) (by decide +kernel)⟩
theorem lw_p2 : lw_okq (⟨"SlangYears$Reader", "readInto", "(LSlangYears$Land;)I"⟩, 8) := ⟨⟨by decide +kernel, by decide +kernel⟩, List.mem_of_getElem? (i := 27) (by decide +kernel), List.mem_of_getElem? (i := 314) (by decide +kernel), List.mem_of_getElem? (i := 315) (by decide +kernel)⟩
theorem lw_p3 : lw_okq (⟨"SlangYears$Reader", "next", "()V"⟩, 8) := ⟨⟨by decide +kernel, by decide +kernel⟩, List.mem_of_getElem? (i := 27) (by decide +kernel), List.mem_of_getElem? (i := 319) (by decide +kernel), List.mem_of_getElem? (i := 320) (by decide +kernel)⟩
theorem lw_p4 : lw_okq (⟨"SlangYears$Reader", "takeNumber", "()V"⟩, 8) := ⟨⟨by decide +kernel, by decide +kernel⟩, List.mem_of_getElem? (i := 27) (by decide +kernel), List.mem_of_getElem? (i := 326) (by decide +kernel), List.mem_of_getElem? (i := 327) (by decide +kernel)⟩
theorem lw_p5 : lw_okq (⟨"SlangYears$Reader", "takeLetters", "()V"⟩, 8) := ⟨⟨by decide +kernel, by decide +kernel⟩, List.mem_of_getElem? (i := 27) (by decide +kernel), List.mem_of_getElem? (i := 333) (by decide +kernel), List.mem_of_getElem? (i := 334) (by decide +kernel)⟩
theorem lw_p6 : lw_okq (⟨"SlangYears$Reader", "readItem", "(LSlangYears$Land;)Z"⟩, 8) := ⟨⟨by decide +kernel, by decide +kernel⟩, List.mem_of_getElem? (i := 27) (by decide +kernel), List.mem_of_getElem? (i := 337) (by decide +kernel), List.mem_of_getElem? (i := 338) (by decide +kernel)⟩
theorem lw_p7 : lw_okq (⟨"SlangYears$Reader", "spells", "(Ljava/lang/String;)Z"⟩, 8) := ⟨⟨by decide +kernel, by decide +kernel⟩, List.mem_of_getElem? (i := 27) (by decide +kernel), List.mem_of_getElem? (i := 342) (by decide +kernel), List.mem_of_getElem? (i := 343) (by decide +kernel)⟩
theorem lw_p8 : lw_okq (⟨"SlangYears$Reader", "readPlace", "(LSlangYears$Land;)Z"⟩, 8) := ⟨⟨by decide +kernel, by decide +kernel⟩, List.mem_of_getElem? (i := 27) (by decide +kernel), List.mem_of_getElem? (i := 394) (by decide +kernel), List.mem_of_getElem? (i := 395) (by decide +kernel)⟩
theorem lw_p9 : lw_okq (⟨"SlangYears$Reader", "nextEnds", "()Z"⟩, 8) := ⟨⟨by decide +kernel, by decide +kernel⟩, List.mem_of_getElem? (i := 27) (by decide +kernel), List.mem_of_getElem? (i := 398) (by decide +kernel), List.mem_of_getElem? (i := 399) (by decide +kernel)⟩
theorem lw_p10 : lw_okq (⟨"SlangYears$Reader", "readNear", "(LSlangYears$Land;)Z"⟩, 8) := ⟨⟨by decide +kernel, by decide +kernel⟩, List.mem_of_getElem? (i := 27) (by decide +kernel), List.mem_of_getElem? (i := 403) (by decide +kernel), List.mem_of_getElem? (i := 404) (by decide +kernel)⟩
theorem lw_p11 : lw_okq (⟨"SlangYears$Reader", "nextIsNumber", "(II)Z"⟩, 8) := ⟨⟨by decide +kernel, by decide +kernel⟩, List.mem_of_getElem? (i := 27) (by decide +kernel), List.mem_of_getElem? (i := 407) (by decide +kernel), List.mem_of_getElem? (i := 408) (by decide +kernel)⟩
theorem lw_p12 : lw_okq (⟨"SlangYears$Land", "bringNear", "(III)V"⟩, 11) := ⟨⟨by decide +kernel, by decide +kernel⟩, List.mem_of_getElem? (i := 185) (by decide +kernel), List.mem_of_getElem? (i := 412) (by decide +kernel), List.mem_of_getElem? (i := 413) (by decide +kernel)⟩
theorem lw_p13 : lw_okq (⟨"SlangYears$Reader", "readLaw", "(LSlangYears$Land;)Z"⟩, 8) := ⟨⟨by decide +kernel, by decide +kernel⟩, List.mem_of_getElem? (i := 27) (by decide +kernel), List.mem_of_getElem? (i := 417) (by decide +kernel), List.mem_of_getElem? (i := 418) (by decide +kernel)⟩
theorem lw_p14 : lw_okq (⟨"SlangYears$Reader", "readStart", "(LSlangYears$Land;)Z"⟩, 8) := ⟨⟨by decide +kernel, by decide +kernel⟩, List.mem_of_getElem? (i := 27) (by decide +kernel), List.mem_of_getElem? (i := 422) (by decide +kernel), List.mem_of_getElem? (i := 423) (by decide +kernel)⟩
theorem lw_p15 : lw_okq (⟨"SlangYears$Reader", "readWord", "(LSlangYears$Land;)Z"⟩, 8) := ⟨⟨by decide +kernel, by decide +kernel⟩, List.mem_of_getElem? (i := 27) (by decide +kernel), List.mem_of_getElem? (i := 427) (by decide +kernel), List.mem_of_getElem? (i := 428) (by decide +kernel)⟩
def lw_privs_1 : List (MethodName × Nat) := [(⟨"SlangYears$Land", "reset", "()V"⟩, 11), (⟨"SlangYears$Reader", "append", "(JI)Z"⟩, 8), (⟨"SlangYears$Reader", "readInto", "(LSlangYears$Land;)I"⟩, 8), (⟨"SlangYears$Reader", "next", "()V"⟩, 8), (⟨"SlangYears$Reader", "takeNumber", "()V"⟩, 8), (⟨"SlangYears$Reader", "takeLetters", "()V"⟩, 8), (⟨"SlangYears$Reader", "readItem", "(LSlangYears$Land;)Z"⟩, 8), (⟨"SlangYears$Reader", "spells", "(Ljava/lang/String;)Z"⟩, 8), (⟨"SlangYears$Reader", "readPlace", "(LSlangYears$Land;)Z"⟩, 8), (⟨"SlangYears$Reader", "nextEnds", "()Z"⟩, 8), (⟨"SlangYears$Reader", "readNear", "(LSlangYears$Land;)Z"⟩, 8), (⟨"SlangYears$Reader", "nextIsNumber", "(II)Z"⟩, 8), (⟨"SlangYears$Land", "bringNear", "(III)V"⟩, 11), (⟨"SlangYears$Reader", "readLaw", "(LSlangYears$Land;)Z"⟩, 8), (⟨"SlangYears$Reader", "readStart", "(LSlangYears$Land;)Z"⟩, 8), (⟨"SlangYears$Reader", "readWord", "(LSlangYears$Land;)Z"⟩, 8)]
theorem lw_r1 : ∀ q ∈ lw_privs_1, lw_okq q := List.forall_mem_cons.mpr ⟨lw_p0, List.forall_mem_cons.mpr ⟨lw_p1, List.forall_mem_cons.mpr ⟨lw_p2, List.forall_mem_cons.mpr ⟨lw_p3, List.forall_mem_cons.mpr ⟨lw_p4, List.forall_mem_cons.mpr ⟨lw_p5, List.forall_mem_cons.mpr ⟨lw_p6, List.forall_mem_cons.mpr ⟨lw_p7, List.forall_mem_cons.mpr ⟨lw_p8, List.forall_mem_cons.mpr ⟨lw_p9, List.forall_mem_cons.mpr ⟨lw_p10, List.forall_mem_cons.mpr ⟨lw_p11, List.forall_mem_cons.mpr ⟨lw_p12, List.forall_mem_cons.mpr ⟨lw_p13, List.forall_mem_cons.mpr ⟨lw_p14, List.forall_mem_cons.mpr ⟨lw_p15, fun _ h => absurd h List.not_mem_nil⟩⟩⟩⟩⟩⟩⟩⟩⟩⟩⟩⟩⟩⟩⟩⟩
theorem lw_p16 : lw_okq (⟨"SlangYears$Land", "addWord", "(IIIZ)V"⟩, 11) := ⟨⟨by decide +kernel, by decide +kernel⟩, List.mem_of_getElem? (i := 185) (by decide +kernel), List.mem_of_getElem? (i := 432) (by decide +kernel), List.mem_of_getElem? (i := 433) (by decide +kernel)⟩
theorem lw_p17 : lw_okq (⟨"SlangYears$Moment", "begin", "(LSlangYears$Land;)V"⟩, 4) := ⟨⟨by decide +kernel, by decide +kernel⟩, List.mem_of_getElem? (i := 60) (by decide +kernel), List.mem_of_getElem? (i := 436) (by decide +kernel), List.mem_of_getElem? (i := 437) (by decide +kernel)⟩
theorem lw_p18 : lw_okq (⟨"SlangYears$Life", "begin", "(LSlangYears$Land;LSlangYears$Songs;I)V"⟩, 4) := ⟨⟨by decide +kernel, by decide +kernel⟩, List.mem_of_getElem? (i := 97) (by decide +kernel), List.mem_of_getElem? (i := 440) (by decide +kernel), List.mem_of_getElem? (i := 441) (by decide +kernel)⟩
theorem lw_p19 : lw_okq (⟨"SlangYears$Life", "arrive", "(LSlangYears$Land;LSlangYears$Songs;II)V"⟩, 4) := ⟨⟨by decide +kernel, by decide +kernel⟩, List.mem_of_getElem? (i := 97) (by decide +kernel), List.mem_of_getElem? (i := 445) (by decide +kernel), List.mem_of_getElem? (i := 446) (by decide +kernel)⟩
theorem lw_p20 : lw_okq (⟨"SlangYears$Life", "raise", "(IIII)V"⟩, 4) := ⟨⟨by decide +kernel, by decide +kernel⟩, List.mem_of_getElem? (i := 97) (by decide +kernel), List.mem_of_getElem? (i := 449) (by decide +kernel), List.mem_of_getElem? (i := 450) (by decide +kernel)⟩
theorem lw_p21 : lw_okq (⟨"SlangYears$Life", "note", "(II)V"⟩, 4) := ⟨⟨by decide +kernel, by decide +kernel⟩, List.mem_of_getElem? (i := 97) (by decide +kernel), List.mem_of_getElem? (i := 456) (by decide +kernel), List.mem_of_getElem? (i := 457) (by decide +kernel)⟩
theorem lw_p22 : lw_okq (⟨"SlangYears$Life", "measure", "(II)I"⟩, 4) := ⟨⟨by decide +kernel, by decide +kernel⟩, List.mem_of_getElem? (i := 97) (by decide +kernel), List.mem_of_getElem? (i := 460) (by decide +kernel), List.mem_of_getElem? (i := 461) (by decide +kernel)⟩
theorem lw_p23 : lw_okq (⟨"SlangYears$Life", "total", "(III)I"⟩, 4) := ⟨⟨by decide +kernel, by decide +kernel⟩, List.mem_of_getElem? (i := 97) (by decide +kernel), List.mem_of_getElem? (i := 464) (by decide +kernel), List.mem_of_getElem? (i := 465) (by decide +kernel)⟩
theorem lw_p24 : lw_okq (⟨"SlangYears", "isPlace", "(I)Z"⟩, 12) := ⟨⟨by decide +kernel, by decide +kernel⟩, List.mem_of_getElem? (i := 19) (by decide +kernel), List.mem_of_getElem? (i := 484) (by decide +kernel), List.mem_of_getElem? (i := 485) (by decide +kernel)⟩
theorem lw_p25 : lw_okq (⟨"SlangYears$Land", "nearness", "(II)I"⟩, 11) := ⟨⟨by decide +kernel, by decide +kernel⟩, List.mem_of_getElem? (i := 185) (by decide +kernel), List.mem_of_getElem? (i := 488) (by decide +kernel), List.mem_of_getElem? (i := 489) (by decide +kernel)⟩
theorem lw_p26 : lw_okq (⟨"SlangYears", "isWord", "(I)Z"⟩, 12) := ⟨⟨by decide +kernel, by decide +kernel⟩, List.mem_of_getElem? (i := 19) (by decide +kernel), List.mem_of_getElem? (i := 496) (by decide +kernel), List.mem_of_getElem? (i := 497) (by decide +kernel)⟩
theorem lw_p27 : lw_okq (⟨"SlangYears", "isCoined", "(I)Z"⟩, 12) := ⟨⟨by decide +kernel, by decide +kernel⟩, List.mem_of_getElem? (i := 19) (by decide +kernel), List.mem_of_getElem? (i := 500) (by decide +kernel), List.mem_of_getElem? (i := 501) (by decide +kernel)⟩
theorem lw_p28 : lw_okq (⟨"SlangYears$Moment", "pass", "(LSlangYears$Land;)V"⟩, 4) := ⟨⟨by decide +kernel, by decide +kernel⟩, List.mem_of_getElem? (i := 60) (by decide +kernel), List.mem_of_getElem? (i := 511) (by decide +kernel), List.mem_of_getElem? (i := 512) (by decide +kernel)⟩
theorem lw_p29 : lw_okq (⟨"SlangYears$Life", "pass", "(LSlangYears$Land;LSlangYears$Songs;III)V"⟩, 4) := ⟨⟨by decide +kernel, by decide +kernel⟩, List.mem_of_getElem? (i := 97) (by decide +kernel), List.mem_of_getElem? (i := 515) (by decide +kernel), List.mem_of_getElem? (i := 516) (by decide +kernel)⟩
theorem lw_p30 : lw_okq (⟨"SlangYears$Life", "growOlder", "(I)V"⟩, 4) := ⟨⟨by decide +kernel, by decide +kernel⟩, List.mem_of_getElem? (i := 97) (by decide +kernel), List.mem_of_getElem? (i := 519) (by decide +kernel), List.mem_of_getElem? (i := 520) (by decide +kernel)⟩
theorem lw_p31 : lw_okq (⟨"SlangYears$Life", "heard", "(LSlangYears$Land;II)I"⟩, 4) := ⟨⟨by decide +kernel, by decide +kernel⟩, List.mem_of_getElem? (i := 97) (by decide +kernel), List.mem_of_getElem? (i := 526) (by decide +kernel), List.mem_of_getElem? (i := 527) (by decide +kernel)⟩
def lw_privs_2 : List (MethodName × Nat) := [(⟨"SlangYears$Land", "addWord", "(IIIZ)V"⟩, 11), (⟨"SlangYears$Moment", "begin", "(LSlangYears$Land;)V"⟩, 4), (⟨"SlangYears$Life", "begin", "(LSlangYears$Land;LSlangYears$Songs;I)V"⟩, 4), (⟨"SlangYears$Life", "arrive", "(LSlangYears$Land;LSlangYears$Songs;II)V"⟩, 4), (⟨"SlangYears$Life", "raise", "(IIII)V"⟩, 4), (⟨"SlangYears$Life", "note", "(II)V"⟩, 4), (⟨"SlangYears$Life", "measure", "(II)I"⟩, 4), (⟨"SlangYears$Life", "total", "(III)I"⟩, 4), (⟨"SlangYears", "isPlace", "(I)Z"⟩, 12), (⟨"SlangYears$Land", "nearness", "(II)I"⟩, 11), (⟨"SlangYears", "isWord", "(I)Z"⟩, 12), (⟨"SlangYears", "isCoined", "(I)Z"⟩, 12), (⟨"SlangYears$Moment", "pass", "(LSlangYears$Land;)V"⟩, 4), (⟨"SlangYears$Life", "pass", "(LSlangYears$Land;LSlangYears$Songs;III)V"⟩, 4), (⟨"SlangYears$Life", "growOlder", "(I)V"⟩, 4), (⟨"SlangYears$Life", "heard", "(LSlangYears$Land;II)I"⟩, 4)]
theorem lw_r2 : ∀ q ∈ lw_privs_2, lw_okq q := List.forall_mem_cons.mpr ⟨lw_p16, List.forall_mem_cons.mpr ⟨lw_p17, List.forall_mem_cons.mpr ⟨lw_p18, List.forall_mem_cons.mpr ⟨lw_p19, List.forall_mem_cons.mpr ⟨lw_p20, List.forall_mem_cons.mpr ⟨lw_p21, List.forall_mem_cons.mpr ⟨lw_p22, List.forall_mem_cons.mpr ⟨lw_p23, List.forall_mem_cons.mpr ⟨lw_p24, List.forall_mem_cons.mpr ⟨lw_p25, List.forall_mem_cons.mpr ⟨lw_p26, List.forall_mem_cons.mpr ⟨lw_p27, List.forall_mem_cons.mpr ⟨lw_p28, List.forall_mem_cons.mpr ⟨lw_p29, List.forall_mem_cons.mpr ⟨lw_p30, List.forall_mem_cons.mpr ⟨lw_p31, fun _ h => absurd h List.not_mem_nil⟩⟩⟩⟩⟩⟩⟩⟩⟩⟩⟩⟩⟩⟩⟩⟩
theorem lw_p32 : lw_okq (⟨"SlangYears$Life", "takeUp", "(IJI)V"⟩, 4) := ⟨⟨by decide +kernel, by decide +kernel⟩, List.mem_of_getElem? (i := 97) (by decide +kernel), List.mem_of_getElem? (i := 532) (by decide +kernel), List.mem_of_getElem? (i := 533) (by decide +kernel)⟩
theorem lw_p33 : lw_okq (⟨"SlangYears$Life", "dropIt", "(II)V"⟩, 4) := ⟨⟨by decide +kernel, by decide +kernel⟩, List.mem_of_getElem? (i := 97) (by decide +kernel), List.mem_of_getElem? (i := 537) (by decide +kernel), List.mem_of_getElem? (i := 538) (by decide +kernel)⟩
theorem lw_p34 : lw_okq (⟨"SlangYears$Life", "youngTwoAhead", "(II)I"⟩, 4) := ⟨⟨by decide +kernel, by decide +kernel⟩, List.mem_of_getElem? (i := 97) (by decide +kernel), List.mem_of_getElem? (i := 541) (by decide +kernel), List.mem_of_getElem? (i := 542) (by decide +kernel)⟩
theorem lw_p35 : lw_okq (⟨"SlangYears$Life", "learnIt", "(II)V"⟩, 4) := ⟨⟨by decide +kernel, by decide +kernel⟩, List.mem_of_getElem? (i := 97) (by decide +kernel), List.mem_of_getElem? (i := 545) (by decide +kernel), List.mem_of_getElem? (i := 546) (by decide +kernel)⟩
theorem lw_p36 : lw_okq (⟨"SlangYears", "meanNow", "(II)I"⟩, 12) := ⟨⟨by decide +kernel, by decide +kernel⟩, List.mem_of_getElem? (i := 19) (by decide +kernel), List.mem_of_getElem? (i := 564) (by decide +kernel), List.mem_of_getElem? (i := 565) (by decide +kernel)⟩
theorem lw_p37 : lw_okq (⟨"SlangYears$Songs", "add", "(IIII)V"⟩, 5) := ⟨⟨by decide +kernel, by decide +kernel⟩, List.mem_of_getElem? (i := 66) (by decide +kernel), List.mem_of_getElem? (i := 574) (by decide +kernel), List.mem_of_getElem? (i := 575) (by decide +kernel)⟩
theorem lw_p38 : lw_okq (⟨"SlangYears$Life", "peak", "(I)I"⟩, 4) := ⟨⟨by decide +kernel, by decide +kernel⟩, List.mem_of_getElem? (i := 97) (by decide +kernel), List.mem_of_getElem? (i := 584) (by decide +kernel), List.mem_of_getElem? (i := 585) (by decide +kernel)⟩
theorem lw_p39 : lw_okq (⟨"SlangYears$Life", "peakYear", "(I)I"⟩, 4) := ⟨⟨by decide +kernel, by decide +kernel⟩, List.mem_of_getElem? (i := 97) (by decide +kernel), List.mem_of_getElem? (i := 588) (by decide +kernel), List.mem_of_getElem? (i := 589) (by decide +kernel)⟩
theorem lw_p40 : lw_okq (⟨"SlangYears$Life", "overYear", "(I)I"⟩, 4) := ⟨⟨by decide +kernel, by decide +kernel⟩, List.mem_of_getElem? (i := 97) (by decide +kernel), List.mem_of_getElem? (i := 593) (by decide +kernel), List.mem_of_getElem? (i := 594) (by decide +kernel)⟩
theorem lw_p41 : lw_okq (⟨"SlangYears$Life", "keptAge", "(I)I"⟩, 4) := ⟨⟨by decide +kernel, by decide +kernel⟩, List.mem_of_getElem? (i := 97) (by decide +kernel), List.mem_of_getElem? (i := 597) (by decide +kernel), List.mem_of_getElem? (i := 598) (by decide +kernel)⟩
theorem lw_p42 : lw_okq (⟨"SlangYears$Life", "parentsYear", "(I)I"⟩, 4) := ⟨⟨by decide +kernel, by decide +kernel⟩, List.mem_of_getElem? (i := 97) (by decide +kernel), List.mem_of_getElem? (i := 605) (by decide +kernel), List.mem_of_getElem? (i := 606) (by decide +kernel)⟩
theorem lw_p43 : lw_okq (⟨"SlangYears", "weights", "(IIII)J"⟩, 12) := ⟨⟨by decide +kernel, by decide +kernel⟩, List.mem_of_getElem? (i := 19) (by decide +kernel), List.mem_of_getElem? (i := 614) (by decide +kernel), List.mem_of_getElem? (i := 615) (by decide +kernel)⟩
theorem lw_p44 : lw_okq (⟨"SlangYears", "weight", "(IIII)J"⟩, 12) := ⟨⟨by decide +kernel, by decide +kernel⟩, List.mem_of_getElem? (i := 19) (by decide +kernel), List.mem_of_getElem? (i := 618) (by decide +kernel), List.mem_of_getElem? (i := 619) (by decide +kernel)⟩
theorem lw_p45 : lw_okq (⟨"SlangYears", "letterStands", "()Z"⟩, 12) := ⟨⟨by decide +kernel, by decide +kernel⟩, List.mem_of_getElem? (i := 19) (by decide +kernel), List.mem_of_getElem? (i := 653) (by decide +kernel), List.mem_of_getElem? (i := 654) (by decide +kernel)⟩
theorem lw_p46 : lw_okq (⟨"SlangYears", "recallLetter", "()V"⟩, 12) := ⟨⟨by decide +kernel, by decide +kernel⟩, List.mem_of_getElem? (i := 19) (by decide +kernel), List.mem_of_getElem? (i := 657) (by decide +kernel), List.mem_of_getElem? (i := 658) (by decide +kernel)⟩
theorem lw_p47 : lw_okq (⟨"SlangYears$Life", "replay", "(LSlangYears$Land;LSlangYears$Songs;III)V"⟩, 4) := ⟨⟨by decide +kernel, by decide +kernel⟩, List.mem_of_getElem? (i := 97) (by decide +kernel), List.mem_of_getElem? (i := 661) (by decide +kernel), List.mem_of_getElem? (i := 662) (by decide +kernel)⟩
def lw_privs_3 : List (MethodName × Nat) := [(⟨"SlangYears$Life", "takeUp", "(IJI)V"⟩, 4), (⟨"SlangYears$Life", "dropIt", "(II)V"⟩, 4), (⟨"SlangYears$Life", "youngTwoAhead", "(II)I"⟩, 4), (⟨"SlangYears$Life", "learnIt", "(II)V"⟩, 4), (⟨"SlangYears", "meanNow", "(II)I"⟩, 12), (⟨"SlangYears$Songs", "add", "(IIII)V"⟩, 5), (⟨"SlangYears$Life", "peak", "(I)I"⟩, 4), (⟨"SlangYears$Life", "peakYear", "(I)I"⟩, 4), (⟨"SlangYears$Life", "overYear", "(I)I"⟩, 4), (⟨"SlangYears$Life", "keptAge", "(I)I"⟩, 4), (⟨"SlangYears$Life", "parentsYear", "(I)I"⟩, 4), (⟨"SlangYears", "weights", "(IIII)J"⟩, 12), (⟨"SlangYears", "weight", "(IIII)J"⟩, 12), (⟨"SlangYears", "letterStands", "()Z"⟩, 12), (⟨"SlangYears", "recallLetter", "()V"⟩, 12), (⟨"SlangYears$Life", "replay", "(LSlangYears$Land;LSlangYears$Songs;III)V"⟩, 4)]
theorem lw_r3 : ∀ q ∈ lw_privs_3, lw_okq q := List.forall_mem_cons.mpr ⟨lw_p32, List.forall_mem_cons.mpr ⟨lw_p33, List.forall_mem_cons.mpr ⟨lw_p34, List.forall_mem_cons.mpr ⟨lw_p35, List.forall_mem_cons.mpr ⟨lw_p36, List.forall_mem_cons.mpr ⟨lw_p37, List.forall_mem_cons.mpr ⟨lw_p38, List.forall_mem_cons.mpr ⟨lw_p39, List.forall_mem_cons.mpr ⟨lw_p40, List.forall_mem_cons.mpr ⟨lw_p41, List.forall_mem_cons.mpr ⟨lw_p42, List.forall_mem_cons.mpr ⟨lw_p43, List.forall_mem_cons.mpr ⟨lw_p44, List.forall_mem_cons.mpr ⟨lw_p45, List.forall_mem_cons.mpr ⟨lw_p46, List.forall_mem_cons.mpr ⟨lw_p47, fun _ h => absurd h List.not_mem_nil⟩⟩⟩⟩⟩⟩⟩⟩⟩⟩⟩⟩⟩⟩⟩⟩
theorem lw_p48 : lw_okq (⟨"SlangYears", "letterWeight", "()J"⟩, 12) := ⟨⟨by decide +kernel, by decide +kernel⟩, List.mem_of_getElem? (i := 19) (by decide +kernel), List.mem_of_getElem? (i := 671) (by decide +kernel), List.mem_of_getElem? (i := 672) (by decide +kernel)⟩
theorem lw_p49 : lw_okq (⟨"SlangYears", "lastOver", "(II)I"⟩, 12) := ⟨⟨by decide +kernel, by decide +kernel⟩, List.mem_of_getElem? (i := 19) (by decide +kernel), List.mem_of_getElem? (i := 680) (by decide +kernel), List.mem_of_getElem? (i := 681) (by decide +kernel)⟩
theorem lw_p50 : lw_okq (⟨"SlangYears$Writings", "add", "(II)V"⟩, 3) := ⟨⟨by decide +kernel, by decide +kernel⟩, List.mem_of_getElem? (i := 164) (by decide +kernel), List.mem_of_getElem? (i := 692) (by decide +kernel), List.mem_of_getElem? (i := 693) (by decide +kernel)⟩
theorem lw_p51 : lw_okq (⟨"SlangYears$Writings", "countOf", "(I)I"⟩, 3) := ⟨⟨by decide +kernel, by decide +kernel⟩, List.mem_of_getElem? (i := 164) (by decide +kernel), List.mem_of_getElem? (i := 700) (by decide +kernel), List.mem_of_getElem? (i := 701) (by decide +kernel)⟩
theorem lw_p52 : lw_okq (⟨"SlangYears$Writings", "least", "(I)I"⟩, 3) := ⟨⟨by decide +kernel, by decide +kernel⟩, List.mem_of_getElem? (i := 164) (by decide +kernel), List.mem_of_getElem? (i := 704) (by decide +kernel), List.mem_of_getElem? (i := 705) (by decide +kernel)⟩
theorem lw_p53 : lw_okq (⟨"SlangYears$Writings", "greatest", "(I)I"⟩, 3) := ⟨⟨by decide +kernel, by decide +kernel⟩, List.mem_of_getElem? (i := 164) (by decide +kernel), List.mem_of_getElem? (i := 709) (by decide +kernel), List.mem_of_getElem? (i := 710) (by decide +kernel)⟩
theorem lw_p54 : lw_okq (⟨"SlangYears$Writings", "sum", "(I)I"⟩, 3) := ⟨⟨by decide +kernel, by decide +kernel⟩, List.mem_of_getElem? (i := 164) (by decide +kernel), List.mem_of_getElem? (i := 714) (by decide +kernel), List.mem_of_getElem? (i := 715) (by decide +kernel)⟩
theorem lw_p55 : lw_okq (⟨"SlangYears", "rateWord", "(I)I"⟩, 12) := ⟨⟨by decide +kernel, by decide +kernel⟩, List.mem_of_getElem? (i := 19) (by decide +kernel), List.mem_of_getElem? (i := 735) (by decide +kernel), List.mem_of_getElem? (i := 736) (by decide +kernel)⟩
theorem lw_p56 : lw_okq (⟨"SlangYears", "rateNew", "(I)I"⟩, 12) := ⟨⟨by decide +kernel, by decide +kernel⟩, List.mem_of_getElem? (i := 19) (by decide +kernel), List.mem_of_getElem? (i := 739) (by decide +kernel), List.mem_of_getElem? (i := 740) (by decide +kernel)⟩
theorem lw_p57 : lw_okq (⟨"SlangYears", "rateHad", "(I)I"⟩, 12) := ⟨⟨by decide +kernel, by decide +kernel⟩, List.mem_of_getElem? (i := 19) (by decide +kernel), List.mem_of_getElem? (i := 744) (by decide +kernel), List.mem_of_getElem? (i := 745) (by decide +kernel)⟩
theorem lw_p58 : lw_okq (⟨"SlangYears", "rateOver", "(I)I"⟩, 12) := ⟨⟨by decide +kernel, by decide +kernel⟩, List.mem_of_getElem? (i := 19) (by decide +kernel), List.mem_of_getElem? (i := 749) (by decide +kernel), List.mem_of_getElem? (i := 750) (by decide +kernel)⟩
theorem lw_p59 : lw_okq (⟨"SlangYears", "rateKept", "(I)I"⟩, 12) := ⟨⟨by decide +kernel, by decide +kernel⟩, List.mem_of_getElem? (i := 19) (by decide +kernel), List.mem_of_getElem? (i := 754) (by decide +kernel), List.mem_of_getElem? (i := 755) (by decide +kernel)⟩
theorem lw_p60 : lw_okq (⟨"SlangYears", "rateStayed", "(I)I"⟩, 12) := ⟨⟨by decide +kernel, by decide +kernel⟩, List.mem_of_getElem? (i := 19) (by decide +kernel), List.mem_of_getElem? (i := 759) (by decide +kernel), List.mem_of_getElem? (i := 760) (by decide +kernel)⟩
theorem lw_p61 : lw_okq (⟨"SlangYears$Moment", "copyFrom", "(LSlangYears$Moment;)V"⟩, 4) := ⟨⟨by decide +kernel, by decide +kernel⟩, List.mem_of_getElem? (i := 60) (by decide +kernel), List.mem_of_getElem? (i := 768) (by decide +kernel), List.mem_of_getElem? (i := 769) (by decide +kernel)⟩
theorem lw_p62 : lw_okq (⟨"SlangYears$Songs", "copyFrom", "(LSlangYears$Songs;)V"⟩, 5) := ⟨⟨by decide +kernel, by decide +kernel⟩, List.mem_of_getElem? (i := 66) (by decide +kernel), List.mem_of_getElem? (i := 772) (by decide +kernel), List.mem_of_getElem? (i := 773) (by decide +kernel)⟩
theorem lw_p63 : lw_okq (⟨"SlangYears$Life", "copyFrom", "(LSlangYears$Life;)V"⟩, 4) := ⟨⟨by decide +kernel, by decide +kernel⟩, List.mem_of_getElem? (i := 97) (by decide +kernel), List.mem_of_getElem? (i := 777) (by decide +kernel), List.mem_of_getElem? (i := 778) (by decide +kernel)⟩
def lw_privs_4 : List (MethodName × Nat) := [(⟨"SlangYears", "letterWeight", "()J"⟩, 12), (⟨"SlangYears", "lastOver", "(II)I"⟩, 12), (⟨"SlangYears$Writings", "add", "(II)V"⟩, 3), (⟨"SlangYears$Writings", "countOf", "(I)I"⟩, 3), (⟨"SlangYears$Writings", "least", "(I)I"⟩, 3), (⟨"SlangYears$Writings", "greatest", "(I)I"⟩, 3), (⟨"SlangYears$Writings", "sum", "(I)I"⟩, 3), (⟨"SlangYears", "rateWord", "(I)I"⟩, 12), (⟨"SlangYears", "rateNew", "(I)I"⟩, 12), (⟨"SlangYears", "rateHad", "(I)I"⟩, 12), (⟨"SlangYears", "rateOver", "(I)I"⟩, 12), (⟨"SlangYears", "rateKept", "(I)I"⟩, 12), (⟨"SlangYears", "rateStayed", "(I)I"⟩, 12), (⟨"SlangYears$Moment", "copyFrom", "(LSlangYears$Moment;)V"⟩, 4), (⟨"SlangYears$Songs", "copyFrom", "(LSlangYears$Songs;)V"⟩, 5), (⟨"SlangYears$Life", "copyFrom", "(LSlangYears$Life;)V"⟩, 4)]
theorem lw_r4 : ∀ q ∈ lw_privs_4, lw_okq q := List.forall_mem_cons.mpr ⟨lw_p48, List.forall_mem_cons.mpr ⟨lw_p49, List.forall_mem_cons.mpr ⟨lw_p50, List.forall_mem_cons.mpr ⟨lw_p51, List.forall_mem_cons.mpr ⟨lw_p52, List.forall_mem_cons.mpr ⟨lw_p53, List.forall_mem_cons.mpr ⟨lw_p54, List.forall_mem_cons.mpr ⟨lw_p55, List.forall_mem_cons.mpr ⟨lw_p56, List.forall_mem_cons.mpr ⟨lw_p57, List.forall_mem_cons.mpr ⟨lw_p58, List.forall_mem_cons.mpr ⟨lw_p59, List.forall_mem_cons.mpr ⟨lw_p60, List.forall_mem_cons.mpr ⟨lw_p61, List.forall_mem_cons.mpr ⟨lw_p62, List.forall_mem_cons.mpr ⟨lw_p63, fun _ h => absurd h List.not_mem_nil⟩⟩⟩⟩⟩⟩⟩⟩⟩⟩⟩⟩⟩⟩⟩⟩
theorem lw_p64 : lw_okq (⟨"SlangYearsModel", "drafts", "()V"⟩, 31) := ⟨⟨by decide +kernel, by decide +kernel⟩, List.mem_of_getElem? (i := 793) (by decide +kernel), List.mem_of_getElem? (i := 799) (by decide +kernel), List.mem_of_getElem? (i := 800) (by decide +kernel)⟩
theorem lw_p65 : lw_okq (⟨"SlangYearsModel", "adopts", "()V"⟩, 31) := ⟨⟨by decide +kernel, by decide +kernel⟩, List.mem_of_getElem? (i := 793) (by decide +kernel), List.mem_of_getElem? (i := 803) (by decide +kernel), List.mem_of_getElem? (i := 804) (by decide +kernel)⟩
theorem lw_p66 : lw_okq (⟨"SlangYearsModel", "begins", "()V"⟩, 31) := ⟨⟨by decide +kernel, by decide +kernel⟩, List.mem_of_getElem? (i := 793) (by decide +kernel), List.mem_of_getElem? (i := 807) (by decide +kernel), List.mem_of_getElem? (i := 808) (by decide +kernel)⟩
theorem lw_p67 : lw_okq (⟨"SlangYearsModel", "comes", "()V"⟩, 31) := ⟨⟨by decide +kernel, by decide +kernel⟩, List.mem_of_getElem? (i := 793) (by decide +kernel), List.mem_of_getElem? (i := 811) (by decide +kernel), List.mem_of_getElem? (i := 812) (by decide +kernel)⟩
theorem lw_p68 : lw_okq (⟨"SlangYearsModel", "sings", "(III)V"⟩, 31) := ⟨⟨by decide +kernel, by decide +kernel⟩, List.mem_of_getElem? (i := 793) (by decide +kernel), List.mem_of_getElem? (i := 818) (by decide +kernel), List.mem_of_getElem? (i := 819) (by decide +kernel)⟩
theorem lw_p69 : lw_okq (⟨"SlangYearsModel", "isCoined", "(I)Z"⟩, 31) := ⟨⟨by decide +kernel, by decide +kernel⟩, List.mem_of_getElem? (i := 793) (by decide +kernel), List.mem_of_getElem? (i := 822) (by decide +kernel), List.mem_of_getElem? (i := 823) (by decide +kernel)⟩
theorem lw_p70 : lw_okq (⟨"SlangYearsModel", "records", "()V"⟩, 31) := ⟨⟨by decide +kernel, by decide +kernel⟩, List.mem_of_getElem? (i := 793) (by decide +kernel), List.mem_of_getElem? (i := 826) (by decide +kernel), List.mem_of_getElem? (i := 827) (by decide +kernel)⟩
theorem lw_p71 : lw_okq (⟨"SlangYearsModel", "of", "(III)I"⟩, 31) := ⟨⟨by decide +kernel, by decide +kernel⟩, List.mem_of_getElem? (i := 793) (by decide +kernel), List.mem_of_getElem? (i := 830) (by decide +kernel), List.mem_of_getElem? (i := 831) (by decide +kernel)⟩
theorem lw_p72 : lw_okq (⟨"SlangYearsModel", "mean", "(II)I"⟩, 31) := ⟨⟨by decide +kernel, by decide +kernel⟩, List.mem_of_getElem? (i := 793) (by decide +kernel), List.mem_of_getElem? (i := 834) (by decide +kernel), List.mem_of_getElem? (i := 835) (by decide +kernel)⟩
theorem lw_p73 : lw_okq (⟨"SlangYearsModel", "advances", "()V"⟩, 31) := ⟨⟨by decide +kernel, by decide +kernel⟩, List.mem_of_getElem? (i := 793) (by decide +kernel), List.mem_of_getElem? (i := 948) (by decide +kernel), List.mem_of_getElem? (i := 949) (by decide +kernel)⟩
theorem lw_p74 : lw_okq (⟨"SlangYearsModel", "byteAt", "(I)I"⟩, 31) := ⟨⟨by decide +kernel, by decide +kernel⟩, List.mem_of_getElem? (i := 793) (by decide +kernel), List.mem_of_getElem? (i := 952) (by decide +kernel), List.mem_of_getElem? (i := 953) (by decide +kernel)⟩
theorem lw_p75 : lw_okq (⟨"SlangYearsModel", "isWell", "()Z"⟩, 31) := ⟨⟨by decide +kernel, by decide +kernel⟩, List.mem_of_getElem? (i := 793) (by decide +kernel), List.mem_of_getElem? (i := 966) (by decide +kernel), List.mem_of_getElem? (i := 967) (by decide +kernel)⟩
theorem lw_p76 : lw_okq (⟨"SlangYearsModel", "mayBegin", "(I)Z"⟩, 31) := ⟨⟨by decide +kernel, by decide +kernel⟩, List.mem_of_getElem? (i := 793) (by decide +kernel), List.mem_of_getElem? (i := 970) (by decide +kernel), List.mem_of_getElem? (i := 971) (by decide +kernel)⟩
theorem lw_p77 : lw_okq (⟨"SlangYearsModel", "takes", "(Z)I"⟩, 31) := ⟨⟨by decide +kernel, by decide +kernel⟩, List.mem_of_getElem? (i := 793) (by decide +kernel), List.mem_of_getElem? (i := 974) (by decide +kernel), List.mem_of_getElem? (i := 975) (by decide +kernel)⟩
theorem lw_p78 : lw_okq (⟨"SlangYearsModel", "readsItem", "(I)V"⟩, 31) := ⟨⟨by decide +kernel, by decide +kernel⟩, List.mem_of_getElem? (i := 793) (by decide +kernel), List.mem_of_getElem? (i := 978) (by decide +kernel), List.mem_of_getElem? (i := 979) (by decide +kernel)⟩
theorem lw_p79 : lw_okq (⟨"SlangYearsModel", "number", "(II)I"⟩, 31) := ⟨⟨by decide +kernel, by decide +kernel⟩, List.mem_of_getElem? (i := 793) (by decide +kernel), List.mem_of_getElem? (i := 982) (by decide +kernel), List.mem_of_getElem? (i := 983) (by decide +kernel)⟩
def lw_privs_5 : List (MethodName × Nat) := [(⟨"SlangYearsModel", "drafts", "()V"⟩, 31), (⟨"SlangYearsModel", "adopts", "()V"⟩, 31), (⟨"SlangYearsModel", "begins", "()V"⟩, 31), (⟨"SlangYearsModel", "comes", "()V"⟩, 31), (⟨"SlangYearsModel", "sings", "(III)V"⟩, 31), (⟨"SlangYearsModel", "isCoined", "(I)Z"⟩, 31), (⟨"SlangYearsModel", "records", "()V"⟩, 31), (⟨"SlangYearsModel", "of", "(III)I"⟩, 31), (⟨"SlangYearsModel", "mean", "(II)I"⟩, 31), (⟨"SlangYearsModel", "advances", "()V"⟩, 31), (⟨"SlangYearsModel", "byteAt", "(I)I"⟩, 31), (⟨"SlangYearsModel", "isWell", "()Z"⟩, 31), (⟨"SlangYearsModel", "mayBegin", "(I)Z"⟩, 31), (⟨"SlangYearsModel", "takes", "(Z)I"⟩, 31), (⟨"SlangYearsModel", "readsItem", "(I)V"⟩, 31), (⟨"SlangYearsModel", "number", "(II)I"⟩, 31)]
theorem lw_r5 : ∀ q ∈ lw_privs_5, lw_okq q := List.forall_mem_cons.mpr ⟨lw_p64, List.forall_mem_cons.mpr ⟨lw_p65, List.forall_mem_cons.mpr ⟨lw_p66, List.forall_mem_cons.mpr ⟨lw_p67, List.forall_mem_cons.mpr ⟨lw_p68, List.forall_mem_cons.mpr ⟨lw_p69, List.forall_mem_cons.mpr ⟨lw_p70, List.forall_mem_cons.mpr ⟨lw_p71, List.forall_mem_cons.mpr ⟨lw_p72, List.forall_mem_cons.mpr ⟨lw_p73, List.forall_mem_cons.mpr ⟨lw_p74, List.forall_mem_cons.mpr ⟨lw_p75, List.forall_mem_cons.mpr ⟨lw_p76, List.forall_mem_cons.mpr ⟨lw_p77, List.forall_mem_cons.mpr ⟨lw_p78, List.forall_mem_cons.mpr ⟨lw_p79, fun _ h => absurd h List.not_mem_nil⟩⟩⟩⟩⟩⟩⟩⟩⟩⟩⟩⟩⟩⟩⟩⟩
theorem lw_p80 : lw_okq (⟨"SlangYearsModel", "isPlace", "(I)Z"⟩, 31) := ⟨⟨by decide +kernel, by decide +kernel⟩, List.mem_of_getElem? (i := 793) (by decide +kernel), List.mem_of_getElem? (i := 998) (by decide +kernel), List.mem_of_getElem? (i := 999) (by decide +kernel)⟩
theorem lw_p81 : lw_okq (⟨"SlangYearsModel", "isWord", "(I)Z"⟩, 31) := ⟨⟨by decide +kernel, by decide +kernel⟩, List.mem_of_getElem? (i := 793) (by decide +kernel), List.mem_of_getElem? (i := 1006) (by decide +kernel), List.mem_of_getElem? (i := 1007) (by decide +kernel)⟩
theorem lw_p82 : lw_okq (⟨"SlangYearsModel", "goesBy", "()V"⟩, 31) := ⟨⟨by decide +kernel, by decide +kernel⟩, List.mem_of_getElem? (i := 793) (by decide +kernel), List.mem_of_getElem? (i := 1014) (by decide +kernel), List.mem_of_getElem? (i := 1015) (by decide +kernel)⟩
theorem lw_p83 : lw_okq (⟨"SlangYearsModel", "goesWord", "(I)V"⟩, 31) := ⟨⟨by decide +kernel, by decide +kernel⟩, List.mem_of_getElem? (i := 793) (by decide +kernel), List.mem_of_getElem? (i := 1018) (by decide +kernel), List.mem_of_getElem? (i := 1019) (by decide +kernel)⟩
theorem lw_p84 : lw_okq (⟨"SlangYearsModel", "peakOf", "(I)I"⟩, 31) := ⟨⟨by decide +kernel, by decide +kernel⟩, List.mem_of_getElem? (i := 793) (by decide +kernel), List.mem_of_getElem? (i := 1046) (by decide +kernel), List.mem_of_getElem? (i := 1047) (by decide +kernel)⟩
theorem lw_p85 : lw_okq (⟨"SlangYearsModel", "youngMean", "(II)I"⟩, 31) := ⟨⟨by decide +kernel, by decide +kernel⟩, List.mem_of_getElem? (i := 793) (by decide +kernel), List.mem_of_getElem? (i := 1050) (by decide +kernel), List.mem_of_getElem? (i := 1051) (by decide +kernel)⟩
theorem lw_p86 : lw_okq (⟨"SlangYearsModel", "keptAge", "(I)I"⟩, 31) := ⟨⟨by decide +kernel, by decide +kernel⟩, List.mem_of_getElem? (i := 793) (by decide +kernel), List.mem_of_getElem? (i := 1054) (by decide +kernel), List.mem_of_getElem? (i := 1055) (by decide +kernel)⟩
theorem lw_p87 : lw_okq (⟨"SlangYearsModel", "weights", "(IIII)J"⟩, 31) := ⟨⟨by decide +kernel, by decide +kernel⟩, List.mem_of_getElem? (i := 793) (by decide +kernel), List.mem_of_getElem? (i := 1067) (by decide +kernel), List.mem_of_getElem? (i := 1068) (by decide +kernel)⟩
theorem lw_p88 : lw_okq (⟨"SlangYearsModel", "weight", "(IIII)J"⟩, 31) := ⟨⟨by decide +kernel, by decide +kernel⟩, List.mem_of_getElem? (i := 793) (by decide +kernel), List.mem_of_getElem? (i := 1071) (by decide +kernel), List.mem_of_getElem? (i := 1072) (by decide +kernel)⟩
theorem lw_p89 : lw_okq (⟨"SlangYearsModel", "isLetterTold", "()Z"⟩, 31) := ⟨⟨by decide +kernel, by decide +kernel⟩, List.mem_of_getElem? (i := 793) (by decide +kernel), List.mem_of_getElem? (i := 1094) (by decide +kernel), List.mem_of_getElem? (i := 1095) (by decide +kernel)⟩
theorem lw_p90 : lw_okq (⟨"SlangYearsModel", "aside", "(Z)V"⟩, 31) := ⟨⟨by decide +kernel, by decide +kernel⟩, List.mem_of_getElem? (i := 793) (by decide +kernel), List.mem_of_getElem? (i := 1098) (by decide +kernel), List.mem_of_getElem? (i := 1099) (by decide +kernel)⟩
theorem lw_p91 : lw_okq (⟨"SlangYearsModel", "goesTo", "(I)V"⟩, 31) := ⟨⟨by decide +kernel, by decide +kernel⟩, List.mem_of_getElem? (i := 793) (by decide +kernel), List.mem_of_getElem? (i := 1102) (by decide +kernel), List.mem_of_getElem? (i := 1103) (by decide +kernel)⟩
theorem lw_p92 : lw_okq (⟨"SlangYearsModel", "overBy", "(II)I"⟩, 31) := ⟨⟨by decide +kernel, by decide +kernel⟩, List.mem_of_getElem? (i := 793) (by decide +kernel), List.mem_of_getElem? (i := 1114) (by decide +kernel), List.mem_of_getElem? (i := 1115) (by decide +kernel)⟩
def lw_privs_6 : List (MethodName × Nat) := [(⟨"SlangYearsModel", "isPlace", "(I)Z"⟩, 31), (⟨"SlangYearsModel", "isWord", "(I)Z"⟩, 31), (⟨"SlangYearsModel", "goesBy", "()V"⟩, 31), (⟨"SlangYearsModel", "goesWord", "(I)V"⟩, 31), (⟨"SlangYearsModel", "peakOf", "(I)I"⟩, 31), (⟨"SlangYearsModel", "youngMean", "(II)I"⟩, 31), (⟨"SlangYearsModel", "keptAge", "(I)I"⟩, 31), (⟨"SlangYearsModel", "weights", "(IIII)J"⟩, 31), (⟨"SlangYearsModel", "weight", "(IIII)J"⟩, 31), (⟨"SlangYearsModel", "isLetterTold", "()Z"⟩, 31), (⟨"SlangYearsModel", "aside", "(Z)V"⟩, 31), (⟨"SlangYearsModel", "goesTo", "(I)V"⟩, 31), (⟨"SlangYearsModel", "overBy", "(II)I"⟩, 31)]
theorem lw_r6 : ∀ q ∈ lw_privs_6, lw_okq q := List.forall_mem_cons.mpr ⟨lw_p80, List.forall_mem_cons.mpr ⟨lw_p81, List.forall_mem_cons.mpr ⟨lw_p82, List.forall_mem_cons.mpr ⟨lw_p83, List.forall_mem_cons.mpr ⟨lw_p84, List.forall_mem_cons.mpr ⟨lw_p85, List.forall_mem_cons.mpr ⟨lw_p86, List.forall_mem_cons.mpr ⟨lw_p87, List.forall_mem_cons.mpr ⟨lw_p88, List.forall_mem_cons.mpr ⟨lw_p89, List.forall_mem_cons.mpr ⟨lw_p90, List.forall_mem_cons.mpr ⟨lw_p91, List.forall_mem_cons.mpr ⟨lw_p92, fun _ h => absurd h List.not_mem_nil⟩⟩⟩⟩⟩⟩⟩⟩⟩⟩⟩⟩⟩
def lw_privs : List (MethodName × Nat) := lw_privs_1 ++ (lw_privs_2 ++ (lw_privs_3 ++ (lw_privs_4 ++ (lw_privs_5 ++ (lw_privs_6)))))
def lw_tbl : List Cond := k2_sels lw_privs ++ tables_1
theorem lw_privs_ok : ∀ q ∈ lw_privs, lw_okq q := by
  show ∀ q ∈ lw_privs_1 ++ (lw_privs_2 ++ (lw_privs_3 ++ (lw_privs_4 ++ (lw_privs_5 ++ (lw_privs_6))))), lw_okq q
  exact List.forall_mem_append.mpr ⟨lw_r1, List.forall_mem_append.mpr ⟨lw_r2, List.forall_mem_append.mpr ⟨lw_r3, List.forall_mem_append.mpr ⟨lw_r4, List.forall_mem_append.mpr ⟨lw_r5, lw_r6⟩⟩⟩⟩⟩
end
section
def RX0 : String := "SlangYears$Land"
def TX0 : u_T := fun k => match k with
  | 0 => ("SlangYears$Land", "places", "I", false)
  | 1 => ("SlangYears$Land", "words", "I", false)
  | 2 => ("SlangYears$Land", "take", "I", false)
  | 3 => ("SlangYears$Land", "learn", "I", false)
  | 4 => ("SlangYears$Land", "drop", "I", false)
  | 5 => ("SlangYears$Land", "start", "I", false)
  | 6 => ("SlangYears$Land", "tenths", "[I", true)
  | 7 => ("SlangYears$Land", "meanings", "[I", true)
  | 8 => ("SlangYears$Land", "years", "[I", true)
  | 9 => ("SlangYears$Land", "homes", "[I", true)
  | _ => ("SlangYears$Land", "plain", "[Z", true)
def tyX0 : Nat → FieldType := fun k => match k with
  | 0 => .int
  | 1 => .int
  | 2 => .int
  | 3 => .int
  | 4 => .int
  | 5 => .int
  | 6 => .array .int
  | 7 => .array .int
  | 8 => .array .int
  | 9 => .array .int
  | _ => .array .boolean
abbrev wsX00 : List Cond := u_ws RX0 TX0 11
theorem nmX0 : ∀ a, a < 11 → ∀ b, b < 11 → a ≠ b → (TX0 a).2.1 ≠ (TX0 b).2.1 := by decide +kernel
theorem tyX0_ok : ∀ k, k < 11 → parseFieldDescriptor (TX0 k).2.2.1 = some (tyX0 k) := by decide +kernel
abbrev cX0_init : ByteArray := prog_2_method_1_code
def yX0_init : MethodName := ⟨RX0, "<init>", "()V"⟩
abbrev cX0_reset : ByteArray := prog_2_method_2_code
def yX0_reset : MethodName := ⟨RX0, "reset", "()V"⟩
abbrev cX0_nearness : ByteArray := prog_2_method_3_code
def yX0_nearness : MethodName := ⟨RX0, "nearness", "(II)I"⟩
abbrev cX0_bringNear : ByteArray := prog_2_method_4_code
def yX0_bringNear : MethodName := ⟨RX0, "bringNear", "(III)V"⟩
abbrev cX0_addWord : ByteArray := prog_2_method_5_code
def yX0_addWord : MethodName := ⟨RX0, "addWord", "(IIIZ)V"⟩
def RX1 : String := "SlangYears$Letter"
def TX1 : u_T := fun k => match k with
  | 0 => ("SlangYears$Letter", "told", "Z", false)
  | 1 => ("SlangYears$Letter", "words", "I", false)
  | 2 => ("SlangYears$Letter", "year", "I", false)
  | 3 => ("SlangYears$Letter", "age", "I", false)
  | 4 => ("SlangYears$Letter", "place", "I", false)
  | _ => ("SlangYears$Letter", "shares", "[I", true)
def tyX1 : Nat → FieldType := fun k => match k with
  | 0 => .boolean
  | 1 => .int
  | 2 => .int
  | 3 => .int
  | 4 => .int
  | _ => .array .int
abbrev wsX10 : List Cond := u_ws RX1 TX1 6
theorem nmX1 : ∀ a, a < 6 → ∀ b, b < 6 → a ≠ b → (TX1 a).2.1 ≠ (TX1 b).2.1 := by decide +kernel
theorem tyX1_ok : ∀ k, k < 6 → parseFieldDescriptor (TX1 k).2.2.1 = some (tyX1 k) := by decide +kernel
abbrev cX1_init : ByteArray := prog_3_method_1_code
def yX1_init : MethodName := ⟨RX1, "<init>", "()V"⟩
def RX2 : String := "SlangYears$Life"
def TX2 : u_T := fun k => match k with
  | 0 => ("SlangYears$Life", "shares", "[[I", true)
  | 1 => ("SlangYears$Life", "youngs", "[[I", true)
  | 2 => ("SlangYears$Life", "youngMeans", "[I", true)
  | _ => ("SlangYears$Life", "parentMeans", "[I", true)
def tyX2 : Nat → FieldType := fun k => match k with
  | 0 => .array (.array .int)
  | 1 => .array (.array .int)
  | 2 => .array .int
  | _ => .array .int
abbrev wsX20 : List Cond := u_ws RX2 TX2 4
theorem nmX2 : ∀ a, a < 4 → ∀ b, b < 4 → a ≠ b → (TX2 a).2.1 ≠ (TX2 b).2.1 := by decide +kernel
theorem tyX2_ok : ∀ k, k < 4 → parseFieldDescriptor (TX2 k).2.2.1 = some (tyX2 k) := by decide +kernel
abbrev cX2_init : ByteArray := prog_4_method_1_code
def yX2_init : MethodName := ⟨RX2, "<init>", "()V"⟩
abbrev cX2_copyFrom : ByteArray := prog_4_method_2_code
def yX2_copyFrom : MethodName := ⟨RX2, "copyFrom", "(LSlangYears$Life;)V"⟩
abbrev cX2_measure : ByteArray := prog_4_method_3_code
def yX2_measure : MethodName := ⟨RX2, "measure", "(II)I"⟩
abbrev cX2_total : ByteArray := prog_4_method_4_code
def yX2_total : MethodName := ⟨RX2, "total", "(III)I"⟩
abbrev cX2_replay : ByteArray := prog_4_method_5_code
def yX2_replay : MethodName := ⟨RX2, "replay", "(LSlangYears$Land;LSlangYears$Songs;III)V"⟩
abbrev cX2_begin : ByteArray := prog_4_method_6_code
def yX2_begin : MethodName := ⟨RX2, "begin", "(LSlangYears$Land;LSlangYears$Songs;I)V"⟩
abbrev cX2_pass : ByteArray := prog_4_method_7_code
def yX2_pass : MethodName := ⟨RX2, "pass", "(LSlangYears$Land;LSlangYears$Songs;III)V"⟩
abbrev cX2_heard : ByteArray := prog_4_method_8_code
def yX2_heard : MethodName := ⟨RX2, "heard", "(LSlangYears$Land;II)I"⟩
abbrev cX2_youngTwoAhead : ByteArray := prog_4_method_9_code
def yX2_youngTwoAhead : MethodName := ⟨RX2, "youngTwoAhead", "(II)I"⟩
abbrev cX2_growOlder : ByteArray := prog_4_method_10_code
def yX2_growOlder : MethodName := ⟨RX2, "growOlder", "(I)V"⟩
abbrev cX2_takeUp : ByteArray := prog_4_method_11_code
def yX2_takeUp : MethodName := ⟨RX2, "takeUp", "(IJI)V"⟩
abbrev cX2_dropIt : ByteArray := prog_4_method_12_code
def yX2_dropIt : MethodName := ⟨RX2, "dropIt", "(II)V"⟩
abbrev cX2_learnIt : ByteArray := prog_4_method_13_code
def yX2_learnIt : MethodName := ⟨RX2, "learnIt", "(II)V"⟩
abbrev cX2_arrive : ByteArray := prog_4_method_14_code
def yX2_arrive : MethodName := ⟨RX2, "arrive", "(LSlangYears$Land;LSlangYears$Songs;II)V"⟩
abbrev cX2_raise : ByteArray := prog_4_method_15_code
def yX2_raise : MethodName := ⟨RX2, "raise", "(IIII)V"⟩
abbrev cX2_note : ByteArray := prog_4_method_16_code
def yX2_note : MethodName := ⟨RX2, "note", "(II)V"⟩
abbrev cX2_peakYear : ByteArray := prog_4_method_17_code
def yX2_peakYear : MethodName := ⟨RX2, "peakYear", "(I)I"⟩
abbrev cX2_peak : ByteArray := prog_4_method_18_code
def yX2_peak : MethodName := ⟨RX2, "peak", "(I)I"⟩
abbrev cX2_overYear : ByteArray := prog_4_method_19_code
def yX2_overYear : MethodName := ⟨RX2, "overYear", "(I)I"⟩
abbrev cX2_parentsYear : ByteArray := prog_4_method_20_code
def yX2_parentsYear : MethodName := ⟨RX2, "parentsYear", "(I)I"⟩
abbrev cX2_keptAge : ByteArray := prog_4_method_21_code
def yX2_keptAge : MethodName := ⟨RX2, "keptAge", "(I)I"⟩
def RX3 : String := "SlangYears$Moment"
def TX3 : u_T := fun k => match k with
  | 0 => ("SlangYears$Moment", "year", "I", false)
  | 1 => ("SlangYears$Moment", "lot", "I", false)
  | 2 => ("SlangYears$Moment", "songs", "LSlangYears$Songs;", true)
  | _ => ("SlangYears$Moment", "lives", "[LSlangYears$Life;", true)
def tyX3 : Nat → FieldType := fun k => match k with
  | 0 => .int
  | 1 => .int
  | 2 => .object "SlangYears$Songs"
  | _ => .array (.object "SlangYears$Life")
abbrev wsX30 : List Cond := u_ws RX3 TX3 4
theorem nmX3 : ∀ a, a < 4 → ∀ b, b < 4 → a ≠ b → (TX3 a).2.1 ≠ (TX3 b).2.1 := by decide +kernel
theorem tyX3_ok : ∀ k, k < 4 → parseFieldDescriptor (TX3 k).2.2.1 = some (tyX3 k) := by decide +kernel
abbrev cX3_init : ByteArray := prog_5_method_1_code
def yX3_init : MethodName := ⟨RX3, "<init>", "()V"⟩
abbrev cX3_begin : ByteArray := prog_5_method_2_code
def yX3_begin : MethodName := ⟨RX3, "begin", "(LSlangYears$Land;)V"⟩
abbrev cX3_pass : ByteArray := prog_5_method_3_code
def yX3_pass : MethodName := ⟨RX3, "pass", "(LSlangYears$Land;)V"⟩
abbrev cX3_copyFrom : ByteArray := prog_5_method_4_code
def yX3_copyFrom : MethodName := ⟨RX3, "copyFrom", "(LSlangYears$Moment;)V"⟩
def RX4 : String := "SlangYears$Reader"
def TX4 : u_T := fun k => match k with
  | 0 => ("SlangYears$Reader", "text", "[C", true)
  | 1 => ("SlangYears$Reader", "length", "I", false)
  | 2 => ("SlangYears$Reader", "kind", "I", false)
  | 3 => ("SlangYears$Reader", "first", "I", false)
  | 4 => ("SlangYears$Reader", "behind", "I", false)
  | 5 => ("SlangYears$Reader", "value", "I", false)
  | 6 => ("SlangYears$Reader", "lawTold", "Z", false)
  | _ => ("SlangYears$Reader", "startTold", "Z", false)
def tyX4 : Nat → FieldType := fun k => match k with
  | 0 => .array .char
  | 1 => .int
  | 2 => .int
  | 3 => .int
  | 4 => .int
  | 5 => .int
  | 6 => .boolean
  | _ => .boolean
abbrev wsX40 : List Cond := u_ws RX4 TX4 8
theorem nmX4 : ∀ a, a < 8 → ∀ b, b < 8 → a ≠ b → (TX4 a).2.1 ≠ (TX4 b).2.1 := by decide +kernel
theorem tyX4_ok : ∀ k, k < 8 → parseFieldDescriptor (TX4 k).2.2.1 = some (tyX4 k) := by decide +kernel
abbrev cX4_init : ByteArray := prog_6_method_1_code
def yX4_init : MethodName := ⟨RX4, "<init>", "()V"⟩
abbrev cX4_append : ByteArray := prog_6_method_2_code
def yX4_append : MethodName := ⟨RX4, "append", "(JI)Z"⟩
abbrev cX4_readInto : ByteArray := prog_6_method_3_code
def yX4_readInto : MethodName := ⟨RX4, "readInto", "(LSlangYears$Land;)I"⟩
abbrev cX4_readItem : ByteArray := prog_6_method_4_code
def yX4_readItem : MethodName := ⟨RX4, "readItem", "(LSlangYears$Land;)Z"⟩
abbrev cX4_readPlace : ByteArray := prog_6_method_5_code
def yX4_readPlace : MethodName := ⟨RX4, "readPlace", "(LSlangYears$Land;)Z"⟩
abbrev cX4_readNear : ByteArray := prog_6_method_6_code
def yX4_readNear : MethodName := ⟨RX4, "readNear", "(LSlangYears$Land;)Z"⟩
abbrev cX4_readLaw : ByteArray := prog_6_method_7_code
def yX4_readLaw : MethodName := ⟨RX4, "readLaw", "(LSlangYears$Land;)Z"⟩
abbrev cX4_readStart : ByteArray := prog_6_method_8_code
def yX4_readStart : MethodName := ⟨RX4, "readStart", "(LSlangYears$Land;)Z"⟩
abbrev cX4_readWord : ByteArray := prog_6_method_9_code
def yX4_readWord : MethodName := ⟨RX4, "readWord", "(LSlangYears$Land;)Z"⟩
abbrev cX4_nextIsNumber : ByteArray := prog_6_method_10_code
def yX4_nextIsNumber : MethodName := ⟨RX4, "nextIsNumber", "(II)Z"⟩
abbrev cX4_nextEnds : ByteArray := prog_6_method_11_code
def yX4_nextEnds : MethodName := ⟨RX4, "nextEnds", "()Z"⟩
abbrev cX4_next : ByteArray := prog_6_method_12_code
def yX4_next : MethodName := ⟨RX4, "next", "()V"⟩
abbrev cX4_takeNumber : ByteArray := prog_6_method_13_code
def yX4_takeNumber : MethodName := ⟨RX4, "takeNumber", "()V"⟩
abbrev cX4_takeLetters : ByteArray := prog_6_method_14_code
def yX4_takeLetters : MethodName := ⟨RX4, "takeLetters", "()V"⟩
abbrev cX4_spells : ByteArray := prog_6_method_15_code
def yX4_spells : MethodName := ⟨RX4, "spells", "(Ljava/lang/String;)Z"⟩
abbrev cX4_isDigit : ByteArray := prog_6_method_16_code
def yX4_isDigit : MethodName := ⟨RX4, "isDigit", "(C)Z"⟩
abbrev cX4_isLetter : ByteArray := prog_6_method_17_code
def yX4_isLetter : MethodName := ⟨RX4, "isLetter", "(C)Z"⟩
def RX5 : String := "SlangYears$Songs"
def TX5 : u_T := fun k => match k with
  | 0 => ("SlangYears$Songs", "size", "I", false)
  | 1 => ("SlangYears$Songs", "years", "[I", true)
  | 2 => ("SlangYears$Songs", "words", "[I", true)
  | 3 => ("SlangYears$Songs", "places", "[I", true)
  | _ => ("SlangYears$Songs", "hundredths", "[I", true)
def tyX5 : Nat → FieldType := fun k => match k with
  | 0 => .int
  | 1 => .array .int
  | 2 => .array .int
  | 3 => .array .int
  | _ => .array .int
abbrev wsX50 : List Cond := u_ws RX5 TX5 5
theorem nmX5 : ∀ a, a < 5 → ∀ b, b < 5 → a ≠ b → (TX5 a).2.1 ≠ (TX5 b).2.1 := by decide +kernel
theorem tyX5_ok : ∀ k, k < 5 → parseFieldDescriptor (TX5 k).2.2.1 = some (tyX5 k) := by decide +kernel
abbrev cX5_init : ByteArray := prog_7_method_1_code
def yX5_init : MethodName := ⟨RX5, "<init>", "()V"⟩
abbrev cX5_add : ByteArray := prog_7_method_2_code
def yX5_add : MethodName := ⟨RX5, "add", "(IIII)V"⟩
abbrev cX5_copyFrom : ByteArray := prog_7_method_3_code
def yX5_copyFrom : MethodName := ⟨RX5, "copyFrom", "(LSlangYears$Songs;)V"⟩
def RX6 : String := "SlangYears$Writings"
def TX6 : u_T := fun k => match k with
  | 0 => ("SlangYears$Writings", "size", "I", false)
  | 1 => ("SlangYears$Writings", "years", "[I", true)
  | _ => ("SlangYears$Writings", "words", "[I", true)
def tyX6 : Nat → FieldType := fun k => match k with
  | 0 => .int
  | 1 => .array .int
  | _ => .array .int
abbrev wsX60 : List Cond := u_ws RX6 TX6 3
theorem nmX6 : ∀ a, a < 3 → ∀ b, b < 3 → a ≠ b → (TX6 a).2.1 ≠ (TX6 b).2.1 := by decide +kernel
theorem tyX6_ok : ∀ k, k < 3 → parseFieldDescriptor (TX6 k).2.2.1 = some (tyX6 k) := by decide +kernel
abbrev cX6_init : ByteArray := prog_8_method_1_code
def yX6_init : MethodName := ⟨RX6, "<init>", "()V"⟩
abbrev cX6_add : ByteArray := prog_8_method_2_code
def yX6_add : MethodName := ⟨RX6, "add", "(II)V"⟩
abbrev cX6_countOf : ByteArray := prog_8_method_3_code
def yX6_countOf : MethodName := ⟨RX6, "countOf", "(I)I"⟩
abbrev cX6_sum : ByteArray := prog_8_method_4_code
def yX6_sum : MethodName := ⟨RX6, "sum", "(I)I"⟩
abbrev cX6_least : ByteArray := prog_8_method_5_code
def yX6_least : MethodName := ⟨RX6, "least", "(I)I"⟩
abbrev cX6_greatest : ByteArray := prog_8_method_6_code
def yX6_greatest : MethodName := ⟨RX6, "greatest", "(I)I"⟩
def RX7 : String := "SlangYears"
def TX7 : u_T := fun k => match k with
  | 0 => ("SlangYears", "reader", "LSlangYears$Reader;", true)
  | 1 => ("SlangYears", "now", "LSlangYears$Moment;", true)
  | 2 => ("SlangYears", "images", "[LSlangYears$Moment;", true)
  | 3 => ("SlangYears", "kept", "[Z", true)
  | 4 => ("SlangYears", "letter", "LSlangYears$Letter;", true)
  | 5 => ("SlangYears", "writings", "LSlangYears$Writings;", true)
  | 6 => ("SlangYears", "noSongs", "LSlangYears$Songs;", true)
  | 7 => ("SlangYears", "trial", "LSlangYears$Life;", true)
  | 8 => ("SlangYears", "land", "LSlangYears$Land;", false)
  | 9 => ("SlangYears", "spareLand", "LSlangYears$Land;", false)
  | 10 => ("SlangYears", "late", "I", false)
  | _ => ("SlangYears", "trace", "J", false)
def tyX7 : Nat → FieldType := fun k => match k with
  | 0 => .object "SlangYears$Reader"
  | 1 => .object "SlangYears$Moment"
  | 2 => .array (.object "SlangYears$Moment")
  | 3 => .array .boolean
  | 4 => .object "SlangYears$Letter"
  | 5 => .object "SlangYears$Writings"
  | 6 => .object "SlangYears$Songs"
  | 7 => .object "SlangYears$Life"
  | 8 => .object "SlangYears$Land"
  | 9 => .object "SlangYears$Land"
  | 10 => .int
  | _ => .long
abbrev wsX70 : List Cond := u_ws RX7 TX7 12
theorem nmX7 : ∀ a, a < 12 → ∀ b, b < 12 → a ≠ b → (TX7 a).2.1 ≠ (TX7 b).2.1 := by decide +kernel
theorem tyX7_ok : ∀ k, k < 12 → parseFieldDescriptor (TX7 k).2.2.1 = some (tyX7 k) := by decide +kernel
abbrev cX7_init : ByteArray := prog_1_method_1_code
def yX7_init : MethodName := ⟨RX7, "<init>", "()V"⟩
abbrev cX7_type : ByteArray := prog_1_method_2_code
def yX7_type : MethodName := ⟨RX7, "type", "(JI)I"⟩
abbrev cX7_clear : ByteArray := prog_1_method_3_code
def yX7_clear : MethodName := ⟨RX7, "clear", "()I"⟩
abbrev cX7_land : ByteArray := prog_1_method_4_code
def yX7_land : MethodName := ⟨RX7, "land", "()I"⟩
abbrev cX7_law : ByteArray := prog_1_method_5_code
def yX7_law : MethodName := ⟨RX7, "law", "(I)I"⟩
abbrev cX7_late : ByteArray := prog_1_method_6_code
def yX7_late : MethodName := ⟨RX7, "late", "(I)I"⟩
abbrev cX7_near : ByteArray := prog_1_method_7_code
def yX7_near : MethodName := ⟨RX7, "near", "(II)I"⟩
abbrev cX7_word : ByteArray := prog_1_method_8_code
def yX7_word : MethodName := ⟨RX7, "word", "(II)I"⟩
abbrev cX7_go : ByteArray := prog_1_method_9_code
def yX7_go : MethodName := ⟨RX7, "go", "(I)I"⟩
abbrev cX7_anew : ByteArray := prog_1_method_10_code
def yX7_anew : MethodName := ⟨RX7, "anew", "()I"⟩
abbrev cX7_share : ByteArray := prog_1_method_11_code
def yX7_share : MethodName := ⟨RX7, "share", "(III)I"⟩
abbrev cX7_has : ByteArray := prog_1_method_12_code
def yX7_has : MethodName := ⟨RX7, "has", "(III)I"⟩
abbrev cX7_song : ByteArray := prog_1_method_13_code
def yX7_song : MethodName := ⟨RX7, "song", "(III)I"⟩
abbrev cX7_life : ByteArray := prog_1_method_14_code
def yX7_life : MethodName := ⟨RX7, "life", "(II)I"⟩
abbrev cX7_printed : ByteArray := prog_1_method_15_code
def yX7_printed : MethodName := ⟨RX7, "printed", "(II)I"⟩
abbrev cX7_old : ByteArray := prog_1_method_16_code
def yX7_old : MethodName := ⟨RX7, "old", "(IIIII)J"⟩
abbrev cX7_likeliest : ByteArray := prog_1_method_17_code
def yX7_likeliest : MethodName := ⟨RX7, "likeliest", "(III)I"⟩
abbrev cX7_letter : ByteArray := prog_1_method_18_code
def yX7_letter : MethodName := ⟨RX7, "letter", "(IIII)I"⟩
abbrev cX7_could : ByteArray := prog_1_method_19_code
def yX7_could : MethodName := ⟨RX7, "could", "()I"⟩
abbrev cX7_forged : ByteArray := prog_1_method_20_code
def yX7_forged : MethodName := ⟨RX7, "forged", "(IIII)J"⟩
abbrev cX7_kills : ByteArray := prog_1_method_21_code
def yX7_kills : MethodName := ⟨RX7, "kills", "(I)I"⟩
abbrev cX7_part : ByteArray := prog_1_method_22_code
def yX7_part : MethodName := ⟨RX7, "part", "(I)I"⟩
abbrev cX7_writing : ByteArray := prog_1_method_23_code
def yX7_writing : MethodName := ⟨RX7, "writing", "(III)I"⟩
abbrev cX7_span : ByteArray := prog_1_method_24_code
def yX7_span : MethodName := ⟨RX7, "span", "(II)I"⟩
abbrev cX7_wants : ByteArray := prog_1_method_25_code
def yX7_wants : MethodName := ⟨RX7, "wants", "(I)I"⟩
abbrev cX7_drawn : ByteArray := prog_1_method_26_code
def yX7_drawn : MethodName := ⟨RX7, "drawn", "(II)I"⟩
abbrev cX7_lot : ByteArray := prog_1_method_27_code
def yX7_lot : MethodName := ⟨RX7, "lot", "(I)I"⟩
abbrev cX7_rate : ByteArray := prog_1_method_28_code
def yX7_rate : MethodName := ⟨RX7, "rate", "(II)I"⟩
abbrev cX7_keep : ByteArray := prog_1_method_29_code
def yX7_keep : MethodName := ⟨RX7, "keep", "(I)I"⟩
abbrev cX7_back : ByteArray := prog_1_method_30_code
def yX7_back : MethodName := ⟨RX7, "back", "(I)I"⟩
abbrev cX7_count : ByteArray := prog_1_method_31_code
def yX7_count : MethodName := ⟨RX7, "count", "(I)I"⟩
abbrev cX7_trace : ByteArray := prog_1_method_32_code
def yX7_trace : MethodName := ⟨RX7, "trace", "()J"⟩
abbrev cX7_between : ByteArray := prog_1_method_33_code
def yX7_between : MethodName := ⟨RX7, "between", "(III)Z"⟩
abbrev cX7_isAge : ByteArray := prog_1_method_34_code
def yX7_isAge : MethodName := ⟨RX7, "isAge", "(I)Z"⟩
abbrev cX7_isPlace : ByteArray := prog_1_method_35_code
def yX7_isPlace : MethodName := ⟨RX7, "isPlace", "(I)Z"⟩
abbrev cX7_isWord : ByteArray := prog_1_method_36_code
def yX7_isWord : MethodName := ⟨RX7, "isWord", "(I)Z"⟩
abbrev cX7_isCoined : ByteArray := prog_1_method_37_code
def yX7_isCoined : MethodName := ⟨RX7, "isCoined", "(I)Z"⟩
abbrev cX7_isIn : ByteArray := prog_1_method_38_code
def yX7_isIn : MethodName := ⟨RX7, "isIn", "(II)Z"⟩
abbrev cX7_meanNow : ByteArray := prog_1_method_39_code
def yX7_meanNow : MethodName := ⟨RX7, "meanNow", "(II)I"⟩
abbrev cX7_mean : ByteArray := prog_1_method_40_code
def yX7_mean : MethodName := ⟨RX7, "mean", "(II)I"⟩
abbrev cX7_weight : ByteArray := prog_1_method_41_code
def yX7_weight : MethodName := ⟨RX7, "weight", "(IIII)J"⟩
abbrev cX7_weights : ByteArray := prog_1_method_42_code
def yX7_weights : MethodName := ⟨RX7, "weights", "(IIII)J"⟩
abbrev cX7_letterStands : ByteArray := prog_1_method_43_code
def yX7_letterStands : MethodName := ⟨RX7, "letterStands", "()Z"⟩
abbrev cX7_recallLetter : ByteArray := prog_1_method_44_code
def yX7_recallLetter : MethodName := ⟨RX7, "recallLetter", "()V"⟩
abbrev cX7_letterWeight : ByteArray := prog_1_method_45_code
def yX7_letterWeight : MethodName := ⟨RX7, "letterWeight", "()J"⟩
abbrev cX7_leastTerms : ByteArray := prog_1_method_46_code
def yX7_leastTerms : MethodName := ⟨RX7, "leastTerms", "(JJI)J"⟩
abbrev cX7_commonDivisor : ByteArray := prog_1_method_47_code
def yX7_commonDivisor : MethodName := ⟨RX7, "commonDivisor", "(JJ)J"⟩
abbrev cX7_lastOver : ByteArray := prog_1_method_48_code
def yX7_lastOver : MethodName := ⟨RX7, "lastOver", "(II)I"⟩
abbrev cX7_rateWord : ByteArray := prog_1_method_49_code
def yX7_rateWord : MethodName := ⟨RX7, "rateWord", "(I)I"⟩
abbrev cX7_rateNew : ByteArray := prog_1_method_50_code
def yX7_rateNew : MethodName := ⟨RX7, "rateNew", "(I)I"⟩
abbrev cX7_rateHad : ByteArray := prog_1_method_51_code
def yX7_rateHad : MethodName := ⟨RX7, "rateHad", "(I)I"⟩
abbrev cX7_rateOver : ByteArray := prog_1_method_52_code
def yX7_rateOver : MethodName := ⟨RX7, "rateOver", "(I)I"⟩
abbrev cX7_rateKept : ByteArray := prog_1_method_53_code
def yX7_rateKept : MethodName := ⟨RX7, "rateKept", "(I)I"⟩
abbrev cX7_rateStayed : ByteArray := prog_1_method_54_code
def yX7_rateStayed : MethodName := ⟨RX7, "rateStayed", "(I)I"⟩
def RX8 : String := "SlangYearsModel"
def TX8 : u_T := fun k => match k with
  | 0 => ("SlangYearsModel", "thrown", "I", false)
  | 1 => ("SlangYearsModel", "trace", "J", false)
  | 2 => ("SlangYearsModel", "s", "[I", true)
  | 3 => ("SlangYearsModel", "spare", "[I", true)
  | 4 => ("SlangYearsModel", "kept", "[I", true)
  | 5 => ("SlangYearsModel", "isKept", "[Z", true)
  | 6 => ("SlangYearsModel", "text", "[I", true)
  | 7 => ("SlangYearsModel", "typed", "I", false)
  | 8 => ("SlangYearsModel", "next", "I", false)
  | 9 => ("SlangYearsModel", "token", "I", false)
  | 10 => ("SlangYearsModel", "place", "I", false)
  | 11 => ("SlangYearsModel", "value", "I", false)
  | 12 => ("SlangYearsModel", "fault", "I", false)
  | 13 => ("SlangYearsModel", "law", "[I", true)
  | 14 => ("SlangYearsModel", "near", "[I", true)
  | 15 => ("SlangYearsModel", "word", "[I", true)
  | 16 => ("SlangYearsModel", "places", "I", false)
  | 17 => ("SlangYearsModel", "words", "I", false)
  | 18 => ("SlangYearsModel", "draftPlaces", "I", false)
  | 19 => ("SlangYearsModel", "draftWords", "I", false)
  | 20 => ("SlangYearsModel", "wasLaw", "Z", false)
  | 21 => ("SlangYearsModel", "wasStart", "Z", false)
  | 22 => ("SlangYearsModel", "letter", "[I", true)
  | 23 => ("SlangYearsModel", "isLetter", "Z", false)
  | 24 => ("SlangYearsModel", "writings", "[I", true)
  | 25 => ("SlangYearsModel", "writingMany", "I", false)
  | 26 => ("SlangYearsModel", "heard", "[I", true)
  | 27 => ("SlangYearsModel", "young", "[I", true)
  | 28 => ("SlangYearsModel", "parents", "[I", true)
  | 29 => ("SlangYearsModel", "peakYear", "I", false)
  | _ => ("SlangYearsModel", "overYear", "I", false)
def tyX8 : Nat → FieldType := fun k => match k with
  | 0 => .int
  | 1 => .long
  | 2 => .array .int
  | 3 => .array .int
  | 4 => .array .int
  | 5 => .array .boolean
  | 6 => .array .int
  | 7 => .int
  | 8 => .int
  | 9 => .int
  | 10 => .int
  | 11 => .int
  | 12 => .int
  | 13 => .array .int
  | 14 => .array .int
  | 15 => .array .int
  | 16 => .int
  | 17 => .int
  | 18 => .int
  | 19 => .int
  | 20 => .boolean
  | 21 => .boolean
  | 22 => .array .int
  | 23 => .boolean
  | 24 => .array .int
  | 25 => .int
  | 26 => .array .int
  | 27 => .array .int
  | 28 => .array .int
  | 29 => .int
  | _ => .int
abbrev wsX80 : List Cond := u_ws RX8 TX8 31
theorem nmX8 : ∀ a, a < 31 → ∀ b, b < 31 → a ≠ b → (TX8 a).2.1 ≠ (TX8 b).2.1 := by decide +kernel
theorem tyX8_ok : ∀ k, k < 31 → parseFieldDescriptor (TX8 k).2.2.1 = some (tyX8 k) := by decide +kernel
abbrev cX8_init : ByteArray := prog_10_method_1_code
def yX8_init : MethodName := ⟨RX8, "<init>", "()V"⟩
abbrev cX8_in : ByteArray := prog_10_method_3_code
def yX8_in : MethodName := ⟨RX8, "in", "(III)Z"⟩
abbrev cX8_type : ByteArray := prog_10_method_4_code
def yX8_type : MethodName := ⟨RX8, "type", "(JI)I"⟩
abbrev cX8_clear : ByteArray := prog_10_method_5_code
def yX8_clear : MethodName := ⟨RX8, "clear", "()I"⟩
abbrev cX8_byteAt : ByteArray := prog_10_method_6_code
def yX8_byteAt : MethodName := ⟨RX8, "byteAt", "(I)I"⟩
abbrev cX8_add : ByteArray := prog_10_method_7_code
def yX8_add : MethodName := ⟨RX8, "add", "(JI)J"⟩
abbrev cX8_named : ByteArray := prog_10_method_8_code
def yX8_named : MethodName := ⟨RX8, "named", "(IIIII)J"⟩
abbrev cX8_wordOf : ByteArray := prog_10_method_9_code
def yX8_wordOf : MethodName := ⟨RX8, "wordOf", "(J)I"⟩
abbrev cX8_advances : ByteArray := prog_10_method_10_code
def yX8_advances : MethodName := ⟨RX8, "advances", "()V"⟩
abbrev cX8_isWell : ByteArray := prog_10_method_11_code
def yX8_isWell : MethodName := ⟨RX8, "isWell", "()Z"⟩
abbrev cX8_takes : ByteArray := prog_10_method_12_code
def yX8_takes : MethodName := ⟨RX8, "takes", "(Z)I"⟩
abbrev cX8_number : ByteArray := prog_10_method_13_code
def yX8_number : MethodName := ⟨RX8, "number", "(II)I"⟩
abbrev cX8_drafts : ByteArray := prog_10_method_14_code
def yX8_drafts : MethodName := ⟨RX8, "drafts", "()V"⟩
abbrev cX8_mayBegin : ByteArray := prog_10_method_15_code
def yX8_mayBegin : MethodName := ⟨RX8, "mayBegin", "(I)Z"⟩
abbrev cX8_readsItem : ByteArray := prog_10_method_16_code
def yX8_readsItem : MethodName := ⟨RX8, "readsItem", "(I)V"⟩
abbrev cX8_land : ByteArray := prog_10_method_17_code
def yX8_land : MethodName := ⟨RX8, "land", "()I"⟩
abbrev cX8_adopts : ByteArray := prog_10_method_18_code
def yX8_adopts : MethodName := ⟨RX8, "adopts", "()V"⟩
abbrev cX8_isPlace : ByteArray := prog_10_method_19_code
def yX8_isPlace : MethodName := ⟨RX8, "isPlace", "(I)Z"⟩
abbrev cX8_isWord : ByteArray := prog_10_method_20_code
def yX8_isWord : MethodName := ⟨RX8, "isWord", "(I)Z"⟩
abbrev cX8_isAge : ByteArray := prog_10_method_21_code
def yX8_isAge : MethodName := ⟨RX8, "isAge", "(I)Z"⟩
abbrev cX8_law : ByteArray := prog_10_method_22_code
def yX8_law : MethodName := ⟨RX8, "law", "(I)I"⟩
abbrev cX8_late : ByteArray := prog_10_method_23_code
def yX8_late : MethodName := ⟨RX8, "late", "(I)I"⟩
abbrev cX8_near : ByteArray := prog_10_method_24_code
def yX8_near : MethodName := ⟨RX8, "near", "(II)I"⟩
abbrev cX8_isCoined : ByteArray := prog_10_method_25_code
def yX8_isCoined : MethodName := ⟨RX8, "isCoined", "(I)Z"⟩
abbrev cX8_word : ByteArray := prog_10_method_26_code
def yX8_word : MethodName := ⟨RX8, "word", "(II)I"⟩
abbrev cX8_at : ByteArray := prog_10_method_27_code
def yX8_at : MethodName := ⟨RX8, "at", "(III)I"⟩
abbrev cX8_of : ByteArray := prog_10_method_28_code
def yX8_of : MethodName := ⟨RX8, "of", "(III)I"⟩
abbrev cX8_mean : ByteArray := prog_10_method_29_code
def yX8_mean : MethodName := ⟨RX8, "mean", "(II)I"⟩
abbrev cX8_records : ByteArray := prog_10_method_30_code
def yX8_records : MethodName := ⟨RX8, "records", "()V"⟩
abbrev cX8_sings : ByteArray := prog_10_method_31_code
def yX8_sings : MethodName := ⟨RX8, "sings", "(III)V"⟩
abbrev cX8_comes : ByteArray := prog_10_method_32_code
def yX8_comes : MethodName := ⟨RX8, "comes", "()V"⟩
abbrev cX8_begins : ByteArray := prog_10_method_33_code
def yX8_begins : MethodName := ⟨RX8, "begins", "()V"⟩
abbrev cX8_goesWord : ByteArray := prog_10_method_34_code
def yX8_goesWord : MethodName := ⟨RX8, "goesWord", "(I)V"⟩
abbrev cX8_goesBy : ByteArray := prog_10_method_35_code
def yX8_goesBy : MethodName := ⟨RX8, "goesBy", "()V"⟩
abbrev cX8_go : ByteArray := prog_10_method_36_code
def yX8_go : MethodName := ⟨RX8, "go", "(I)I"⟩
abbrev cX8_anew : ByteArray := prog_10_method_37_code
def yX8_anew : MethodName := ⟨RX8, "anew", "()I"⟩
abbrev cX8_share : ByteArray := prog_10_method_38_code
def yX8_share : MethodName := ⟨RX8, "share", "(III)I"⟩
abbrev cX8_has : ByteArray := prog_10_method_39_code
def yX8_has : MethodName := ⟨RX8, "has", "(III)I"⟩
abbrev cX8_song : ByteArray := prog_10_method_40_code
def yX8_song : MethodName := ⟨RX8, "song", "(III)I"⟩
abbrev cX8_youngMean : ByteArray := prog_10_method_41_code
def yX8_youngMean : MethodName := ⟨RX8, "youngMean", "(II)I"⟩
abbrev cX8_peakOf : ByteArray := prog_10_method_42_code
def yX8_peakOf : MethodName := ⟨RX8, "peakOf", "(I)I"⟩
abbrev cX8_keptAge : ByteArray := prog_10_method_43_code
def yX8_keptAge : MethodName := ⟨RX8, "keptAge", "(I)I"⟩
abbrev cX8_life : ByteArray := prog_10_method_44_code
def yX8_life : MethodName := ⟨RX8, "life", "(II)I"⟩
abbrev cX8_printed : ByteArray := prog_10_method_45_code
def yX8_printed : MethodName := ⟨RX8, "printed", "(II)I"⟩
abbrev cX8_gcd : ByteArray := prog_10_method_46_code
def yX8_gcd : MethodName := ⟨RX8, "gcd", "(JJ)J"⟩
abbrev cX8_part : ByteArray := prog_10_method_47_code
def yX8_part : MethodName := ⟨RX8, "part", "(JJI)J"⟩
abbrev cX8_weight : ByteArray := prog_10_method_48_code
def yX8_weight : MethodName := ⟨RX8, "weight", "(IIII)J"⟩
abbrev cX8_weights : ByteArray := prog_10_method_49_code
def yX8_weights : MethodName := ⟨RX8, "weights", "(IIII)J"⟩
abbrev cX8_old : ByteArray := prog_10_method_50_code
def yX8_old : MethodName := ⟨RX8, "old", "(IIIII)J"⟩
abbrev cX8_likeliest : ByteArray := prog_10_method_51_code
def yX8_likeliest : MethodName := ⟨RX8, "likeliest", "(III)I"⟩
abbrev cX8_letter : ByteArray := prog_10_method_52_code
def yX8_letter : MethodName := ⟨RX8, "letter", "(IIII)I"⟩
abbrev cX8_aside : ByteArray := prog_10_method_53_code
def yX8_aside : MethodName := ⟨RX8, "aside", "(Z)V"⟩
abbrev cX8_goesTo : ByteArray := prog_10_method_54_code
def yX8_goesTo : MethodName := ⟨RX8, "goesTo", "(I)V"⟩
abbrev cX8_isLetterTold : ByteArray := prog_10_method_55_code
def yX8_isLetterTold : MethodName := ⟨RX8, "isLetterTold", "()Z"⟩
abbrev cX8_could : ByteArray := prog_10_method_56_code
def yX8_could : MethodName := ⟨RX8, "could", "()I"⟩
abbrev cX8_forged : ByteArray := prog_10_method_57_code
def yX8_forged : MethodName := ⟨RX8, "forged", "(IIII)J"⟩
abbrev cX8_overBy : ByteArray := prog_10_method_58_code
def yX8_overBy : MethodName := ⟨RX8, "overBy", "(II)I"⟩
abbrev cX8_kills : ByteArray := prog_10_method_59_code
def yX8_kills : MethodName := ⟨RX8, "kills", "(I)I"⟩
abbrev cX8_part_ : ByteArray := prog_10_method_60_code
def yX8_part_ : MethodName := ⟨RX8, "part", "(I)I"⟩
abbrev cX8_writing : ByteArray := prog_10_method_61_code
def yX8_writing : MethodName := ⟨RX8, "writing", "(III)I"⟩
abbrev cX8_span : ByteArray := prog_10_method_62_code
def yX8_span : MethodName := ⟨RX8, "span", "(II)I"⟩
abbrev cX8_wants : ByteArray := prog_10_method_63_code
def yX8_wants : MethodName := ⟨RX8, "wants", "(I)I"⟩
abbrev cX8_drawn : ByteArray := prog_10_method_64_code
def yX8_drawn : MethodName := ⟨RX8, "drawn", "(II)I"⟩
abbrev cX8_lot : ByteArray := prog_10_method_65_code
def yX8_lot : MethodName := ⟨RX8, "lot", "(I)I"⟩
abbrev cX8_rate : ByteArray := prog_10_method_66_code
def yX8_rate : MethodName := ⟨RX8, "rate", "(II)I"⟩
abbrev cX8_keep : ByteArray := prog_10_method_67_code
def yX8_keep : MethodName := ⟨RX8, "keep", "(I)I"⟩
abbrev cX8_back : ByteArray := prog_10_method_68_code
def yX8_back : MethodName := ⟨RX8, "back", "(I)I"⟩
abbrev cX8_count : ByteArray := prog_10_method_69_code
def yX8_count : MethodName := ⟨RX8, "count", "(I)I"⟩
abbrev cX8_trace : ByteArray := prog_10_method_70_code
def yX8_trace : MethodName := ⟨RX8, "trace", "()J"⟩
def RJx145de : String := "java/io/Serializable"
def TJx145de : u_T := fun k => match k with
  | _ => ("", "", "", false)
def tyJx145de : Nat → FieldType := fun k => match k with
  | _ => .int
abbrev wsJx145de0 : List Cond := u_ws RJx145de TJx145de 0
theorem nmJx145de : ∀ a, a < 0 → ∀ b, b < 0 → a ≠ b → (TJx145de a).2.1 ≠ (TJx145de b).2.1 := by decide +kernel
theorem tyJx145de_ok : ∀ k, k < 0 → parseFieldDescriptor (TJx145de k).2.2.1 = some (tyJx145de k) := by decide +kernel
def RJx9f9b0 : String := "java/lang/CharSequence"
def TJx9f9b0 : u_T := fun k => match k with
  | _ => ("", "", "", false)
def tyJx9f9b0 : Nat → FieldType := fun k => match k with
  | _ => .int
abbrev wsJx9f9b00 : List Cond := u_ws RJx9f9b0 TJx9f9b0 0
theorem nmJx9f9b0 : ∀ a, a < 0 → ∀ b, b < 0 → a ≠ b → (TJx9f9b0 a).2.1 ≠ (TJx9f9b0 b).2.1 := by decide +kernel
theorem tyJx9f9b0_ok : ∀ k, k < 0 → parseFieldDescriptor (TJx9f9b0 k).2.2.1 = some (tyJx9f9b0 k) := by decide +kernel
def RJxb160c : String := "java/lang/Comparable"
def TJxb160c : u_T := fun k => match k with
  | _ => ("", "", "", false)
def tyJxb160c : Nat → FieldType := fun k => match k with
  | _ => .int
abbrev wsJxb160c0 : List Cond := u_ws RJxb160c TJxb160c 0
theorem nmJxb160c : ∀ a, a < 0 → ∀ b, b < 0 → a ≠ b → (TJxb160c a).2.1 ≠ (TJxb160c b).2.1 := by decide +kernel
theorem tyJxb160c_ok : ∀ k, k < 0 → parseFieldDescriptor (TJxb160c k).2.2.1 = some (tyJxb160c k) := by decide +kernel
def RJ6 : String := "java/lang/Integer"
def TJ6 : u_T := fun k => match k with
  | _ => ("", "", "", false)
def tyJ6 : Nat → FieldType := fun k => match k with
  | _ => .int
abbrev wsJ60 : List Cond := u_ws RJ6 TJ6 0
theorem nmJ6 : ∀ a, a < 0 → ∀ b, b < 0 → a ≠ b → (TJ6 a).2.1 ≠ (TJ6 b).2.1 := by decide +kernel
theorem tyJ6_ok : ∀ k, k < 0 → parseFieldDescriptor (TJ6 k).2.2.1 = some (tyJ6 k) := by decide +kernel
abbrev cJ6_bitCount_0f7a4 : ByteArray := prog_11_method_49_code
def yJ6_bitCount_0f7a4 : MethodName := ⟨RJ6, "bitCount", "(I)I"⟩
def RJ9 : String := "java/lang/Math"
def TJ9 : u_T := fun k => match k with
  | _ => ("", "", "", false)
def tyJ9 : Nat → FieldType := fun k => match k with
  | _ => .int
abbrev wsJ90 : List Cond := u_ws RJ9 TJ9 0
theorem nmJ9 : ∀ a, a < 0 → ∀ b, b < 0 → a ≠ b → (TJ9 a).2.1 ≠ (TJ9 b).2.1 := by decide +kernel
theorem tyJ9_ok : ∀ k, k < 0 → parseFieldDescriptor (TJ9 k).2.2.1 = some (tyJ9 k) := by decide +kernel
abbrev cJ9_abs_067f4 : ByteArray := prog_12_method_61_code
def yJ9_abs_067f4 : MethodName := ⟨RJ9, "abs", "(J)J"⟩
abbrev cJ9_max_7cf53 : ByteArray := prog_12_method_65_code
def yJ9_max_7cf53 : MethodName := ⟨RJ9, "max", "(II)I"⟩
abbrev cJ9_min_7cf53 : ByteArray := prog_12_method_69_code
def yJ9_min_7cf53 : MethodName := ⟨RJ9, "min", "(II)I"⟩
def RJ0 : String := "java/lang/String"
def TJ0 : u_T := fun k => match k with
  | _ => ("", "", "", false)
def tyJ0 : Nat → FieldType := fun k => match k with
  | _ => .int
abbrev wsJ00 : List Cond := u_ws RJ0 TJ0 0
theorem nmJ0 : ∀ a, a < 0 → ∀ b, b < 0 → a ≠ b → (TJ0 a).2.1 ≠ (TJ0 b).2.1 := by decide +kernel
theorem tyJ0_ok : ∀ k, k < 0 → parseFieldDescriptor (TJ0 k).2.2.1 = some (tyJ0 k) := by decide +kernel
abbrev cJ0_length_8abf5 : ByteArray := prog_13_method_54_code
def yJ0_length_8abf5 : MethodName := ⟨RJ0, "length", "()I"⟩
abbrev cJ0_charAt_5068e : ByteArray := prog_13_method_56_code
def yJ0_charAt_5068e : MethodName := ⟨RJ0, "charAt", "(I)C"⟩
abbrev cJ0_coder_7d493 : ByteArray := prog_13_method_152_code
def yJ0_coder_7d493 : MethodName := ⟨RJ0, "coder", "()B"⟩
abbrev cJ0_isLatin1_aae02 : ByteArray := prog_13_method_154_code
def yJ0_isLatin1_aae02 : MethodName := ⟨RJ0, "isLatin1", "()Z"⟩
abbrev cJ0_checkIndex_df160 : ByteArray := prog_13_method_155_code
def yJ0_checkIndex_df160 : MethodName := ⟨RJ0, "checkIndex", "(II)V"⟩
def RJ1 : String := "java/lang/StringLatin1"
def TJ1 : u_T := fun k => match k with
  | _ => ("", "", "", false)
def tyJ1 : Nat → FieldType := fun k => match k with
  | _ => .int
abbrev wsJ10 : List Cond := u_ws RJ1 TJ1 0
theorem nmJ1 : ∀ a, a < 0 → ∀ b, b < 0 → a ≠ b → (TJ1 a).2.1 ≠ (TJ1 b).2.1 := by decide +kernel
theorem tyJ1_ok : ∀ k, k < 0 → parseFieldDescriptor (TJ1 k).2.2.1 = some (tyJ1 k) := by decide +kernel
abbrev cJ1_charAt_3b067 : ByteArray := prog_14_method_2_code
def yJ1_charAt_3b067 : MethodName := ⟨RJ1, "charAt", "([BI)C"⟩
def RJ2 : String := "java/lang/StringUTF16"
def TJ2 : u_T := fun k => match k with
  | _ => ("", "", "", false)
def tyJ2 : Nat → FieldType := fun k => match k with
  | _ => .int
abbrev wsJ20 : List Cond := u_ws RJ2 TJ2 0
theorem nmJ2 : ∀ a, a < 0 → ∀ b, b < 0 → a ≠ b → (TJ2 a).2.1 ≠ (TJ2 b).2.1 := by decide +kernel
theorem tyJ2_ok : ∀ k, k < 0 → parseFieldDescriptor (TJ2 k).2.2.1 = some (tyJ2 k) := by decide +kernel
abbrev cJ2_getChar_3b067 : ByteArray := prog_15_method_5_code
def yJ2_getChar_3b067 : MethodName := ⟨RJ2, "getChar", "([BI)C"⟩
abbrev cJ2_length_9d52b : ByteArray := prog_15_method_6_code
def yJ2_length_9d52b : MethodName := ⟨RJ2, "length", "([B)I"⟩
abbrev cJ2_charAt_3b067 : ByteArray := prog_15_method_83_code
def yJ2_charAt_3b067 : MethodName := ⟨RJ2, "charAt", "([BI)C"⟩
abbrev cJ2_checkIndex_2214a : ByteArray := prog_15_method_91_code
def yJ2_checkIndex_2214a : MethodName := ⟨RJ2, "checkIndex", "(I[B)V"⟩
def RJ10 : String := "java/lang/System"
def TJ10 : u_T := fun k => match k with
  | _ => ("", "", "", false)
def tyJ10 : Nat → FieldType := fun k => match k with
  | _ => .int
abbrev wsJ100 : List Cond := u_ws RJ10 TJ10 0
theorem nmJ10 : ∀ a, a < 0 → ∀ b, b < 0 → a ≠ b → (TJ10 a).2.1 ≠ (TJ10 b).2.1 := by decide +kernel
theorem tyJ10_ok : ∀ k, k < 0 → parseFieldDescriptor (TJ10 k).2.2.1 = some (tyJ10 k) := by decide +kernel
def RJxfd54e : String := "java/lang/constant/Constable"
def TJxfd54e : u_T := fun k => match k with
  | _ => ("", "", "", false)
def tyJxfd54e : Nat → FieldType := fun k => match k with
  | _ => .int
abbrev wsJxfd54e0 : List Cond := u_ws RJxfd54e TJxfd54e 0
theorem nmJxfd54e : ∀ a, a < 0 → ∀ b, b < 0 → a ≠ b → (TJxfd54e a).2.1 ≠ (TJxfd54e b).2.1 := by decide +kernel
theorem tyJxfd54e_ok : ∀ k, k < 0 → parseFieldDescriptor (TJxfd54e k).2.2.1 = some (tyJxfd54e k) := by decide +kernel
def RJx3cf43 : String := "java/lang/constant/ConstantDesc"
def TJx3cf43 : u_T := fun k => match k with
  | _ => ("", "", "", false)
def tyJx3cf43 : Nat → FieldType := fun k => match k with
  | _ => .int
abbrev wsJx3cf430 : List Cond := u_ws RJx3cf43 TJx3cf43 0
theorem nmJx3cf43 : ∀ a, a < 0 → ∀ b, b < 0 → a ≠ b → (TJx3cf43 a).2.1 ≠ (TJx3cf43 b).2.1 := by decide +kernel
theorem tyJx3cf43_ok : ∀ k, k < 0 → parseFieldDescriptor (TJx3cf43 k).2.2.1 = some (tyJx3cf43 k) := by decide +kernel
def RJ7 : String := "java/util/Arrays"
def TJ7 : u_T := fun k => match k with
  | _ => ("", "", "", false)
def tyJ7 : Nat → FieldType := fun k => match k with
  | _ => .int
abbrev wsJ70 : List Cond := u_ws RJ7 TJ7 0
theorem nmJ7 : ∀ a, a < 0 → ∀ b, b < 0 → a ≠ b → (TJ7 a).2.1 ≠ (TJ7 b).2.1 := by decide +kernel
theorem tyJ7_ok : ∀ k, k < 0 → parseFieldDescriptor (TJ7 k).2.2.1 = some (tyJ7 k) := by decide +kernel
abbrev cJ7_fill_53178 : ByteArray := prog_17_method_103_code
def yJ7_fill_53178 : MethodName := ⟨RJ7, "fill", "([II)V"⟩
def RJ3 : String := "jdk/internal/util/Preconditions"
def TJ3 : u_T := fun k => match k with
  | _ => ("", "", "", false)
def tyJ3 : Nat → FieldType := fun k => match k with
  | _ => .int
abbrev wsJ30 : List Cond := u_ws RJ3 TJ3 0
theorem nmJ3 : ∀ a, a < 0 → ∀ b, b < 0 → a ≠ b → (TJ3 a).2.1 ≠ (TJ3 b).2.1 := by decide +kernel
theorem tyJ3_ok : ∀ k, k < 0 → parseFieldDescriptor (TJ3 k).2.2.1 = some (tyJ3 k) := by decide +kernel
abbrev cJ3_checkIndex_8e157 : ByteArray := prog_18_method_11_code
def yJ3_checkIndex_8e157 : MethodName := ⟨RJ3, "checkIndex", "(IILjava/util/function/BiFunction;)I"⟩
def RL : String := "SlangYearsLaw"
abbrev cL_law : ByteArray := code
def yL_law : MethodName := ⟨RL, "law", "([I)Z"⟩
abbrev vwCl : List vw_C := [(RX0, TX0, 11), (RX1, TX1, 6), (RX2, TX2, 4), (RX3, TX3, 4), (RX4, TX4, 8), (RX5, TX5, 5), (RX6, TX6, 3), (RX7, TX7, 12), (RX8, TX8, 31)]
end
section
theorem dX0_init_0 : decode cX0_init 0 = .ok (.aload_n 0, 1) := by decide +kernel
theorem dX0_init_1 : decode cX0_init 1 = .ok (.invokespecial 3, 3) := by decide +kernel
theorem dX0_init_4 : decode cX0_init 4 = .ok (.aload_n 0, 1) := by decide +kernel
theorem dX0_init_5 : decode cX0_init 5 = .ok (.bipush 9, 2) := by decide +kernel
theorem dX0_init_7 : decode cX0_init 7 = .ok (.newarray .int, 2) := by decide +kernel
theorem dX0_init_9 : decode cX0_init 9 = .ok (.putfield 9, 3) := by decide +kernel
theorem dX0_init_12 : decode cX0_init 12 = .ok (.aload_n 0, 1) := by decide +kernel
theorem dX0_init_13 : decode cX0_init 13 = .ok (.iconst 5, 1) := by decide +kernel
theorem dX0_init_14 : decode cX0_init 14 = .ok (.newarray .int, 2) := by decide +kernel
theorem dX0_init_16 : decode cX0_init 16 = .ok (.putfield 15, 3) := by decide +kernel
theorem dX0_init_19 : decode cX0_init 19 = .ok (.aload_n 0, 1) := by decide +kernel
theorem dX0_init_20 : decode cX0_init 20 = .ok (.iconst 5, 1) := by decide +kernel
theorem dX0_init_21 : decode cX0_init 21 = .ok (.newarray .int, 2) := by decide +kernel
theorem dX0_init_23 : decode cX0_init 23 = .ok (.putfield 18, 3) := by decide +kernel
theorem dX0_init_26 : decode cX0_init 26 = .ok (.aload_n 0, 1) := by decide +kernel
theorem dX0_init_27 : decode cX0_init 27 = .ok (.iconst 5, 1) := by decide +kernel
theorem dX0_init_28 : decode cX0_init 28 = .ok (.newarray .int, 2) := by decide +kernel
theorem dX0_init_30 : decode cX0_init 30 = .ok (.putfield 21, 3) := by decide +kernel
theorem dX0_init_33 : decode cX0_init 33 = .ok (.aload_n 0, 1) := by decide +kernel
theorem dX0_init_34 : decode cX0_init 34 = .ok (.iconst 5, 1) := by decide +kernel
theorem dX0_init_35 : decode cX0_init 35 = .ok (.newarray .boolean, 2) := by decide +kernel
theorem dX0_init_37 : decode cX0_init 37 = .ok (.putfield 24, 3) := by decide +kernel
theorem dX0_init_40 : decode cX0_init 40 = .ok (.aload_n 0, 1) := by decide +kernel
theorem dX0_init_41 : decode cX0_init 41 = .ok (.invokevirtual 28, 3) := by decide +kernel
theorem dX0_init_44 : decode cX0_init 44 = .ok (.return_, 1) := by decide +kernel
theorem dX0_reset_0 : decode cX0_reset 0 = .ok (.aload_n 0, 1) := by decide +kernel
theorem dX0_reset_1 : decode cX0_reset 1 = .ok (.iconst 0, 1) := by decide +kernel
theorem dX0_reset_2 : decode cX0_reset 2 = .ok (.putfield 31, 3) := by decide +kernel
theorem dX0_reset_5 : decode cX0_reset 5 = .ok (.aload_n 0, 1) := by decide +kernel
theorem dX0_reset_6 : decode cX0_reset 6 = .ok (.iconst 0, 1) := by decide +kernel
theorem dX0_reset_7 : decode cX0_reset 7 = .ok (.putfield 35, 3) := by decide +kernel
theorem dX0_reset_10 : decode cX0_reset 10 = .ok (.aload_n 0, 1) := by decide +kernel
theorem dX0_reset_11 : decode cX0_reset 11 = .ok (.bipush 6, 2) := by decide +kernel
theorem dX0_reset_13 : decode cX0_reset 13 = .ok (.putfield 38, 3) := by decide +kernel
theorem dX0_reset_16 : decode cX0_reset 16 = .ok (.aload_n 0, 1) := by decide +kernel
theorem dX0_reset_17 : decode cX0_reset 17 = .ok (.iconst 3, 1) := by decide +kernel
theorem dX0_reset_18 : decode cX0_reset 18 = .ok (.putfield 41, 3) := by decide +kernel
theorem dX0_reset_21 : decode cX0_reset 21 = .ok (.aload_n 0, 1) := by decide +kernel
theorem dX0_reset_22 : decode cX0_reset 22 = .ok (.iconst 5, 1) := by decide +kernel
theorem dX0_reset_23 : decode cX0_reset 23 = .ok (.putfield 44, 3) := by decide +kernel
theorem dX0_reset_26 : decode cX0_reset 26 = .ok (.aload_n 0, 1) := by decide +kernel
theorem dX0_reset_27 : decode cX0_reset 27 = .ok (.bipush 20, 2) := by decide +kernel
theorem dX0_reset_29 : decode cX0_reset 29 = .ok (.putfield 47, 3) := by decide +kernel
theorem dX0_reset_32 : decode cX0_reset 32 = .ok (.aload_n 0, 1) := by decide +kernel
theorem dX0_reset_33 : decode cX0_reset 33 = .ok (.getfield 9, 3) := by decide +kernel
theorem dX0_reset_36 : decode cX0_reset 36 = .ok (.iconst 0, 1) := by decide +kernel
theorem dX0_reset_37 : decode cX0_reset 37 = .ok (.invokestatic 50, 3) := by decide +kernel
theorem dX0_reset_40 : decode cX0_reset 40 = .ok (.return_, 1) := by decide +kernel
theorem dX0_nearness_0 : decode cX0_nearness 0 = .ok (.aload_n 0, 1) := by decide +kernel
theorem dX0_nearness_1 : decode cX0_nearness 1 = .ok (.getfield 9, 3) := by decide +kernel
theorem dX0_nearness_4 : decode cX0_nearness 4 = .ok (.iload_n 1, 1) := by decide +kernel
theorem dX0_nearness_5 : decode cX0_nearness 5 = .ok (.iconst 3, 1) := by decide +kernel
theorem dX0_nearness_6 : decode cX0_nearness 6 = .ok (.imul, 1) := by decide +kernel
theorem dX0_nearness_7 : decode cX0_nearness 7 = .ok (.iload_n 2, 1) := by decide +kernel
theorem dX0_nearness_8 : decode cX0_nearness 8 = .ok (.iadd, 1) := by decide +kernel
theorem dX0_nearness_9 : decode cX0_nearness 9 = .ok (.iaload, 1) := by decide +kernel
theorem dX0_nearness_10 : decode cX0_nearness 10 = .ok (.ireturn, 1) := by decide +kernel
theorem dX0_bringNear_0 : decode cX0_bringNear 0 = .ok (.aload_n 0, 1) := by decide +kernel
theorem dX0_bringNear_1 : decode cX0_bringNear 1 = .ok (.getfield 9, 3) := by decide +kernel
theorem dX0_bringNear_4 : decode cX0_bringNear 4 = .ok (.iload_n 1, 1) := by decide +kernel
theorem dX0_bringNear_5 : decode cX0_bringNear 5 = .ok (.iconst 3, 1) := by decide +kernel
theorem dX0_bringNear_6 : decode cX0_bringNear 6 = .ok (.imul, 1) := by decide +kernel
theorem dX0_bringNear_7 : decode cX0_bringNear 7 = .ok (.iload_n 2, 1) := by decide +kernel
theorem dX0_bringNear_8 : decode cX0_bringNear 8 = .ok (.iadd, 1) := by decide +kernel
theorem dX0_bringNear_9 : decode cX0_bringNear 9 = .ok (.iload_n 3, 1) := by decide +kernel
theorem dX0_bringNear_10 : decode cX0_bringNear 10 = .ok (.iastore, 1) := by decide +kernel
theorem dX0_bringNear_11 : decode cX0_bringNear 11 = .ok (.aload_n 0, 1) := by decide +kernel
theorem dX0_bringNear_12 : decode cX0_bringNear 12 = .ok (.getfield 9, 3) := by decide +kernel
theorem dX0_bringNear_15 : decode cX0_bringNear 15 = .ok (.iload_n 2, 1) := by decide +kernel
theorem dX0_bringNear_16 : decode cX0_bringNear 16 = .ok (.iconst 3, 1) := by decide +kernel
theorem dX0_bringNear_17 : decode cX0_bringNear 17 = .ok (.imul, 1) := by decide +kernel
theorem dX0_bringNear_18 : decode cX0_bringNear 18 = .ok (.iload_n 1, 1) := by decide +kernel
theorem dX0_bringNear_19 : decode cX0_bringNear 19 = .ok (.iadd, 1) := by decide +kernel
theorem dX0_bringNear_20 : decode cX0_bringNear 20 = .ok (.iload_n 3, 1) := by decide +kernel
theorem dX0_bringNear_21 : decode cX0_bringNear 21 = .ok (.iastore, 1) := by decide +kernel
theorem dX0_bringNear_22 : decode cX0_bringNear 22 = .ok (.return_, 1) := by decide +kernel
theorem dX0_addWord_0 : decode cX0_addWord 0 = .ok (.aload_n 0, 1) := by decide +kernel
theorem dX0_addWord_1 : decode cX0_addWord 1 = .ok (.getfield 15, 3) := by decide +kernel
theorem dX0_addWord_4 : decode cX0_addWord 4 = .ok (.aload_n 0, 1) := by decide +kernel
theorem dX0_addWord_5 : decode cX0_addWord 5 = .ok (.getfield 35, 3) := by decide +kernel
theorem dX0_addWord_8 : decode cX0_addWord 8 = .ok (.iload_n 1, 1) := by decide +kernel
theorem dX0_addWord_9 : decode cX0_addWord 9 = .ok (.iastore, 1) := by decide +kernel
theorem dX0_addWord_10 : decode cX0_addWord 10 = .ok (.aload_n 0, 1) := by decide +kernel
theorem dX0_addWord_11 : decode cX0_addWord 11 = .ok (.getfield 18, 3) := by decide +kernel
theorem dX0_addWord_14 : decode cX0_addWord 14 = .ok (.aload_n 0, 1) := by decide +kernel
theorem dX0_addWord_15 : decode cX0_addWord 15 = .ok (.getfield 35, 3) := by decide +kernel
theorem dX0_addWord_18 : decode cX0_addWord 18 = .ok (.iload_n 2, 1) := by decide +kernel
theorem dX0_addWord_19 : decode cX0_addWord 19 = .ok (.iastore, 1) := by decide +kernel
theorem dX0_addWord_20 : decode cX0_addWord 20 = .ok (.aload_n 0, 1) := by decide +kernel
theorem dX0_addWord_21 : decode cX0_addWord 21 = .ok (.getfield 21, 3) := by decide +kernel
theorem dX0_addWord_24 : decode cX0_addWord 24 = .ok (.aload_n 0, 1) := by decide +kernel
theorem dX0_addWord_25 : decode cX0_addWord 25 = .ok (.getfield 35, 3) := by decide +kernel
theorem dX0_addWord_28 : decode cX0_addWord 28 = .ok (.iload_n 3, 1) := by decide +kernel
theorem dX0_addWord_29 : decode cX0_addWord 29 = .ok (.iastore, 1) := by decide +kernel
theorem dX0_addWord_30 : decode cX0_addWord 30 = .ok (.aload_n 0, 1) := by decide +kernel
theorem dX0_addWord_31 : decode cX0_addWord 31 = .ok (.getfield 24, 3) := by decide +kernel
theorem dX0_addWord_34 : decode cX0_addWord 34 = .ok (.aload_n 0, 1) := by decide +kernel
theorem dX0_addWord_35 : decode cX0_addWord 35 = .ok (.getfield 35, 3) := by decide +kernel
theorem dX0_addWord_38 : decode cX0_addWord 38 = .ok (.iload 4, 2) := by decide +kernel
theorem dX0_addWord_40 : decode cX0_addWord 40 = .ok (.bastore, 1) := by decide +kernel
theorem dX0_addWord_41 : decode cX0_addWord 41 = .ok (.aload_n 0, 1) := by decide +kernel
theorem dX0_addWord_42 : decode cX0_addWord 42 = .ok (.dup, 1) := by decide +kernel
theorem dX0_addWord_43 : decode cX0_addWord 43 = .ok (.getfield 35, 3) := by decide +kernel
theorem dX0_addWord_46 : decode cX0_addWord 46 = .ok (.iconst 1, 1) := by decide +kernel
theorem dX0_addWord_47 : decode cX0_addWord 47 = .ok (.iadd, 1) := by decide +kernel
theorem dX0_addWord_48 : decode cX0_addWord 48 = .ok (.putfield 35, 3) := by decide +kernel
theorem dX0_addWord_51 : decode cX0_addWord 51 = .ok (.return_, 1) := by decide +kernel
theorem dX1_init_0 : decode cX1_init 0 = .ok (.aload_n 0, 1) := by decide +kernel
theorem dX1_init_1 : decode cX1_init 1 = .ok (.invokespecial 3, 3) := by decide +kernel
theorem dX1_init_4 : decode cX1_init 4 = .ok (.aload_n 0, 1) := by decide +kernel
theorem dX1_init_5 : decode cX1_init 5 = .ok (.iconst 5, 1) := by decide +kernel
theorem dX1_init_6 : decode cX1_init 6 = .ok (.newarray .int, 2) := by decide +kernel
theorem dX1_init_8 : decode cX1_init 8 = .ok (.putfield 9, 3) := by decide +kernel
theorem dX1_init_11 : decode cX1_init 11 = .ok (.return_, 1) := by decide +kernel
theorem dX2_init_0 : decode cX2_init 0 = .ok (.aload_n 0, 1) := by decide +kernel
theorem dX2_init_1 : decode cX2_init 1 = .ok (.invokespecial 3, 3) := by decide +kernel
theorem dX2_init_4 : decode cX2_init 4 = .ok (.aload_n 0, 1) := by decide +kernel
theorem dX2_init_5 : decode cX2_init 5 = .ok (.iconst 3, 1) := by decide +kernel
theorem dX2_init_6 : decode cX2_init 6 = .ok (.bipush 70, 2) := by decide +kernel
theorem dX2_init_8 : decode cX2_init 8 = .ok (.multianewarray 9 2, 4) := by decide +kernel
theorem dX2_init_12 : decode cX2_init 12 = .ok (.putfield 11, 3) := by decide +kernel
theorem dX2_init_15 : decode cX2_init 15 = .ok (.aload_n 0, 1) := by decide +kernel
theorem dX2_init_16 : decode cX2_init 16 = .ok (.iconst 3, 1) := by decide +kernel
theorem dX2_init_17 : decode cX2_init 17 = .ok (.bipush 100, 2) := by decide +kernel
theorem dX2_init_19 : decode cX2_init 19 = .ok (.multianewarray 9 2, 4) := by decide +kernel
theorem dX2_init_23 : decode cX2_init 23 = .ok (.putfield 16, 3) := by decide +kernel
theorem dX2_init_26 : decode cX2_init 26 = .ok (.aload_n 0, 1) := by decide +kernel
theorem dX2_init_27 : decode cX2_init 27 = .ok (.bipush 100, 2) := by decide +kernel
theorem dX2_init_29 : decode cX2_init 29 = .ok (.newarray .int, 2) := by decide +kernel
theorem dX2_init_31 : decode cX2_init 31 = .ok (.putfield 19, 3) := by decide +kernel
theorem dX2_init_34 : decode cX2_init 34 = .ok (.aload_n 0, 1) := by decide +kernel
theorem dX2_init_35 : decode cX2_init 35 = .ok (.bipush 100, 2) := by decide +kernel
theorem dX2_init_37 : decode cX2_init 37 = .ok (.newarray .int, 2) := by decide +kernel
theorem dX2_init_39 : decode cX2_init 39 = .ok (.putfield 23, 3) := by decide +kernel
theorem dX2_init_42 : decode cX2_init 42 = .ok (.return_, 1) := by decide +kernel
theorem dX2_copyFrom_0 : decode cX2_copyFrom 0 = .ok (.iconst 0, 1) := by decide +kernel
theorem dX2_copyFrom_1 : decode cX2_copyFrom 1 = .ok (.istore_n 2, 1) := by decide +kernel
theorem dX2_copyFrom_2 : decode cX2_copyFrom 2 = .ok (.iload_n 2, 1) := by decide +kernel
theorem dX2_copyFrom_3 : decode cX2_copyFrom 3 = .ok (.iconst 3, 1) := by decide +kernel
theorem dX2_copyFrom_4 : decode cX2_copyFrom 4 = .ok (.if_icmp .ge 47, 3) := by decide +kernel
theorem dX2_copyFrom_7 : decode cX2_copyFrom 7 = .ok (.aload_n 1, 1) := by decide +kernel
theorem dX2_copyFrom_8 : decode cX2_copyFrom 8 = .ok (.getfield 11, 3) := by decide +kernel
theorem dX2_copyFrom_11 : decode cX2_copyFrom 11 = .ok (.iload_n 2, 1) := by decide +kernel
theorem dX2_copyFrom_12 : decode cX2_copyFrom 12 = .ok (.aaload, 1) := by decide +kernel
theorem dX2_copyFrom_13 : decode cX2_copyFrom 13 = .ok (.iconst 0, 1) := by decide +kernel
theorem dX2_copyFrom_14 : decode cX2_copyFrom 14 = .ok (.aload_n 0, 1) := by decide +kernel
theorem dX2_copyFrom_15 : decode cX2_copyFrom 15 = .ok (.getfield 11, 3) := by decide +kernel
theorem dX2_copyFrom_18 : decode cX2_copyFrom 18 = .ok (.iload_n 2, 1) := by decide +kernel
theorem dX2_copyFrom_19 : decode cX2_copyFrom 19 = .ok (.aaload, 1) := by decide +kernel
theorem dX2_copyFrom_20 : decode cX2_copyFrom 20 = .ok (.iconst 0, 1) := by decide +kernel
theorem dX2_copyFrom_21 : decode cX2_copyFrom 21 = .ok (.bipush 70, 2) := by decide +kernel
theorem dX2_copyFrom_23 : decode cX2_copyFrom 23 = .ok (.invokestatic 26, 3) := by decide +kernel
theorem dX2_copyFrom_26 : decode cX2_copyFrom 26 = .ok (.aload_n 1, 1) := by decide +kernel
theorem dX2_copyFrom_27 : decode cX2_copyFrom 27 = .ok (.getfield 16, 3) := by decide +kernel
theorem dX2_copyFrom_30 : decode cX2_copyFrom 30 = .ok (.iload_n 2, 1) := by decide +kernel
theorem dX2_copyFrom_31 : decode cX2_copyFrom 31 = .ok (.aaload, 1) := by decide +kernel
theorem dX2_copyFrom_32 : decode cX2_copyFrom 32 = .ok (.iconst 0, 1) := by decide +kernel
theorem dX2_copyFrom_33 : decode cX2_copyFrom 33 = .ok (.aload_n 0, 1) := by decide +kernel
theorem dX2_copyFrom_34 : decode cX2_copyFrom 34 = .ok (.getfield 16, 3) := by decide +kernel
theorem dX2_copyFrom_37 : decode cX2_copyFrom 37 = .ok (.iload_n 2, 1) := by decide +kernel
theorem dX2_copyFrom_38 : decode cX2_copyFrom 38 = .ok (.aaload, 1) := by decide +kernel
theorem dX2_copyFrom_39 : decode cX2_copyFrom 39 = .ok (.iconst 0, 1) := by decide +kernel
theorem dX2_copyFrom_40 : decode cX2_copyFrom 40 = .ok (.bipush 100, 2) := by decide +kernel
theorem dX2_copyFrom_42 : decode cX2_copyFrom 42 = .ok (.invokestatic 26, 3) := by decide +kernel
theorem dX2_copyFrom_45 : decode cX2_copyFrom 45 = .ok (.iinc 2 1, 3) := by decide +kernel
theorem dX2_copyFrom_48 : decode cX2_copyFrom 48 = .ok (.goto (-46), 3) := by decide +kernel
theorem dX2_copyFrom_51 : decode cX2_copyFrom 51 = .ok (.aload_n 1, 1) := by decide +kernel
theorem dX2_copyFrom_52 : decode cX2_copyFrom 52 = .ok (.getfield 19, 3) := by decide +kernel
theorem dX2_copyFrom_55 : decode cX2_copyFrom 55 = .ok (.iconst 0, 1) := by decide +kernel
theorem dX2_copyFrom_56 : decode cX2_copyFrom 56 = .ok (.aload_n 0, 1) := by decide +kernel
theorem dX2_copyFrom_57 : decode cX2_copyFrom 57 = .ok (.getfield 19, 3) := by decide +kernel
theorem dX2_copyFrom_60 : decode cX2_copyFrom 60 = .ok (.iconst 0, 1) := by decide +kernel
theorem dX2_copyFrom_61 : decode cX2_copyFrom 61 = .ok (.bipush 100, 2) := by decide +kernel
theorem dX2_copyFrom_63 : decode cX2_copyFrom 63 = .ok (.invokestatic 26, 3) := by decide +kernel
theorem dX2_copyFrom_66 : decode cX2_copyFrom 66 = .ok (.aload_n 1, 1) := by decide +kernel
theorem dX2_copyFrom_67 : decode cX2_copyFrom 67 = .ok (.getfield 23, 3) := by decide +kernel
theorem dX2_copyFrom_70 : decode cX2_copyFrom 70 = .ok (.iconst 0, 1) := by decide +kernel
theorem dX2_copyFrom_71 : decode cX2_copyFrom 71 = .ok (.aload_n 0, 1) := by decide +kernel
theorem dX2_copyFrom_72 : decode cX2_copyFrom 72 = .ok (.getfield 23, 3) := by decide +kernel
theorem dX2_copyFrom_75 : decode cX2_copyFrom 75 = .ok (.iconst 0, 1) := by decide +kernel
theorem dX2_copyFrom_76 : decode cX2_copyFrom 76 = .ok (.bipush 100, 2) := by decide +kernel
theorem dX2_copyFrom_78 : decode cX2_copyFrom 78 = .ok (.invokestatic 26, 3) := by decide +kernel
theorem dX2_copyFrom_81 : decode cX2_copyFrom 81 = .ok (.return_, 1) := by decide +kernel
theorem dX2_measure_0 : decode cX2_measure 0 = .ok (.iload_n 2, 1) := by decide +kernel
theorem dX2_measure_1 : decode cX2_measure 1 = .ok (.lookupswitch 53 #[(0, 27), (1, 40)], 27) := by decide +kernel
theorem dX2_measure_28 : decode cX2_measure 28 = .ok (.aload_n 0, 1) := by decide +kernel
theorem dX2_measure_29 : decode cX2_measure 29 = .ok (.iload_n 1, 1) := by decide +kernel
theorem dX2_measure_30 : decode cX2_measure 30 = .ok (.bipush 13, 2) := by decide +kernel
theorem dX2_measure_32 : decode cX2_measure 32 = .ok (.bipush 19, 2) := by decide +kernel
theorem dX2_measure_34 : decode cX2_measure 34 = .ok (.invokevirtual 32, 3) := by decide +kernel
theorem dX2_measure_37 : decode cX2_measure 37 = .ok (.bipush 7, 2) := by decide +kernel
theorem dX2_measure_39 : decode cX2_measure 39 = .ok (.idiv, 1) := by decide +kernel
theorem dX2_measure_40 : decode cX2_measure 40 = .ok (.ireturn, 1) := by decide +kernel
theorem dX2_measure_41 : decode cX2_measure 41 = .ok (.aload_n 0, 1) := by decide +kernel
theorem dX2_measure_42 : decode cX2_measure 42 = .ok (.iload_n 1, 1) := by decide +kernel
theorem dX2_measure_43 : decode cX2_measure 43 = .ok (.bipush 35, 2) := by decide +kernel
theorem dX2_measure_45 : decode cX2_measure 45 = .ok (.bipush 50, 2) := by decide +kernel
theorem dX2_measure_47 : decode cX2_measure 47 = .ok (.invokevirtual 32, 3) := by decide +kernel
theorem dX2_measure_50 : decode cX2_measure 50 = .ok (.bipush 16, 2) := by decide +kernel
theorem dX2_measure_52 : decode cX2_measure 52 = .ok (.idiv, 1) := by decide +kernel
theorem dX2_measure_53 : decode cX2_measure 53 = .ok (.ireturn, 1) := by decide +kernel
theorem dX2_measure_54 : decode cX2_measure 54 = .ok (.aload_n 0, 1) := by decide +kernel
theorem dX2_measure_55 : decode cX2_measure 55 = .ok (.iload_n 1, 1) := by decide +kernel
theorem dX2_measure_56 : decode cX2_measure 56 = .ok (.bipush 10, 2) := by decide +kernel
theorem dX2_measure_58 : decode cX2_measure 58 = .ok (.bipush 69, 2) := by decide +kernel
theorem dX2_measure_60 : decode cX2_measure 60 = .ok (.invokevirtual 32, 3) := by decide +kernel
theorem dX2_measure_63 : decode cX2_measure 63 = .ok (.bipush 60, 2) := by decide +kernel
theorem dX2_measure_65 : decode cX2_measure 65 = .ok (.idiv, 1) := by decide +kernel
theorem dX2_measure_66 : decode cX2_measure 66 = .ok (.ireturn, 1) := by decide +kernel
theorem dX2_total_0 : decode cX2_total 0 = .ok (.iconst 0, 1) := by decide +kernel
theorem dX2_total_1 : decode cX2_total 1 = .ok (.istore 4, 2) := by decide +kernel
theorem dX2_total_3 : decode cX2_total 3 = .ok (.iload_n 2, 1) := by decide +kernel
theorem dX2_total_4 : decode cX2_total 4 = .ok (.istore 5, 2) := by decide +kernel
theorem dX2_total_6 : decode cX2_total 6 = .ok (.iload 5, 2) := by decide +kernel
theorem dX2_total_8 : decode cX2_total 8 = .ok (.iload_n 3, 1) := by decide +kernel
theorem dX2_total_9 : decode cX2_total 9 = .ok (.if_icmp .gt 23, 3) := by decide +kernel
theorem dX2_total_12 : decode cX2_total 12 = .ok (.iload 4, 2) := by decide +kernel
theorem dX2_total_14 : decode cX2_total 14 = .ok (.aload_n 0, 1) := by decide +kernel
theorem dX2_total_15 : decode cX2_total 15 = .ok (.getfield 11, 3) := by decide +kernel
theorem dX2_total_18 : decode cX2_total 18 = .ok (.iload_n 1, 1) := by decide +kernel
theorem dX2_total_19 : decode cX2_total 19 = .ok (.aaload, 1) := by decide +kernel
theorem dX2_total_20 : decode cX2_total 20 = .ok (.iload 5, 2) := by decide +kernel
theorem dX2_total_22 : decode cX2_total 22 = .ok (.iaload, 1) := by decide +kernel
theorem dX2_total_23 : decode cX2_total 23 = .ok (.iadd, 1) := by decide +kernel
theorem dX2_total_24 : decode cX2_total 24 = .ok (.istore 4, 2) := by decide +kernel
theorem dX2_total_26 : decode cX2_total 26 = .ok (.iinc 5 1, 3) := by decide +kernel
theorem dX2_total_29 : decode cX2_total 29 = .ok (.goto (-23), 3) := by decide +kernel
theorem dX2_total_32 : decode cX2_total 32 = .ok (.iload 4, 2) := by decide +kernel
theorem dX2_total_34 : decode cX2_total 34 = .ok (.ireturn, 1) := by decide +kernel
theorem dX2_replay_0 : decode cX2_replay 0 = .ok (.aload_n 0, 1) := by decide +kernel
theorem dX2_replay_1 : decode cX2_replay 1 = .ok (.aload_n 1, 1) := by decide +kernel
theorem dX2_replay_2 : decode cX2_replay 2 = .ok (.aload_n 2, 1) := by decide +kernel
theorem dX2_replay_3 : decode cX2_replay 3 = .ok (.iload_n 3, 1) := by decide +kernel
theorem dX2_replay_4 : decode cX2_replay 4 = .ok (.invokevirtual 36, 3) := by decide +kernel
theorem dX2_replay_7 : decode cX2_replay 7 = .ok (.iconst 0, 1) := by decide +kernel
theorem dX2_replay_8 : decode cX2_replay 8 = .ok (.istore 6, 2) := by decide +kernel
theorem dX2_replay_10 : decode cX2_replay 10 = .ok (.iload 6, 2) := by decide +kernel
theorem dX2_replay_12 : decode cX2_replay 12 = .ok (.iload 5, 2) := by decide +kernel
theorem dX2_replay_14 : decode cX2_replay 14 = .ok (.if_icmp .ge 20, 3) := by decide +kernel
theorem dX2_replay_17 : decode cX2_replay 17 = .ok (.aload_n 0, 1) := by decide +kernel
theorem dX2_replay_18 : decode cX2_replay 18 = .ok (.aload_n 1, 1) := by decide +kernel
theorem dX2_replay_19 : decode cX2_replay 19 = .ok (.aload_n 2, 1) := by decide +kernel
theorem dX2_replay_20 : decode cX2_replay 20 = .ok (.iload_n 3, 1) := by decide +kernel
theorem dX2_replay_21 : decode cX2_replay 21 = .ok (.iload 4, 2) := by decide +kernel
theorem dX2_replay_23 : decode cX2_replay 23 = .ok (.iload 6, 2) := by decide +kernel
theorem dX2_replay_25 : decode cX2_replay 25 = .ok (.invokevirtual 40, 3) := by decide +kernel
theorem dX2_replay_28 : decode cX2_replay 28 = .ok (.iinc 6 1, 3) := by decide +kernel
theorem dX2_replay_31 : decode cX2_replay 31 = .ok (.goto (-21), 3) := by decide +kernel
theorem dX2_replay_34 : decode cX2_replay 34 = .ok (.return_, 1) := by decide +kernel
theorem dX2_begin_0 : decode cX2_begin 0 = .ok (.iconst 0, 1) := by decide +kernel
theorem dX2_begin_1 : decode cX2_begin 1 = .ok (.istore 4, 2) := by decide +kernel
theorem dX2_begin_3 : decode cX2_begin 3 = .ok (.iload 4, 2) := by decide +kernel
theorem dX2_begin_5 : decode cX2_begin 5 = .ok (.iconst 3, 1) := by decide +kernel
theorem dX2_begin_6 : decode cX2_begin 6 = .ok (.if_icmp .ge 20, 3) := by decide +kernel
theorem dX2_begin_9 : decode cX2_begin 9 = .ok (.aload_n 0, 1) := by decide +kernel
theorem dX2_begin_10 : decode cX2_begin 10 = .ok (.getfield 11, 3) := by decide +kernel
theorem dX2_begin_13 : decode cX2_begin 13 = .ok (.iload 4, 2) := by decide +kernel
theorem dX2_begin_15 : decode cX2_begin 15 = .ok (.aaload, 1) := by decide +kernel
theorem dX2_begin_16 : decode cX2_begin 16 = .ok (.iconst 0, 1) := by decide +kernel
theorem dX2_begin_17 : decode cX2_begin 17 = .ok (.invokestatic 44, 3) := by decide +kernel
theorem dX2_begin_20 : decode cX2_begin 20 = .ok (.iinc 4 1, 3) := by decide +kernel
theorem dX2_begin_23 : decode cX2_begin 23 = .ok (.goto (-20), 3) := by decide +kernel
theorem dX2_begin_26 : decode cX2_begin 26 = .ok (.aload_n 0, 1) := by decide +kernel
theorem dX2_begin_27 : decode cX2_begin 27 = .ok (.aload_n 1, 1) := by decide +kernel
theorem dX2_begin_28 : decode cX2_begin 28 = .ok (.aload_n 2, 1) := by decide +kernel
theorem dX2_begin_29 : decode cX2_begin 29 = .ok (.iload_n 3, 1) := by decide +kernel
theorem dX2_begin_30 : decode cX2_begin 30 = .ok (.iconst 0, 1) := by decide +kernel
theorem dX2_begin_31 : decode cX2_begin 31 = .ok (.invokevirtual 50, 3) := by decide +kernel
theorem dX2_begin_34 : decode cX2_begin 34 = .ok (.aload_n 0, 1) := by decide +kernel
theorem dX2_begin_35 : decode cX2_begin 35 = .ok (.aload_n 1, 1) := by decide +kernel
theorem dX2_begin_36 : decode cX2_begin 36 = .ok (.getfield 54, 3) := by decide +kernel
theorem dX2_begin_39 : decode cX2_begin 39 = .ok (.iconst 0, 1) := by decide +kernel
theorem dX2_begin_40 : decode cX2_begin 40 = .ok (.invokevirtual 60, 3) := by decide +kernel
theorem dX2_begin_43 : decode cX2_begin 43 = .ok (.return_, 1) := by decide +kernel
theorem dX2_pass_0 : decode cX2_pass 0 = .ok (.aload_n 1, 1) := by decide +kernel
theorem dX2_pass_1 : decode cX2_pass 1 = .ok (.getfield 64, 3) := by decide +kernel
theorem dX2_pass_4 : decode cX2_pass 4 = .ok (.iload_n 3, 1) := by decide +kernel
theorem dX2_pass_5 : decode cX2_pass 5 = .ok (.iaload, 1) := by decide +kernel
theorem dX2_pass_6 : decode cX2_pass 6 = .ok (.iload 5, 2) := by decide +kernel
theorem dX2_pass_8 : decode cX2_pass 8 = .ok (.if_icmp .gt 102, 3) := by decide +kernel
theorem dX2_pass_11 : decode cX2_pass 11 = .ok (.iconst 0, 1) := by decide +kernel
theorem dX2_pass_12 : decode cX2_pass 12 = .ok (.istore 6, 2) := by decide +kernel
theorem dX2_pass_14 : decode cX2_pass 14 = .ok (.iload 6, 2) := by decide +kernel
theorem dX2_pass_16 : decode cX2_pass 16 = .ok (.aload_n 1, 1) := by decide +kernel
theorem dX2_pass_17 : decode cX2_pass 17 = .ok (.getfield 54, 3) := by decide +kernel
theorem dX2_pass_20 : decode cX2_pass 20 = .ok (.if_icmp .ge 90, 3) := by decide +kernel
theorem dX2_pass_23 : decode cX2_pass 23 = .ok (.aload_n 1, 1) := by decide +kernel
theorem dX2_pass_24 : decode cX2_pass 24 = .ok (.getfield 67, 3) := by decide +kernel
theorem dX2_pass_27 : decode cX2_pass 27 = .ok (.iload_n 3, 1) := by decide +kernel
theorem dX2_pass_28 : decode cX2_pass 28 = .ok (.baload, 1) := by decide +kernel
theorem dX2_pass_29 : decode cX2_pass 29 = .ok (.ifCond .eq 7, 3) := by decide +kernel
theorem dX2_pass_32 : decode cX2_pass 32 = .ok (.iconst 0, 1) := by decide +kernel
theorem dX2_pass_33 : decode cX2_pass 33 = .ok (.goto 10, 3) := by decide +kernel
theorem dX2_pass_36 : decode cX2_pass 36 = .ok (.aload_n 0, 1) := by decide +kernel
theorem dX2_pass_37 : decode cX2_pass 37 = .ok (.iload 6, 2) := by decide +kernel
theorem dX2_pass_39 : decode cX2_pass 39 = .ok (.iconst 1, 1) := by decide +kernel
theorem dX2_pass_40 : decode cX2_pass 40 = .ok (.invokevirtual 71, 3) := by decide +kernel
theorem dX2_pass_43 : decode cX2_pass 43 = .ok (.istore 7, 2) := by decide +kernel
theorem dX2_pass_45 : decode cX2_pass 45 = .ok (.aload_n 0, 1) := by decide +kernel
theorem dX2_pass_46 : decode cX2_pass 46 = .ok (.iload 6, 2) := by decide +kernel
theorem dX2_pass_48 : decode cX2_pass 48 = .ok (.invokevirtual 75, 3) := by decide +kernel
theorem dX2_pass_51 : decode cX2_pass 51 = .ok (.aload_n 0, 1) := by decide +kernel
theorem dX2_pass_52 : decode cX2_pass 52 = .ok (.iload 6, 2) := by decide +kernel
theorem dX2_pass_54 : decode cX2_pass 54 = .ok (.aload_n 1, 1) := by decide +kernel
theorem dX2_pass_55 : decode cX2_pass 55 = .ok (.getfield 79, 3) := by decide +kernel
theorem dX2_pass_58 : decode cX2_pass 58 = .ok (.aload_n 0, 1) := by decide +kernel
theorem dX2_pass_59 : decode cX2_pass 59 = .ok (.aload_n 1, 1) := by decide +kernel
theorem dX2_pass_60 : decode cX2_pass 60 = .ok (.iload 6, 2) := by decide +kernel
theorem dX2_pass_62 : decode cX2_pass 62 = .ok (.iload 5, 2) := by decide +kernel
theorem dX2_pass_64 : decode cX2_pass 64 = .ok (.invokevirtual 82, 3) := by decide +kernel
theorem dX2_pass_67 : decode cX2_pass 67 = .ok (.imul, 1) := by decide +kernel
theorem dX2_pass_68 : decode cX2_pass 68 = .ok (.i2l, 1) := by decide +kernel
theorem dX2_pass_69 : decode cX2_pass 69 = .ok (.iload 7, 2) := by decide +kernel
theorem dX2_pass_71 : decode cX2_pass 71 = .ok (.invokevirtual 86, 3) := by decide +kernel
theorem dX2_pass_74 : decode cX2_pass 74 = .ok (.aload_n 0, 1) := by decide +kernel
theorem dX2_pass_75 : decode cX2_pass 75 = .ok (.iload 6, 2) := by decide +kernel
theorem dX2_pass_77 : decode cX2_pass 77 = .ok (.aload_n 1, 1) := by decide +kernel
theorem dX2_pass_78 : decode cX2_pass 78 = .ok (.getfield 90, 3) := by decide +kernel
theorem dX2_pass_81 : decode cX2_pass 81 = .ok (.iload 7, 2) := by decide +kernel
theorem dX2_pass_83 : decode cX2_pass 83 = .ok (.imul, 1) := by decide +kernel
theorem dX2_pass_84 : decode cX2_pass 84 = .ok (.invokevirtual 93, 3) := by decide +kernel
theorem dX2_pass_87 : decode cX2_pass 87 = .ok (.aload_n 0, 1) := by decide +kernel
theorem dX2_pass_88 : decode cX2_pass 88 = .ok (.iload 6, 2) := by decide +kernel
theorem dX2_pass_90 : decode cX2_pass 90 = .ok (.iload 4, 2) := by decide +kernel
theorem dX2_pass_92 : decode cX2_pass 92 = .ok (.aload_n 0, 1) := by decide +kernel
theorem dX2_pass_93 : decode cX2_pass 93 = .ok (.iload 6, 2) := by decide +kernel
theorem dX2_pass_95 : decode cX2_pass 95 = .ok (.iload 5, 2) := by decide +kernel
theorem dX2_pass_97 : decode cX2_pass 97 = .ok (.invokevirtual 96, 3) := by decide +kernel
theorem dX2_pass_100 : decode cX2_pass 100 = .ok (.imul, 1) := by decide +kernel
theorem dX2_pass_101 : decode cX2_pass 101 = .ok (.invokevirtual 99, 3) := by decide +kernel
theorem dX2_pass_104 : decode cX2_pass 104 = .ok (.iinc 6 1, 3) := by decide +kernel
theorem dX2_pass_107 : decode cX2_pass 107 = .ok (.goto (-93), 3) := by decide +kernel
theorem dX2_pass_110 : decode cX2_pass 110 = .ok (.aload_n 0, 1) := by decide +kernel
theorem dX2_pass_111 : decode cX2_pass 111 = .ok (.aload_n 1, 1) := by decide +kernel
theorem dX2_pass_112 : decode cX2_pass 112 = .ok (.aload_n 2, 1) := by decide +kernel
theorem dX2_pass_113 : decode cX2_pass 113 = .ok (.iload_n 3, 1) := by decide +kernel
theorem dX2_pass_114 : decode cX2_pass 114 = .ok (.iload 5, 2) := by decide +kernel
theorem dX2_pass_116 : decode cX2_pass 116 = .ok (.iconst 1, 1) := by decide +kernel
theorem dX2_pass_117 : decode cX2_pass 117 = .ok (.iadd, 1) := by decide +kernel
theorem dX2_pass_118 : decode cX2_pass 118 = .ok (.invokevirtual 50, 3) := by decide +kernel
theorem dX2_pass_121 : decode cX2_pass 121 = .ok (.aload_n 0, 1) := by decide +kernel
theorem dX2_pass_122 : decode cX2_pass 122 = .ok (.aload_n 1, 1) := by decide +kernel
theorem dX2_pass_123 : decode cX2_pass 123 = .ok (.getfield 54, 3) := by decide +kernel
theorem dX2_pass_126 : decode cX2_pass 126 = .ok (.iload 5, 2) := by decide +kernel
theorem dX2_pass_128 : decode cX2_pass 128 = .ok (.iconst 1, 1) := by decide +kernel
theorem dX2_pass_129 : decode cX2_pass 129 = .ok (.iadd, 1) := by decide +kernel
theorem dX2_pass_130 : decode cX2_pass 130 = .ok (.invokevirtual 60, 3) := by decide +kernel
theorem dX2_pass_133 : decode cX2_pass 133 = .ok (.return_, 1) := by decide +kernel
theorem dX2_heard_0 : decode cX2_heard 0 = .ok (.aload_n 0, 1) := by decide +kernel
theorem dX2_heard_1 : decode cX2_heard 1 = .ok (.getfield 16, 3) := by decide +kernel
theorem dX2_heard_4 : decode cX2_heard 4 = .ok (.iload_n 2, 1) := by decide +kernel
theorem dX2_heard_5 : decode cX2_heard 5 = .ok (.aaload, 1) := by decide +kernel
theorem dX2_heard_6 : decode cX2_heard 6 = .ok (.iload_n 3, 1) := by decide +kernel
theorem dX2_heard_7 : decode cX2_heard 7 = .ok (.iaload, 1) := by decide +kernel
theorem dX2_heard_8 : decode cX2_heard 8 = .ok (.istore 4, 2) := by decide +kernel
theorem dX2_heard_10 : decode cX2_heard 10 = .ok (.iconst 0, 1) := by decide +kernel
theorem dX2_heard_11 : decode cX2_heard 11 = .ok (.istore 5, 2) := by decide +kernel
theorem dX2_heard_13 : decode cX2_heard 13 = .ok (.iload 5, 2) := by decide +kernel
theorem dX2_heard_15 : decode cX2_heard 15 = .ok (.aload_n 1, 1) := by decide +kernel
theorem dX2_heard_16 : decode cX2_heard 16 = .ok (.getfield 54, 3) := by decide +kernel
theorem dX2_heard_19 : decode cX2_heard 19 = .ok (.if_icmp .ge 40, 3) := by decide +kernel
theorem dX2_heard_22 : decode cX2_heard 22 = .ok (.iload 5, 2) := by decide +kernel
theorem dX2_heard_24 : decode cX2_heard 24 = .ok (.iload_n 2, 1) := by decide +kernel
theorem dX2_heard_25 : decode cX2_heard 25 = .ok (.if_icmp .eq 28, 3) := by decide +kernel
theorem dX2_heard_28 : decode cX2_heard 28 = .ok (.iload 4, 2) := by decide +kernel
theorem dX2_heard_30 : decode cX2_heard 30 = .ok (.aload_n 1, 1) := by decide +kernel
theorem dX2_heard_31 : decode cX2_heard 31 = .ok (.iload_n 2, 1) := by decide +kernel
theorem dX2_heard_32 : decode cX2_heard 32 = .ok (.iload 5, 2) := by decide +kernel
theorem dX2_heard_34 : decode cX2_heard 34 = .ok (.invokevirtual 102, 3) := by decide +kernel
theorem dX2_heard_37 : decode cX2_heard 37 = .ok (.aload_n 0, 1) := by decide +kernel
theorem dX2_heard_38 : decode cX2_heard 38 = .ok (.getfield 16, 3) := by decide +kernel
theorem dX2_heard_41 : decode cX2_heard 41 = .ok (.iload 5, 2) := by decide +kernel
theorem dX2_heard_43 : decode cX2_heard 43 = .ok (.aaload, 1) := by decide +kernel
theorem dX2_heard_44 : decode cX2_heard 44 = .ok (.iload_n 3, 1) := by decide +kernel
theorem dX2_heard_45 : decode cX2_heard 45 = .ok (.iaload, 1) := by decide +kernel
theorem dX2_heard_46 : decode cX2_heard 46 = .ok (.imul, 1) := by decide +kernel
theorem dX2_heard_47 : decode cX2_heard 47 = .ok (.bipush 10, 2) := by decide +kernel
theorem dX2_heard_49 : decode cX2_heard 49 = .ok (.idiv, 1) := by decide +kernel
theorem dX2_heard_50 : decode cX2_heard 50 = .ok (.iadd, 1) := by decide +kernel
theorem dX2_heard_51 : decode cX2_heard 51 = .ok (.istore 4, 2) := by decide +kernel
theorem dX2_heard_53 : decode cX2_heard 53 = .ok (.iinc 5 1, 3) := by decide +kernel
theorem dX2_heard_56 : decode cX2_heard 56 = .ok (.goto (-43), 3) := by decide +kernel
theorem dX2_heard_59 : decode cX2_heard 59 = .ok (.iload 4, 2) := by decide +kernel
theorem dX2_heard_61 : decode cX2_heard 61 = .ok (.sipush 1000, 3) := by decide +kernel
theorem dX2_heard_64 : decode cX2_heard 64 = .ok (.invokestatic 105, 3) := by decide +kernel
theorem dX2_heard_67 : decode cX2_heard 67 = .ok (.ireturn, 1) := by decide +kernel
theorem dX2_youngTwoAhead_0 : decode cX2_youngTwoAhead 0 = .ok (.iload_n 2, 1) := by decide +kernel
theorem dX2_youngTwoAhead_1 : decode cX2_youngTwoAhead 1 = .ok (.iconst 2, 1) := by decide +kernel
theorem dX2_youngTwoAhead_2 : decode cX2_youngTwoAhead 2 = .ok (.if_icmp .lt 16, 3) := by decide +kernel
theorem dX2_youngTwoAhead_5 : decode cX2_youngTwoAhead 5 = .ok (.aload_n 0, 1) := by decide +kernel
theorem dX2_youngTwoAhead_6 : decode cX2_youngTwoAhead 6 = .ok (.getfield 16, 3) := by decide +kernel
theorem dX2_youngTwoAhead_9 : decode cX2_youngTwoAhead 9 = .ok (.iload_n 1, 1) := by decide +kernel
theorem dX2_youngTwoAhead_10 : decode cX2_youngTwoAhead 10 = .ok (.aaload, 1) := by decide +kernel
theorem dX2_youngTwoAhead_11 : decode cX2_youngTwoAhead 11 = .ok (.iload_n 2, 1) := by decide +kernel
theorem dX2_youngTwoAhead_12 : decode cX2_youngTwoAhead 12 = .ok (.iconst 2, 1) := by decide +kernel
theorem dX2_youngTwoAhead_13 : decode cX2_youngTwoAhead 13 = .ok (.isub, 1) := by decide +kernel
theorem dX2_youngTwoAhead_14 : decode cX2_youngTwoAhead 14 = .ok (.iaload, 1) := by decide +kernel
theorem dX2_youngTwoAhead_15 : decode cX2_youngTwoAhead 15 = .ok (.goto 4, 3) := by decide +kernel
theorem dX2_youngTwoAhead_18 : decode cX2_youngTwoAhead 18 = .ok (.iconst 0, 1) := by decide +kernel
theorem dX2_youngTwoAhead_19 : decode cX2_youngTwoAhead 19 = .ok (.ireturn, 1) := by decide +kernel
theorem dX2_growOlder_0 : decode cX2_growOlder 0 = .ok (.aload_n 0, 1) := by decide +kernel
theorem dX2_growOlder_1 : decode cX2_growOlder 1 = .ok (.getfield 11, 3) := by decide +kernel
theorem dX2_growOlder_4 : decode cX2_growOlder 4 = .ok (.iload_n 1, 1) := by decide +kernel
theorem dX2_growOlder_5 : decode cX2_growOlder 5 = .ok (.aaload, 1) := by decide +kernel
theorem dX2_growOlder_6 : decode cX2_growOlder 6 = .ok (.bipush 10, 2) := by decide +kernel
theorem dX2_growOlder_8 : decode cX2_growOlder 8 = .ok (.aload_n 0, 1) := by decide +kernel
theorem dX2_growOlder_9 : decode cX2_growOlder 9 = .ok (.getfield 11, 3) := by decide +kernel
theorem dX2_growOlder_12 : decode cX2_growOlder 12 = .ok (.iload_n 1, 1) := by decide +kernel
theorem dX2_growOlder_13 : decode cX2_growOlder 13 = .ok (.aaload, 1) := by decide +kernel
theorem dX2_growOlder_14 : decode cX2_growOlder 14 = .ok (.bipush 11, 2) := by decide +kernel
theorem dX2_growOlder_16 : decode cX2_growOlder 16 = .ok (.bipush 59, 2) := by decide +kernel
theorem dX2_growOlder_18 : decode cX2_growOlder 18 = .ok (.invokestatic 26, 3) := by decide +kernel
theorem dX2_growOlder_21 : decode cX2_growOlder 21 = .ok (.aload_n 0, 1) := by decide +kernel
theorem dX2_growOlder_22 : decode cX2_growOlder 22 = .ok (.getfield 11, 3) := by decide +kernel
theorem dX2_growOlder_25 : decode cX2_growOlder 25 = .ok (.iload_n 1, 1) := by decide +kernel
theorem dX2_growOlder_26 : decode cX2_growOlder 26 = .ok (.aaload, 1) := by decide +kernel
theorem dX2_growOlder_27 : decode cX2_growOlder 27 = .ok (.bipush 10, 2) := by decide +kernel
theorem dX2_growOlder_29 : decode cX2_growOlder 29 = .ok (.iconst 0, 1) := by decide +kernel
theorem dX2_growOlder_30 : decode cX2_growOlder 30 = .ok (.iastore, 1) := by decide +kernel
theorem dX2_growOlder_31 : decode cX2_growOlder 31 = .ok (.return_, 1) := by decide +kernel
theorem dX2_takeUp_0 : decode cX2_takeUp 0 = .ok (.bipush 13, 2) := by decide +kernel
theorem dX2_takeUp_2 : decode cX2_takeUp 2 = .ok (.istore 5, 2) := by decide +kernel
theorem dX2_takeUp_4 : decode cX2_takeUp 4 = .ok (.iload 5, 2) := by decide +kernel
theorem dX2_takeUp_6 : decode cX2_takeUp 6 = .ok (.bipush 19, 2) := by decide +kernel
theorem dX2_takeUp_8 : decode cX2_takeUp 8 = .ok (.if_icmp .gt 58, 3) := by decide +kernel
theorem dX2_takeUp_11 : decode cX2_takeUp 11 = .ok (.aload_n 0, 1) := by decide +kernel
theorem dX2_takeUp_12 : decode cX2_takeUp 12 = .ok (.getfield 11, 3) := by decide +kernel
theorem dX2_takeUp_15 : decode cX2_takeUp 15 = .ok (.iload_n 1, 1) := by decide +kernel
theorem dX2_takeUp_16 : decode cX2_takeUp 16 = .ok (.aaload, 1) := by decide +kernel
theorem dX2_takeUp_17 : decode cX2_takeUp 17 = .ok (.iload 5, 2) := by decide +kernel
theorem dX2_takeUp_19 : decode cX2_takeUp 19 = .ok (.iaload, 1) := by decide +kernel
theorem dX2_takeUp_20 : decode cX2_takeUp 20 = .ok (.istore 6, 2) := by decide +kernel
theorem dX2_takeUp_22 : decode cX2_takeUp 22 = .ok (.lload_n 2, 1) := by decide +kernel
theorem dX2_takeUp_23 : decode cX2_takeUp 23 = .ok (.sipush 1000, 3) := by decide +kernel
theorem dX2_takeUp_26 : decode cX2_takeUp 26 = .ok (.iload 6, 2) := by decide +kernel
theorem dX2_takeUp_28 : decode cX2_takeUp 28 = .ok (.isub, 1) := by decide +kernel
theorem dX2_takeUp_29 : decode cX2_takeUp 29 = .ok (.i2l, 1) := by decide +kernel
theorem dX2_takeUp_30 : decode cX2_takeUp 30 = .ok (.lmul, 1) := by decide +kernel
theorem dX2_takeUp_31 : decode cX2_takeUp 31 = .ok (.sipush 1000, 3) := by decide +kernel
theorem dX2_takeUp_34 : decode cX2_takeUp 34 = .ok (.iload 4, 2) := by decide +kernel
theorem dX2_takeUp_36 : decode cX2_takeUp 36 = .ok (.isub, 1) := by decide +kernel
theorem dX2_takeUp_37 : decode cX2_takeUp 37 = .ok (.i2l, 1) := by decide +kernel
theorem dX2_takeUp_38 : decode cX2_takeUp 38 = .ok (.lmul, 1) := by decide +kernel
theorem dX2_takeUp_39 : decode cX2_takeUp 39 = .ok (.ldc2_w 110, 3) := by decide +kernel
theorem dX2_takeUp_42 : decode cX2_takeUp 42 = .ok (.ldiv, 1) := by decide +kernel
theorem dX2_takeUp_43 : decode cX2_takeUp 43 = .ok (.lstore 7, 2) := by decide +kernel
theorem dX2_takeUp_45 : decode cX2_takeUp 45 = .ok (.aload_n 0, 1) := by decide +kernel
theorem dX2_takeUp_46 : decode cX2_takeUp 46 = .ok (.getfield 11, 3) := by decide +kernel
theorem dX2_takeUp_49 : decode cX2_takeUp 49 = .ok (.iload_n 1, 1) := by decide +kernel
theorem dX2_takeUp_50 : decode cX2_takeUp 50 = .ok (.aaload, 1) := by decide +kernel
theorem dX2_takeUp_51 : decode cX2_takeUp 51 = .ok (.iload 5, 2) := by decide +kernel
theorem dX2_takeUp_53 : decode cX2_takeUp 53 = .ok (.iload 6, 2) := by decide +kernel
theorem dX2_takeUp_55 : decode cX2_takeUp 55 = .ok (.lload 7, 2) := by decide +kernel
theorem dX2_takeUp_57 : decode cX2_takeUp 57 = .ok (.l2i, 1) := by decide +kernel
theorem dX2_takeUp_58 : decode cX2_takeUp 58 = .ok (.iadd, 1) := by decide +kernel
theorem dX2_takeUp_59 : decode cX2_takeUp 59 = .ok (.iastore, 1) := by decide +kernel
theorem dX2_takeUp_60 : decode cX2_takeUp 60 = .ok (.iinc 5 1, 3) := by decide +kernel
theorem dX2_takeUp_63 : decode cX2_takeUp 63 = .ok (.goto (-59), 3) := by decide +kernel
theorem dX2_takeUp_66 : decode cX2_takeUp 66 = .ok (.return_, 1) := by decide +kernel
theorem dX2_dropIt_0 : decode cX2_dropIt 0 = .ok (.bipush 10, 2) := by decide +kernel
theorem dX2_dropIt_2 : decode cX2_dropIt 2 = .ok (.istore_n 3, 1) := by decide +kernel
theorem dX2_dropIt_3 : decode cX2_dropIt 3 = .ok (.iload_n 3, 1) := by decide +kernel
theorem dX2_dropIt_4 : decode cX2_dropIt 4 = .ok (.bipush 19, 2) := by decide +kernel
theorem dX2_dropIt_6 : decode cX2_dropIt 6 = .ok (.if_icmp .gt 38, 3) := by decide +kernel
theorem dX2_dropIt_9 : decode cX2_dropIt 9 = .ok (.aload_n 0, 1) := by decide +kernel
theorem dX2_dropIt_10 : decode cX2_dropIt 10 = .ok (.getfield 11, 3) := by decide +kernel
theorem dX2_dropIt_13 : decode cX2_dropIt 13 = .ok (.iload_n 1, 1) := by decide +kernel
theorem dX2_dropIt_14 : decode cX2_dropIt 14 = .ok (.aaload, 1) := by decide +kernel
theorem dX2_dropIt_15 : decode cX2_dropIt 15 = .ok (.iload_n 3, 1) := by decide +kernel
theorem dX2_dropIt_16 : decode cX2_dropIt 16 = .ok (.iaload, 1) := by decide +kernel
theorem dX2_dropIt_17 : decode cX2_dropIt 17 = .ok (.istore 4, 2) := by decide +kernel
theorem dX2_dropIt_19 : decode cX2_dropIt 19 = .ok (.aload_n 0, 1) := by decide +kernel
theorem dX2_dropIt_20 : decode cX2_dropIt 20 = .ok (.getfield 11, 3) := by decide +kernel
theorem dX2_dropIt_23 : decode cX2_dropIt 23 = .ok (.iload_n 1, 1) := by decide +kernel
theorem dX2_dropIt_24 : decode cX2_dropIt 24 = .ok (.aaload, 1) := by decide +kernel
theorem dX2_dropIt_25 : decode cX2_dropIt 25 = .ok (.iload_n 3, 1) := by decide +kernel
theorem dX2_dropIt_26 : decode cX2_dropIt 26 = .ok (.iload 4, 2) := by decide +kernel
theorem dX2_dropIt_28 : decode cX2_dropIt 28 = .ok (.iload_n 2, 1) := by decide +kernel
theorem dX2_dropIt_29 : decode cX2_dropIt 29 = .ok (.iload 4, 2) := by decide +kernel
theorem dX2_dropIt_31 : decode cX2_dropIt 31 = .ok (.imul, 1) := by decide +kernel
theorem dX2_dropIt_32 : decode cX2_dropIt 32 = .ok (.sipush 10000, 3) := by decide +kernel
theorem dX2_dropIt_35 : decode cX2_dropIt 35 = .ok (.idiv, 1) := by decide +kernel
theorem dX2_dropIt_36 : decode cX2_dropIt 36 = .ok (.isub, 1) := by decide +kernel
theorem dX2_dropIt_37 : decode cX2_dropIt 37 = .ok (.iastore, 1) := by decide +kernel
theorem dX2_dropIt_38 : decode cX2_dropIt 38 = .ok (.iinc 3 1, 3) := by decide +kernel
theorem dX2_dropIt_41 : decode cX2_dropIt 41 = .ok (.goto (-38), 3) := by decide +kernel
theorem dX2_dropIt_44 : decode cX2_dropIt 44 = .ok (.return_, 1) := by decide +kernel
theorem dX2_learnIt_0 : decode cX2_learnIt 0 = .ok (.bipush 35, 2) := by decide +kernel
theorem dX2_learnIt_2 : decode cX2_learnIt 2 = .ok (.istore_n 3, 1) := by decide +kernel
theorem dX2_learnIt_3 : decode cX2_learnIt 3 = .ok (.iload_n 3, 1) := by decide +kernel
theorem dX2_learnIt_4 : decode cX2_learnIt 4 = .ok (.bipush 50, 2) := by decide +kernel
theorem dX2_learnIt_6 : decode cX2_learnIt 6 = .ok (.if_icmp .gt 42, 3) := by decide +kernel
theorem dX2_learnIt_9 : decode cX2_learnIt 9 = .ok (.aload_n 0, 1) := by decide +kernel
theorem dX2_learnIt_10 : decode cX2_learnIt 10 = .ok (.getfield 11, 3) := by decide +kernel
theorem dX2_learnIt_13 : decode cX2_learnIt 13 = .ok (.iload_n 1, 1) := by decide +kernel
theorem dX2_learnIt_14 : decode cX2_learnIt 14 = .ok (.aaload, 1) := by decide +kernel
theorem dX2_learnIt_15 : decode cX2_learnIt 15 = .ok (.iload_n 3, 1) := by decide +kernel
theorem dX2_learnIt_16 : decode cX2_learnIt 16 = .ok (.iaload, 1) := by decide +kernel
theorem dX2_learnIt_17 : decode cX2_learnIt 17 = .ok (.istore 4, 2) := by decide +kernel
theorem dX2_learnIt_19 : decode cX2_learnIt 19 = .ok (.aload_n 0, 1) := by decide +kernel
theorem dX2_learnIt_20 : decode cX2_learnIt 20 = .ok (.getfield 11, 3) := by decide +kernel
theorem dX2_learnIt_23 : decode cX2_learnIt 23 = .ok (.iload_n 1, 1) := by decide +kernel
theorem dX2_learnIt_24 : decode cX2_learnIt 24 = .ok (.aaload, 1) := by decide +kernel
theorem dX2_learnIt_25 : decode cX2_learnIt 25 = .ok (.iload_n 3, 1) := by decide +kernel
theorem dX2_learnIt_26 : decode cX2_learnIt 26 = .ok (.iload 4, 2) := by decide +kernel
theorem dX2_learnIt_28 : decode cX2_learnIt 28 = .ok (.iload_n 2, 1) := by decide +kernel
theorem dX2_learnIt_29 : decode cX2_learnIt 29 = .ok (.sipush 1000, 3) := by decide +kernel
theorem dX2_learnIt_32 : decode cX2_learnIt 32 = .ok (.iload 4, 2) := by decide +kernel
theorem dX2_learnIt_34 : decode cX2_learnIt 34 = .ok (.isub, 1) := by decide +kernel
theorem dX2_learnIt_35 : decode cX2_learnIt 35 = .ok (.imul, 1) := by decide +kernel
theorem dX2_learnIt_36 : decode cX2_learnIt 36 = .ok (.sipush 10000, 3) := by decide +kernel
theorem dX2_learnIt_39 : decode cX2_learnIt 39 = .ok (.idiv, 1) := by decide +kernel
theorem dX2_learnIt_40 : decode cX2_learnIt 40 = .ok (.iadd, 1) := by decide +kernel
theorem dX2_learnIt_41 : decode cX2_learnIt 41 = .ok (.iastore, 1) := by decide +kernel
theorem dX2_learnIt_42 : decode cX2_learnIt 42 = .ok (.iinc 3 1, 3) := by decide +kernel
theorem dX2_learnIt_45 : decode cX2_learnIt 45 = .ok (.goto (-42), 3) := by decide +kernel
theorem dX2_learnIt_48 : decode cX2_learnIt 48 = .ok (.return_, 1) := by decide +kernel
theorem dX2_arrive_0 : decode cX2_arrive 0 = .ok (.aload_n 1, 1) := by decide +kernel
theorem dX2_arrive_1 : decode cX2_arrive 1 = .ok (.getfield 64, 3) := by decide +kernel
theorem dX2_arrive_4 : decode cX2_arrive 4 = .ok (.iload_n 3, 1) := by decide +kernel
theorem dX2_arrive_5 : decode cX2_arrive 5 = .ok (.iaload, 1) := by decide +kernel
theorem dX2_arrive_6 : decode cX2_arrive 6 = .ok (.iload 4, 2) := by decide +kernel
theorem dX2_arrive_8 : decode cX2_arrive 8 = .ok (.if_icmp .ne 24, 3) := by decide +kernel
theorem dX2_arrive_11 : decode cX2_arrive 11 = .ok (.aload_n 0, 1) := by decide +kernel
theorem dX2_arrive_12 : decode cX2_arrive 12 = .ok (.aload_n 1, 1) := by decide +kernel
theorem dX2_arrive_13 : decode cX2_arrive 13 = .ok (.getfield 112, 3) := by decide +kernel
theorem dX2_arrive_16 : decode cX2_arrive 16 = .ok (.iload_n 3, 1) := by decide +kernel
theorem dX2_arrive_17 : decode cX2_arrive 17 = .ok (.iaload, 1) := by decide +kernel
theorem dX2_arrive_18 : decode cX2_arrive 18 = .ok (.bipush 15, 2) := by decide +kernel
theorem dX2_arrive_20 : decode cX2_arrive 20 = .ok (.bipush 17, 2) := by decide +kernel
theorem dX2_arrive_22 : decode cX2_arrive 22 = .ok (.bipush 10, 2) := by decide +kernel
theorem dX2_arrive_24 : decode cX2_arrive 24 = .ok (.aload_n 1, 1) := by decide +kernel
theorem dX2_arrive_25 : decode cX2_arrive 25 = .ok (.getfield 115, 3) := by decide +kernel
theorem dX2_arrive_28 : decode cX2_arrive 28 = .ok (.imul, 1) := by decide +kernel
theorem dX2_arrive_29 : decode cX2_arrive 29 = .ok (.invokevirtual 118, 3) := by decide +kernel
theorem dX2_arrive_32 : decode cX2_arrive 32 = .ok (.aload_n 1, 1) := by decide +kernel
theorem dX2_arrive_33 : decode cX2_arrive 33 = .ok (.getfield 64, 3) := by decide +kernel
theorem dX2_arrive_36 : decode cX2_arrive 36 = .ok (.iload_n 3, 1) := by decide +kernel
theorem dX2_arrive_37 : decode cX2_arrive 37 = .ok (.iaload, 1) := by decide +kernel
theorem dX2_arrive_38 : decode cX2_arrive 38 = .ok (.iload 4, 2) := by decide +kernel
theorem dX2_arrive_40 : decode cX2_arrive 40 = .ok (.if_icmp .gt 69, 3) := by decide +kernel
theorem dX2_arrive_43 : decode cX2_arrive 43 = .ok (.iconst 0, 1) := by decide +kernel
theorem dX2_arrive_44 : decode cX2_arrive 44 = .ok (.istore 5, 2) := by decide +kernel
theorem dX2_arrive_46 : decode cX2_arrive 46 = .ok (.iload 5, 2) := by decide +kernel
theorem dX2_arrive_48 : decode cX2_arrive 48 = .ok (.aload_n 2, 1) := by decide +kernel
theorem dX2_arrive_49 : decode cX2_arrive 49 = .ok (.getfield 122, 3) := by decide +kernel
theorem dX2_arrive_52 : decode cX2_arrive 52 = .ok (.if_icmp .ge 57, 3) := by decide +kernel
theorem dX2_arrive_55 : decode cX2_arrive 55 = .ok (.aload_n 2, 1) := by decide +kernel
theorem dX2_arrive_56 : decode cX2_arrive 56 = .ok (.getfield 127, 3) := by decide +kernel
theorem dX2_arrive_59 : decode cX2_arrive 59 = .ok (.iload 5, 2) := by decide +kernel
theorem dX2_arrive_61 : decode cX2_arrive 61 = .ok (.iaload, 1) := by decide +kernel
theorem dX2_arrive_62 : decode cX2_arrive 62 = .ok (.iload 4, 2) := by decide +kernel
theorem dX2_arrive_64 : decode cX2_arrive 64 = .ok (.if_icmp .ne 39, 3) := by decide +kernel
theorem dX2_arrive_67 : decode cX2_arrive 67 = .ok (.aload_n 2, 1) := by decide +kernel
theorem dX2_arrive_68 : decode cX2_arrive 68 = .ok (.getfield 128, 3) := by decide +kernel
theorem dX2_arrive_71 : decode cX2_arrive 71 = .ok (.iload 5, 2) := by decide +kernel
theorem dX2_arrive_73 : decode cX2_arrive 73 = .ok (.iaload, 1) := by decide +kernel
theorem dX2_arrive_74 : decode cX2_arrive 74 = .ok (.iload_n 3, 1) := by decide +kernel
theorem dX2_arrive_75 : decode cX2_arrive 75 = .ok (.if_icmp .ne 28, 3) := by decide +kernel
theorem dX2_arrive_78 : decode cX2_arrive 78 = .ok (.aload_n 0, 1) := by decide +kernel
theorem dX2_arrive_79 : decode cX2_arrive 79 = .ok (.aload_n 2, 1) := by decide +kernel
theorem dX2_arrive_80 : decode cX2_arrive 80 = .ok (.getfield 131, 3) := by decide +kernel
theorem dX2_arrive_83 : decode cX2_arrive 83 = .ok (.iload 5, 2) := by decide +kernel
theorem dX2_arrive_85 : decode cX2_arrive 85 = .ok (.iaload, 1) := by decide +kernel
theorem dX2_arrive_86 : decode cX2_arrive 86 = .ok (.bipush 13, 2) := by decide +kernel
theorem dX2_arrive_88 : decode cX2_arrive 88 = .ok (.bipush 19, 2) := by decide +kernel
theorem dX2_arrive_90 : decode cX2_arrive 90 = .ok (.bipush 10, 2) := by decide +kernel
theorem dX2_arrive_92 : decode cX2_arrive 92 = .ok (.aload_n 2, 1) := by decide +kernel
theorem dX2_arrive_93 : decode cX2_arrive 93 = .ok (.getfield 133, 3) := by decide +kernel
theorem dX2_arrive_96 : decode cX2_arrive 96 = .ok (.iload 5, 2) := by decide +kernel
theorem dX2_arrive_98 : decode cX2_arrive 98 = .ok (.iaload, 1) := by decide +kernel
theorem dX2_arrive_99 : decode cX2_arrive 99 = .ok (.imul, 1) := by decide +kernel
theorem dX2_arrive_100 : decode cX2_arrive 100 = .ok (.invokevirtual 118, 3) := by decide +kernel
theorem dX2_arrive_103 : decode cX2_arrive 103 = .ok (.iinc 5 1, 3) := by decide +kernel
theorem dX2_arrive_106 : decode cX2_arrive 106 = .ok (.goto (-60), 3) := by decide +kernel
theorem dX2_arrive_109 : decode cX2_arrive 109 = .ok (.return_, 1) := by decide +kernel
theorem dX2_raise_0 : decode cX2_raise 0 = .ok (.iload_n 2, 1) := by decide +kernel
theorem dX2_raise_1 : decode cX2_raise 1 = .ok (.istore 5, 2) := by decide +kernel
theorem dX2_raise_3 : decode cX2_raise 3 = .ok (.iload 5, 2) := by decide +kernel
theorem dX2_raise_5 : decode cX2_raise 5 = .ok (.iload_n 3, 1) := by decide +kernel
theorem dX2_raise_6 : decode cX2_raise 6 = .ok (.if_icmp .gt 32, 3) := by decide +kernel
theorem dX2_raise_9 : decode cX2_raise 9 = .ok (.aload_n 0, 1) := by decide +kernel
theorem dX2_raise_10 : decode cX2_raise 10 = .ok (.getfield 11, 3) := by decide +kernel
theorem dX2_raise_13 : decode cX2_raise 13 = .ok (.iload_n 1, 1) := by decide +kernel
theorem dX2_raise_14 : decode cX2_raise 14 = .ok (.aaload, 1) := by decide +kernel
theorem dX2_raise_15 : decode cX2_raise 15 = .ok (.iload 5, 2) := by decide +kernel
theorem dX2_raise_17 : decode cX2_raise 17 = .ok (.aload_n 0, 1) := by decide +kernel
theorem dX2_raise_18 : decode cX2_raise 18 = .ok (.getfield 11, 3) := by decide +kernel
theorem dX2_raise_21 : decode cX2_raise 21 = .ok (.iload_n 1, 1) := by decide +kernel
theorem dX2_raise_22 : decode cX2_raise 22 = .ok (.aaload, 1) := by decide +kernel
theorem dX2_raise_23 : decode cX2_raise 23 = .ok (.iload 5, 2) := by decide +kernel
theorem dX2_raise_25 : decode cX2_raise 25 = .ok (.iaload, 1) := by decide +kernel
theorem dX2_raise_26 : decode cX2_raise 26 = .ok (.iload 4, 2) := by decide +kernel
theorem dX2_raise_28 : decode cX2_raise 28 = .ok (.invokestatic 136, 3) := by decide +kernel
theorem dX2_raise_31 : decode cX2_raise 31 = .ok (.iastore, 1) := by decide +kernel
theorem dX2_raise_32 : decode cX2_raise 32 = .ok (.iinc 5 1, 3) := by decide +kernel
theorem dX2_raise_35 : decode cX2_raise 35 = .ok (.goto (-32), 3) := by decide +kernel
theorem dX2_raise_38 : decode cX2_raise 38 = .ok (.return_, 1) := by decide +kernel
theorem dX2_note_0 : decode cX2_note 0 = .ok (.iconst 0, 1) := by decide +kernel
theorem dX2_note_1 : decode cX2_note 1 = .ok (.istore_n 3, 1) := by decide +kernel
theorem dX2_note_2 : decode cX2_note 2 = .ok (.iconst 0, 1) := by decide +kernel
theorem dX2_note_3 : decode cX2_note 3 = .ok (.istore 4, 2) := by decide +kernel
theorem dX2_note_5 : decode cX2_note 5 = .ok (.iconst 0, 1) := by decide +kernel
theorem dX2_note_6 : decode cX2_note 6 = .ok (.istore 5, 2) := by decide +kernel
theorem dX2_note_8 : decode cX2_note 8 = .ok (.iload 5, 2) := by decide +kernel
theorem dX2_note_10 : decode cX2_note 10 = .ok (.iload_n 1, 1) := by decide +kernel
theorem dX2_note_11 : decode cX2_note 11 = .ok (.if_icmp .ge 49, 3) := by decide +kernel
theorem dX2_note_14 : decode cX2_note 14 = .ok (.aload_n 0, 1) := by decide +kernel
theorem dX2_note_15 : decode cX2_note 15 = .ok (.getfield 16, 3) := by decide +kernel
theorem dX2_note_18 : decode cX2_note 18 = .ok (.iload 5, 2) := by decide +kernel
theorem dX2_note_20 : decode cX2_note 20 = .ok (.aaload, 1) := by decide +kernel
theorem dX2_note_21 : decode cX2_note 21 = .ok (.iload_n 2, 1) := by decide +kernel
theorem dX2_note_22 : decode cX2_note 22 = .ok (.aload_n 0, 1) := by decide +kernel
theorem dX2_note_23 : decode cX2_note 23 = .ok (.iload 5, 2) := by decide +kernel
theorem dX2_note_25 : decode cX2_note 25 = .ok (.iconst 0, 1) := by decide +kernel
theorem dX2_note_26 : decode cX2_note 26 = .ok (.invokevirtual 71, 3) := by decide +kernel
theorem dX2_note_29 : decode cX2_note 29 = .ok (.iastore, 1) := by decide +kernel
theorem dX2_note_30 : decode cX2_note 30 = .ok (.iload_n 3, 1) := by decide +kernel
theorem dX2_note_31 : decode cX2_note 31 = .ok (.aload_n 0, 1) := by decide +kernel
theorem dX2_note_32 : decode cX2_note 32 = .ok (.getfield 16, 3) := by decide +kernel
theorem dX2_note_35 : decode cX2_note 35 = .ok (.iload 5, 2) := by decide +kernel
theorem dX2_note_37 : decode cX2_note 37 = .ok (.aaload, 1) := by decide +kernel
theorem dX2_note_38 : decode cX2_note 38 = .ok (.iload_n 2, 1) := by decide +kernel
theorem dX2_note_39 : decode cX2_note 39 = .ok (.iaload, 1) := by decide +kernel
theorem dX2_note_40 : decode cX2_note 40 = .ok (.iadd, 1) := by decide +kernel
theorem dX2_note_41 : decode cX2_note 41 = .ok (.istore_n 3, 1) := by decide +kernel
theorem dX2_note_42 : decode cX2_note 42 = .ok (.iload 4, 2) := by decide +kernel
theorem dX2_note_44 : decode cX2_note 44 = .ok (.aload_n 0, 1) := by decide +kernel
theorem dX2_note_45 : decode cX2_note 45 = .ok (.iload 5, 2) := by decide +kernel
theorem dX2_note_47 : decode cX2_note 47 = .ok (.iconst 1, 1) := by decide +kernel
theorem dX2_note_48 : decode cX2_note 48 = .ok (.invokevirtual 71, 3) := by decide +kernel
theorem dX2_note_51 : decode cX2_note 51 = .ok (.iadd, 1) := by decide +kernel
theorem dX2_note_52 : decode cX2_note 52 = .ok (.istore 4, 2) := by decide +kernel
theorem dX2_note_54 : decode cX2_note 54 = .ok (.iinc 5 1, 3) := by decide +kernel
theorem dX2_note_57 : decode cX2_note 57 = .ok (.goto (-49), 3) := by decide +kernel
theorem dX2_note_60 : decode cX2_note 60 = .ok (.aload_n 0, 1) := by decide +kernel
theorem dX2_note_61 : decode cX2_note 61 = .ok (.getfield 19, 3) := by decide +kernel
theorem dX2_note_64 : decode cX2_note 64 = .ok (.iload_n 2, 1) := by decide +kernel
theorem dX2_note_65 : decode cX2_note 65 = .ok (.iload_n 3, 1) := by decide +kernel
theorem dX2_note_66 : decode cX2_note 66 = .ok (.iload_n 1, 1) := by decide +kernel
theorem dX2_note_67 : decode cX2_note 67 = .ok (.invokestatic 139, 3) := by decide +kernel
theorem dX2_note_70 : decode cX2_note 70 = .ok (.iastore, 1) := by decide +kernel
theorem dX2_note_71 : decode cX2_note 71 = .ok (.aload_n 0, 1) := by decide +kernel
theorem dX2_note_72 : decode cX2_note 72 = .ok (.getfield 23, 3) := by decide +kernel
theorem dX2_note_75 : decode cX2_note 75 = .ok (.iload_n 2, 1) := by decide +kernel
theorem dX2_note_76 : decode cX2_note 76 = .ok (.iload 4, 2) := by decide +kernel
theorem dX2_note_78 : decode cX2_note 78 = .ok (.iload_n 1, 1) := by decide +kernel
theorem dX2_note_79 : decode cX2_note 79 = .ok (.invokestatic 139, 3) := by decide +kernel
theorem dX2_note_82 : decode cX2_note 82 = .ok (.iastore, 1) := by decide +kernel
theorem dX2_note_83 : decode cX2_note 83 = .ok (.return_, 1) := by decide +kernel
theorem dX2_peakYear_0 : decode cX2_peakYear 0 = .ok (.iconst 0, 1) := by decide +kernel
theorem dX2_peakYear_1 : decode cX2_peakYear 1 = .ok (.istore_n 2, 1) := by decide +kernel
theorem dX2_peakYear_2 : decode cX2_peakYear 2 = .ok (.iconst 1, 1) := by decide +kernel
theorem dX2_peakYear_3 : decode cX2_peakYear 3 = .ok (.istore_n 3, 1) := by decide +kernel
theorem dX2_peakYear_4 : decode cX2_peakYear 4 = .ok (.iload_n 3, 1) := by decide +kernel
theorem dX2_peakYear_5 : decode cX2_peakYear 5 = .ok (.iload_n 1, 1) := by decide +kernel
theorem dX2_peakYear_6 : decode cX2_peakYear 6 = .ok (.if_icmp .gt 26, 3) := by decide +kernel
theorem dX2_peakYear_9 : decode cX2_peakYear 9 = .ok (.aload_n 0, 1) := by decide +kernel
theorem dX2_peakYear_10 : decode cX2_peakYear 10 = .ok (.getfield 19, 3) := by decide +kernel
theorem dX2_peakYear_13 : decode cX2_peakYear 13 = .ok (.iload_n 3, 1) := by decide +kernel
theorem dX2_peakYear_14 : decode cX2_peakYear 14 = .ok (.iaload, 1) := by decide +kernel
theorem dX2_peakYear_15 : decode cX2_peakYear 15 = .ok (.aload_n 0, 1) := by decide +kernel
theorem dX2_peakYear_16 : decode cX2_peakYear 16 = .ok (.getfield 19, 3) := by decide +kernel
theorem dX2_peakYear_19 : decode cX2_peakYear 19 = .ok (.iload_n 2, 1) := by decide +kernel
theorem dX2_peakYear_20 : decode cX2_peakYear 20 = .ok (.iaload, 1) := by decide +kernel
theorem dX2_peakYear_21 : decode cX2_peakYear 21 = .ok (.if_icmp .le 5, 3) := by decide +kernel
theorem dX2_peakYear_24 : decode cX2_peakYear 24 = .ok (.iload_n 3, 1) := by decide +kernel
theorem dX2_peakYear_25 : decode cX2_peakYear 25 = .ok (.istore_n 2, 1) := by decide +kernel
theorem dX2_peakYear_26 : decode cX2_peakYear 26 = .ok (.iinc 3 1, 3) := by decide +kernel
theorem dX2_peakYear_29 : decode cX2_peakYear 29 = .ok (.goto (-25), 3) := by decide +kernel
theorem dX2_peakYear_32 : decode cX2_peakYear 32 = .ok (.iload_n 2, 1) := by decide +kernel
theorem dX2_peakYear_33 : decode cX2_peakYear 33 = .ok (.ireturn, 1) := by decide +kernel
theorem dX2_peak_0 : decode cX2_peak 0 = .ok (.aload_n 0, 1) := by decide +kernel
theorem dX2_peak_1 : decode cX2_peak 1 = .ok (.getfield 19, 3) := by decide +kernel
theorem dX2_peak_4 : decode cX2_peak 4 = .ok (.aload_n 0, 1) := by decide +kernel
theorem dX2_peak_5 : decode cX2_peak 5 = .ok (.iload_n 1, 1) := by decide +kernel
theorem dX2_peak_6 : decode cX2_peak 6 = .ok (.invokevirtual 142, 3) := by decide +kernel
theorem dX2_peak_9 : decode cX2_peak 9 = .ok (.iaload, 1) := by decide +kernel
theorem dX2_peak_10 : decode cX2_peak 10 = .ok (.ireturn, 1) := by decide +kernel
theorem dX2_overYear_0 : decode cX2_overYear 0 = .ok (.aload_n 0, 1) := by decide +kernel
theorem dX2_overYear_1 : decode cX2_overYear 1 = .ok (.iload_n 1, 1) := by decide +kernel
theorem dX2_overYear_2 : decode cX2_overYear 2 = .ok (.invokevirtual 142, 3) := by decide +kernel
theorem dX2_overYear_5 : decode cX2_overYear 5 = .ok (.iconst 1, 1) := by decide +kernel
theorem dX2_overYear_6 : decode cX2_overYear 6 = .ok (.iadd, 1) := by decide +kernel
theorem dX2_overYear_7 : decode cX2_overYear 7 = .ok (.istore_n 2, 1) := by decide +kernel
theorem dX2_overYear_8 : decode cX2_overYear 8 = .ok (.iload_n 2, 1) := by decide +kernel
theorem dX2_overYear_9 : decode cX2_overYear 9 = .ok (.iload_n 1, 1) := by decide +kernel
theorem dX2_overYear_10 : decode cX2_overYear 10 = .ok (.if_icmp .gt 22, 3) := by decide +kernel
theorem dX2_overYear_13 : decode cX2_overYear 13 = .ok (.aload_n 0, 1) := by decide +kernel
theorem dX2_overYear_14 : decode cX2_overYear 14 = .ok (.getfield 19, 3) := by decide +kernel
theorem dX2_overYear_17 : decode cX2_overYear 17 = .ok (.iload_n 2, 1) := by decide +kernel
theorem dX2_overYear_18 : decode cX2_overYear 18 = .ok (.iaload, 1) := by decide +kernel
theorem dX2_overYear_19 : decode cX2_overYear 19 = .ok (.bipush 100, 2) := by decide +kernel
theorem dX2_overYear_21 : decode cX2_overYear 21 = .ok (.if_icmp .ge 5, 3) := by decide +kernel
theorem dX2_overYear_24 : decode cX2_overYear 24 = .ok (.iload_n 2, 1) := by decide +kernel
theorem dX2_overYear_25 : decode cX2_overYear 25 = .ok (.ireturn, 1) := by decide +kernel
theorem dX2_overYear_26 : decode cX2_overYear 26 = .ok (.iinc 2 1, 3) := by decide +kernel
theorem dX2_overYear_29 : decode cX2_overYear 29 = .ok (.goto (-21), 3) := by decide +kernel
theorem dX2_overYear_32 : decode cX2_overYear 32 = .ok (.bipush (-9), 2) := by decide +kernel
theorem dX2_overYear_34 : decode cX2_overYear 34 = .ok (.ireturn, 1) := by decide +kernel
theorem dX2_parentsYear_0 : decode cX2_parentsYear 0 = .ok (.iconst 0, 1) := by decide +kernel
theorem dX2_parentsYear_1 : decode cX2_parentsYear 1 = .ok (.istore_n 2, 1) := by decide +kernel
theorem dX2_parentsYear_2 : decode cX2_parentsYear 2 = .ok (.iload_n 2, 1) := by decide +kernel
theorem dX2_parentsYear_3 : decode cX2_parentsYear 3 = .ok (.iload_n 1, 1) := by decide +kernel
theorem dX2_parentsYear_4 : decode cX2_parentsYear 4 = .ok (.if_icmp .gt 22, 3) := by decide +kernel
theorem dX2_parentsYear_7 : decode cX2_parentsYear 7 = .ok (.aload_n 0, 1) := by decide +kernel
theorem dX2_parentsYear_8 : decode cX2_parentsYear 8 = .ok (.getfield 23, 3) := by decide +kernel
theorem dX2_parentsYear_11 : decode cX2_parentsYear 11 = .ok (.iload_n 2, 1) := by decide +kernel
theorem dX2_parentsYear_12 : decode cX2_parentsYear 12 = .ok (.iaload, 1) := by decide +kernel
theorem dX2_parentsYear_13 : decode cX2_parentsYear 13 = .ok (.bipush 100, 2) := by decide +kernel
theorem dX2_parentsYear_15 : decode cX2_parentsYear 15 = .ok (.if_icmp .lt 5, 3) := by decide +kernel
theorem dX2_parentsYear_18 : decode cX2_parentsYear 18 = .ok (.iload_n 2, 1) := by decide +kernel
theorem dX2_parentsYear_19 : decode cX2_parentsYear 19 = .ok (.ireturn, 1) := by decide +kernel
theorem dX2_parentsYear_20 : decode cX2_parentsYear 20 = .ok (.iinc 2 1, 3) := by decide +kernel
theorem dX2_parentsYear_23 : decode cX2_parentsYear 23 = .ok (.goto (-21), 3) := by decide +kernel
theorem dX2_parentsYear_26 : decode cX2_parentsYear 26 = .ok (.bipush (-9), 2) := by decide +kernel
theorem dX2_parentsYear_28 : decode cX2_parentsYear 28 = .ok (.ireturn, 1) := by decide +kernel
theorem dX2_keptAge_0 : decode cX2_keptAge 0 = .ok (.bipush 10, 2) := by decide +kernel
theorem dX2_keptAge_2 : decode cX2_keptAge 2 = .ok (.istore_n 2, 1) := by decide +kernel
theorem dX2_keptAge_3 : decode cX2_keptAge 3 = .ok (.iconst 0, 1) := by decide +kernel
theorem dX2_keptAge_4 : decode cX2_keptAge 4 = .ok (.istore_n 3, 1) := by decide +kernel
theorem dX2_keptAge_5 : decode cX2_keptAge 5 = .ok (.bipush 10, 2) := by decide +kernel
theorem dX2_keptAge_7 : decode cX2_keptAge 7 = .ok (.istore 4, 2) := by decide +kernel
theorem dX2_keptAge_9 : decode cX2_keptAge 9 = .ok (.iload 4, 2) := by decide +kernel
theorem dX2_keptAge_11 : decode cX2_keptAge 11 = .ok (.bipush 69, 2) := by decide +kernel
theorem dX2_keptAge_13 : decode cX2_keptAge 13 = .ok (.if_icmp .gt 54, 3) := by decide +kernel
theorem dX2_keptAge_16 : decode cX2_keptAge 16 = .ok (.iconst 0, 1) := by decide +kernel
theorem dX2_keptAge_17 : decode cX2_keptAge 17 = .ok (.istore 5, 2) := by decide +kernel
theorem dX2_keptAge_19 : decode cX2_keptAge 19 = .ok (.iconst 0, 1) := by decide +kernel
theorem dX2_keptAge_20 : decode cX2_keptAge 20 = .ok (.istore 6, 2) := by decide +kernel
theorem dX2_keptAge_22 : decode cX2_keptAge 22 = .ok (.iload 6, 2) := by decide +kernel
theorem dX2_keptAge_24 : decode cX2_keptAge 24 = .ok (.iload_n 1, 1) := by decide +kernel
theorem dX2_keptAge_25 : decode cX2_keptAge 25 = .ok (.if_icmp .ge 24, 3) := by decide +kernel
theorem dX2_keptAge_28 : decode cX2_keptAge 28 = .ok (.iload 5, 2) := by decide +kernel
theorem dX2_keptAge_30 : decode cX2_keptAge 30 = .ok (.aload_n 0, 1) := by decide +kernel
theorem dX2_keptAge_31 : decode cX2_keptAge 31 = .ok (.getfield 11, 3) := by decide +kernel
theorem dX2_keptAge_34 : decode cX2_keptAge 34 = .ok (.iload 6, 2) := by decide +kernel
theorem dX2_keptAge_36 : decode cX2_keptAge 36 = .ok (.aaload, 1) := by decide +kernel
theorem dX2_keptAge_37 : decode cX2_keptAge 37 = .ok (.iload 4, 2) := by decide +kernel
theorem dX2_keptAge_39 : decode cX2_keptAge 39 = .ok (.iaload, 1) := by decide +kernel
theorem dX2_keptAge_40 : decode cX2_keptAge 40 = .ok (.iadd, 1) := by decide +kernel
theorem dX2_keptAge_41 : decode cX2_keptAge 41 = .ok (.istore 5, 2) := by decide +kernel
theorem dX2_keptAge_43 : decode cX2_keptAge 43 = .ok (.iinc 6 1, 3) := by decide +kernel
theorem dX2_keptAge_46 : decode cX2_keptAge 46 = .ok (.goto (-24), 3) := by decide +kernel
theorem dX2_keptAge_49 : decode cX2_keptAge 49 = .ok (.iload 5, 2) := by decide +kernel
theorem dX2_keptAge_51 : decode cX2_keptAge 51 = .ok (.iload_n 3, 1) := by decide +kernel
theorem dX2_keptAge_52 : decode cX2_keptAge 52 = .ok (.if_icmp .le 9, 3) := by decide +kernel
theorem dX2_keptAge_55 : decode cX2_keptAge 55 = .ok (.iload 5, 2) := by decide +kernel
theorem dX2_keptAge_57 : decode cX2_keptAge 57 = .ok (.istore_n 3, 1) := by decide +kernel
theorem dX2_keptAge_58 : decode cX2_keptAge 58 = .ok (.iload 4, 2) := by decide +kernel
theorem dX2_keptAge_60 : decode cX2_keptAge 60 = .ok (.istore_n 2, 1) := by decide +kernel
theorem dX2_keptAge_61 : decode cX2_keptAge 61 = .ok (.iinc 4 1, 3) := by decide +kernel
theorem dX2_keptAge_64 : decode cX2_keptAge 64 = .ok (.goto (-55), 3) := by decide +kernel
theorem dX2_keptAge_67 : decode cX2_keptAge 67 = .ok (.iload_n 2, 1) := by decide +kernel
theorem dX2_keptAge_68 : decode cX2_keptAge 68 = .ok (.ireturn, 1) := by decide +kernel
theorem dX3_init_0 : decode cX3_init 0 = .ok (.aload_n 0, 1) := by decide +kernel
theorem dX3_init_1 : decode cX3_init 1 = .ok (.invokespecial 3, 3) := by decide +kernel
theorem dX3_init_4 : decode cX3_init 4 = .ok (.aload_n 0, 1) := by decide +kernel
theorem dX3_init_5 : decode cX3_init 5 = .ok (.new 9, 3) := by decide +kernel
theorem dX3_init_8 : decode cX3_init 8 = .ok (.dup, 1) := by decide +kernel
theorem dX3_init_9 : decode cX3_init 9 = .ok (.invokespecial 11, 3) := by decide +kernel
theorem dX3_init_12 : decode cX3_init 12 = .ok (.putfield 12, 3) := by decide +kernel
theorem dX3_init_15 : decode cX3_init 15 = .ok (.aload_n 0, 1) := by decide +kernel
theorem dX3_init_16 : decode cX3_init 16 = .ok (.iconst 5, 1) := by decide +kernel
theorem dX3_init_17 : decode cX3_init 17 = .ok (.anewarray 18, 3) := by decide +kernel
theorem dX3_init_20 : decode cX3_init 20 = .ok (.putfield 20, 3) := by decide +kernel
theorem dX3_init_23 : decode cX3_init 23 = .ok (.iconst 0, 1) := by decide +kernel
theorem dX3_init_24 : decode cX3_init 24 = .ok (.istore_n 1, 1) := by decide +kernel
theorem dX3_init_25 : decode cX3_init 25 = .ok (.iload_n 1, 1) := by decide +kernel
theorem dX3_init_26 : decode cX3_init 26 = .ok (.iconst 5, 1) := by decide +kernel
theorem dX3_init_27 : decode cX3_init 27 = .ok (.if_icmp .ge 22, 3) := by decide +kernel
theorem dX3_init_30 : decode cX3_init 30 = .ok (.aload_n 0, 1) := by decide +kernel
theorem dX3_init_31 : decode cX3_init 31 = .ok (.getfield 20, 3) := by decide +kernel
theorem dX3_init_34 : decode cX3_init 34 = .ok (.iload_n 1, 1) := by decide +kernel
theorem dX3_init_35 : decode cX3_init 35 = .ok (.new 18, 3) := by decide +kernel
theorem dX3_init_38 : decode cX3_init 38 = .ok (.dup, 1) := by decide +kernel
theorem dX3_init_39 : decode cX3_init 39 = .ok (.invokespecial 24, 3) := by decide +kernel
theorem dX3_init_42 : decode cX3_init 42 = .ok (.aastore, 1) := by decide +kernel
theorem dX3_init_43 : decode cX3_init 43 = .ok (.iinc 1 1, 3) := by decide +kernel
theorem dX3_init_46 : decode cX3_init 46 = .ok (.goto (-21), 3) := by decide +kernel
theorem dX3_init_49 : decode cX3_init 49 = .ok (.return_, 1) := by decide +kernel
theorem dX3_begin_0 : decode cX3_begin 0 = .ok (.aload_n 0, 1) := by decide +kernel
theorem dX3_begin_1 : decode cX3_begin 1 = .ok (.iconst 0, 1) := by decide +kernel
theorem dX3_begin_2 : decode cX3_begin 2 = .ok (.putfield 25, 3) := by decide +kernel
theorem dX3_begin_5 : decode cX3_begin 5 = .ok (.aload_n 0, 1) := by decide +kernel
theorem dX3_begin_6 : decode cX3_begin 6 = .ok (.getfield 12, 3) := by decide +kernel
theorem dX3_begin_9 : decode cX3_begin 9 = .ok (.iconst 0, 1) := by decide +kernel
theorem dX3_begin_10 : decode cX3_begin 10 = .ok (.putfield 29, 3) := by decide +kernel
theorem dX3_begin_13 : decode cX3_begin 13 = .ok (.iconst 0, 1) := by decide +kernel
theorem dX3_begin_14 : decode cX3_begin 14 = .ok (.istore_n 2, 1) := by decide +kernel
theorem dX3_begin_15 : decode cX3_begin 15 = .ok (.iload_n 2, 1) := by decide +kernel
theorem dX3_begin_16 : decode cX3_begin 16 = .ok (.aload_n 1, 1) := by decide +kernel
theorem dX3_begin_17 : decode cX3_begin 17 = .ok (.getfield 32, 3) := by decide +kernel
theorem dX3_begin_20 : decode cX3_begin 20 = .ok (.if_icmp .ge 24, 3) := by decide +kernel
theorem dX3_begin_23 : decode cX3_begin 23 = .ok (.aload_n 0, 1) := by decide +kernel
theorem dX3_begin_24 : decode cX3_begin 24 = .ok (.getfield 20, 3) := by decide +kernel
theorem dX3_begin_27 : decode cX3_begin 27 = .ok (.iload_n 2, 1) := by decide +kernel
theorem dX3_begin_28 : decode cX3_begin 28 = .ok (.aaload, 1) := by decide +kernel
theorem dX3_begin_29 : decode cX3_begin 29 = .ok (.aload_n 1, 1) := by decide +kernel
theorem dX3_begin_30 : decode cX3_begin 30 = .ok (.aload_n 0, 1) := by decide +kernel
theorem dX3_begin_31 : decode cX3_begin 31 = .ok (.getfield 12, 3) := by decide +kernel
theorem dX3_begin_34 : decode cX3_begin 34 = .ok (.iload_n 2, 1) := by decide +kernel
theorem dX3_begin_35 : decode cX3_begin 35 = .ok (.invokevirtual 37, 3) := by decide +kernel
theorem dX3_begin_38 : decode cX3_begin 38 = .ok (.iinc 2 1, 3) := by decide +kernel
theorem dX3_begin_41 : decode cX3_begin 41 = .ok (.goto (-26), 3) := by decide +kernel
theorem dX3_begin_44 : decode cX3_begin 44 = .ok (.return_, 1) := by decide +kernel
theorem dX3_pass_0 : decode cX3_pass 0 = .ok (.iconst 0, 1) := by decide +kernel
theorem dX3_pass_1 : decode cX3_pass 1 = .ok (.istore_n 2, 1) := by decide +kernel
theorem dX3_pass_2 : decode cX3_pass 2 = .ok (.iload_n 2, 1) := by decide +kernel
theorem dX3_pass_3 : decode cX3_pass 3 = .ok (.aload_n 1, 1) := by decide +kernel
theorem dX3_pass_4 : decode cX3_pass 4 = .ok (.getfield 32, 3) := by decide +kernel
theorem dX3_pass_7 : decode cX3_pass 7 = .ok (.if_icmp .ge 32, 3) := by decide +kernel
theorem dX3_pass_10 : decode cX3_pass 10 = .ok (.aload_n 0, 1) := by decide +kernel
theorem dX3_pass_11 : decode cX3_pass 11 = .ok (.getfield 20, 3) := by decide +kernel
theorem dX3_pass_14 : decode cX3_pass 14 = .ok (.iload_n 2, 1) := by decide +kernel
theorem dX3_pass_15 : decode cX3_pass 15 = .ok (.aaload, 1) := by decide +kernel
theorem dX3_pass_16 : decode cX3_pass 16 = .ok (.aload_n 1, 1) := by decide +kernel
theorem dX3_pass_17 : decode cX3_pass 17 = .ok (.aload_n 0, 1) := by decide +kernel
theorem dX3_pass_18 : decode cX3_pass 18 = .ok (.getfield 12, 3) := by decide +kernel
theorem dX3_pass_21 : decode cX3_pass 21 = .ok (.iload_n 2, 1) := by decide +kernel
theorem dX3_pass_22 : decode cX3_pass 22 = .ok (.aload_n 1, 1) := by decide +kernel
theorem dX3_pass_23 : decode cX3_pass 23 = .ok (.getfield 41, 3) := by decide +kernel
theorem dX3_pass_26 : decode cX3_pass 26 = .ok (.aload_n 0, 1) := by decide +kernel
theorem dX3_pass_27 : decode cX3_pass 27 = .ok (.getfield 25, 3) := by decide +kernel
theorem dX3_pass_30 : decode cX3_pass 30 = .ok (.invokevirtual 44, 3) := by decide +kernel
theorem dX3_pass_33 : decode cX3_pass 33 = .ok (.iinc 2 1, 3) := by decide +kernel
theorem dX3_pass_36 : decode cX3_pass 36 = .ok (.goto (-34), 3) := by decide +kernel
theorem dX3_pass_39 : decode cX3_pass 39 = .ok (.aload_n 0, 1) := by decide +kernel
theorem dX3_pass_40 : decode cX3_pass 40 = .ok (.dup, 1) := by decide +kernel
theorem dX3_pass_41 : decode cX3_pass 41 = .ok (.getfield 25, 3) := by decide +kernel
theorem dX3_pass_44 : decode cX3_pass 44 = .ok (.iconst 1, 1) := by decide +kernel
theorem dX3_pass_45 : decode cX3_pass 45 = .ok (.iadd, 1) := by decide +kernel
theorem dX3_pass_46 : decode cX3_pass 46 = .ok (.putfield 25, 3) := by decide +kernel
theorem dX3_pass_49 : decode cX3_pass 49 = .ok (.return_, 1) := by decide +kernel
theorem dX3_copyFrom_0 : decode cX3_copyFrom 0 = .ok (.aload_n 0, 1) := by decide +kernel
theorem dX3_copyFrom_1 : decode cX3_copyFrom 1 = .ok (.aload_n 1, 1) := by decide +kernel
theorem dX3_copyFrom_2 : decode cX3_copyFrom 2 = .ok (.getfield 25, 3) := by decide +kernel
theorem dX3_copyFrom_5 : decode cX3_copyFrom 5 = .ok (.putfield 25, 3) := by decide +kernel
theorem dX3_copyFrom_8 : decode cX3_copyFrom 8 = .ok (.aload_n 0, 1) := by decide +kernel
theorem dX3_copyFrom_9 : decode cX3_copyFrom 9 = .ok (.aload_n 1, 1) := by decide +kernel
theorem dX3_copyFrom_10 : decode cX3_copyFrom 10 = .ok (.getfield 48, 3) := by decide +kernel
theorem dX3_copyFrom_13 : decode cX3_copyFrom 13 = .ok (.putfield 48, 3) := by decide +kernel
theorem dX3_copyFrom_16 : decode cX3_copyFrom 16 = .ok (.aload_n 0, 1) := by decide +kernel
theorem dX3_copyFrom_17 : decode cX3_copyFrom 17 = .ok (.getfield 12, 3) := by decide +kernel
theorem dX3_copyFrom_20 : decode cX3_copyFrom 20 = .ok (.aload_n 1, 1) := by decide +kernel
theorem dX3_copyFrom_21 : decode cX3_copyFrom 21 = .ok (.getfield 12, 3) := by decide +kernel
theorem dX3_copyFrom_24 : decode cX3_copyFrom 24 = .ok (.invokevirtual 51, 3) := by decide +kernel
theorem dX3_copyFrom_27 : decode cX3_copyFrom 27 = .ok (.iconst 0, 1) := by decide +kernel
theorem dX3_copyFrom_28 : decode cX3_copyFrom 28 = .ok (.istore_n 2, 1) := by decide +kernel
theorem dX3_copyFrom_29 : decode cX3_copyFrom 29 = .ok (.iload_n 2, 1) := by decide +kernel
theorem dX3_copyFrom_30 : decode cX3_copyFrom 30 = .ok (.iconst 5, 1) := by decide +kernel
theorem dX3_copyFrom_31 : decode cX3_copyFrom 31 = .ok (.if_icmp .ge 24, 3) := by decide +kernel
theorem dX3_copyFrom_34 : decode cX3_copyFrom 34 = .ok (.aload_n 0, 1) := by decide +kernel
theorem dX3_copyFrom_35 : decode cX3_copyFrom 35 = .ok (.getfield 20, 3) := by decide +kernel
theorem dX3_copyFrom_38 : decode cX3_copyFrom 38 = .ok (.iload_n 2, 1) := by decide +kernel
theorem dX3_copyFrom_39 : decode cX3_copyFrom 39 = .ok (.aaload, 1) := by decide +kernel
theorem dX3_copyFrom_40 : decode cX3_copyFrom 40 = .ok (.aload_n 1, 1) := by decide +kernel
theorem dX3_copyFrom_41 : decode cX3_copyFrom 41 = .ok (.getfield 20, 3) := by decide +kernel
theorem dX3_copyFrom_44 : decode cX3_copyFrom 44 = .ok (.iload_n 2, 1) := by decide +kernel
theorem dX3_copyFrom_45 : decode cX3_copyFrom 45 = .ok (.aaload, 1) := by decide +kernel
theorem dX3_copyFrom_46 : decode cX3_copyFrom 46 = .ok (.invokevirtual 55, 3) := by decide +kernel
theorem dX3_copyFrom_49 : decode cX3_copyFrom 49 = .ok (.iinc 2 1, 3) := by decide +kernel
theorem dX3_copyFrom_52 : decode cX3_copyFrom 52 = .ok (.goto (-23), 3) := by decide +kernel
theorem dX3_copyFrom_55 : decode cX3_copyFrom 55 = .ok (.return_, 1) := by decide +kernel
theorem dX4_init_0 : decode cX4_init 0 = .ok (.aload_n 0, 1) := by decide +kernel
theorem dX4_init_1 : decode cX4_init 1 = .ok (.invokespecial 3, 3) := by decide +kernel
theorem dX4_init_4 : decode cX4_init 4 = .ok (.aload_n 0, 1) := by decide +kernel
theorem dX4_init_5 : decode cX4_init 5 = .ok (.sipush 300, 3) := by decide +kernel
theorem dX4_init_8 : decode cX4_init 8 = .ok (.newarray .char, 2) := by decide +kernel
theorem dX4_init_10 : decode cX4_init 10 = .ok (.putfield 9, 3) := by decide +kernel
theorem dX4_init_13 : decode cX4_init 13 = .ok (.return_, 1) := by decide +kernel
theorem dX4_append_0 : decode cX4_append 0 = .ok (.iload_n 3, 1) := by decide +kernel
theorem dX4_append_1 : decode cX4_append 1 = .ok (.sipush 300, 3) := by decide +kernel
theorem dX4_append_4 : decode cX4_append 4 = .ok (.aload_n 0, 1) := by decide +kernel
theorem dX4_append_5 : decode cX4_append 5 = .ok (.getfield 15, 3) := by decide +kernel
theorem dX4_append_8 : decode cX4_append 8 = .ok (.isub, 1) := by decide +kernel
theorem dX4_append_9 : decode cX4_append 9 = .ok (.if_icmp .le 5, 3) := by decide +kernel
theorem dX4_append_12 : decode cX4_append 12 = .ok (.iconst 0, 1) := by decide +kernel
theorem dX4_append_13 : decode cX4_append 13 = .ok (.ireturn, 1) := by decide +kernel
theorem dX4_append_14 : decode cX4_append 14 = .ok (.iload_n 3, 1) := by decide +kernel
theorem dX4_append_15 : decode cX4_append 15 = .ok (.iconst 1, 1) := by decide +kernel
theorem dX4_append_16 : decode cX4_append 16 = .ok (.isub, 1) := by decide +kernel
theorem dX4_append_17 : decode cX4_append 17 = .ok (.istore 4, 2) := by decide +kernel
theorem dX4_append_19 : decode cX4_append 19 = .ok (.iload 4, 2) := by decide +kernel
theorem dX4_append_21 : decode cX4_append 21 = .ok (.ifCond .lt 41, 3) := by decide +kernel
theorem dX4_append_24 : decode cX4_append 24 = .ok (.aload_n 0, 1) := by decide +kernel
theorem dX4_append_25 : decode cX4_append 25 = .ok (.getfield 9, 3) := by decide +kernel
theorem dX4_append_28 : decode cX4_append 28 = .ok (.aload_n 0, 1) := by decide +kernel
theorem dX4_append_29 : decode cX4_append 29 = .ok (.getfield 15, 3) := by decide +kernel
theorem dX4_append_32 : decode cX4_append 32 = .ok (.lload_n 1, 1) := by decide +kernel
theorem dX4_append_33 : decode cX4_append 33 = .ok (.bipush 8, 2) := by decide +kernel
theorem dX4_append_35 : decode cX4_append 35 = .ok (.iload 4, 2) := by decide +kernel
theorem dX4_append_37 : decode cX4_append 37 = .ok (.imul, 1) := by decide +kernel
theorem dX4_append_38 : decode cX4_append 38 = .ok (.lushr, 1) := by decide +kernel
theorem dX4_append_39 : decode cX4_append 39 = .ok (.ldc2_w 19, 3) := by decide +kernel
theorem dX4_append_42 : decode cX4_append 42 = .ok (.land, 1) := by decide +kernel
theorem dX4_append_43 : decode cX4_append 43 = .ok (.l2i, 1) := by decide +kernel
theorem dX4_append_44 : decode cX4_append 44 = .ok (.i2c, 1) := by decide +kernel
theorem dX4_append_45 : decode cX4_append 45 = .ok (.castore, 1) := by decide +kernel
theorem dX4_append_46 : decode cX4_append 46 = .ok (.aload_n 0, 1) := by decide +kernel
theorem dX4_append_47 : decode cX4_append 47 = .ok (.dup, 1) := by decide +kernel
theorem dX4_append_48 : decode cX4_append 48 = .ok (.getfield 15, 3) := by decide +kernel
theorem dX4_append_51 : decode cX4_append 51 = .ok (.iconst 1, 1) := by decide +kernel
theorem dX4_append_52 : decode cX4_append 52 = .ok (.iadd, 1) := by decide +kernel
theorem dX4_append_53 : decode cX4_append 53 = .ok (.putfield 15, 3) := by decide +kernel
theorem dX4_append_56 : decode cX4_append 56 = .ok (.iinc 4 (-1), 3) := by decide +kernel
theorem dX4_append_59 : decode cX4_append 59 = .ok (.goto (-40), 3) := by decide +kernel
theorem dX4_append_62 : decode cX4_append 62 = .ok (.iconst 1, 1) := by decide +kernel
theorem dX4_append_63 : decode cX4_append 63 = .ok (.ireturn, 1) := by decide +kernel
theorem dX4_readInto_0 : decode cX4_readInto 0 = .ok (.aload_n 1, 1) := by decide +kernel
theorem dX4_readInto_1 : decode cX4_readInto 1 = .ok (.invokevirtual 21, 3) := by decide +kernel
theorem dX4_readInto_4 : decode cX4_readInto 4 = .ok (.aload_n 0, 1) := by decide +kernel
theorem dX4_readInto_5 : decode cX4_readInto 5 = .ok (.iconst 0, 1) := by decide +kernel
theorem dX4_readInto_6 : decode cX4_readInto 6 = .ok (.putfield 26, 3) := by decide +kernel
theorem dX4_readInto_9 : decode cX4_readInto 9 = .ok (.aload_n 0, 1) := by decide +kernel
theorem dX4_readInto_10 : decode cX4_readInto 10 = .ok (.iconst 0, 1) := by decide +kernel
theorem dX4_readInto_11 : decode cX4_readInto 11 = .ok (.putfield 30, 3) := by decide +kernel
theorem dX4_readInto_14 : decode cX4_readInto 14 = .ok (.aload_n 0, 1) := by decide +kernel
theorem dX4_readInto_15 : decode cX4_readInto 15 = .ok (.iconst 0, 1) := by decide +kernel
theorem dX4_readInto_16 : decode cX4_readInto 16 = .ok (.putfield 33, 3) := by decide +kernel
theorem dX4_readInto_19 : decode cX4_readInto 19 = .ok (.aload_n 0, 1) := by decide +kernel
theorem dX4_readInto_20 : decode cX4_readInto 20 = .ok (.invokevirtual 36, 3) := by decide +kernel
theorem dX4_readInto_23 : decode cX4_readInto 23 = .ok (.iconst 0, 1) := by decide +kernel
theorem dX4_readInto_24 : decode cX4_readInto 24 = .ok (.istore_n 2, 1) := by decide +kernel
theorem dX4_readInto_25 : decode cX4_readInto 25 = .ok (.iload_n 2, 1) := by decide +kernel
theorem dX4_readInto_26 : decode cX4_readInto 26 = .ok (.sipush 300, 3) := by decide +kernel
theorem dX4_readInto_29 : decode cX4_readInto 29 = .ok (.if_icmp .ge 36, 3) := by decide +kernel
theorem dX4_readInto_32 : decode cX4_readInto 32 = .ok (.aload_n 0, 1) := by decide +kernel
theorem dX4_readInto_33 : decode cX4_readInto 33 = .ok (.getfield 39, 3) := by decide +kernel
theorem dX4_readInto_36 : decode cX4_readInto 36 = .ok (.ifCond .eq 29, 3) := by decide +kernel
theorem dX4_readInto_39 : decode cX4_readInto 39 = .ok (.aload_n 0, 1) := by decide +kernel
theorem dX4_readInto_40 : decode cX4_readInto 40 = .ok (.aload_n 1, 1) := by decide +kernel
theorem dX4_readInto_41 : decode cX4_readInto 41 = .ok (.invokevirtual 42, 3) := by decide +kernel
theorem dX4_readInto_44 : decode cX4_readInto 44 = .ok (.ifCond .ne 11, 3) := by decide +kernel
theorem dX4_readInto_47 : decode cX4_readInto 47 = .ok (.bipush (-10), 2) := by decide +kernel
theorem dX4_readInto_49 : decode cX4_readInto 49 = .ok (.aload_n 0, 1) := by decide +kernel
theorem dX4_readInto_50 : decode cX4_readInto 50 = .ok (.getfield 46, 3) := by decide +kernel
theorem dX4_readInto_53 : decode cX4_readInto 53 = .ok (.isub, 1) := by decide +kernel
theorem dX4_readInto_54 : decode cX4_readInto 54 = .ok (.ireturn, 1) := by decide +kernel
theorem dX4_readInto_55 : decode cX4_readInto 55 = .ok (.iinc 2 1, 3) := by decide +kernel
theorem dX4_readInto_58 : decode cX4_readInto 58 = .ok (.aload_n 0, 1) := by decide +kernel
theorem dX4_readInto_59 : decode cX4_readInto 59 = .ok (.invokevirtual 36, 3) := by decide +kernel
theorem dX4_readInto_62 : decode cX4_readInto 62 = .ok (.goto (-37), 3) := by decide +kernel
theorem dX4_readInto_65 : decode cX4_readInto 65 = .ok (.iload_n 2, 1) := by decide +kernel
theorem dX4_readInto_66 : decode cX4_readInto 66 = .ok (.ireturn, 1) := by decide +kernel
theorem dX4_readItem_0 : decode cX4_readItem 0 = .ok (.aload_n 0, 1) := by decide +kernel
theorem dX4_readItem_1 : decode cX4_readItem 1 = .ok (.ldc 49, 2) := by decide +kernel
theorem dX4_readItem_3 : decode cX4_readItem 3 = .ok (.invokevirtual 51, 3) := by decide +kernel
theorem dX4_readItem_6 : decode cX4_readItem 6 = .ok (.ifCond .eq 9, 3) := by decide +kernel
theorem dX4_readItem_9 : decode cX4_readItem 9 = .ok (.aload_n 0, 1) := by decide +kernel
theorem dX4_readItem_10 : decode cX4_readItem 10 = .ok (.aload_n 1, 1) := by decide +kernel
theorem dX4_readItem_11 : decode cX4_readItem 11 = .ok (.invokevirtual 55, 3) := by decide +kernel
theorem dX4_readItem_14 : decode cX4_readItem 14 = .ok (.ireturn, 1) := by decide +kernel
theorem dX4_readItem_15 : decode cX4_readItem 15 = .ok (.aload_n 0, 1) := by decide +kernel
theorem dX4_readItem_16 : decode cX4_readItem 16 = .ok (.ldc 58, 2) := by decide +kernel
theorem dX4_readItem_18 : decode cX4_readItem 18 = .ok (.invokevirtual 51, 3) := by decide +kernel
theorem dX4_readItem_21 : decode cX4_readItem 21 = .ok (.ifCond .eq 9, 3) := by decide +kernel
theorem dX4_readItem_24 : decode cX4_readItem 24 = .ok (.aload_n 0, 1) := by decide +kernel
theorem dX4_readItem_25 : decode cX4_readItem 25 = .ok (.aload_n 1, 1) := by decide +kernel
theorem dX4_readItem_26 : decode cX4_readItem 26 = .ok (.invokevirtual 60, 3) := by decide +kernel
theorem dX4_readItem_29 : decode cX4_readItem 29 = .ok (.ireturn, 1) := by decide +kernel
theorem dX4_readItem_30 : decode cX4_readItem 30 = .ok (.aload_n 0, 1) := by decide +kernel
theorem dX4_readItem_31 : decode cX4_readItem 31 = .ok (.ldc 63, 2) := by decide +kernel
theorem dX4_readItem_33 : decode cX4_readItem 33 = .ok (.invokevirtual 51, 3) := by decide +kernel
theorem dX4_readItem_36 : decode cX4_readItem 36 = .ok (.ifCond .eq 9, 3) := by decide +kernel
theorem dX4_readItem_39 : decode cX4_readItem 39 = .ok (.aload_n 0, 1) := by decide +kernel
theorem dX4_readItem_40 : decode cX4_readItem 40 = .ok (.aload_n 1, 1) := by decide +kernel
theorem dX4_readItem_41 : decode cX4_readItem 41 = .ok (.invokevirtual 65, 3) := by decide +kernel
theorem dX4_readItem_44 : decode cX4_readItem 44 = .ok (.ireturn, 1) := by decide +kernel
theorem dX4_readItem_45 : decode cX4_readItem 45 = .ok (.aload_n 0, 1) := by decide +kernel
theorem dX4_readItem_46 : decode cX4_readItem 46 = .ok (.ldc 68, 2) := by decide +kernel
theorem dX4_readItem_48 : decode cX4_readItem 48 = .ok (.invokevirtual 51, 3) := by decide +kernel
theorem dX4_readItem_51 : decode cX4_readItem 51 = .ok (.ifCond .eq 9, 3) := by decide +kernel
theorem dX4_readItem_54 : decode cX4_readItem 54 = .ok (.aload_n 0, 1) := by decide +kernel
theorem dX4_readItem_55 : decode cX4_readItem 55 = .ok (.aload_n 1, 1) := by decide +kernel
theorem dX4_readItem_56 : decode cX4_readItem 56 = .ok (.invokevirtual 70, 3) := by decide +kernel
theorem dX4_readItem_59 : decode cX4_readItem 59 = .ok (.ireturn, 1) := by decide +kernel
theorem dX4_readItem_60 : decode cX4_readItem 60 = .ok (.aload_n 0, 1) := by decide +kernel
theorem dX4_readItem_61 : decode cX4_readItem 61 = .ok (.ldc 73, 2) := by decide +kernel
theorem dX4_readItem_63 : decode cX4_readItem 63 = .ok (.invokevirtual 51, 3) := by decide +kernel
theorem dX4_readItem_66 : decode cX4_readItem 66 = .ok (.ifCond .eq 15, 3) := by decide +kernel
theorem dX4_readItem_69 : decode cX4_readItem 69 = .ok (.aload_n 0, 1) := by decide +kernel
theorem dX4_readItem_70 : decode cX4_readItem 70 = .ok (.aload_n 1, 1) := by decide +kernel
theorem dX4_readItem_71 : decode cX4_readItem 71 = .ok (.invokevirtual 75, 3) := by decide +kernel
theorem dX4_readItem_74 : decode cX4_readItem 74 = .ok (.ifCond .eq 7, 3) := by decide +kernel
theorem dX4_readItem_77 : decode cX4_readItem 77 = .ok (.iconst 1, 1) := by decide +kernel
theorem dX4_readItem_78 : decode cX4_readItem 78 = .ok (.goto 4, 3) := by decide +kernel
theorem dX4_readItem_81 : decode cX4_readItem 81 = .ok (.iconst 0, 1) := by decide +kernel
theorem dX4_readItem_82 : decode cX4_readItem 82 = .ok (.ireturn, 1) := by decide +kernel
theorem dX4_readPlace_0 : decode cX4_readPlace 0 = .ok (.aload_n 1, 1) := by decide +kernel
theorem dX4_readPlace_1 : decode cX4_readPlace 1 = .ok (.getfield 78, 3) := by decide +kernel
theorem dX4_readPlace_4 : decode cX4_readPlace 4 = .ok (.iconst 3, 1) := by decide +kernel
theorem dX4_readPlace_5 : decode cX4_readPlace 5 = .ok (.if_icmp .ge 10, 3) := by decide +kernel
theorem dX4_readPlace_8 : decode cX4_readPlace 8 = .ok (.aload_n 0, 1) := by decide +kernel
theorem dX4_readPlace_9 : decode cX4_readPlace 9 = .ok (.invokevirtual 81, 3) := by decide +kernel
theorem dX4_readPlace_12 : decode cX4_readPlace 12 = .ok (.ifCond .ne 5, 3) := by decide +kernel
theorem dX4_readPlace_15 : decode cX4_readPlace 15 = .ok (.iconst 0, 1) := by decide +kernel
theorem dX4_readPlace_16 : decode cX4_readPlace 16 = .ok (.ireturn, 1) := by decide +kernel
theorem dX4_readPlace_17 : decode cX4_readPlace 17 = .ok (.aload_n 1, 1) := by decide +kernel
theorem dX4_readPlace_18 : decode cX4_readPlace 18 = .ok (.dup, 1) := by decide +kernel
theorem dX4_readPlace_19 : decode cX4_readPlace 19 = .ok (.getfield 78, 3) := by decide +kernel
theorem dX4_readPlace_22 : decode cX4_readPlace 22 = .ok (.iconst 1, 1) := by decide +kernel
theorem dX4_readPlace_23 : decode cX4_readPlace 23 = .ok (.iadd, 1) := by decide +kernel
theorem dX4_readPlace_24 : decode cX4_readPlace 24 = .ok (.putfield 78, 3) := by decide +kernel
theorem dX4_readPlace_27 : decode cX4_readPlace 27 = .ok (.iconst 1, 1) := by decide +kernel
theorem dX4_readPlace_28 : decode cX4_readPlace 28 = .ok (.ireturn, 1) := by decide +kernel
theorem dX4_readNear_0 : decode cX4_readNear 0 = .ok (.aload_n 0, 1) := by decide +kernel
theorem dX4_readNear_1 : decode cX4_readNear 1 = .ok (.iconst 0, 1) := by decide +kernel
theorem dX4_readNear_2 : decode cX4_readNear 2 = .ok (.aload_n 1, 1) := by decide +kernel
theorem dX4_readNear_3 : decode cX4_readNear 3 = .ok (.getfield 78, 3) := by decide +kernel
theorem dX4_readNear_6 : decode cX4_readNear 6 = .ok (.iconst 1, 1) := by decide +kernel
theorem dX4_readNear_7 : decode cX4_readNear 7 = .ok (.isub, 1) := by decide +kernel
theorem dX4_readNear_8 : decode cX4_readNear 8 = .ok (.invokevirtual 85, 3) := by decide +kernel
theorem dX4_readNear_11 : decode cX4_readNear 11 = .ok (.ifCond .ne 5, 3) := by decide +kernel
theorem dX4_readNear_14 : decode cX4_readNear 14 = .ok (.iconst 0, 1) := by decide +kernel
theorem dX4_readNear_15 : decode cX4_readNear 15 = .ok (.ireturn, 1) := by decide +kernel
theorem dX4_readNear_16 : decode cX4_readNear 16 = .ok (.aload_n 0, 1) := by decide +kernel
theorem dX4_readNear_17 : decode cX4_readNear 17 = .ok (.getfield 89, 3) := by decide +kernel
theorem dX4_readNear_20 : decode cX4_readNear 20 = .ok (.istore_n 2, 1) := by decide +kernel
theorem dX4_readNear_21 : decode cX4_readNear 21 = .ok (.aload_n 0, 1) := by decide +kernel
theorem dX4_readNear_22 : decode cX4_readNear 22 = .ok (.iconst 0, 1) := by decide +kernel
theorem dX4_readNear_23 : decode cX4_readNear 23 = .ok (.aload_n 1, 1) := by decide +kernel
theorem dX4_readNear_24 : decode cX4_readNear 24 = .ok (.getfield 78, 3) := by decide +kernel
theorem dX4_readNear_27 : decode cX4_readNear 27 = .ok (.iconst 1, 1) := by decide +kernel
theorem dX4_readNear_28 : decode cX4_readNear 28 = .ok (.isub, 1) := by decide +kernel
theorem dX4_readNear_29 : decode cX4_readNear 29 = .ok (.invokevirtual 85, 3) := by decide +kernel
theorem dX4_readNear_32 : decode cX4_readNear 32 = .ok (.ifCond .eq 11, 3) := by decide +kernel
theorem dX4_readNear_35 : decode cX4_readNear 35 = .ok (.aload_n 0, 1) := by decide +kernel
theorem dX4_readNear_36 : decode cX4_readNear 36 = .ok (.getfield 89, 3) := by decide +kernel
theorem dX4_readNear_39 : decode cX4_readNear 39 = .ok (.iload_n 2, 1) := by decide +kernel
theorem dX4_readNear_40 : decode cX4_readNear 40 = .ok (.if_icmp .ne 5, 3) := by decide +kernel
theorem dX4_readNear_43 : decode cX4_readNear 43 = .ok (.iconst 0, 1) := by decide +kernel
theorem dX4_readNear_44 : decode cX4_readNear 44 = .ok (.ireturn, 1) := by decide +kernel
theorem dX4_readNear_45 : decode cX4_readNear 45 = .ok (.aload_n 0, 1) := by decide +kernel
theorem dX4_readNear_46 : decode cX4_readNear 46 = .ok (.getfield 89, 3) := by decide +kernel
theorem dX4_readNear_49 : decode cX4_readNear 49 = .ok (.istore_n 3, 1) := by decide +kernel
theorem dX4_readNear_50 : decode cX4_readNear 50 = .ok (.aload_n 0, 1) := by decide +kernel
theorem dX4_readNear_51 : decode cX4_readNear 51 = .ok (.iconst 0, 1) := by decide +kernel
theorem dX4_readNear_52 : decode cX4_readNear 52 = .ok (.bipush 9, 2) := by decide +kernel
theorem dX4_readNear_54 : decode cX4_readNear 54 = .ok (.invokevirtual 85, 3) := by decide +kernel
theorem dX4_readNear_57 : decode cX4_readNear 57 = .ok (.ifCond .ne 5, 3) := by decide +kernel
theorem dX4_readNear_60 : decode cX4_readNear 60 = .ok (.iconst 0, 1) := by decide +kernel
theorem dX4_readNear_61 : decode cX4_readNear 61 = .ok (.ireturn, 1) := by decide +kernel
theorem dX4_readNear_62 : decode cX4_readNear 62 = .ok (.aload_n 1, 1) := by decide +kernel
theorem dX4_readNear_63 : decode cX4_readNear 63 = .ok (.iload_n 2, 1) := by decide +kernel
theorem dX4_readNear_64 : decode cX4_readNear 64 = .ok (.iload_n 3, 1) := by decide +kernel
theorem dX4_readNear_65 : decode cX4_readNear 65 = .ok (.aload_n 0, 1) := by decide +kernel
theorem dX4_readNear_66 : decode cX4_readNear 66 = .ok (.getfield 89, 3) := by decide +kernel
theorem dX4_readNear_69 : decode cX4_readNear 69 = .ok (.invokevirtual 92, 3) := by decide +kernel
theorem dX4_readNear_72 : decode cX4_readNear 72 = .ok (.aload_n 0, 1) := by decide +kernel
theorem dX4_readNear_73 : decode cX4_readNear 73 = .ok (.invokevirtual 81, 3) := by decide +kernel
theorem dX4_readNear_76 : decode cX4_readNear 76 = .ok (.ireturn, 1) := by decide +kernel
theorem dX4_readLaw_0 : decode cX4_readLaw 0 = .ok (.aload_n 0, 1) := by decide +kernel
theorem dX4_readLaw_1 : decode cX4_readLaw 1 = .ok (.getfield 26, 3) := by decide +kernel
theorem dX4_readLaw_4 : decode cX4_readLaw 4 = .ok (.ifCond .ne 13, 3) := by decide +kernel
theorem dX4_readLaw_7 : decode cX4_readLaw 7 = .ok (.aload_n 0, 1) := by decide +kernel
theorem dX4_readLaw_8 : decode cX4_readLaw 8 = .ok (.iconst 0, 1) := by decide +kernel
theorem dX4_readLaw_9 : decode cX4_readLaw 9 = .ok (.bipush 9, 2) := by decide +kernel
theorem dX4_readLaw_11 : decode cX4_readLaw 11 = .ok (.invokevirtual 85, 3) := by decide +kernel
theorem dX4_readLaw_14 : decode cX4_readLaw 14 = .ok (.ifCond .ne 5, 3) := by decide +kernel
theorem dX4_readLaw_17 : decode cX4_readLaw 17 = .ok (.iconst 0, 1) := by decide +kernel
theorem dX4_readLaw_18 : decode cX4_readLaw 18 = .ok (.ireturn, 1) := by decide +kernel
theorem dX4_readLaw_19 : decode cX4_readLaw 19 = .ok (.aload_n 1, 1) := by decide +kernel
theorem dX4_readLaw_20 : decode cX4_readLaw 20 = .ok (.aload_n 0, 1) := by decide +kernel
theorem dX4_readLaw_21 : decode cX4_readLaw 21 = .ok (.getfield 89, 3) := by decide +kernel
theorem dX4_readLaw_24 : decode cX4_readLaw 24 = .ok (.putfield 96, 3) := by decide +kernel
theorem dX4_readLaw_27 : decode cX4_readLaw 27 = .ok (.aload_n 0, 1) := by decide +kernel
theorem dX4_readLaw_28 : decode cX4_readLaw 28 = .ok (.iconst 0, 1) := by decide +kernel
theorem dX4_readLaw_29 : decode cX4_readLaw 29 = .ok (.bipush 9, 2) := by decide +kernel
theorem dX4_readLaw_31 : decode cX4_readLaw 31 = .ok (.invokevirtual 85, 3) := by decide +kernel
theorem dX4_readLaw_34 : decode cX4_readLaw 34 = .ok (.ifCond .ne 5, 3) := by decide +kernel
theorem dX4_readLaw_37 : decode cX4_readLaw 37 = .ok (.iconst 0, 1) := by decide +kernel
theorem dX4_readLaw_38 : decode cX4_readLaw 38 = .ok (.ireturn, 1) := by decide +kernel
theorem dX4_readLaw_39 : decode cX4_readLaw 39 = .ok (.aload_n 1, 1) := by decide +kernel
theorem dX4_readLaw_40 : decode cX4_readLaw 40 = .ok (.aload_n 0, 1) := by decide +kernel
theorem dX4_readLaw_41 : decode cX4_readLaw 41 = .ok (.getfield 89, 3) := by decide +kernel
theorem dX4_readLaw_44 : decode cX4_readLaw 44 = .ok (.putfield 99, 3) := by decide +kernel
theorem dX4_readLaw_47 : decode cX4_readLaw 47 = .ok (.aload_n 0, 1) := by decide +kernel
theorem dX4_readLaw_48 : decode cX4_readLaw 48 = .ok (.iconst 0, 1) := by decide +kernel
theorem dX4_readLaw_49 : decode cX4_readLaw 49 = .ok (.bipush 9, 2) := by decide +kernel
theorem dX4_readLaw_51 : decode cX4_readLaw 51 = .ok (.invokevirtual 85, 3) := by decide +kernel
theorem dX4_readLaw_54 : decode cX4_readLaw 54 = .ok (.ifCond .ne 5, 3) := by decide +kernel
theorem dX4_readLaw_57 : decode cX4_readLaw 57 = .ok (.iconst 0, 1) := by decide +kernel
theorem dX4_readLaw_58 : decode cX4_readLaw 58 = .ok (.ireturn, 1) := by decide +kernel
theorem dX4_readLaw_59 : decode cX4_readLaw 59 = .ok (.aload_n 1, 1) := by decide +kernel
theorem dX4_readLaw_60 : decode cX4_readLaw 60 = .ok (.aload_n 0, 1) := by decide +kernel
theorem dX4_readLaw_61 : decode cX4_readLaw 61 = .ok (.getfield 89, 3) := by decide +kernel
theorem dX4_readLaw_64 : decode cX4_readLaw 64 = .ok (.putfield 102, 3) := by decide +kernel
theorem dX4_readLaw_67 : decode cX4_readLaw 67 = .ok (.aload_n 0, 1) := by decide +kernel
theorem dX4_readLaw_68 : decode cX4_readLaw 68 = .ok (.iconst 1, 1) := by decide +kernel
theorem dX4_readLaw_69 : decode cX4_readLaw 69 = .ok (.putfield 26, 3) := by decide +kernel
theorem dX4_readLaw_72 : decode cX4_readLaw 72 = .ok (.aload_n 0, 1) := by decide +kernel
theorem dX4_readLaw_73 : decode cX4_readLaw 73 = .ok (.invokevirtual 81, 3) := by decide +kernel
theorem dX4_readLaw_76 : decode cX4_readLaw 76 = .ok (.ireturn, 1) := by decide +kernel
theorem dX4_readStart_0 : decode cX4_readStart 0 = .ok (.aload_n 0, 1) := by decide +kernel
theorem dX4_readStart_1 : decode cX4_readStart 1 = .ok (.getfield 30, 3) := by decide +kernel
theorem dX4_readStart_4 : decode cX4_readStart 4 = .ok (.ifCond .ne 13, 3) := by decide +kernel
theorem dX4_readStart_7 : decode cX4_readStart 7 = .ok (.aload_n 0, 1) := by decide +kernel
theorem dX4_readStart_8 : decode cX4_readStart 8 = .ok (.iconst 1, 1) := by decide +kernel
theorem dX4_readStart_9 : decode cX4_readStart 9 = .ok (.bipush 99, 2) := by decide +kernel
theorem dX4_readStart_11 : decode cX4_readStart 11 = .ok (.invokevirtual 85, 3) := by decide +kernel
theorem dX4_readStart_14 : decode cX4_readStart 14 = .ok (.ifCond .ne 5, 3) := by decide +kernel
theorem dX4_readStart_17 : decode cX4_readStart 17 = .ok (.iconst 0, 1) := by decide +kernel
theorem dX4_readStart_18 : decode cX4_readStart 18 = .ok (.ireturn, 1) := by decide +kernel
theorem dX4_readStart_19 : decode cX4_readStart 19 = .ok (.aload_n 1, 1) := by decide +kernel
theorem dX4_readStart_20 : decode cX4_readStart 20 = .ok (.aload_n 0, 1) := by decide +kernel
theorem dX4_readStart_21 : decode cX4_readStart 21 = .ok (.getfield 89, 3) := by decide +kernel
theorem dX4_readStart_24 : decode cX4_readStart 24 = .ok (.putfield 105, 3) := by decide +kernel
theorem dX4_readStart_27 : decode cX4_readStart 27 = .ok (.aload_n 0, 1) := by decide +kernel
theorem dX4_readStart_28 : decode cX4_readStart 28 = .ok (.iconst 1, 1) := by decide +kernel
theorem dX4_readStart_29 : decode cX4_readStart 29 = .ok (.putfield 30, 3) := by decide +kernel
theorem dX4_readStart_32 : decode cX4_readStart 32 = .ok (.aload_n 0, 1) := by decide +kernel
theorem dX4_readStart_33 : decode cX4_readStart 33 = .ok (.invokevirtual 81, 3) := by decide +kernel
theorem dX4_readStart_36 : decode cX4_readStart 36 = .ok (.ireturn, 1) := by decide +kernel
theorem dX4_readWord_0 : decode cX4_readWord 0 = .ok (.aload_n 1, 1) := by decide +kernel
theorem dX4_readWord_1 : decode cX4_readWord 1 = .ok (.getfield 107, 3) := by decide +kernel
theorem dX4_readWord_4 : decode cX4_readWord 4 = .ok (.iconst 5, 1) := by decide +kernel
theorem dX4_readWord_5 : decode cX4_readWord 5 = .ok (.if_icmp .ge 12, 3) := by decide +kernel
theorem dX4_readWord_8 : decode cX4_readWord 8 = .ok (.aload_n 0, 1) := by decide +kernel
theorem dX4_readWord_9 : decode cX4_readWord 9 = .ok (.iconst 0, 1) := by decide +kernel
theorem dX4_readWord_10 : decode cX4_readWord 10 = .ok (.iconst 3, 1) := by decide +kernel
theorem dX4_readWord_11 : decode cX4_readWord 11 = .ok (.invokevirtual 85, 3) := by decide +kernel
theorem dX4_readWord_14 : decode cX4_readWord 14 = .ok (.ifCond .ne 5, 3) := by decide +kernel
theorem dX4_readWord_17 : decode cX4_readWord 17 = .ok (.iconst 0, 1) := by decide +kernel
theorem dX4_readWord_18 : decode cX4_readWord 18 = .ok (.ireturn, 1) := by decide +kernel
theorem dX4_readWord_19 : decode cX4_readWord 19 = .ok (.aload_n 0, 1) := by decide +kernel
theorem dX4_readWord_20 : decode cX4_readWord 20 = .ok (.getfield 89, 3) := by decide +kernel
theorem dX4_readWord_23 : decode cX4_readWord 23 = .ok (.istore_n 2, 1) := by decide +kernel
theorem dX4_readWord_24 : decode cX4_readWord 24 = .ok (.aload_n 0, 1) := by decide +kernel
theorem dX4_readWord_25 : decode cX4_readWord 25 = .ok (.iconst 0, 1) := by decide +kernel
theorem dX4_readWord_26 : decode cX4_readWord 26 = .ok (.bipush 90, 2) := by decide +kernel
theorem dX4_readWord_28 : decode cX4_readWord 28 = .ok (.invokevirtual 85, 3) := by decide +kernel
theorem dX4_readWord_31 : decode cX4_readWord 31 = .ok (.ifCond .ne 5, 3) := by decide +kernel
theorem dX4_readWord_34 : decode cX4_readWord 34 = .ok (.iconst 0, 1) := by decide +kernel
theorem dX4_readWord_35 : decode cX4_readWord 35 = .ok (.ireturn, 1) := by decide +kernel
theorem dX4_readWord_36 : decode cX4_readWord 36 = .ok (.aload_n 0, 1) := by decide +kernel
theorem dX4_readWord_37 : decode cX4_readWord 37 = .ok (.getfield 89, 3) := by decide +kernel
theorem dX4_readWord_40 : decode cX4_readWord 40 = .ok (.istore_n 3, 1) := by decide +kernel
theorem dX4_readWord_41 : decode cX4_readWord 41 = .ok (.aload_n 0, 1) := by decide +kernel
theorem dX4_readWord_42 : decode cX4_readWord 42 = .ok (.iconst 0, 1) := by decide +kernel
theorem dX4_readWord_43 : decode cX4_readWord 43 = .ok (.aload_n 1, 1) := by decide +kernel
theorem dX4_readWord_44 : decode cX4_readWord 44 = .ok (.getfield 78, 3) := by decide +kernel
theorem dX4_readWord_47 : decode cX4_readWord 47 = .ok (.iconst 1, 1) := by decide +kernel
theorem dX4_readWord_48 : decode cX4_readWord 48 = .ok (.isub, 1) := by decide +kernel
theorem dX4_readWord_49 : decode cX4_readWord 49 = .ok (.invokevirtual 85, 3) := by decide +kernel
theorem dX4_readWord_52 : decode cX4_readWord 52 = .ok (.ifCond .ne 5, 3) := by decide +kernel
theorem dX4_readWord_55 : decode cX4_readWord 55 = .ok (.iconst 0, 1) := by decide +kernel
theorem dX4_readWord_56 : decode cX4_readWord 56 = .ok (.ireturn, 1) := by decide +kernel
theorem dX4_readWord_57 : decode cX4_readWord 57 = .ok (.aload_n 0, 1) := by decide +kernel
theorem dX4_readWord_58 : decode cX4_readWord 58 = .ok (.getfield 89, 3) := by decide +kernel
theorem dX4_readWord_61 : decode cX4_readWord 61 = .ok (.istore 4, 2) := by decide +kernel
theorem dX4_readWord_63 : decode cX4_readWord 63 = .ok (.aload_n 0, 1) := by decide +kernel
theorem dX4_readWord_64 : decode cX4_readWord 64 = .ok (.invokevirtual 36, 3) := by decide +kernel
theorem dX4_readWord_67 : decode cX4_readWord 67 = .ok (.aload_n 0, 1) := by decide +kernel
theorem dX4_readWord_68 : decode cX4_readWord 68 = .ok (.ldc 110, 2) := by decide +kernel
theorem dX4_readWord_70 : decode cX4_readWord 70 = .ok (.invokevirtual 51, 3) := by decide +kernel
theorem dX4_readWord_73 : decode cX4_readWord 73 = .ok (.istore 5, 2) := by decide +kernel
theorem dX4_readWord_75 : decode cX4_readWord 75 = .ok (.iload 5, 2) := by decide +kernel
theorem dX4_readWord_77 : decode cX4_readWord 77 = .ok (.ifCond .eq 7, 3) := by decide +kernel
theorem dX4_readWord_80 : decode cX4_readWord 80 = .ok (.aload_n 0, 1) := by decide +kernel
theorem dX4_readWord_81 : decode cX4_readWord 81 = .ok (.invokevirtual 36, 3) := by decide +kernel
theorem dX4_readWord_84 : decode cX4_readWord 84 = .ok (.aload_n 1, 1) := by decide +kernel
theorem dX4_readWord_85 : decode cX4_readWord 85 = .ok (.iload_n 2, 1) := by decide +kernel
theorem dX4_readWord_86 : decode cX4_readWord 86 = .ok (.iload_n 3, 1) := by decide +kernel
theorem dX4_readWord_87 : decode cX4_readWord 87 = .ok (.iload 4, 2) := by decide +kernel
theorem dX4_readWord_89 : decode cX4_readWord 89 = .ok (.iload 5, 2) := by decide +kernel
theorem dX4_readWord_91 : decode cX4_readWord 91 = .ok (.invokevirtual 112, 3) := by decide +kernel
theorem dX4_readWord_94 : decode cX4_readWord 94 = .ok (.aload_n 0, 1) := by decide +kernel
theorem dX4_readWord_95 : decode cX4_readWord 95 = .ok (.getfield 39, 3) := by decide +kernel
theorem dX4_readWord_98 : decode cX4_readWord 98 = .ok (.iconst 2, 1) := by decide +kernel
theorem dX4_readWord_99 : decode cX4_readWord 99 = .ok (.if_icmp .ne 7, 3) := by decide +kernel
theorem dX4_readWord_102 : decode cX4_readWord 102 = .ok (.iconst 1, 1) := by decide +kernel
theorem dX4_readWord_103 : decode cX4_readWord 103 = .ok (.goto 4, 3) := by decide +kernel
theorem dX4_readWord_106 : decode cX4_readWord 106 = .ok (.iconst 0, 1) := by decide +kernel
theorem dX4_readWord_107 : decode cX4_readWord 107 = .ok (.ireturn, 1) := by decide +kernel
theorem dX4_nextIsNumber_0 : decode cX4_nextIsNumber 0 = .ok (.aload_n 0, 1) := by decide +kernel
theorem dX4_nextIsNumber_1 : decode cX4_nextIsNumber 1 = .ok (.invokevirtual 36, 3) := by decide +kernel
theorem dX4_nextIsNumber_4 : decode cX4_nextIsNumber 4 = .ok (.aload_n 0, 1) := by decide +kernel
theorem dX4_nextIsNumber_5 : decode cX4_nextIsNumber 5 = .ok (.getfield 39, 3) := by decide +kernel
theorem dX4_nextIsNumber_8 : decode cX4_nextIsNumber 8 = .ok (.iconst 3, 1) := by decide +kernel
theorem dX4_nextIsNumber_9 : decode cX4_nextIsNumber 9 = .ok (.if_icmp .ne 19, 3) := by decide +kernel
theorem dX4_nextIsNumber_12 : decode cX4_nextIsNumber 12 = .ok (.aload_n 0, 1) := by decide +kernel
theorem dX4_nextIsNumber_13 : decode cX4_nextIsNumber 13 = .ok (.getfield 89, 3) := by decide +kernel
theorem dX4_nextIsNumber_16 : decode cX4_nextIsNumber 16 = .ok (.iload_n 1, 1) := by decide +kernel
theorem dX4_nextIsNumber_17 : decode cX4_nextIsNumber 17 = .ok (.iload_n 2, 1) := by decide +kernel
theorem dX4_nextIsNumber_18 : decode cX4_nextIsNumber 18 = .ok (.invokestatic 116, 3) := by decide +kernel
theorem dX4_nextIsNumber_21 : decode cX4_nextIsNumber 21 = .ok (.ifCond .eq 7, 3) := by decide +kernel
theorem dX4_nextIsNumber_24 : decode cX4_nextIsNumber 24 = .ok (.iconst 1, 1) := by decide +kernel
theorem dX4_nextIsNumber_25 : decode cX4_nextIsNumber 25 = .ok (.goto 4, 3) := by decide +kernel
theorem dX4_nextIsNumber_28 : decode cX4_nextIsNumber 28 = .ok (.iconst 0, 1) := by decide +kernel
theorem dX4_nextIsNumber_29 : decode cX4_nextIsNumber 29 = .ok (.ireturn, 1) := by decide +kernel
theorem dX4_nextEnds_0 : decode cX4_nextEnds 0 = .ok (.aload_n 0, 1) := by decide +kernel
theorem dX4_nextEnds_1 : decode cX4_nextEnds 1 = .ok (.invokevirtual 36, 3) := by decide +kernel
theorem dX4_nextEnds_4 : decode cX4_nextEnds 4 = .ok (.aload_n 0, 1) := by decide +kernel
theorem dX4_nextEnds_5 : decode cX4_nextEnds 5 = .ok (.getfield 39, 3) := by decide +kernel
theorem dX4_nextEnds_8 : decode cX4_nextEnds 8 = .ok (.iconst 2, 1) := by decide +kernel
theorem dX4_nextEnds_9 : decode cX4_nextEnds 9 = .ok (.if_icmp .ne 7, 3) := by decide +kernel
theorem dX4_nextEnds_12 : decode cX4_nextEnds 12 = .ok (.iconst 1, 1) := by decide +kernel
theorem dX4_nextEnds_13 : decode cX4_nextEnds 13 = .ok (.goto 4, 3) := by decide +kernel
theorem dX4_nextEnds_16 : decode cX4_nextEnds 16 = .ok (.iconst 0, 1) := by decide +kernel
theorem dX4_nextEnds_17 : decode cX4_nextEnds 17 = .ok (.ireturn, 1) := by decide +kernel
theorem dX4_next_0 : decode cX4_next 0 = .ok (.aload_n 0, 1) := by decide +kernel
theorem dX4_next_1 : decode cX4_next 1 = .ok (.getfield 33, 3) := by decide +kernel
theorem dX4_next_4 : decode cX4_next 4 = .ok (.aload_n 0, 1) := by decide +kernel
theorem dX4_next_5 : decode cX4_next 5 = .ok (.getfield 15, 3) := by decide +kernel
theorem dX4_next_8 : decode cX4_next 8 = .ok (.if_icmp .ge 30, 3) := by decide +kernel
theorem dX4_next_11 : decode cX4_next 11 = .ok (.aload_n 0, 1) := by decide +kernel
theorem dX4_next_12 : decode cX4_next 12 = .ok (.getfield 9, 3) := by decide +kernel
theorem dX4_next_15 : decode cX4_next 15 = .ok (.aload_n 0, 1) := by decide +kernel
theorem dX4_next_16 : decode cX4_next 16 = .ok (.getfield 33, 3) := by decide +kernel
theorem dX4_next_19 : decode cX4_next 19 = .ok (.caload, 1) := by decide +kernel
theorem dX4_next_20 : decode cX4_next 20 = .ok (.bipush 32, 2) := by decide +kernel
theorem dX4_next_22 : decode cX4_next 22 = .ok (.if_icmp .ne 16, 3) := by decide +kernel
theorem dX4_next_25 : decode cX4_next 25 = .ok (.aload_n 0, 1) := by decide +kernel
theorem dX4_next_26 : decode cX4_next 26 = .ok (.dup, 1) := by decide +kernel
theorem dX4_next_27 : decode cX4_next 27 = .ok (.getfield 33, 3) := by decide +kernel
theorem dX4_next_30 : decode cX4_next 30 = .ok (.iconst 1, 1) := by decide +kernel
theorem dX4_next_31 : decode cX4_next 31 = .ok (.iadd, 1) := by decide +kernel
theorem dX4_next_32 : decode cX4_next 32 = .ok (.putfield 33, 3) := by decide +kernel
theorem dX4_next_35 : decode cX4_next 35 = .ok (.goto (-35), 3) := by decide +kernel
theorem dX4_next_38 : decode cX4_next 38 = .ok (.aload_n 0, 1) := by decide +kernel
theorem dX4_next_39 : decode cX4_next 39 = .ok (.aload_n 0, 1) := by decide +kernel
theorem dX4_next_40 : decode cX4_next 40 = .ok (.getfield 33, 3) := by decide +kernel
theorem dX4_next_43 : decode cX4_next 43 = .ok (.putfield 46, 3) := by decide +kernel
theorem dX4_next_46 : decode cX4_next 46 = .ok (.aload_n 0, 1) := by decide +kernel
theorem dX4_next_47 : decode cX4_next 47 = .ok (.getfield 46, 3) := by decide +kernel
theorem dX4_next_50 : decode cX4_next 50 = .ok (.aload_n 0, 1) := by decide +kernel
theorem dX4_next_51 : decode cX4_next 51 = .ok (.getfield 15, 3) := by decide +kernel
theorem dX4_next_54 : decode cX4_next 54 = .ok (.if_icmp .lt 11, 3) := by decide +kernel
theorem dX4_next_57 : decode cX4_next 57 = .ok (.aload_n 0, 1) := by decide +kernel
theorem dX4_next_58 : decode cX4_next 58 = .ok (.iconst 0, 1) := by decide +kernel
theorem dX4_next_59 : decode cX4_next 59 = .ok (.putfield 39, 3) := by decide +kernel
theorem dX4_next_62 : decode cX4_next 62 = .ok (.goto 80, 3) := by decide +kernel
theorem dX4_next_65 : decode cX4_next 65 = .ok (.aload_n 0, 1) := by decide +kernel
theorem dX4_next_66 : decode cX4_next 66 = .ok (.getfield 9, 3) := by decide +kernel
theorem dX4_next_69 : decode cX4_next 69 = .ok (.aload_n 0, 1) := by decide +kernel
theorem dX4_next_70 : decode cX4_next 70 = .ok (.getfield 46, 3) := by decide +kernel
theorem dX4_next_73 : decode cX4_next 73 = .ok (.caload, 1) := by decide +kernel
theorem dX4_next_74 : decode cX4_next 74 = .ok (.invokestatic 120, 3) := by decide +kernel
theorem dX4_next_77 : decode cX4_next 77 = .ok (.ifCond .eq 10, 3) := by decide +kernel
theorem dX4_next_80 : decode cX4_next 80 = .ok (.aload_n 0, 1) := by decide +kernel
theorem dX4_next_81 : decode cX4_next 81 = .ok (.invokevirtual 124, 3) := by decide +kernel
theorem dX4_next_84 : decode cX4_next 84 = .ok (.goto 58, 3) := by decide +kernel
theorem dX4_next_87 : decode cX4_next 87 = .ok (.aload_n 0, 1) := by decide +kernel
theorem dX4_next_88 : decode cX4_next 88 = .ok (.getfield 9, 3) := by decide +kernel
theorem dX4_next_91 : decode cX4_next 91 = .ok (.aload_n 0, 1) := by decide +kernel
theorem dX4_next_92 : decode cX4_next 92 = .ok (.getfield 46, 3) := by decide +kernel
theorem dX4_next_95 : decode cX4_next 95 = .ok (.caload, 1) := by decide +kernel
theorem dX4_next_96 : decode cX4_next 96 = .ok (.invokestatic 127, 3) := by decide +kernel
theorem dX4_next_99 : decode cX4_next 99 = .ok (.ifCond .eq 10, 3) := by decide +kernel
theorem dX4_next_102 : decode cX4_next 102 = .ok (.aload_n 0, 1) := by decide +kernel
theorem dX4_next_103 : decode cX4_next 103 = .ok (.invokevirtual 130, 3) := by decide +kernel
theorem dX4_next_106 : decode cX4_next 106 = .ok (.goto 36, 3) := by decide +kernel
theorem dX4_next_109 : decode cX4_next 109 = .ok (.aload_n 0, 1) := by decide +kernel
theorem dX4_next_110 : decode cX4_next 110 = .ok (.aload_n 0, 1) := by decide +kernel
theorem dX4_next_111 : decode cX4_next 111 = .ok (.getfield 9, 3) := by decide +kernel
theorem dX4_next_114 : decode cX4_next 114 = .ok (.aload_n 0, 1) := by decide +kernel
theorem dX4_next_115 : decode cX4_next 115 = .ok (.getfield 46, 3) := by decide +kernel
theorem dX4_next_118 : decode cX4_next 118 = .ok (.caload, 1) := by decide +kernel
theorem dX4_next_119 : decode cX4_next 119 = .ok (.bipush 59, 2) := by decide +kernel
theorem dX4_next_121 : decode cX4_next 121 = .ok (.if_icmp .ne 7, 3) := by decide +kernel
theorem dX4_next_124 : decode cX4_next 124 = .ok (.iconst 2, 1) := by decide +kernel
theorem dX4_next_125 : decode cX4_next 125 = .ok (.goto 4, 3) := by decide +kernel
theorem dX4_next_128 : decode cX4_next 128 = .ok (.iconst 1, 1) := by decide +kernel
theorem dX4_next_129 : decode cX4_next 129 = .ok (.putfield 39, 3) := by decide +kernel
theorem dX4_next_132 : decode cX4_next 132 = .ok (.aload_n 0, 1) := by decide +kernel
theorem dX4_next_133 : decode cX4_next 133 = .ok (.dup, 1) := by decide +kernel
theorem dX4_next_134 : decode cX4_next 134 = .ok (.getfield 33, 3) := by decide +kernel
theorem dX4_next_137 : decode cX4_next 137 = .ok (.iconst 1, 1) := by decide +kernel
theorem dX4_next_138 : decode cX4_next 138 = .ok (.iadd, 1) := by decide +kernel
theorem dX4_next_139 : decode cX4_next 139 = .ok (.putfield 33, 3) := by decide +kernel
theorem dX4_next_142 : decode cX4_next 142 = .ok (.return_, 1) := by decide +kernel
theorem dX4_takeNumber_0 : decode cX4_takeNumber 0 = .ok (.aload_n 0, 1) := by decide +kernel
theorem dX4_takeNumber_1 : decode cX4_takeNumber 1 = .ok (.iconst 0, 1) := by decide +kernel
theorem dX4_takeNumber_2 : decode cX4_takeNumber 2 = .ok (.putfield 89, 3) := by decide +kernel
theorem dX4_takeNumber_5 : decode cX4_takeNumber 5 = .ok (.aload_n 0, 1) := by decide +kernel
theorem dX4_takeNumber_6 : decode cX4_takeNumber 6 = .ok (.getfield 33, 3) := by decide +kernel
theorem dX4_takeNumber_9 : decode cX4_takeNumber 9 = .ok (.aload_n 0, 1) := by decide +kernel
theorem dX4_takeNumber_10 : decode cX4_takeNumber 10 = .ok (.getfield 15, 3) := by decide +kernel
theorem dX4_takeNumber_13 : decode cX4_takeNumber 13 = .ok (.if_icmp .ge 55, 3) := by decide +kernel
theorem dX4_takeNumber_16 : decode cX4_takeNumber 16 = .ok (.aload_n 0, 1) := by decide +kernel
theorem dX4_takeNumber_17 : decode cX4_takeNumber 17 = .ok (.getfield 9, 3) := by decide +kernel
theorem dX4_takeNumber_20 : decode cX4_takeNumber 20 = .ok (.aload_n 0, 1) := by decide +kernel
theorem dX4_takeNumber_21 : decode cX4_takeNumber 21 = .ok (.getfield 33, 3) := by decide +kernel
theorem dX4_takeNumber_24 : decode cX4_takeNumber 24 = .ok (.caload, 1) := by decide +kernel
theorem dX4_takeNumber_25 : decode cX4_takeNumber 25 = .ok (.invokestatic 120, 3) := by decide +kernel
theorem dX4_takeNumber_28 : decode cX4_takeNumber 28 = .ok (.ifCond .eq 40, 3) := by decide +kernel
theorem dX4_takeNumber_31 : decode cX4_takeNumber 31 = .ok (.aload_n 0, 1) := by decide +kernel
theorem dX4_takeNumber_32 : decode cX4_takeNumber 32 = .ok (.aload_n 0, 1) := by decide +kernel
theorem dX4_takeNumber_33 : decode cX4_takeNumber 33 = .ok (.getfield 89, 3) := by decide +kernel
theorem dX4_takeNumber_36 : decode cX4_takeNumber 36 = .ok (.bipush 10, 2) := by decide +kernel
theorem dX4_takeNumber_38 : decode cX4_takeNumber 38 = .ok (.imul, 1) := by decide +kernel
theorem dX4_takeNumber_39 : decode cX4_takeNumber 39 = .ok (.aload_n 0, 1) := by decide +kernel
theorem dX4_takeNumber_40 : decode cX4_takeNumber 40 = .ok (.getfield 9, 3) := by decide +kernel
theorem dX4_takeNumber_43 : decode cX4_takeNumber 43 = .ok (.aload_n 0, 1) := by decide +kernel
theorem dX4_takeNumber_44 : decode cX4_takeNumber 44 = .ok (.getfield 33, 3) := by decide +kernel
theorem dX4_takeNumber_47 : decode cX4_takeNumber 47 = .ok (.caload, 1) := by decide +kernel
theorem dX4_takeNumber_48 : decode cX4_takeNumber 48 = .ok (.iadd, 1) := by decide +kernel
theorem dX4_takeNumber_49 : decode cX4_takeNumber 49 = .ok (.bipush 48, 2) := by decide +kernel
theorem dX4_takeNumber_51 : decode cX4_takeNumber 51 = .ok (.isub, 1) := by decide +kernel
theorem dX4_takeNumber_52 : decode cX4_takeNumber 52 = .ok (.putfield 89, 3) := by decide +kernel
theorem dX4_takeNumber_55 : decode cX4_takeNumber 55 = .ok (.aload_n 0, 1) := by decide +kernel
theorem dX4_takeNumber_56 : decode cX4_takeNumber 56 = .ok (.dup, 1) := by decide +kernel
theorem dX4_takeNumber_57 : decode cX4_takeNumber 57 = .ok (.getfield 33, 3) := by decide +kernel
theorem dX4_takeNumber_60 : decode cX4_takeNumber 60 = .ok (.iconst 1, 1) := by decide +kernel
theorem dX4_takeNumber_61 : decode cX4_takeNumber 61 = .ok (.iadd, 1) := by decide +kernel
theorem dX4_takeNumber_62 : decode cX4_takeNumber 62 = .ok (.putfield 33, 3) := by decide +kernel
theorem dX4_takeNumber_65 : decode cX4_takeNumber 65 = .ok (.goto (-60), 3) := by decide +kernel
theorem dX4_takeNumber_68 : decode cX4_takeNumber 68 = .ok (.aload_n 0, 1) := by decide +kernel
theorem dX4_takeNumber_69 : decode cX4_takeNumber 69 = .ok (.getfield 33, 3) := by decide +kernel
theorem dX4_takeNumber_72 : decode cX4_takeNumber 72 = .ok (.aload_n 0, 1) := by decide +kernel
theorem dX4_takeNumber_73 : decode cX4_takeNumber 73 = .ok (.getfield 46, 3) := by decide +kernel
theorem dX4_takeNumber_76 : decode cX4_takeNumber 76 = .ok (.isub, 1) := by decide +kernel
theorem dX4_takeNumber_77 : decode cX4_takeNumber 77 = .ok (.istore_n 1, 1) := by decide +kernel
theorem dX4_takeNumber_78 : decode cX4_takeNumber 78 = .ok (.aload_n 0, 1) := by decide +kernel
theorem dX4_takeNumber_79 : decode cX4_takeNumber 79 = .ok (.iload_n 1, 1) := by decide +kernel
theorem dX4_takeNumber_80 : decode cX4_takeNumber 80 = .ok (.iconst 1, 1) := by decide +kernel
theorem dX4_takeNumber_81 : decode cX4_takeNumber 81 = .ok (.if_icmp .eq 22, 3) := by decide +kernel
theorem dX4_takeNumber_84 : decode cX4_takeNumber 84 = .ok (.iload_n 1, 1) := by decide +kernel
theorem dX4_takeNumber_85 : decode cX4_takeNumber 85 = .ok (.iconst 2, 1) := by decide +kernel
theorem dX4_takeNumber_86 : decode cX4_takeNumber 86 = .ok (.if_icmp .ne 21, 3) := by decide +kernel
theorem dX4_takeNumber_89 : decode cX4_takeNumber 89 = .ok (.aload_n 0, 1) := by decide +kernel
theorem dX4_takeNumber_90 : decode cX4_takeNumber 90 = .ok (.getfield 9, 3) := by decide +kernel
theorem dX4_takeNumber_93 : decode cX4_takeNumber 93 = .ok (.aload_n 0, 1) := by decide +kernel
theorem dX4_takeNumber_94 : decode cX4_takeNumber 94 = .ok (.getfield 46, 3) := by decide +kernel
theorem dX4_takeNumber_97 : decode cX4_takeNumber 97 = .ok (.caload, 1) := by decide +kernel
theorem dX4_takeNumber_98 : decode cX4_takeNumber 98 = .ok (.bipush 48, 2) := by decide +kernel
theorem dX4_takeNumber_100 : decode cX4_takeNumber 100 = .ok (.if_icmp .eq 7, 3) := by decide +kernel
theorem dX4_takeNumber_103 : decode cX4_takeNumber 103 = .ok (.iconst 3, 1) := by decide +kernel
theorem dX4_takeNumber_104 : decode cX4_takeNumber 104 = .ok (.goto 4, 3) := by decide +kernel
theorem dX4_takeNumber_107 : decode cX4_takeNumber 107 = .ok (.iconst 1, 1) := by decide +kernel
theorem dX4_takeNumber_108 : decode cX4_takeNumber 108 = .ok (.putfield 39, 3) := by decide +kernel
theorem dX4_takeNumber_111 : decode cX4_takeNumber 111 = .ok (.return_, 1) := by decide +kernel
theorem dX4_takeLetters_0 : decode cX4_takeLetters 0 = .ok (.aload_n 0, 1) := by decide +kernel
theorem dX4_takeLetters_1 : decode cX4_takeLetters 1 = .ok (.getfield 33, 3) := by decide +kernel
theorem dX4_takeLetters_4 : decode cX4_takeLetters 4 = .ok (.aload_n 0, 1) := by decide +kernel
theorem dX4_takeLetters_5 : decode cX4_takeLetters 5 = .ok (.getfield 15, 3) := by decide +kernel
theorem dX4_takeLetters_8 : decode cX4_takeLetters 8 = .ok (.if_icmp .ge 31, 3) := by decide +kernel
theorem dX4_takeLetters_11 : decode cX4_takeLetters 11 = .ok (.aload_n 0, 1) := by decide +kernel
theorem dX4_takeLetters_12 : decode cX4_takeLetters 12 = .ok (.getfield 9, 3) := by decide +kernel
theorem dX4_takeLetters_15 : decode cX4_takeLetters 15 = .ok (.aload_n 0, 1) := by decide +kernel
theorem dX4_takeLetters_16 : decode cX4_takeLetters 16 = .ok (.getfield 33, 3) := by decide +kernel
theorem dX4_takeLetters_19 : decode cX4_takeLetters 19 = .ok (.caload, 1) := by decide +kernel
theorem dX4_takeLetters_20 : decode cX4_takeLetters 20 = .ok (.invokestatic 127, 3) := by decide +kernel
theorem dX4_takeLetters_23 : decode cX4_takeLetters 23 = .ok (.ifCond .eq 16, 3) := by decide +kernel
theorem dX4_takeLetters_26 : decode cX4_takeLetters 26 = .ok (.aload_n 0, 1) := by decide +kernel
theorem dX4_takeLetters_27 : decode cX4_takeLetters 27 = .ok (.dup, 1) := by decide +kernel
theorem dX4_takeLetters_28 : decode cX4_takeLetters 28 = .ok (.getfield 33, 3) := by decide +kernel
theorem dX4_takeLetters_31 : decode cX4_takeLetters 31 = .ok (.iconst 1, 1) := by decide +kernel
theorem dX4_takeLetters_32 : decode cX4_takeLetters 32 = .ok (.iadd, 1) := by decide +kernel
theorem dX4_takeLetters_33 : decode cX4_takeLetters 33 = .ok (.putfield 33, 3) := by decide +kernel
theorem dX4_takeLetters_36 : decode cX4_takeLetters 36 = .ok (.goto (-36), 3) := by decide +kernel
theorem dX4_takeLetters_39 : decode cX4_takeLetters 39 = .ok (.aload_n 0, 1) := by decide +kernel
theorem dX4_takeLetters_40 : decode cX4_takeLetters 40 = .ok (.iconst 4, 1) := by decide +kernel
theorem dX4_takeLetters_41 : decode cX4_takeLetters 41 = .ok (.putfield 39, 3) := by decide +kernel
theorem dX4_takeLetters_44 : decode cX4_takeLetters 44 = .ok (.return_, 1) := by decide +kernel
theorem dX4_spells_0 : decode cX4_spells 0 = .ok (.aload_n 0, 1) := by decide +kernel
theorem dX4_spells_1 : decode cX4_spells 1 = .ok (.getfield 33, 3) := by decide +kernel
theorem dX4_spells_4 : decode cX4_spells 4 = .ok (.aload_n 0, 1) := by decide +kernel
theorem dX4_spells_5 : decode cX4_spells 5 = .ok (.getfield 46, 3) := by decide +kernel
theorem dX4_spells_8 : decode cX4_spells 8 = .ok (.isub, 1) := by decide +kernel
theorem dX4_spells_9 : decode cX4_spells 9 = .ok (.aload_n 1, 1) := by decide +kernel
theorem dX4_spells_10 : decode cX4_spells 10 = .ok (.invokevirtual 133, 3) := by decide +kernel
theorem dX4_spells_13 : decode cX4_spells 13 = .ok (.if_icmp .eq 5, 3) := by decide +kernel
theorem dX4_spells_16 : decode cX4_spells 16 = .ok (.iconst 0, 1) := by decide +kernel
theorem dX4_spells_17 : decode cX4_spells 17 = .ok (.ireturn, 1) := by decide +kernel
theorem dX4_spells_18 : decode cX4_spells 18 = .ok (.iconst 0, 1) := by decide +kernel
theorem dX4_spells_19 : decode cX4_spells 19 = .ok (.istore_n 2, 1) := by decide +kernel
theorem dX4_spells_20 : decode cX4_spells 20 = .ok (.iload_n 2, 1) := by decide +kernel
theorem dX4_spells_21 : decode cX4_spells 21 = .ok (.aload_n 1, 1) := by decide +kernel
theorem dX4_spells_22 : decode cX4_spells 22 = .ok (.invokevirtual 133, 3) := by decide +kernel
theorem dX4_spells_25 : decode cX4_spells 25 = .ok (.if_icmp .ge 30, 3) := by decide +kernel
theorem dX4_spells_28 : decode cX4_spells 28 = .ok (.aload_n 0, 1) := by decide +kernel
theorem dX4_spells_29 : decode cX4_spells 29 = .ok (.getfield 9, 3) := by decide +kernel
theorem dX4_spells_32 : decode cX4_spells 32 = .ok (.aload_n 0, 1) := by decide +kernel
theorem dX4_spells_33 : decode cX4_spells 33 = .ok (.getfield 46, 3) := by decide +kernel
theorem dX4_spells_36 : decode cX4_spells 36 = .ok (.iload_n 2, 1) := by decide +kernel
theorem dX4_spells_37 : decode cX4_spells 37 = .ok (.iadd, 1) := by decide +kernel
theorem dX4_spells_38 : decode cX4_spells 38 = .ok (.caload, 1) := by decide +kernel
theorem dX4_spells_39 : decode cX4_spells 39 = .ok (.aload_n 1, 1) := by decide +kernel
theorem dX4_spells_40 : decode cX4_spells 40 = .ok (.iload_n 2, 1) := by decide +kernel
theorem dX4_spells_41 : decode cX4_spells 41 = .ok (.invokevirtual 138, 3) := by decide +kernel
theorem dX4_spells_44 : decode cX4_spells 44 = .ok (.if_icmp .eq 5, 3) := by decide +kernel
theorem dX4_spells_47 : decode cX4_spells 47 = .ok (.iconst 0, 1) := by decide +kernel
theorem dX4_spells_48 : decode cX4_spells 48 = .ok (.ireturn, 1) := by decide +kernel
theorem dX4_spells_49 : decode cX4_spells 49 = .ok (.iinc 2 1, 3) := by decide +kernel
theorem dX4_spells_52 : decode cX4_spells 52 = .ok (.goto (-32), 3) := by decide +kernel
theorem dX4_spells_55 : decode cX4_spells 55 = .ok (.iconst 1, 1) := by decide +kernel
theorem dX4_spells_56 : decode cX4_spells 56 = .ok (.ireturn, 1) := by decide +kernel
theorem dX4_isDigit_0 : decode cX4_isDigit 0 = .ok (.iload_n 0, 1) := by decide +kernel
theorem dX4_isDigit_1 : decode cX4_isDigit 1 = .ok (.bipush 48, 2) := by decide +kernel
theorem dX4_isDigit_3 : decode cX4_isDigit 3 = .ok (.if_icmp .lt 13, 3) := by decide +kernel
theorem dX4_isDigit_6 : decode cX4_isDigit 6 = .ok (.iload_n 0, 1) := by decide +kernel
theorem dX4_isDigit_7 : decode cX4_isDigit 7 = .ok (.bipush 57, 2) := by decide +kernel
theorem dX4_isDigit_9 : decode cX4_isDigit 9 = .ok (.if_icmp .gt 7, 3) := by decide +kernel
theorem dX4_isDigit_12 : decode cX4_isDigit 12 = .ok (.iconst 1, 1) := by decide +kernel
theorem dX4_isDigit_13 : decode cX4_isDigit 13 = .ok (.goto 4, 3) := by decide +kernel
theorem dX4_isDigit_16 : decode cX4_isDigit 16 = .ok (.iconst 0, 1) := by decide +kernel
theorem dX4_isDigit_17 : decode cX4_isDigit 17 = .ok (.ireturn, 1) := by decide +kernel
theorem dX4_isLetter_0 : decode cX4_isLetter 0 = .ok (.iload_n 0, 1) := by decide +kernel
theorem dX4_isLetter_1 : decode cX4_isLetter 1 = .ok (.bipush 97, 2) := by decide +kernel
theorem dX4_isLetter_3 : decode cX4_isLetter 3 = .ok (.if_icmp .lt 13, 3) := by decide +kernel
theorem dX4_isLetter_6 : decode cX4_isLetter 6 = .ok (.iload_n 0, 1) := by decide +kernel
theorem dX4_isLetter_7 : decode cX4_isLetter 7 = .ok (.bipush 122, 2) := by decide +kernel
theorem dX4_isLetter_9 : decode cX4_isLetter 9 = .ok (.if_icmp .gt 7, 3) := by decide +kernel
theorem dX4_isLetter_12 : decode cX4_isLetter 12 = .ok (.iconst 1, 1) := by decide +kernel
theorem dX4_isLetter_13 : decode cX4_isLetter 13 = .ok (.goto 4, 3) := by decide +kernel
theorem dX4_isLetter_16 : decode cX4_isLetter 16 = .ok (.iconst 0, 1) := by decide +kernel
theorem dX4_isLetter_17 : decode cX4_isLetter 17 = .ok (.ireturn, 1) := by decide +kernel
theorem dX5_init_0 : decode cX5_init 0 = .ok (.aload_n 0, 1) := by decide +kernel
theorem dX5_init_1 : decode cX5_init 1 = .ok (.invokespecial 3, 3) := by decide +kernel
theorem dX5_init_4 : decode cX5_init 4 = .ok (.aload_n 0, 1) := by decide +kernel
theorem dX5_init_5 : decode cX5_init 5 = .ok (.bipush 10, 2) := by decide +kernel
theorem dX5_init_7 : decode cX5_init 7 = .ok (.newarray .int, 2) := by decide +kernel
theorem dX5_init_9 : decode cX5_init 9 = .ok (.putfield 9, 3) := by decide +kernel
theorem dX5_init_12 : decode cX5_init 12 = .ok (.aload_n 0, 1) := by decide +kernel
theorem dX5_init_13 : decode cX5_init 13 = .ok (.bipush 10, 2) := by decide +kernel
theorem dX5_init_15 : decode cX5_init 15 = .ok (.newarray .int, 2) := by decide +kernel
theorem dX5_init_17 : decode cX5_init 17 = .ok (.putfield 15, 3) := by decide +kernel
theorem dX5_init_20 : decode cX5_init 20 = .ok (.aload_n 0, 1) := by decide +kernel
theorem dX5_init_21 : decode cX5_init 21 = .ok (.bipush 10, 2) := by decide +kernel
theorem dX5_init_23 : decode cX5_init 23 = .ok (.newarray .int, 2) := by decide +kernel
theorem dX5_init_25 : decode cX5_init 25 = .ok (.putfield 18, 3) := by decide +kernel
theorem dX5_init_28 : decode cX5_init 28 = .ok (.aload_n 0, 1) := by decide +kernel
theorem dX5_init_29 : decode cX5_init 29 = .ok (.bipush 10, 2) := by decide +kernel
theorem dX5_init_31 : decode cX5_init 31 = .ok (.newarray .int, 2) := by decide +kernel
theorem dX5_init_33 : decode cX5_init 33 = .ok (.putfield 21, 3) := by decide +kernel
theorem dX5_init_36 : decode cX5_init 36 = .ok (.return_, 1) := by decide +kernel
theorem dX5_add_0 : decode cX5_add 0 = .ok (.aload_n 0, 1) := by decide +kernel
theorem dX5_add_1 : decode cX5_add 1 = .ok (.getfield 9, 3) := by decide +kernel
theorem dX5_add_4 : decode cX5_add 4 = .ok (.aload_n 0, 1) := by decide +kernel
theorem dX5_add_5 : decode cX5_add 5 = .ok (.getfield 24, 3) := by decide +kernel
theorem dX5_add_8 : decode cX5_add 8 = .ok (.iload_n 1, 1) := by decide +kernel
theorem dX5_add_9 : decode cX5_add 9 = .ok (.iastore, 1) := by decide +kernel
theorem dX5_add_10 : decode cX5_add 10 = .ok (.aload_n 0, 1) := by decide +kernel
theorem dX5_add_11 : decode cX5_add 11 = .ok (.getfield 15, 3) := by decide +kernel
theorem dX5_add_14 : decode cX5_add 14 = .ok (.aload_n 0, 1) := by decide +kernel
theorem dX5_add_15 : decode cX5_add 15 = .ok (.getfield 24, 3) := by decide +kernel
theorem dX5_add_18 : decode cX5_add 18 = .ok (.iload_n 2, 1) := by decide +kernel
theorem dX5_add_19 : decode cX5_add 19 = .ok (.iastore, 1) := by decide +kernel
theorem dX5_add_20 : decode cX5_add 20 = .ok (.aload_n 0, 1) := by decide +kernel
theorem dX5_add_21 : decode cX5_add 21 = .ok (.getfield 18, 3) := by decide +kernel
theorem dX5_add_24 : decode cX5_add 24 = .ok (.aload_n 0, 1) := by decide +kernel
theorem dX5_add_25 : decode cX5_add 25 = .ok (.getfield 24, 3) := by decide +kernel
theorem dX5_add_28 : decode cX5_add 28 = .ok (.iload_n 3, 1) := by decide +kernel
theorem dX5_add_29 : decode cX5_add 29 = .ok (.iastore, 1) := by decide +kernel
theorem dX5_add_30 : decode cX5_add 30 = .ok (.aload_n 0, 1) := by decide +kernel
theorem dX5_add_31 : decode cX5_add 31 = .ok (.getfield 21, 3) := by decide +kernel
theorem dX5_add_34 : decode cX5_add 34 = .ok (.aload_n 0, 1) := by decide +kernel
theorem dX5_add_35 : decode cX5_add 35 = .ok (.getfield 24, 3) := by decide +kernel
theorem dX5_add_38 : decode cX5_add 38 = .ok (.iload 4, 2) := by decide +kernel
theorem dX5_add_40 : decode cX5_add 40 = .ok (.iastore, 1) := by decide +kernel
theorem dX5_add_41 : decode cX5_add 41 = .ok (.aload_n 0, 1) := by decide +kernel
theorem dX5_add_42 : decode cX5_add 42 = .ok (.dup, 1) := by decide +kernel
theorem dX5_add_43 : decode cX5_add 43 = .ok (.getfield 24, 3) := by decide +kernel
theorem dX5_add_46 : decode cX5_add 46 = .ok (.iconst 1, 1) := by decide +kernel
theorem dX5_add_47 : decode cX5_add 47 = .ok (.iadd, 1) := by decide +kernel
theorem dX5_add_48 : decode cX5_add 48 = .ok (.putfield 24, 3) := by decide +kernel
theorem dX5_add_51 : decode cX5_add 51 = .ok (.return_, 1) := by decide +kernel
theorem dX5_copyFrom_0 : decode cX5_copyFrom 0 = .ok (.aload_n 0, 1) := by decide +kernel
theorem dX5_copyFrom_1 : decode cX5_copyFrom 1 = .ok (.aload_n 1, 1) := by decide +kernel
theorem dX5_copyFrom_2 : decode cX5_copyFrom 2 = .ok (.getfield 24, 3) := by decide +kernel
theorem dX5_copyFrom_5 : decode cX5_copyFrom 5 = .ok (.putfield 24, 3) := by decide +kernel
theorem dX5_copyFrom_8 : decode cX5_copyFrom 8 = .ok (.aload_n 1, 1) := by decide +kernel
theorem dX5_copyFrom_9 : decode cX5_copyFrom 9 = .ok (.getfield 9, 3) := by decide +kernel
theorem dX5_copyFrom_12 : decode cX5_copyFrom 12 = .ok (.iconst 0, 1) := by decide +kernel
theorem dX5_copyFrom_13 : decode cX5_copyFrom 13 = .ok (.aload_n 0, 1) := by decide +kernel
theorem dX5_copyFrom_14 : decode cX5_copyFrom 14 = .ok (.getfield 9, 3) := by decide +kernel
theorem dX5_copyFrom_17 : decode cX5_copyFrom 17 = .ok (.iconst 0, 1) := by decide +kernel
theorem dX5_copyFrom_18 : decode cX5_copyFrom 18 = .ok (.bipush 10, 2) := by decide +kernel
theorem dX5_copyFrom_20 : decode cX5_copyFrom 20 = .ok (.invokestatic 28, 3) := by decide +kernel
theorem dX5_copyFrom_23 : decode cX5_copyFrom 23 = .ok (.aload_n 1, 1) := by decide +kernel
theorem dX5_copyFrom_24 : decode cX5_copyFrom 24 = .ok (.getfield 15, 3) := by decide +kernel
theorem dX5_copyFrom_27 : decode cX5_copyFrom 27 = .ok (.iconst 0, 1) := by decide +kernel
theorem dX5_copyFrom_28 : decode cX5_copyFrom 28 = .ok (.aload_n 0, 1) := by decide +kernel
theorem dX5_copyFrom_29 : decode cX5_copyFrom 29 = .ok (.getfield 15, 3) := by decide +kernel
theorem dX5_copyFrom_32 : decode cX5_copyFrom 32 = .ok (.iconst 0, 1) := by decide +kernel
theorem dX5_copyFrom_33 : decode cX5_copyFrom 33 = .ok (.bipush 10, 2) := by decide +kernel
theorem dX5_copyFrom_35 : decode cX5_copyFrom 35 = .ok (.invokestatic 28, 3) := by decide +kernel
theorem dX5_copyFrom_38 : decode cX5_copyFrom 38 = .ok (.aload_n 1, 1) := by decide +kernel
theorem dX5_copyFrom_39 : decode cX5_copyFrom 39 = .ok (.getfield 18, 3) := by decide +kernel
theorem dX5_copyFrom_42 : decode cX5_copyFrom 42 = .ok (.iconst 0, 1) := by decide +kernel
theorem dX5_copyFrom_43 : decode cX5_copyFrom 43 = .ok (.aload_n 0, 1) := by decide +kernel
theorem dX5_copyFrom_44 : decode cX5_copyFrom 44 = .ok (.getfield 18, 3) := by decide +kernel
theorem dX5_copyFrom_47 : decode cX5_copyFrom 47 = .ok (.iconst 0, 1) := by decide +kernel
theorem dX5_copyFrom_48 : decode cX5_copyFrom 48 = .ok (.bipush 10, 2) := by decide +kernel
theorem dX5_copyFrom_50 : decode cX5_copyFrom 50 = .ok (.invokestatic 28, 3) := by decide +kernel
theorem dX5_copyFrom_53 : decode cX5_copyFrom 53 = .ok (.aload_n 1, 1) := by decide +kernel
theorem dX5_copyFrom_54 : decode cX5_copyFrom 54 = .ok (.getfield 21, 3) := by decide +kernel
theorem dX5_copyFrom_57 : decode cX5_copyFrom 57 = .ok (.iconst 0, 1) := by decide +kernel
theorem dX5_copyFrom_58 : decode cX5_copyFrom 58 = .ok (.aload_n 0, 1) := by decide +kernel
theorem dX5_copyFrom_59 : decode cX5_copyFrom 59 = .ok (.getfield 21, 3) := by decide +kernel
theorem dX5_copyFrom_62 : decode cX5_copyFrom 62 = .ok (.iconst 0, 1) := by decide +kernel
theorem dX5_copyFrom_63 : decode cX5_copyFrom 63 = .ok (.bipush 10, 2) := by decide +kernel
theorem dX5_copyFrom_65 : decode cX5_copyFrom 65 = .ok (.invokestatic 28, 3) := by decide +kernel
theorem dX5_copyFrom_68 : decode cX5_copyFrom 68 = .ok (.return_, 1) := by decide +kernel
end
section
theorem dX6_init_0 : decode cX6_init 0 = .ok (.aload_n 0, 1) := by decide +kernel
theorem dX6_init_1 : decode cX6_init 1 = .ok (.invokespecial 3, 3) := by decide +kernel
theorem dX6_init_4 : decode cX6_init 4 = .ok (.aload_n 0, 1) := by decide +kernel
theorem dX6_init_5 : decode cX6_init 5 = .ok (.bipush 40, 2) := by decide +kernel
theorem dX6_init_7 : decode cX6_init 7 = .ok (.newarray .int, 2) := by decide +kernel
theorem dX6_init_9 : decode cX6_init 9 = .ok (.putfield 9, 3) := by decide +kernel
theorem dX6_init_12 : decode cX6_init 12 = .ok (.aload_n 0, 1) := by decide +kernel
theorem dX6_init_13 : decode cX6_init 13 = .ok (.bipush 40, 2) := by decide +kernel
theorem dX6_init_15 : decode cX6_init 15 = .ok (.newarray .int, 2) := by decide +kernel
theorem dX6_init_17 : decode cX6_init 17 = .ok (.putfield 15, 3) := by decide +kernel
theorem dX6_init_20 : decode cX6_init 20 = .ok (.return_, 1) := by decide +kernel
theorem dX6_add_0 : decode cX6_add 0 = .ok (.aload_n 0, 1) := by decide +kernel
theorem dX6_add_1 : decode cX6_add 1 = .ok (.getfield 9, 3) := by decide +kernel
theorem dX6_add_4 : decode cX6_add 4 = .ok (.aload_n 0, 1) := by decide +kernel
theorem dX6_add_5 : decode cX6_add 5 = .ok (.getfield 18, 3) := by decide +kernel
theorem dX6_add_8 : decode cX6_add 8 = .ok (.iload_n 1, 1) := by decide +kernel
theorem dX6_add_9 : decode cX6_add 9 = .ok (.iastore, 1) := by decide +kernel
theorem dX6_add_10 : decode cX6_add 10 = .ok (.aload_n 0, 1) := by decide +kernel
theorem dX6_add_11 : decode cX6_add 11 = .ok (.getfield 15, 3) := by decide +kernel
theorem dX6_add_14 : decode cX6_add 14 = .ok (.aload_n 0, 1) := by decide +kernel
theorem dX6_add_15 : decode cX6_add 15 = .ok (.getfield 18, 3) := by decide +kernel
theorem dX6_add_18 : decode cX6_add 18 = .ok (.iload_n 2, 1) := by decide +kernel
theorem dX6_add_19 : decode cX6_add 19 = .ok (.iastore, 1) := by decide +kernel
theorem dX6_add_20 : decode cX6_add 20 = .ok (.aload_n 0, 1) := by decide +kernel
theorem dX6_add_21 : decode cX6_add 21 = .ok (.dup, 1) := by decide +kernel
theorem dX6_add_22 : decode cX6_add 22 = .ok (.getfield 18, 3) := by decide +kernel
theorem dX6_add_25 : decode cX6_add 25 = .ok (.iconst 1, 1) := by decide +kernel
theorem dX6_add_26 : decode cX6_add 26 = .ok (.iadd, 1) := by decide +kernel
theorem dX6_add_27 : decode cX6_add 27 = .ok (.putfield 18, 3) := by decide +kernel
theorem dX6_add_30 : decode cX6_add 30 = .ok (.return_, 1) := by decide +kernel
theorem dX6_countOf_0 : decode cX6_countOf 0 = .ok (.iconst 0, 1) := by decide +kernel
theorem dX6_countOf_1 : decode cX6_countOf 1 = .ok (.istore_n 2, 1) := by decide +kernel
theorem dX6_countOf_2 : decode cX6_countOf 2 = .ok (.iconst 0, 1) := by decide +kernel
theorem dX6_countOf_3 : decode cX6_countOf 3 = .ok (.istore_n 3, 1) := by decide +kernel
theorem dX6_countOf_4 : decode cX6_countOf 4 = .ok (.iload_n 3, 1) := by decide +kernel
theorem dX6_countOf_5 : decode cX6_countOf 5 = .ok (.aload_n 0, 1) := by decide +kernel
theorem dX6_countOf_6 : decode cX6_countOf 6 = .ok (.getfield 18, 3) := by decide +kernel
theorem dX6_countOf_9 : decode cX6_countOf 9 = .ok (.if_icmp .ge 22, 3) := by decide +kernel
theorem dX6_countOf_12 : decode cX6_countOf 12 = .ok (.aload_n 0, 1) := by decide +kernel
theorem dX6_countOf_13 : decode cX6_countOf 13 = .ok (.getfield 15, 3) := by decide +kernel
theorem dX6_countOf_16 : decode cX6_countOf 16 = .ok (.iload_n 3, 1) := by decide +kernel
theorem dX6_countOf_17 : decode cX6_countOf 17 = .ok (.iaload, 1) := by decide +kernel
theorem dX6_countOf_18 : decode cX6_countOf 18 = .ok (.iload_n 1, 1) := by decide +kernel
theorem dX6_countOf_19 : decode cX6_countOf 19 = .ok (.if_icmp .ne 6, 3) := by decide +kernel
theorem dX6_countOf_22 : decode cX6_countOf 22 = .ok (.iinc 2 1, 3) := by decide +kernel
theorem dX6_countOf_25 : decode cX6_countOf 25 = .ok (.iinc 3 1, 3) := by decide +kernel
theorem dX6_countOf_28 : decode cX6_countOf 28 = .ok (.goto (-24), 3) := by decide +kernel
theorem dX6_countOf_31 : decode cX6_countOf 31 = .ok (.iload_n 2, 1) := by decide +kernel
theorem dX6_countOf_32 : decode cX6_countOf 32 = .ok (.ireturn, 1) := by decide +kernel
theorem dX6_sum_0 : decode cX6_sum 0 = .ok (.iconst 0, 1) := by decide +kernel
theorem dX6_sum_1 : decode cX6_sum 1 = .ok (.istore_n 2, 1) := by decide +kernel
theorem dX6_sum_2 : decode cX6_sum 2 = .ok (.iconst 0, 1) := by decide +kernel
theorem dX6_sum_3 : decode cX6_sum 3 = .ok (.istore_n 3, 1) := by decide +kernel
theorem dX6_sum_4 : decode cX6_sum 4 = .ok (.iload_n 3, 1) := by decide +kernel
theorem dX6_sum_5 : decode cX6_sum 5 = .ok (.aload_n 0, 1) := by decide +kernel
theorem dX6_sum_6 : decode cX6_sum 6 = .ok (.getfield 18, 3) := by decide +kernel
theorem dX6_sum_9 : decode cX6_sum 9 = .ok (.if_icmp .ge 28, 3) := by decide +kernel
theorem dX6_sum_12 : decode cX6_sum 12 = .ok (.aload_n 0, 1) := by decide +kernel
theorem dX6_sum_13 : decode cX6_sum 13 = .ok (.getfield 15, 3) := by decide +kernel
theorem dX6_sum_16 : decode cX6_sum 16 = .ok (.iload_n 3, 1) := by decide +kernel
theorem dX6_sum_17 : decode cX6_sum 17 = .ok (.iaload, 1) := by decide +kernel
theorem dX6_sum_18 : decode cX6_sum 18 = .ok (.iload_n 1, 1) := by decide +kernel
theorem dX6_sum_19 : decode cX6_sum 19 = .ok (.if_icmp .ne 12, 3) := by decide +kernel
theorem dX6_sum_22 : decode cX6_sum 22 = .ok (.iload_n 2, 1) := by decide +kernel
theorem dX6_sum_23 : decode cX6_sum 23 = .ok (.aload_n 0, 1) := by decide +kernel
theorem dX6_sum_24 : decode cX6_sum 24 = .ok (.getfield 9, 3) := by decide +kernel
theorem dX6_sum_27 : decode cX6_sum 27 = .ok (.iload_n 3, 1) := by decide +kernel
theorem dX6_sum_28 : decode cX6_sum 28 = .ok (.iaload, 1) := by decide +kernel
theorem dX6_sum_29 : decode cX6_sum 29 = .ok (.iadd, 1) := by decide +kernel
theorem dX6_sum_30 : decode cX6_sum 30 = .ok (.istore_n 2, 1) := by decide +kernel
theorem dX6_sum_31 : decode cX6_sum 31 = .ok (.iinc 3 1, 3) := by decide +kernel
theorem dX6_sum_34 : decode cX6_sum 34 = .ok (.goto (-30), 3) := by decide +kernel
theorem dX6_sum_37 : decode cX6_sum 37 = .ok (.iload_n 2, 1) := by decide +kernel
theorem dX6_sum_38 : decode cX6_sum 38 = .ok (.ireturn, 1) := by decide +kernel
theorem dX6_least_0 : decode cX6_least 0 = .ok (.bipush 115, 2) := by decide +kernel
theorem dX6_least_2 : decode cX6_least 2 = .ok (.istore_n 2, 1) := by decide +kernel
theorem dX6_least_3 : decode cX6_least 3 = .ok (.iconst 0, 1) := by decide +kernel
theorem dX6_least_4 : decode cX6_least 4 = .ok (.istore_n 3, 1) := by decide +kernel
theorem dX6_least_5 : decode cX6_least 5 = .ok (.iload_n 3, 1) := by decide +kernel
theorem dX6_least_6 : decode cX6_least 6 = .ok (.aload_n 0, 1) := by decide +kernel
theorem dX6_least_7 : decode cX6_least 7 = .ok (.getfield 18, 3) := by decide +kernel
theorem dX6_least_10 : decode cX6_least 10 = .ok (.if_icmp .ge 30, 3) := by decide +kernel
theorem dX6_least_13 : decode cX6_least 13 = .ok (.aload_n 0, 1) := by decide +kernel
theorem dX6_least_14 : decode cX6_least 14 = .ok (.getfield 15, 3) := by decide +kernel
theorem dX6_least_17 : decode cX6_least 17 = .ok (.iload_n 3, 1) := by decide +kernel
theorem dX6_least_18 : decode cX6_least 18 = .ok (.iaload, 1) := by decide +kernel
theorem dX6_least_19 : decode cX6_least 19 = .ok (.iload_n 1, 1) := by decide +kernel
theorem dX6_least_20 : decode cX6_least 20 = .ok (.if_icmp .ne 14, 3) := by decide +kernel
theorem dX6_least_23 : decode cX6_least 23 = .ok (.iload_n 2, 1) := by decide +kernel
theorem dX6_least_24 : decode cX6_least 24 = .ok (.aload_n 0, 1) := by decide +kernel
theorem dX6_least_25 : decode cX6_least 25 = .ok (.getfield 9, 3) := by decide +kernel
theorem dX6_least_28 : decode cX6_least 28 = .ok (.iload_n 3, 1) := by decide +kernel
theorem dX6_least_29 : decode cX6_least 29 = .ok (.iaload, 1) := by decide +kernel
theorem dX6_least_30 : decode cX6_least 30 = .ok (.invokestatic 22, 3) := by decide +kernel
theorem dX6_least_33 : decode cX6_least 33 = .ok (.istore_n 2, 1) := by decide +kernel
theorem dX6_least_34 : decode cX6_least 34 = .ok (.iinc 3 1, 3) := by decide +kernel
theorem dX6_least_37 : decode cX6_least 37 = .ok (.goto (-32), 3) := by decide +kernel
theorem dX6_least_40 : decode cX6_least 40 = .ok (.iload_n 2, 1) := by decide +kernel
theorem dX6_least_41 : decode cX6_least 41 = .ok (.ireturn, 1) := by decide +kernel
theorem dX6_greatest_0 : decode cX6_greatest 0 = .ok (.bipush (-69), 2) := by decide +kernel
theorem dX6_greatest_2 : decode cX6_greatest 2 = .ok (.istore_n 2, 1) := by decide +kernel
theorem dX6_greatest_3 : decode cX6_greatest 3 = .ok (.iconst 0, 1) := by decide +kernel
theorem dX6_greatest_4 : decode cX6_greatest 4 = .ok (.istore_n 3, 1) := by decide +kernel
theorem dX6_greatest_5 : decode cX6_greatest 5 = .ok (.iload_n 3, 1) := by decide +kernel
theorem dX6_greatest_6 : decode cX6_greatest 6 = .ok (.aload_n 0, 1) := by decide +kernel
theorem dX6_greatest_7 : decode cX6_greatest 7 = .ok (.getfield 18, 3) := by decide +kernel
theorem dX6_greatest_10 : decode cX6_greatest 10 = .ok (.if_icmp .ge 30, 3) := by decide +kernel
theorem dX6_greatest_13 : decode cX6_greatest 13 = .ok (.aload_n 0, 1) := by decide +kernel
theorem dX6_greatest_14 : decode cX6_greatest 14 = .ok (.getfield 15, 3) := by decide +kernel
theorem dX6_greatest_17 : decode cX6_greatest 17 = .ok (.iload_n 3, 1) := by decide +kernel
theorem dX6_greatest_18 : decode cX6_greatest 18 = .ok (.iaload, 1) := by decide +kernel
theorem dX6_greatest_19 : decode cX6_greatest 19 = .ok (.iload_n 1, 1) := by decide +kernel
theorem dX6_greatest_20 : decode cX6_greatest 20 = .ok (.if_icmp .ne 14, 3) := by decide +kernel
theorem dX6_greatest_23 : decode cX6_greatest 23 = .ok (.iload_n 2, 1) := by decide +kernel
theorem dX6_greatest_24 : decode cX6_greatest 24 = .ok (.aload_n 0, 1) := by decide +kernel
theorem dX6_greatest_25 : decode cX6_greatest 25 = .ok (.getfield 9, 3) := by decide +kernel
theorem dX6_greatest_28 : decode cX6_greatest 28 = .ok (.iload_n 3, 1) := by decide +kernel
theorem dX6_greatest_29 : decode cX6_greatest 29 = .ok (.iaload, 1) := by decide +kernel
theorem dX6_greatest_30 : decode cX6_greatest 30 = .ok (.invokestatic 28, 3) := by decide +kernel
theorem dX6_greatest_33 : decode cX6_greatest 33 = .ok (.istore_n 2, 1) := by decide +kernel
theorem dX6_greatest_34 : decode cX6_greatest 34 = .ok (.iinc 3 1, 3) := by decide +kernel
theorem dX6_greatest_37 : decode cX6_greatest 37 = .ok (.goto (-32), 3) := by decide +kernel
theorem dX6_greatest_40 : decode cX6_greatest 40 = .ok (.iload_n 2, 1) := by decide +kernel
theorem dX6_greatest_41 : decode cX6_greatest 41 = .ok (.ireturn, 1) := by decide +kernel
theorem dX7_init_0 : decode cX7_init 0 = .ok (.aload_n 0, 1) := by decide +kernel
theorem dX7_init_1 : decode cX7_init 1 = .ok (.invokespecial 1, 3) := by decide +kernel
theorem dX7_init_4 : decode cX7_init 4 = .ok (.aload_n 0, 1) := by decide +kernel
theorem dX7_init_5 : decode cX7_init 5 = .ok (.new 7, 3) := by decide +kernel
theorem dX7_init_8 : decode cX7_init 8 = .ok (.dup, 1) := by decide +kernel
theorem dX7_init_9 : decode cX7_init 9 = .ok (.invokespecial 9, 3) := by decide +kernel
theorem dX7_init_12 : decode cX7_init 12 = .ok (.putfield 10, 3) := by decide +kernel
theorem dX7_init_15 : decode cX7_init 15 = .ok (.aload_n 0, 1) := by decide +kernel
theorem dX7_init_16 : decode cX7_init 16 = .ok (.new 16, 3) := by decide +kernel
theorem dX7_init_19 : decode cX7_init 19 = .ok (.dup, 1) := by decide +kernel
theorem dX7_init_20 : decode cX7_init 20 = .ok (.invokespecial 18, 3) := by decide +kernel
theorem dX7_init_23 : decode cX7_init 23 = .ok (.putfield 19, 3) := by decide +kernel
theorem dX7_init_26 : decode cX7_init 26 = .ok (.aload_n 0, 1) := by decide +kernel
theorem dX7_init_27 : decode cX7_init 27 = .ok (.iconst 2, 1) := by decide +kernel
theorem dX7_init_28 : decode cX7_init 28 = .ok (.anewarray 16, 3) := by decide +kernel
theorem dX7_init_31 : decode cX7_init 31 = .ok (.putfield 23, 3) := by decide +kernel
theorem dX7_init_34 : decode cX7_init 34 = .ok (.aload_n 0, 1) := by decide +kernel
theorem dX7_init_35 : decode cX7_init 35 = .ok (.iconst 2, 1) := by decide +kernel
theorem dX7_init_36 : decode cX7_init 36 = .ok (.newarray .boolean, 2) := by decide +kernel
theorem dX7_init_38 : decode cX7_init 38 = .ok (.putfield 27, 3) := by decide +kernel
theorem dX7_init_41 : decode cX7_init 41 = .ok (.aload_n 0, 1) := by decide +kernel
theorem dX7_init_42 : decode cX7_init 42 = .ok (.new 31, 3) := by decide +kernel
theorem dX7_init_45 : decode cX7_init 45 = .ok (.dup, 1) := by decide +kernel
theorem dX7_init_46 : decode cX7_init 46 = .ok (.invokespecial 33, 3) := by decide +kernel
theorem dX7_init_49 : decode cX7_init 49 = .ok (.putfield 34, 3) := by decide +kernel
theorem dX7_init_52 : decode cX7_init 52 = .ok (.aload_n 0, 1) := by decide +kernel
theorem dX7_init_53 : decode cX7_init 53 = .ok (.new 38, 3) := by decide +kernel
theorem dX7_init_56 : decode cX7_init 56 = .ok (.dup, 1) := by decide +kernel
theorem dX7_init_57 : decode cX7_init 57 = .ok (.invokespecial 40, 3) := by decide +kernel
theorem dX7_init_60 : decode cX7_init 60 = .ok (.putfield 41, 3) := by decide +kernel
theorem dX7_init_63 : decode cX7_init 63 = .ok (.aload_n 0, 1) := by decide +kernel
theorem dX7_init_64 : decode cX7_init 64 = .ok (.new 45, 3) := by decide +kernel
theorem dX7_init_67 : decode cX7_init 67 = .ok (.dup, 1) := by decide +kernel
theorem dX7_init_68 : decode cX7_init 68 = .ok (.invokespecial 47, 3) := by decide +kernel
theorem dX7_init_71 : decode cX7_init 71 = .ok (.putfield 48, 3) := by decide +kernel
theorem dX7_init_74 : decode cX7_init 74 = .ok (.aload_n 0, 1) := by decide +kernel
theorem dX7_init_75 : decode cX7_init 75 = .ok (.new 52, 3) := by decide +kernel
theorem dX7_init_78 : decode cX7_init 78 = .ok (.dup, 1) := by decide +kernel
theorem dX7_init_79 : decode cX7_init 79 = .ok (.invokespecial 54, 3) := by decide +kernel
theorem dX7_init_82 : decode cX7_init 82 = .ok (.putfield 55, 3) := by decide +kernel
theorem dX7_init_85 : decode cX7_init 85 = .ok (.aload_n 0, 1) := by decide +kernel
theorem dX7_init_86 : decode cX7_init 86 = .ok (.new 59, 3) := by decide +kernel
theorem dX7_init_89 : decode cX7_init 89 = .ok (.dup, 1) := by decide +kernel
theorem dX7_init_90 : decode cX7_init 90 = .ok (.invokespecial 61, 3) := by decide +kernel
theorem dX7_init_93 : decode cX7_init 93 = .ok (.putfield 62, 3) := by decide +kernel
theorem dX7_init_96 : decode cX7_init 96 = .ok (.aload_n 0, 1) := by decide +kernel
theorem dX7_init_97 : decode cX7_init 97 = .ok (.new 59, 3) := by decide +kernel
theorem dX7_init_100 : decode cX7_init 100 = .ok (.dup, 1) := by decide +kernel
theorem dX7_init_101 : decode cX7_init 101 = .ok (.invokespecial 61, 3) := by decide +kernel
theorem dX7_init_104 : decode cX7_init 104 = .ok (.putfield 66, 3) := by decide +kernel
theorem dX7_init_107 : decode cX7_init 107 = .ok (.aload_n 0, 1) := by decide +kernel
theorem dX7_init_108 : decode cX7_init 108 = .ok (.iconst 2, 1) := by decide +kernel
theorem dX7_init_109 : decode cX7_init 109 = .ok (.putfield 69, 3) := by decide +kernel
theorem dX7_init_112 : decode cX7_init 112 = .ok (.aload_n 0, 1) := by decide +kernel
theorem dX7_init_113 : decode cX7_init 113 = .ok (.lconst 0, 1) := by decide +kernel
theorem dX7_init_114 : decode cX7_init 114 = .ok (.putfield 73, 3) := by decide +kernel
theorem dX7_init_117 : decode cX7_init 117 = .ok (.iconst 0, 1) := by decide +kernel
theorem dX7_init_118 : decode cX7_init 118 = .ok (.istore_n 1, 1) := by decide +kernel
theorem dX7_init_119 : decode cX7_init 119 = .ok (.iload_n 1, 1) := by decide +kernel
theorem dX7_init_120 : decode cX7_init 120 = .ok (.iconst 2, 1) := by decide +kernel
theorem dX7_init_121 : decode cX7_init 121 = .ok (.if_icmp .ge 22, 3) := by decide +kernel
theorem dX7_init_124 : decode cX7_init 124 = .ok (.aload_n 0, 1) := by decide +kernel
theorem dX7_init_125 : decode cX7_init 125 = .ok (.getfield 23, 3) := by decide +kernel
theorem dX7_init_128 : decode cX7_init 128 = .ok (.iload_n 1, 1) := by decide +kernel
theorem dX7_init_129 : decode cX7_init 129 = .ok (.new 16, 3) := by decide +kernel
theorem dX7_init_132 : decode cX7_init 132 = .ok (.dup, 1) := by decide +kernel
theorem dX7_init_133 : decode cX7_init 133 = .ok (.invokespecial 18, 3) := by decide +kernel
theorem dX7_init_136 : decode cX7_init 136 = .ok (.aastore, 1) := by decide +kernel
theorem dX7_init_137 : decode cX7_init 137 = .ok (.iinc 1 1, 3) := by decide +kernel
theorem dX7_init_140 : decode cX7_init 140 = .ok (.goto (-21), 3) := by decide +kernel
theorem dX7_init_143 : decode cX7_init 143 = .ok (.aload_n 0, 1) := by decide +kernel
theorem dX7_init_144 : decode cX7_init 144 = .ok (.getfield 19, 3) := by decide +kernel
theorem dX7_init_147 : decode cX7_init 147 = .ok (.iconst 1, 1) := by decide +kernel
theorem dX7_init_148 : decode cX7_init 148 = .ok (.putfield 77, 3) := by decide +kernel
theorem dX7_init_151 : decode cX7_init 151 = .ok (.return_, 1) := by decide +kernel
theorem dX7_type_0 : decode cX7_type 0 = .ok (.iload_n 3, 1) := by decide +kernel
theorem dX7_type_1 : decode cX7_type 1 = .ok (.iconst 1, 1) := by decide +kernel
theorem dX7_type_2 : decode cX7_type 2 = .ok (.bipush 8, 2) := by decide +kernel
theorem dX7_type_4 : decode cX7_type 4 = .ok (.invokestatic 80, 3) := by decide +kernel
theorem dX7_type_7 : decode cX7_type 7 = .ok (.ifCond .ne 5, 3) := by decide +kernel
theorem dX7_type_10 : decode cX7_type 10 = .ok (.iconst (-1), 1) := by decide +kernel
theorem dX7_type_11 : decode cX7_type 11 = .ok (.ireturn, 1) := by decide +kernel
theorem dX7_type_12 : decode cX7_type 12 = .ok (.aload_n 0, 1) := by decide +kernel
theorem dX7_type_13 : decode cX7_type 13 = .ok (.getfield 10, 3) := by decide +kernel
theorem dX7_type_16 : decode cX7_type 16 = .ok (.lload_n 1, 1) := by decide +kernel
theorem dX7_type_17 : decode cX7_type 17 = .ok (.iload_n 3, 1) := by decide +kernel
theorem dX7_type_18 : decode cX7_type 18 = .ok (.invokevirtual 84, 3) := by decide +kernel
theorem dX7_type_21 : decode cX7_type 21 = .ok (.ifCond .eq 13, 3) := by decide +kernel
theorem dX7_type_24 : decode cX7_type 24 = .ok (.aload_n 0, 1) := by decide +kernel
theorem dX7_type_25 : decode cX7_type 25 = .ok (.getfield 10, 3) := by decide +kernel
theorem dX7_type_28 : decode cX7_type 28 = .ok (.getfield 88, 3) := by decide +kernel
theorem dX7_type_31 : decode cX7_type 31 = .ok (.goto 5, 3) := by decide +kernel
theorem dX7_type_34 : decode cX7_type 34 = .ok (.bipush (-3), 2) := by decide +kernel
theorem dX7_type_36 : decode cX7_type 36 = .ok (.ireturn, 1) := by decide +kernel
theorem dX7_clear_0 : decode cX7_clear 0 = .ok (.aload_n 0, 1) := by decide +kernel
theorem dX7_clear_1 : decode cX7_clear 1 = .ok (.getfield 10, 3) := by decide +kernel
theorem dX7_clear_4 : decode cX7_clear 4 = .ok (.getfield 88, 3) := by decide +kernel
theorem dX7_clear_7 : decode cX7_clear 7 = .ok (.istore_n 1, 1) := by decide +kernel
theorem dX7_clear_8 : decode cX7_clear 8 = .ok (.aload_n 0, 1) := by decide +kernel
theorem dX7_clear_9 : decode cX7_clear 9 = .ok (.getfield 10, 3) := by decide +kernel
theorem dX7_clear_12 : decode cX7_clear 12 = .ok (.iconst 0, 1) := by decide +kernel
theorem dX7_clear_13 : decode cX7_clear 13 = .ok (.putfield 88, 3) := by decide +kernel
theorem dX7_clear_16 : decode cX7_clear 16 = .ok (.iload_n 1, 1) := by decide +kernel
theorem dX7_clear_17 : decode cX7_clear 17 = .ok (.ireturn, 1) := by decide +kernel
theorem dX7_land_0 : decode cX7_land 0 = .ok (.aload_n 0, 1) := by decide +kernel
theorem dX7_land_1 : decode cX7_land 1 = .ok (.getfield 10, 3) := by decide +kernel
theorem dX7_land_4 : decode cX7_land 4 = .ok (.aload_n 0, 1) := by decide +kernel
theorem dX7_land_5 : decode cX7_land 5 = .ok (.getfield 66, 3) := by decide +kernel
theorem dX7_land_8 : decode cX7_land 8 = .ok (.invokevirtual 91, 3) := by decide +kernel
theorem dX7_land_11 : decode cX7_land 11 = .ok (.istore_n 1, 1) := by decide +kernel
theorem dX7_land_12 : decode cX7_land 12 = .ok (.iload_n 1, 1) := by decide +kernel
theorem dX7_land_13 : decode cX7_land 13 = .ok (.ifCond .ge 5, 3) := by decide +kernel
theorem dX7_land_16 : decode cX7_land 16 = .ok (.iload_n 1, 1) := by decide +kernel
theorem dX7_land_17 : decode cX7_land 17 = .ok (.ireturn, 1) := by decide +kernel
theorem dX7_land_18 : decode cX7_land 18 = .ok (.aload_n 0, 1) := by decide +kernel
theorem dX7_land_19 : decode cX7_land 19 = .ok (.getfield 62, 3) := by decide +kernel
theorem dX7_land_22 : decode cX7_land 22 = .ok (.astore_n 2, 1) := by decide +kernel
theorem dX7_land_23 : decode cX7_land 23 = .ok (.aload_n 0, 1) := by decide +kernel
theorem dX7_land_24 : decode cX7_land 24 = .ok (.aload_n 0, 1) := by decide +kernel
theorem dX7_land_25 : decode cX7_land 25 = .ok (.getfield 66, 3) := by decide +kernel
theorem dX7_land_28 : decode cX7_land 28 = .ok (.putfield 62, 3) := by decide +kernel
theorem dX7_land_31 : decode cX7_land 31 = .ok (.aload_n 0, 1) := by decide +kernel
theorem dX7_land_32 : decode cX7_land 32 = .ok (.aload_n 2, 1) := by decide +kernel
theorem dX7_land_33 : decode cX7_land 33 = .ok (.putfield 66, 3) := by decide +kernel
theorem dX7_land_36 : decode cX7_land 36 = .ok (.aload_n 0, 1) := by decide +kernel
theorem dX7_land_37 : decode cX7_land 37 = .ok (.getfield 10, 3) := by decide +kernel
theorem dX7_land_40 : decode cX7_land 40 = .ok (.iconst 0, 1) := by decide +kernel
theorem dX7_land_41 : decode cX7_land 41 = .ok (.putfield 88, 3) := by decide +kernel
theorem dX7_land_44 : decode cX7_land 44 = .ok (.aload_n 0, 1) := by decide +kernel
theorem dX7_land_45 : decode cX7_land 45 = .ok (.getfield 41, 3) := by decide +kernel
theorem dX7_land_48 : decode cX7_land 48 = .ok (.iconst 0, 1) := by decide +kernel
theorem dX7_land_49 : decode cX7_land 49 = .ok (.putfield 95, 3) := by decide +kernel
theorem dX7_land_52 : decode cX7_land 52 = .ok (.aload_n 0, 1) := by decide +kernel
theorem dX7_land_53 : decode cX7_land 53 = .ok (.getfield 34, 3) := by decide +kernel
theorem dX7_land_56 : decode cX7_land 56 = .ok (.iconst 0, 1) := by decide +kernel
theorem dX7_land_57 : decode cX7_land 57 = .ok (.putfield 98, 3) := by decide +kernel
theorem dX7_land_60 : decode cX7_land 60 = .ok (.iconst 0, 1) := by decide +kernel
theorem dX7_land_61 : decode cX7_land 61 = .ok (.istore_n 3, 1) := by decide +kernel
theorem dX7_land_62 : decode cX7_land 62 = .ok (.iload_n 3, 1) := by decide +kernel
theorem dX7_land_63 : decode cX7_land 63 = .ok (.iconst 2, 1) := by decide +kernel
theorem dX7_land_64 : decode cX7_land 64 = .ok (.if_icmp .ge 16, 3) := by decide +kernel
theorem dX7_land_67 : decode cX7_land 67 = .ok (.aload_n 0, 1) := by decide +kernel
theorem dX7_land_68 : decode cX7_land 68 = .ok (.getfield 27, 3) := by decide +kernel
theorem dX7_land_71 : decode cX7_land 71 = .ok (.iload_n 3, 1) := by decide +kernel
theorem dX7_land_72 : decode cX7_land 72 = .ok (.iconst 0, 1) := by decide +kernel
theorem dX7_land_73 : decode cX7_land 73 = .ok (.bastore, 1) := by decide +kernel
theorem dX7_land_74 : decode cX7_land 74 = .ok (.iinc 3 1, 3) := by decide +kernel
theorem dX7_land_77 : decode cX7_land 77 = .ok (.goto (-15), 3) := by decide +kernel
theorem dX7_land_80 : decode cX7_land 80 = .ok (.aload_n 0, 1) := by decide +kernel
theorem dX7_land_81 : decode cX7_land 81 = .ok (.getfield 19, 3) := by decide +kernel
theorem dX7_land_84 : decode cX7_land 84 = .ok (.aload_n 0, 1) := by decide +kernel
theorem dX7_land_85 : decode cX7_land 85 = .ok (.getfield 62, 3) := by decide +kernel
theorem dX7_land_88 : decode cX7_land 88 = .ok (.invokevirtual 102, 3) := by decide +kernel
theorem dX7_land_91 : decode cX7_land 91 = .ok (.iload_n 1, 1) := by decide +kernel
theorem dX7_land_92 : decode cX7_land 92 = .ok (.ireturn, 1) := by decide +kernel
theorem dX7_law_0 : decode cX7_law 0 = .ok (.iload_n 1, 1) := by decide +kernel
theorem dX7_law_1 : decode cX7_law 1 = .ok (.tableswitch 72 0 4 #[35, 43, 51, 59, 67], 35) := by decide +kernel
theorem dX7_law_36 : decode cX7_law 36 = .ok (.aload_n 0, 1) := by decide +kernel
theorem dX7_law_37 : decode cX7_law 37 = .ok (.getfield 62, 3) := by decide +kernel
theorem dX7_law_40 : decode cX7_law 40 = .ok (.getfield 106, 3) := by decide +kernel
theorem dX7_law_43 : decode cX7_law 43 = .ok (.ireturn, 1) := by decide +kernel
theorem dX7_law_44 : decode cX7_law 44 = .ok (.aload_n 0, 1) := by decide +kernel
theorem dX7_law_45 : decode cX7_law 45 = .ok (.getfield 62, 3) := by decide +kernel
theorem dX7_law_48 : decode cX7_law 48 = .ok (.getfield 109, 3) := by decide +kernel
theorem dX7_law_51 : decode cX7_law 51 = .ok (.ireturn, 1) := by decide +kernel
theorem dX7_law_52 : decode cX7_law 52 = .ok (.aload_n 0, 1) := by decide +kernel
theorem dX7_law_53 : decode cX7_law 53 = .ok (.getfield 62, 3) := by decide +kernel
theorem dX7_law_56 : decode cX7_law 56 = .ok (.getfield 112, 3) := by decide +kernel
theorem dX7_law_59 : decode cX7_law 59 = .ok (.ireturn, 1) := by decide +kernel
theorem dX7_law_60 : decode cX7_law 60 = .ok (.aload_n 0, 1) := by decide +kernel
theorem dX7_law_61 : decode cX7_law 61 = .ok (.getfield 62, 3) := by decide +kernel
theorem dX7_law_64 : decode cX7_law 64 = .ok (.getfield 115, 3) := by decide +kernel
theorem dX7_law_67 : decode cX7_law 67 = .ok (.ireturn, 1) := by decide +kernel
theorem dX7_law_68 : decode cX7_law 68 = .ok (.aload_n 0, 1) := by decide +kernel
theorem dX7_law_69 : decode cX7_law 69 = .ok (.getfield 69, 3) := by decide +kernel
theorem dX7_law_72 : decode cX7_law 72 = .ok (.ireturn, 1) := by decide +kernel
theorem dX7_law_73 : decode cX7_law 73 = .ok (.iconst (-1), 1) := by decide +kernel
theorem dX7_law_74 : decode cX7_law 74 = .ok (.ireturn, 1) := by decide +kernel
theorem dX7_late_0 : decode cX7_late 0 = .ok (.iload_n 1, 1) := by decide +kernel
theorem dX7_late_1 : decode cX7_late 1 = .ok (.iconst 0, 1) := by decide +kernel
theorem dX7_late_2 : decode cX7_late 2 = .ok (.bipush 30, 2) := by decide +kernel
theorem dX7_late_4 : decode cX7_late 4 = .ok (.invokestatic 80, 3) := by decide +kernel
theorem dX7_late_7 : decode cX7_late 7 = .ok (.ifCond .ne 5, 3) := by decide +kernel
theorem dX7_late_10 : decode cX7_late 10 = .ok (.iconst (-1), 1) := by decide +kernel
theorem dX7_late_11 : decode cX7_late 11 = .ok (.ireturn, 1) := by decide +kernel
theorem dX7_late_12 : decode cX7_late 12 = .ok (.aload_n 0, 1) := by decide +kernel
theorem dX7_late_13 : decode cX7_late 13 = .ok (.getfield 69, 3) := by decide +kernel
theorem dX7_late_16 : decode cX7_late 16 = .ok (.istore_n 2, 1) := by decide +kernel
theorem dX7_late_17 : decode cX7_late 17 = .ok (.aload_n 0, 1) := by decide +kernel
theorem dX7_late_18 : decode cX7_late 18 = .ok (.iload_n 1, 1) := by decide +kernel
theorem dX7_late_19 : decode cX7_late 19 = .ok (.putfield 69, 3) := by decide +kernel
theorem dX7_late_22 : decode cX7_late 22 = .ok (.iload_n 2, 1) := by decide +kernel
theorem dX7_late_23 : decode cX7_late 23 = .ok (.ireturn, 1) := by decide +kernel
theorem dX7_near_0 : decode cX7_near 0 = .ok (.aload_n 0, 1) := by decide +kernel
theorem dX7_near_1 : decode cX7_near 1 = .ok (.iload_n 1, 1) := by decide +kernel
theorem dX7_near_2 : decode cX7_near 2 = .ok (.invokevirtual 118, 3) := by decide +kernel
theorem dX7_near_5 : decode cX7_near 5 = .ok (.ifCond .eq 16, 3) := by decide +kernel
theorem dX7_near_8 : decode cX7_near 8 = .ok (.aload_n 0, 1) := by decide +kernel
theorem dX7_near_9 : decode cX7_near 9 = .ok (.iload_n 2, 1) := by decide +kernel
theorem dX7_near_10 : decode cX7_near 10 = .ok (.invokevirtual 118, 3) := by decide +kernel
theorem dX7_near_13 : decode cX7_near 13 = .ok (.ifCond .eq 8, 3) := by decide +kernel
theorem dX7_near_16 : decode cX7_near 16 = .ok (.iload_n 1, 1) := by decide +kernel
theorem dX7_near_17 : decode cX7_near 17 = .ok (.iload_n 2, 1) := by decide +kernel
theorem dX7_near_18 : decode cX7_near 18 = .ok (.if_icmp .ne 5, 3) := by decide +kernel
theorem dX7_near_21 : decode cX7_near 21 = .ok (.iconst (-1), 1) := by decide +kernel
theorem dX7_near_22 : decode cX7_near 22 = .ok (.ireturn, 1) := by decide +kernel
theorem dX7_near_23 : decode cX7_near 23 = .ok (.aload_n 0, 1) := by decide +kernel
theorem dX7_near_24 : decode cX7_near 24 = .ok (.getfield 62, 3) := by decide +kernel
theorem dX7_near_27 : decode cX7_near 27 = .ok (.iload_n 1, 1) := by decide +kernel
theorem dX7_near_28 : decode cX7_near 28 = .ok (.iload_n 2, 1) := by decide +kernel
theorem dX7_near_29 : decode cX7_near 29 = .ok (.invokevirtual 122, 3) := by decide +kernel
theorem dX7_near_32 : decode cX7_near 32 = .ok (.ireturn, 1) := by decide +kernel
theorem dX7_word_0 : decode cX7_word 0 = .ok (.aload_n 0, 1) := by decide +kernel
theorem dX7_word_1 : decode cX7_word 1 = .ok (.iload_n 1, 1) := by decide +kernel
theorem dX7_word_2 : decode cX7_word 2 = .ok (.invokevirtual 126, 3) := by decide +kernel
theorem dX7_word_5 : decode cX7_word 5 = .ok (.ifCond .ne 5, 3) := by decide +kernel
theorem dX7_word_8 : decode cX7_word 8 = .ok (.iconst (-1), 1) := by decide +kernel
theorem dX7_word_9 : decode cX7_word 9 = .ok (.ireturn, 1) := by decide +kernel
theorem dX7_word_10 : decode cX7_word 10 = .ok (.iload_n 2, 1) := by decide +kernel
theorem dX7_word_11 : decode cX7_word 11 = .ok (.tableswitch 95 0 4 #[33, 43, 53, 63, 81], 33) := by decide +kernel
theorem dX7_word_44 : decode cX7_word 44 = .ok (.aload_n 0, 1) := by decide +kernel
theorem dX7_word_45 : decode cX7_word 45 = .ok (.getfield 62, 3) := by decide +kernel
theorem dX7_word_48 : decode cX7_word 48 = .ok (.getfield 129, 3) := by decide +kernel
theorem dX7_word_51 : decode cX7_word 51 = .ok (.iload_n 1, 1) := by decide +kernel
theorem dX7_word_52 : decode cX7_word 52 = .ok (.iaload, 1) := by decide +kernel
theorem dX7_word_53 : decode cX7_word 53 = .ok (.ireturn, 1) := by decide +kernel
theorem dX7_word_54 : decode cX7_word 54 = .ok (.aload_n 0, 1) := by decide +kernel
theorem dX7_word_55 : decode cX7_word 55 = .ok (.getfield 62, 3) := by decide +kernel
theorem dX7_word_58 : decode cX7_word 58 = .ok (.getfield 133, 3) := by decide +kernel
theorem dX7_word_61 : decode cX7_word 61 = .ok (.iload_n 1, 1) := by decide +kernel
theorem dX7_word_62 : decode cX7_word 62 = .ok (.iaload, 1) := by decide +kernel
theorem dX7_word_63 : decode cX7_word 63 = .ok (.ireturn, 1) := by decide +kernel
theorem dX7_word_64 : decode cX7_word 64 = .ok (.aload_n 0, 1) := by decide +kernel
theorem dX7_word_65 : decode cX7_word 65 = .ok (.getfield 62, 3) := by decide +kernel
theorem dX7_word_68 : decode cX7_word 68 = .ok (.getfield 136, 3) := by decide +kernel
theorem dX7_word_71 : decode cX7_word 71 = .ok (.iload_n 1, 1) := by decide +kernel
theorem dX7_word_72 : decode cX7_word 72 = .ok (.iaload, 1) := by decide +kernel
theorem dX7_word_73 : decode cX7_word 73 = .ok (.ireturn, 1) := by decide +kernel
theorem dX7_word_74 : decode cX7_word 74 = .ok (.aload_n 0, 1) := by decide +kernel
theorem dX7_word_75 : decode cX7_word 75 = .ok (.getfield 62, 3) := by decide +kernel
theorem dX7_word_78 : decode cX7_word 78 = .ok (.getfield 139, 3) := by decide +kernel
theorem dX7_word_81 : decode cX7_word 81 = .ok (.iload_n 1, 1) := by decide +kernel
theorem dX7_word_82 : decode cX7_word 82 = .ok (.baload, 1) := by decide +kernel
theorem dX7_word_83 : decode cX7_word 83 = .ok (.ifCond .eq 7, 3) := by decide +kernel
theorem dX7_word_86 : decode cX7_word 86 = .ok (.iconst 1, 1) := by decide +kernel
theorem dX7_word_87 : decode cX7_word 87 = .ok (.goto 4, 3) := by decide +kernel
theorem dX7_word_90 : decode cX7_word 90 = .ok (.iconst 0, 1) := by decide +kernel
theorem dX7_word_91 : decode cX7_word 91 = .ok (.ireturn, 1) := by decide +kernel
theorem dX7_word_92 : decode cX7_word 92 = .ok (.aload_n 0, 1) := by decide +kernel
theorem dX7_word_93 : decode cX7_word 93 = .ok (.iload_n 1, 1) := by decide +kernel
theorem dX7_word_94 : decode cX7_word 94 = .ok (.invokevirtual 142, 3) := by decide +kernel
theorem dX7_word_97 : decode cX7_word 97 = .ok (.ifCond .eq 7, 3) := by decide +kernel
theorem dX7_word_100 : decode cX7_word 100 = .ok (.iconst 1, 1) := by decide +kernel
theorem dX7_word_101 : decode cX7_word 101 = .ok (.goto 4, 3) := by decide +kernel
theorem dX7_word_104 : decode cX7_word 104 = .ok (.iconst 0, 1) := by decide +kernel
theorem dX7_word_105 : decode cX7_word 105 = .ok (.ireturn, 1) := by decide +kernel
theorem dX7_word_106 : decode cX7_word 106 = .ok (.iconst (-1), 1) := by decide +kernel
theorem dX7_word_107 : decode cX7_word 107 = .ok (.ireturn, 1) := by decide +kernel
theorem dX7_go_0 : decode cX7_go 0 = .ok (.iload_n 1, 1) := by decide +kernel
theorem dX7_go_1 : decode cX7_go 1 = .ok (.iconst 1, 1) := by decide +kernel
theorem dX7_go_2 : decode cX7_go 2 = .ok (.bipush 99, 2) := by decide +kernel
theorem dX7_go_4 : decode cX7_go 4 = .ok (.invokestatic 80, 3) := by decide +kernel
theorem dX7_go_7 : decode cX7_go 7 = .ok (.ifCond .ne 5, 3) := by decide +kernel
theorem dX7_go_10 : decode cX7_go 10 = .ok (.iconst (-1), 1) := by decide +kernel
theorem dX7_go_11 : decode cX7_go 11 = .ok (.ireturn, 1) := by decide +kernel
theorem dX7_go_12 : decode cX7_go 12 = .ok (.aload_n 0, 1) := by decide +kernel
theorem dX7_go_13 : decode cX7_go 13 = .ok (.getfield 19, 3) := by decide +kernel
theorem dX7_go_16 : decode cX7_go 16 = .ok (.getfield 145, 3) := by decide +kernel
theorem dX7_go_19 : decode cX7_go 19 = .ok (.bipush 99, 2) := by decide +kernel
theorem dX7_go_21 : decode cX7_go 21 = .ok (.if_icmp .lt 6, 3) := by decide +kernel
theorem dX7_go_24 : decode cX7_go 24 = .ok (.bipush (-2), 2) := by decide +kernel
theorem dX7_go_26 : decode cX7_go 26 = .ok (.ireturn, 1) := by decide +kernel
theorem dX7_go_27 : decode cX7_go 27 = .ok (.iload_n 1, 1) := by decide +kernel
theorem dX7_go_28 : decode cX7_go 28 = .ok (.bipush 99, 2) := by decide +kernel
theorem dX7_go_30 : decode cX7_go 30 = .ok (.aload_n 0, 1) := by decide +kernel
theorem dX7_go_31 : decode cX7_go 31 = .ok (.getfield 19, 3) := by decide +kernel
theorem dX7_go_34 : decode cX7_go 34 = .ok (.getfield 145, 3) := by decide +kernel
theorem dX7_go_37 : decode cX7_go 37 = .ok (.isub, 1) := by decide +kernel
theorem dX7_go_38 : decode cX7_go 38 = .ok (.invokestatic 148, 3) := by decide +kernel
theorem dX7_go_41 : decode cX7_go 41 = .ok (.istore_n 2, 1) := by decide +kernel
theorem dX7_go_42 : decode cX7_go 42 = .ok (.iconst 0, 1) := by decide +kernel
theorem dX7_go_43 : decode cX7_go 43 = .ok (.istore_n 3, 1) := by decide +kernel
theorem dX7_go_44 : decode cX7_go 44 = .ok (.iload_n 3, 1) := by decide +kernel
theorem dX7_go_45 : decode cX7_go 45 = .ok (.iload_n 2, 1) := by decide +kernel
theorem dX7_go_46 : decode cX7_go 46 = .ok (.if_icmp .ge 20, 3) := by decide +kernel
theorem dX7_go_49 : decode cX7_go 49 = .ok (.aload_n 0, 1) := by decide +kernel
theorem dX7_go_50 : decode cX7_go 50 = .ok (.getfield 19, 3) := by decide +kernel
theorem dX7_go_53 : decode cX7_go 53 = .ok (.aload_n 0, 1) := by decide +kernel
theorem dX7_go_54 : decode cX7_go 54 = .ok (.getfield 62, 3) := by decide +kernel
theorem dX7_go_57 : decode cX7_go 57 = .ok (.invokevirtual 153, 3) := by decide +kernel
theorem dX7_go_60 : decode cX7_go 60 = .ok (.iinc 3 1, 3) := by decide +kernel
theorem dX7_go_63 : decode cX7_go 63 = .ok (.goto (-19), 3) := by decide +kernel
theorem dX7_go_66 : decode cX7_go 66 = .ok (.iload_n 2, 1) := by decide +kernel
theorem dX7_go_67 : decode cX7_go 67 = .ok (.ireturn, 1) := by decide +kernel
theorem dX7_anew_0 : decode cX7_anew 0 = .ok (.aload_n 0, 1) := by decide +kernel
theorem dX7_anew_1 : decode cX7_anew 1 = .ok (.getfield 19, 3) := by decide +kernel
theorem dX7_anew_4 : decode cX7_anew 4 = .ok (.getfield 145, 3) := by decide +kernel
theorem dX7_anew_7 : decode cX7_anew 7 = .ok (.istore_n 1, 1) := by decide +kernel
theorem dX7_anew_8 : decode cX7_anew 8 = .ok (.aload_n 0, 1) := by decide +kernel
theorem dX7_anew_9 : decode cX7_anew 9 = .ok (.getfield 19, 3) := by decide +kernel
theorem dX7_anew_12 : decode cX7_anew 12 = .ok (.aload_n 0, 1) := by decide +kernel
theorem dX7_anew_13 : decode cX7_anew 13 = .ok (.getfield 62, 3) := by decide +kernel
theorem dX7_anew_16 : decode cX7_anew 16 = .ok (.invokevirtual 102, 3) := by decide +kernel
theorem dX7_anew_19 : decode cX7_anew 19 = .ok (.iload_n 1, 1) := by decide +kernel
theorem dX7_anew_20 : decode cX7_anew 20 = .ok (.ireturn, 1) := by decide +kernel
theorem dX7_share_0 : decode cX7_share 0 = .ok (.aload_n 0, 1) := by decide +kernel
theorem dX7_share_1 : decode cX7_share 1 = .ok (.iload_n 1, 1) := by decide +kernel
theorem dX7_share_2 : decode cX7_share 2 = .ok (.invokevirtual 126, 3) := by decide +kernel
theorem dX7_share_5 : decode cX7_share 5 = .ok (.ifCond .eq 18, 3) := by decide +kernel
theorem dX7_share_8 : decode cX7_share 8 = .ok (.aload_n 0, 1) := by decide +kernel
theorem dX7_share_9 : decode cX7_share 9 = .ok (.iload_n 2, 1) := by decide +kernel
theorem dX7_share_10 : decode cX7_share 10 = .ok (.invokevirtual 118, 3) := by decide +kernel
theorem dX7_share_13 : decode cX7_share 13 = .ok (.ifCond .eq 10, 3) := by decide +kernel
theorem dX7_share_16 : decode cX7_share 16 = .ok (.iload_n 3, 1) := by decide +kernel
theorem dX7_share_17 : decode cX7_share 17 = .ok (.invokestatic 156, 3) := by decide +kernel
theorem dX7_share_20 : decode cX7_share 20 = .ok (.ifCond .ne 5, 3) := by decide +kernel
theorem dX7_share_23 : decode cX7_share 23 = .ok (.iconst (-1), 1) := by decide +kernel
theorem dX7_share_24 : decode cX7_share 24 = .ok (.ireturn, 1) := by decide +kernel
theorem dX7_share_25 : decode cX7_share 25 = .ok (.aload_n 0, 1) := by decide +kernel
theorem dX7_share_26 : decode cX7_share 26 = .ok (.getfield 19, 3) := by decide +kernel
theorem dX7_share_29 : decode cX7_share 29 = .ok (.getfield 159, 3) := by decide +kernel
theorem dX7_share_32 : decode cX7_share 32 = .ok (.iload_n 1, 1) := by decide +kernel
theorem dX7_share_33 : decode cX7_share 33 = .ok (.aaload, 1) := by decide +kernel
theorem dX7_share_34 : decode cX7_share 34 = .ok (.getfield 163, 3) := by decide +kernel
theorem dX7_share_37 : decode cX7_share 37 = .ok (.iload_n 2, 1) := by decide +kernel
theorem dX7_share_38 : decode cX7_share 38 = .ok (.aaload, 1) := by decide +kernel
theorem dX7_share_39 : decode cX7_share 39 = .ok (.iload_n 3, 1) := by decide +kernel
theorem dX7_share_40 : decode cX7_share 40 = .ok (.iaload, 1) := by decide +kernel
theorem dX7_share_41 : decode cX7_share 41 = .ok (.ireturn, 1) := by decide +kernel
theorem dX7_has_0 : decode cX7_has 0 = .ok (.aload_n 0, 1) := by decide +kernel
theorem dX7_has_1 : decode cX7_has 1 = .ok (.iload_n 1, 1) := by decide +kernel
theorem dX7_has_2 : decode cX7_has 2 = .ok (.invokevirtual 126, 3) := by decide +kernel
theorem dX7_has_5 : decode cX7_has 5 = .ok (.ifCond .eq 12, 3) := by decide +kernel
theorem dX7_has_8 : decode cX7_has 8 = .ok (.iload_n 3, 1) := by decide +kernel
theorem dX7_has_9 : decode cX7_has 9 = .ok (.iconst 0, 1) := by decide +kernel
theorem dX7_has_10 : decode cX7_has 10 = .ok (.iconst 2, 1) := by decide +kernel
theorem dX7_has_11 : decode cX7_has 11 = .ok (.invokestatic 80, 3) := by decide +kernel
theorem dX7_has_14 : decode cX7_has 14 = .ok (.ifCond .ne 5, 3) := by decide +kernel
theorem dX7_has_17 : decode cX7_has 17 = .ok (.iconst (-1), 1) := by decide +kernel
theorem dX7_has_18 : decode cX7_has 18 = .ok (.ireturn, 1) := by decide +kernel
theorem dX7_has_19 : decode cX7_has 19 = .ok (.iload_n 2, 1) := by decide +kernel
theorem dX7_has_20 : decode cX7_has 20 = .ok (.iconst (-1), 1) := by decide +kernel
theorem dX7_has_21 : decode cX7_has 21 = .ok (.if_icmp .ne 10, 3) := by decide +kernel
theorem dX7_has_24 : decode cX7_has 24 = .ok (.aload_n 0, 1) := by decide +kernel
theorem dX7_has_25 : decode cX7_has 25 = .ok (.iload_n 1, 1) := by decide +kernel
theorem dX7_has_26 : decode cX7_has 26 = .ok (.iload_n 3, 1) := by decide +kernel
theorem dX7_has_27 : decode cX7_has 27 = .ok (.invokevirtual 167, 3) := by decide +kernel
theorem dX7_has_30 : decode cX7_has 30 = .ok (.ireturn, 1) := by decide +kernel
theorem dX7_has_31 : decode cX7_has 31 = .ok (.aload_n 0, 1) := by decide +kernel
theorem dX7_has_32 : decode cX7_has 32 = .ok (.iload_n 2, 1) := by decide +kernel
theorem dX7_has_33 : decode cX7_has 33 = .ok (.invokevirtual 118, 3) := by decide +kernel
theorem dX7_has_36 : decode cX7_has 36 = .ok (.ifCond .eq 20, 3) := by decide +kernel
theorem dX7_has_39 : decode cX7_has 39 = .ok (.aload_n 0, 1) := by decide +kernel
theorem dX7_has_40 : decode cX7_has 40 = .ok (.getfield 19, 3) := by decide +kernel
theorem dX7_has_43 : decode cX7_has 43 = .ok (.getfield 159, 3) := by decide +kernel
theorem dX7_has_46 : decode cX7_has 46 = .ok (.iload_n 1, 1) := by decide +kernel
theorem dX7_has_47 : decode cX7_has 47 = .ok (.aaload, 1) := by decide +kernel
theorem dX7_has_48 : decode cX7_has 48 = .ok (.iload_n 2, 1) := by decide +kernel
theorem dX7_has_49 : decode cX7_has 49 = .ok (.iload_n 3, 1) := by decide +kernel
theorem dX7_has_50 : decode cX7_has 50 = .ok (.invokevirtual 170, 3) := by decide +kernel
theorem dX7_has_53 : decode cX7_has 53 = .ok (.goto 4, 3) := by decide +kernel
theorem dX7_has_56 : decode cX7_has 56 = .ok (.iconst (-1), 1) := by decide +kernel
theorem dX7_has_57 : decode cX7_has 57 = .ok (.ireturn, 1) := by decide +kernel
theorem dX7_song_0 : decode cX7_song 0 = .ok (.aload_n 0, 1) := by decide +kernel
theorem dX7_song_1 : decode cX7_song 1 = .ok (.iload_n 1, 1) := by decide +kernel
theorem dX7_song_2 : decode cX7_song 2 = .ok (.invokevirtual 126, 3) := by decide +kernel
theorem dX7_song_5 : decode cX7_song 5 = .ok (.ifCond .eq 21, 3) := by decide +kernel
theorem dX7_song_8 : decode cX7_song 8 = .ok (.aload_n 0, 1) := by decide +kernel
theorem dX7_song_9 : decode cX7_song 9 = .ok (.iload_n 2, 1) := by decide +kernel
theorem dX7_song_10 : decode cX7_song 10 = .ok (.invokevirtual 118, 3) := by decide +kernel
theorem dX7_song_13 : decode cX7_song 13 = .ok (.ifCond .eq 13, 3) := by decide +kernel
theorem dX7_song_16 : decode cX7_song 16 = .ok (.iload_n 3, 1) := by decide +kernel
theorem dX7_song_17 : decode cX7_song 17 = .ok (.iconst 1, 1) := by decide +kernel
theorem dX7_song_18 : decode cX7_song 18 = .ok (.bipush 99, 2) := by decide +kernel
theorem dX7_song_20 : decode cX7_song 20 = .ok (.invokestatic 80, 3) := by decide +kernel
theorem dX7_song_23 : decode cX7_song 23 = .ok (.ifCond .ne 5, 3) := by decide +kernel
theorem dX7_song_26 : decode cX7_song 26 = .ok (.iconst (-1), 1) := by decide +kernel
theorem dX7_song_27 : decode cX7_song 27 = .ok (.ireturn, 1) := by decide +kernel
theorem dX7_song_28 : decode cX7_song 28 = .ok (.aload_n 0, 1) := by decide +kernel
theorem dX7_song_29 : decode cX7_song 29 = .ok (.iload_n 1, 1) := by decide +kernel
theorem dX7_song_30 : decode cX7_song 30 = .ok (.invokevirtual 142, 3) := by decide +kernel
theorem dX7_song_33 : decode cX7_song 33 = .ok (.ifCond .ne 6, 3) := by decide +kernel
theorem dX7_song_36 : decode cX7_song 36 = .ok (.bipush (-2), 2) := by decide +kernel
theorem dX7_song_38 : decode cX7_song 38 = .ok (.ireturn, 1) := by decide +kernel
theorem dX7_song_39 : decode cX7_song 39 = .ok (.aload_n 0, 1) := by decide +kernel
theorem dX7_song_40 : decode cX7_song 40 = .ok (.getfield 19, 3) := by decide +kernel
theorem dX7_song_43 : decode cX7_song 43 = .ok (.getfield 173, 3) := by decide +kernel
theorem dX7_song_46 : decode cX7_song 46 = .ok (.getfield 176, 3) := by decide +kernel
theorem dX7_song_49 : decode cX7_song 49 = .ok (.bipush 10, 2) := by decide +kernel
theorem dX7_song_51 : decode cX7_song 51 = .ok (.if_icmp .lt 6, 3) := by decide +kernel
theorem dX7_song_54 : decode cX7_song 54 = .ok (.bipush (-3), 2) := by decide +kernel
theorem dX7_song_56 : decode cX7_song 56 = .ok (.ireturn, 1) := by decide +kernel
theorem dX7_song_57 : decode cX7_song 57 = .ok (.aload_n 0, 1) := by decide +kernel
theorem dX7_song_58 : decode cX7_song 58 = .ok (.getfield 19, 3) := by decide +kernel
theorem dX7_song_61 : decode cX7_song 61 = .ok (.getfield 173, 3) := by decide +kernel
theorem dX7_song_64 : decode cX7_song 64 = .ok (.aload_n 0, 1) := by decide +kernel
theorem dX7_song_65 : decode cX7_song 65 = .ok (.getfield 19, 3) := by decide +kernel
theorem dX7_song_68 : decode cX7_song 68 = .ok (.getfield 145, 3) := by decide +kernel
theorem dX7_song_71 : decode cX7_song 71 = .ok (.iload_n 1, 1) := by decide +kernel
theorem dX7_song_72 : decode cX7_song 72 = .ok (.iload_n 2, 1) := by decide +kernel
theorem dX7_song_73 : decode cX7_song 73 = .ok (.iload_n 3, 1) := by decide +kernel
theorem dX7_song_74 : decode cX7_song 74 = .ok (.invokevirtual 177, 3) := by decide +kernel
theorem dX7_song_77 : decode cX7_song 77 = .ok (.aload_n 0, 1) := by decide +kernel
theorem dX7_song_78 : decode cX7_song 78 = .ok (.getfield 19, 3) := by decide +kernel
theorem dX7_song_81 : decode cX7_song 81 = .ok (.getfield 159, 3) := by decide +kernel
theorem dX7_song_84 : decode cX7_song 84 = .ok (.iload_n 1, 1) := by decide +kernel
theorem dX7_song_85 : decode cX7_song 85 = .ok (.aaload, 1) := by decide +kernel
theorem dX7_song_86 : decode cX7_song 86 = .ok (.iload_n 2, 1) := by decide +kernel
theorem dX7_song_87 : decode cX7_song 87 = .ok (.bipush 13, 2) := by decide +kernel
theorem dX7_song_89 : decode cX7_song 89 = .ok (.bipush 19, 2) := by decide +kernel
theorem dX7_song_91 : decode cX7_song 91 = .ok (.bipush 10, 2) := by decide +kernel
theorem dX7_song_93 : decode cX7_song 93 = .ok (.iload_n 3, 1) := by decide +kernel
theorem dX7_song_94 : decode cX7_song 94 = .ok (.imul, 1) := by decide +kernel
theorem dX7_song_95 : decode cX7_song 95 = .ok (.invokevirtual 181, 3) := by decide +kernel
theorem dX7_song_98 : decode cX7_song 98 = .ok (.aload_n 0, 1) := by decide +kernel
theorem dX7_song_99 : decode cX7_song 99 = .ok (.getfield 19, 3) := by decide +kernel
theorem dX7_song_102 : decode cX7_song 102 = .ok (.getfield 159, 3) := by decide +kernel
theorem dX7_song_105 : decode cX7_song 105 = .ok (.iload_n 1, 1) := by decide +kernel
theorem dX7_song_106 : decode cX7_song 106 = .ok (.aaload, 1) := by decide +kernel
theorem dX7_song_107 : decode cX7_song 107 = .ok (.aload_n 0, 1) := by decide +kernel
theorem dX7_song_108 : decode cX7_song 108 = .ok (.getfield 62, 3) := by decide +kernel
theorem dX7_song_111 : decode cX7_song 111 = .ok (.getfield 184, 3) := by decide +kernel
theorem dX7_song_114 : decode cX7_song 114 = .ok (.aload_n 0, 1) := by decide +kernel
theorem dX7_song_115 : decode cX7_song 115 = .ok (.getfield 19, 3) := by decide +kernel
theorem dX7_song_118 : decode cX7_song 118 = .ok (.getfield 145, 3) := by decide +kernel
theorem dX7_song_121 : decode cX7_song 121 = .ok (.invokevirtual 187, 3) := by decide +kernel
theorem dX7_song_124 : decode cX7_song 124 = .ok (.aload_n 0, 1) := by decide +kernel
theorem dX7_song_125 : decode cX7_song 125 = .ok (.getfield 19, 3) := by decide +kernel
theorem dX7_song_128 : decode cX7_song 128 = .ok (.getfield 173, 3) := by decide +kernel
theorem dX7_song_131 : decode cX7_song 131 = .ok (.getfield 176, 3) := by decide +kernel
theorem dX7_song_134 : decode cX7_song 134 = .ok (.ireturn, 1) := by decide +kernel
theorem dX7_life_0 : decode cX7_life 0 = .ok (.aload_n 0, 1) := by decide +kernel
theorem dX7_life_1 : decode cX7_life 1 = .ok (.iload_n 1, 1) := by decide +kernel
theorem dX7_life_2 : decode cX7_life 2 = .ok (.invokevirtual 126, 3) := by decide +kernel
theorem dX7_life_5 : decode cX7_life 5 = .ok (.ifCond .eq 12, 3) := by decide +kernel
theorem dX7_life_8 : decode cX7_life 8 = .ok (.iload_n 2, 1) := by decide +kernel
theorem dX7_life_9 : decode cX7_life 9 = .ok (.iconst 0, 1) := by decide +kernel
theorem dX7_life_10 : decode cX7_life 10 = .ok (.iconst 3, 1) := by decide +kernel
theorem dX7_life_11 : decode cX7_life 11 = .ok (.invokestatic 80, 3) := by decide +kernel
theorem dX7_life_14 : decode cX7_life 14 = .ok (.ifCond .ne 5, 3) := by decide +kernel
theorem dX7_life_17 : decode cX7_life 17 = .ok (.iconst (-1), 1) := by decide +kernel
theorem dX7_life_18 : decode cX7_life 18 = .ok (.ireturn, 1) := by decide +kernel
theorem dX7_life_19 : decode cX7_life 19 = .ok (.aload_n 0, 1) := by decide +kernel
theorem dX7_life_20 : decode cX7_life 20 = .ok (.iload_n 1, 1) := by decide +kernel
theorem dX7_life_21 : decode cX7_life 21 = .ok (.invokevirtual 142, 3) := by decide +kernel
theorem dX7_life_24 : decode cX7_life 24 = .ok (.ifCond .ne 6, 3) := by decide +kernel
theorem dX7_life_27 : decode cX7_life 27 = .ok (.bipush (-2), 2) := by decide +kernel
theorem dX7_life_29 : decode cX7_life 29 = .ok (.ireturn, 1) := by decide +kernel
theorem dX7_life_30 : decode cX7_life 30 = .ok (.aload_n 0, 1) := by decide +kernel
theorem dX7_life_31 : decode cX7_life 31 = .ok (.getfield 19, 3) := by decide +kernel
theorem dX7_life_34 : decode cX7_life 34 = .ok (.getfield 159, 3) := by decide +kernel
theorem dX7_life_37 : decode cX7_life 37 = .ok (.iload_n 1, 1) := by decide +kernel
theorem dX7_life_38 : decode cX7_life 38 = .ok (.aaload, 1) := by decide +kernel
theorem dX7_life_39 : decode cX7_life 39 = .ok (.astore_n 3, 1) := by decide +kernel
theorem dX7_life_40 : decode cX7_life 40 = .ok (.iload_n 2, 1) := by decide +kernel
theorem dX7_life_41 : decode cX7_life 41 = .ok (.tableswitch 63 0 2 #[27, 39, 51], 27) := by decide +kernel
theorem dX7_life_68 : decode cX7_life 68 = .ok (.aload_n 3, 1) := by decide +kernel
theorem dX7_life_69 : decode cX7_life 69 = .ok (.aload_n 0, 1) := by decide +kernel
theorem dX7_life_70 : decode cX7_life 70 = .ok (.getfield 19, 3) := by decide +kernel
theorem dX7_life_73 : decode cX7_life 73 = .ok (.getfield 145, 3) := by decide +kernel
theorem dX7_life_76 : decode cX7_life 76 = .ok (.invokevirtual 191, 3) := by decide +kernel
theorem dX7_life_79 : decode cX7_life 79 = .ok (.ireturn, 1) := by decide +kernel
theorem dX7_life_80 : decode cX7_life 80 = .ok (.aload_n 3, 1) := by decide +kernel
theorem dX7_life_81 : decode cX7_life 81 = .ok (.aload_n 0, 1) := by decide +kernel
theorem dX7_life_82 : decode cX7_life 82 = .ok (.getfield 19, 3) := by decide +kernel
theorem dX7_life_85 : decode cX7_life 85 = .ok (.getfield 145, 3) := by decide +kernel
theorem dX7_life_88 : decode cX7_life 88 = .ok (.invokevirtual 195, 3) := by decide +kernel
theorem dX7_life_91 : decode cX7_life 91 = .ok (.ireturn, 1) := by decide +kernel
theorem dX7_life_92 : decode cX7_life 92 = .ok (.aload_n 3, 1) := by decide +kernel
theorem dX7_life_93 : decode cX7_life 93 = .ok (.aload_n 0, 1) := by decide +kernel
theorem dX7_life_94 : decode cX7_life 94 = .ok (.getfield 19, 3) := by decide +kernel
theorem dX7_life_97 : decode cX7_life 97 = .ok (.getfield 145, 3) := by decide +kernel
theorem dX7_life_100 : decode cX7_life 100 = .ok (.invokevirtual 198, 3) := by decide +kernel
theorem dX7_life_103 : decode cX7_life 103 = .ok (.ireturn, 1) := by decide +kernel
theorem dX7_life_104 : decode cX7_life 104 = .ok (.aload_n 3, 1) := by decide +kernel
theorem dX7_life_105 : decode cX7_life 105 = .ok (.aload_n 0, 1) := by decide +kernel
theorem dX7_life_106 : decode cX7_life 106 = .ok (.getfield 62, 3) := by decide +kernel
theorem dX7_life_109 : decode cX7_life 109 = .ok (.getfield 184, 3) := by decide +kernel
theorem dX7_life_112 : decode cX7_life 112 = .ok (.invokevirtual 201, 3) := by decide +kernel
theorem dX7_life_115 : decode cX7_life 115 = .ok (.ireturn, 1) := by decide +kernel
theorem dX7_printed_0 : decode cX7_printed 0 = .ok (.aload_n 0, 1) := by decide +kernel
theorem dX7_printed_1 : decode cX7_printed 1 = .ok (.iload_n 1, 1) := by decide +kernel
theorem dX7_printed_2 : decode cX7_printed 2 = .ok (.invokevirtual 126, 3) := by decide +kernel
theorem dX7_printed_5 : decode cX7_printed 5 = .ok (.ifCond .eq 12, 3) := by decide +kernel
theorem dX7_printed_8 : decode cX7_printed 8 = .ok (.iload_n 2, 1) := by decide +kernel
theorem dX7_printed_9 : decode cX7_printed 9 = .ok (.iconst 0, 1) := by decide +kernel
theorem dX7_printed_10 : decode cX7_printed 10 = .ok (.iconst 1, 1) := by decide +kernel
theorem dX7_printed_11 : decode cX7_printed 11 = .ok (.invokestatic 80, 3) := by decide +kernel
theorem dX7_printed_14 : decode cX7_printed 14 = .ok (.ifCond .ne 5, 3) := by decide +kernel
theorem dX7_printed_17 : decode cX7_printed 17 = .ok (.iconst (-1), 1) := by decide +kernel
theorem dX7_printed_18 : decode cX7_printed 18 = .ok (.ireturn, 1) := by decide +kernel
theorem dX7_printed_19 : decode cX7_printed 19 = .ok (.aload_n 0, 1) := by decide +kernel
theorem dX7_printed_20 : decode cX7_printed 20 = .ok (.getfield 19, 3) := by decide +kernel
theorem dX7_printed_23 : decode cX7_printed 23 = .ok (.getfield 159, 3) := by decide +kernel
theorem dX7_printed_26 : decode cX7_printed 26 = .ok (.iload_n 1, 1) := by decide +kernel
theorem dX7_printed_27 : decode cX7_printed 27 = .ok (.aaload, 1) := by decide +kernel
theorem dX7_printed_28 : decode cX7_printed 28 = .ok (.aload_n 0, 1) := by decide +kernel
theorem dX7_printed_29 : decode cX7_printed 29 = .ok (.getfield 19, 3) := by decide +kernel
theorem dX7_printed_32 : decode cX7_printed 32 = .ok (.getfield 145, 3) := by decide +kernel
theorem dX7_printed_35 : decode cX7_printed 35 = .ok (.invokevirtual 204, 3) := by decide +kernel
theorem dX7_printed_38 : decode cX7_printed 38 = .ok (.istore_n 3, 1) := by decide +kernel
theorem dX7_printed_39 : decode cX7_printed 39 = .ok (.iload_n 3, 1) := by decide +kernel
theorem dX7_printed_40 : decode cX7_printed 40 = .ok (.bipush (-9), 2) := by decide +kernel
theorem dX7_printed_42 : decode cX7_printed 42 = .ok (.if_icmp .ne 6, 3) := by decide +kernel
theorem dX7_printed_45 : decode cX7_printed 45 = .ok (.bipush (-9), 2) := by decide +kernel
theorem dX7_printed_47 : decode cX7_printed 47 = .ok (.ireturn, 1) := by decide +kernel
theorem dX7_printed_48 : decode cX7_printed 48 = .ok (.iload_n 2, 1) := by decide +kernel
theorem dX7_printed_49 : decode cX7_printed 49 = .ok (.ifCond .ne 12, 3) := by decide +kernel
theorem dX7_printed_52 : decode cX7_printed 52 = .ok (.iload_n 3, 1) := by decide +kernel
theorem dX7_printed_53 : decode cX7_printed 53 = .ok (.aload_n 0, 1) := by decide +kernel
theorem dX7_printed_54 : decode cX7_printed 54 = .ok (.getfield 69, 3) := by decide +kernel
theorem dX7_printed_57 : decode cX7_printed 57 = .ok (.iadd, 1) := by decide +kernel
theorem dX7_printed_58 : decode cX7_printed 58 = .ok (.goto 19, 3) := by decide +kernel
theorem dX7_printed_61 : decode cX7_printed 61 = .ok (.iload_n 3, 1) := by decide +kernel
theorem dX7_printed_62 : decode cX7_printed 62 = .ok (.aload_n 0, 1) := by decide +kernel
theorem dX7_printed_63 : decode cX7_printed 63 = .ok (.getfield 69, 3) := by decide +kernel
theorem dX7_printed_66 : decode cX7_printed 66 = .ok (.iadd, 1) := by decide +kernel
theorem dX7_printed_67 : decode cX7_printed 67 = .ok (.aload_n 0, 1) := by decide +kernel
theorem dX7_printed_68 : decode cX7_printed 68 = .ok (.getfield 62, 3) := by decide +kernel
theorem dX7_printed_71 : decode cX7_printed 71 = .ok (.getfield 133, 3) := by decide +kernel
theorem dX7_printed_74 : decode cX7_printed 74 = .ok (.iload_n 1, 1) := by decide +kernel
theorem dX7_printed_75 : decode cX7_printed 75 = .ok (.iaload, 1) := by decide +kernel
theorem dX7_printed_76 : decode cX7_printed 76 = .ok (.isub, 1) := by decide +kernel
theorem dX7_printed_77 : decode cX7_printed 77 = .ok (.ireturn, 1) := by decide +kernel
theorem dX7_old_0 : decode cX7_old 0 = .ok (.iload_n 3, 1) := by decide +kernel
theorem dX7_old_1 : decode cX7_old 1 = .ok (.invokestatic 156, 3) := by decide +kernel
theorem dX7_old_4 : decode cX7_old 4 = .ok (.ifCond .eq 27, 3) := by decide +kernel
theorem dX7_old_7 : decode cX7_old 7 = .ok (.iload 4, 2) := by decide +kernel
theorem dX7_old_9 : decode cX7_old 9 = .ok (.invokestatic 156, 3) := by decide +kernel
theorem dX7_old_12 : decode cX7_old 12 = .ok (.ifCond .eq 19, 3) := by decide +kernel
theorem dX7_old_15 : decode cX7_old 15 = .ok (.iload_n 3, 1) := by decide +kernel
theorem dX7_old_16 : decode cX7_old 16 = .ok (.iload 4, 2) := by decide +kernel
theorem dX7_old_18 : decode cX7_old 18 = .ok (.if_icmp .gt 13, 3) := by decide +kernel
theorem dX7_old_21 : decode cX7_old 21 = .ok (.iload 5, 2) := by decide +kernel
theorem dX7_old_23 : decode cX7_old 23 = .ok (.iconst 0, 1) := by decide +kernel
theorem dX7_old_24 : decode cX7_old 24 = .ok (.iconst 1, 1) := by decide +kernel
theorem dX7_old_25 : decode cX7_old 25 = .ok (.invokestatic 80, 3) := by decide +kernel
theorem dX7_old_28 : decode cX7_old 28 = .ok (.ifCond .ne 7, 3) := by decide +kernel
theorem dX7_old_31 : decode cX7_old 31 = .ok (.ldc2_w 207, 3) := by decide +kernel
theorem dX7_old_34 : decode cX7_old 34 = .ok (.lreturn, 1) := by decide +kernel
theorem dX7_old_35 : decode cX7_old 35 = .ok (.aload_n 0, 1) := by decide +kernel
theorem dX7_old_36 : decode cX7_old 36 = .ok (.iload_n 1, 1) := by decide +kernel
theorem dX7_old_37 : decode cX7_old 37 = .ok (.iload_n 2, 1) := by decide +kernel
theorem dX7_old_38 : decode cX7_old 38 = .ok (.bipush 10, 2) := by decide +kernel
theorem dX7_old_40 : decode cX7_old 40 = .ok (.bipush 69, 2) := by decide +kernel
theorem dX7_old_42 : decode cX7_old 42 = .ok (.invokevirtual 209, 3) := by decide +kernel
theorem dX7_old_45 : decode cX7_old 45 = .ok (.lstore 6, 2) := by decide +kernel
theorem dX7_old_47 : decode cX7_old 47 = .ok (.lload 6, 2) := by decide +kernel
theorem dX7_old_49 : decode cX7_old 49 = .ok (.lconst 0, 1) := by decide +kernel
theorem dX7_old_50 : decode cX7_old 50 = .ok (.lcmp, 1) := by decide +kernel
theorem dX7_old_51 : decode cX7_old 51 = .ok (.ifCond .ne 7, 3) := by decide +kernel
theorem dX7_old_54 : decode cX7_old 54 = .ok (.ldc2_w 213, 3) := by decide +kernel
theorem dX7_old_57 : decode cX7_old 57 = .ok (.lreturn, 1) := by decide +kernel
theorem dX7_old_58 : decode cX7_old 58 = .ok (.aload_n 0, 1) := by decide +kernel
theorem dX7_old_59 : decode cX7_old 59 = .ok (.iload_n 1, 1) := by decide +kernel
theorem dX7_old_60 : decode cX7_old 60 = .ok (.iload_n 2, 1) := by decide +kernel
theorem dX7_old_61 : decode cX7_old 61 = .ok (.iload_n 3, 1) := by decide +kernel
theorem dX7_old_62 : decode cX7_old 62 = .ok (.iload 4, 2) := by decide +kernel
theorem dX7_old_64 : decode cX7_old 64 = .ok (.invokevirtual 209, 3) := by decide +kernel
theorem dX7_old_67 : decode cX7_old 67 = .ok (.lload 6, 2) := by decide +kernel
theorem dX7_old_69 : decode cX7_old 69 = .ok (.iload 5, 2) := by decide +kernel
theorem dX7_old_71 : decode cX7_old 71 = .ok (.invokestatic 215, 3) := by decide +kernel
theorem dX7_old_74 : decode cX7_old 74 = .ok (.lreturn, 1) := by decide +kernel
theorem dX7_likeliest_0 : decode cX7_likeliest 0 = .ok (.iload_n 3, 1) := by decide +kernel
theorem dX7_likeliest_1 : decode cX7_likeliest 1 = .ok (.iconst 0, 1) := by decide +kernel
theorem dX7_likeliest_2 : decode cX7_likeliest 2 = .ok (.iconst 1, 1) := by decide +kernel
theorem dX7_likeliest_3 : decode cX7_likeliest 3 = .ok (.invokestatic 80, 3) := by decide +kernel
theorem dX7_likeliest_6 : decode cX7_likeliest 6 = .ok (.ifCond .ne 5, 3) := by decide +kernel
theorem dX7_likeliest_9 : decode cX7_likeliest 9 = .ok (.iconst (-1), 1) := by decide +kernel
theorem dX7_likeliest_10 : decode cX7_likeliest 10 = .ok (.ireturn, 1) := by decide +kernel
theorem dX7_likeliest_11 : decode cX7_likeliest 11 = .ok (.lconst 0, 1) := by decide +kernel
theorem dX7_likeliest_12 : decode cX7_likeliest 12 = .ok (.lstore 4, 2) := by decide +kernel
theorem dX7_likeliest_14 : decode cX7_likeliest 14 = .ok (.bipush (-2), 2) := by decide +kernel
theorem dX7_likeliest_16 : decode cX7_likeliest 16 = .ok (.istore 6, 2) := by decide +kernel
theorem dX7_likeliest_18 : decode cX7_likeliest 18 = .ok (.bipush (-2), 2) := by decide +kernel
theorem dX7_likeliest_20 : decode cX7_likeliest 20 = .ok (.istore 7, 2) := by decide +kernel
theorem dX7_likeliest_22 : decode cX7_likeliest 22 = .ok (.bipush 10, 2) := by decide +kernel
theorem dX7_likeliest_24 : decode cX7_likeliest 24 = .ok (.istore 8, 2) := by decide +kernel
theorem dX7_likeliest_26 : decode cX7_likeliest 26 = .ok (.iload 8, 2) := by decide +kernel
theorem dX7_likeliest_28 : decode cX7_likeliest 28 = .ok (.bipush 69, 2) := by decide +kernel
theorem dX7_likeliest_30 : decode cX7_likeliest 30 = .ok (.if_icmp .gt 62, 3) := by decide +kernel
theorem dX7_likeliest_33 : decode cX7_likeliest 33 = .ok (.iconst 0, 1) := by decide +kernel
theorem dX7_likeliest_34 : decode cX7_likeliest 34 = .ok (.istore 9, 2) := by decide +kernel
theorem dX7_likeliest_36 : decode cX7_likeliest 36 = .ok (.iload 9, 2) := by decide +kernel
theorem dX7_likeliest_38 : decode cX7_likeliest 38 = .ok (.aload_n 0, 1) := by decide +kernel
theorem dX7_likeliest_39 : decode cX7_likeliest 39 = .ok (.getfield 62, 3) := by decide +kernel
theorem dX7_likeliest_42 : decode cX7_likeliest 42 = .ok (.getfield 184, 3) := by decide +kernel
theorem dX7_likeliest_45 : decode cX7_likeliest 45 = .ok (.if_icmp .ge 41, 3) := by decide +kernel
theorem dX7_likeliest_48 : decode cX7_likeliest 48 = .ok (.aload_n 0, 1) := by decide +kernel
theorem dX7_likeliest_49 : decode cX7_likeliest 49 = .ok (.iload_n 1, 1) := by decide +kernel
theorem dX7_likeliest_50 : decode cX7_likeliest 50 = .ok (.iload_n 2, 1) := by decide +kernel
theorem dX7_likeliest_51 : decode cX7_likeliest 51 = .ok (.iload 8, 2) := by decide +kernel
theorem dX7_likeliest_53 : decode cX7_likeliest 53 = .ok (.iload 9, 2) := by decide +kernel
theorem dX7_likeliest_55 : decode cX7_likeliest 55 = .ok (.invokevirtual 219, 3) := by decide +kernel
theorem dX7_likeliest_58 : decode cX7_likeliest 58 = .ok (.lstore 10, 2) := by decide +kernel
theorem dX7_likeliest_60 : decode cX7_likeliest 60 = .ok (.lload 10, 2) := by decide +kernel
theorem dX7_likeliest_62 : decode cX7_likeliest 62 = .ok (.lload 4, 2) := by decide +kernel
theorem dX7_likeliest_64 : decode cX7_likeliest 64 = .ok (.lcmp, 1) := by decide +kernel
theorem dX7_likeliest_65 : decode cX7_likeliest 65 = .ok (.ifCond .le 15, 3) := by decide +kernel
theorem dX7_likeliest_68 : decode cX7_likeliest 68 = .ok (.lload 10, 2) := by decide +kernel
theorem dX7_likeliest_70 : decode cX7_likeliest 70 = .ok (.lstore 4, 2) := by decide +kernel
theorem dX7_likeliest_72 : decode cX7_likeliest 72 = .ok (.iload 8, 2) := by decide +kernel
theorem dX7_likeliest_74 : decode cX7_likeliest 74 = .ok (.istore 6, 2) := by decide +kernel
theorem dX7_likeliest_76 : decode cX7_likeliest 76 = .ok (.iload 9, 2) := by decide +kernel
theorem dX7_likeliest_78 : decode cX7_likeliest 78 = .ok (.istore 7, 2) := by decide +kernel
theorem dX7_likeliest_80 : decode cX7_likeliest 80 = .ok (.iinc 9 1, 3) := by decide +kernel
theorem dX7_likeliest_83 : decode cX7_likeliest 83 = .ok (.goto (-47), 3) := by decide +kernel
theorem dX7_likeliest_86 : decode cX7_likeliest 86 = .ok (.iinc 8 1, 3) := by decide +kernel
theorem dX7_likeliest_89 : decode cX7_likeliest 89 = .ok (.goto (-63), 3) := by decide +kernel
theorem dX7_likeliest_92 : decode cX7_likeliest 92 = .ok (.iload_n 3, 1) := by decide +kernel
theorem dX7_likeliest_93 : decode cX7_likeliest 93 = .ok (.ifCond .ne 8, 3) := by decide +kernel
theorem dX7_likeliest_96 : decode cX7_likeliest 96 = .ok (.iload 6, 2) := by decide +kernel
theorem dX7_likeliest_98 : decode cX7_likeliest 98 = .ok (.goto 5, 3) := by decide +kernel
theorem dX7_likeliest_101 : decode cX7_likeliest 101 = .ok (.iload 7, 2) := by decide +kernel
theorem dX7_likeliest_103 : decode cX7_likeliest 103 = .ok (.ireturn, 1) := by decide +kernel
theorem dX7_letter_0 : decode cX7_letter 0 = .ok (.iload_n 2, 1) := by decide +kernel
theorem dX7_letter_1 : decode cX7_letter 1 = .ok (.iconst 0, 1) := by decide +kernel
theorem dX7_letter_2 : decode cX7_letter 2 = .ok (.aload_n 0, 1) := by decide +kernel
theorem dX7_letter_3 : decode cX7_letter 3 = .ok (.getfield 19, 3) := by decide +kernel
theorem dX7_letter_6 : decode cX7_letter 6 = .ok (.getfield 145, 3) := by decide +kernel
theorem dX7_letter_9 : decode cX7_letter 9 = .ok (.invokestatic 80, 3) := by decide +kernel
theorem dX7_letter_12 : decode cX7_letter 12 = .ok (.ifCond .eq 19, 3) := by decide +kernel
theorem dX7_letter_15 : decode cX7_letter 15 = .ok (.iload_n 3, 1) := by decide +kernel
theorem dX7_letter_16 : decode cX7_letter 16 = .ok (.invokestatic 156, 3) := by decide +kernel
theorem dX7_letter_19 : decode cX7_letter 19 = .ok (.ifCond .eq 12, 3) := by decide +kernel
theorem dX7_letter_22 : decode cX7_letter 22 = .ok (.aload_n 0, 1) := by decide +kernel
theorem dX7_letter_23 : decode cX7_letter 23 = .ok (.iload 4, 2) := by decide +kernel
theorem dX7_letter_25 : decode cX7_letter 25 = .ok (.invokevirtual 118, 3) := by decide +kernel
theorem dX7_letter_28 : decode cX7_letter 28 = .ok (.ifCond .ne 5, 3) := by decide +kernel
theorem dX7_letter_31 : decode cX7_letter 31 = .ok (.iconst (-1), 1) := by decide +kernel
theorem dX7_letter_32 : decode cX7_letter 32 = .ok (.ireturn, 1) := by decide +kernel
theorem dX7_letter_33 : decode cX7_letter 33 = .ok (.aload_n 0, 1) := by decide +kernel
theorem dX7_letter_34 : decode cX7_letter 34 = .ok (.getfield 34, 3) := by decide +kernel
theorem dX7_letter_37 : decode cX7_letter 37 = .ok (.iconst 1, 1) := by decide +kernel
theorem dX7_letter_38 : decode cX7_letter 38 = .ok (.putfield 98, 3) := by decide +kernel
theorem dX7_letter_41 : decode cX7_letter 41 = .ok (.aload_n 0, 1) := by decide +kernel
theorem dX7_letter_42 : decode cX7_letter 42 = .ok (.getfield 34, 3) := by decide +kernel
theorem dX7_letter_45 : decode cX7_letter 45 = .ok (.iload_n 1, 1) := by decide +kernel
theorem dX7_letter_46 : decode cX7_letter 46 = .ok (.iconst 1, 1) := by decide +kernel
theorem dX7_letter_47 : decode cX7_letter 47 = .ok (.aload_n 0, 1) := by decide +kernel
theorem dX7_letter_48 : decode cX7_letter 48 = .ok (.getfield 62, 3) := by decide +kernel
theorem dX7_letter_51 : decode cX7_letter 51 = .ok (.getfield 222, 3) := by decide +kernel
theorem dX7_letter_54 : decode cX7_letter 54 = .ok (.ishl, 1) := by decide +kernel
theorem dX7_letter_55 : decode cX7_letter 55 = .ok (.iconst 1, 1) := by decide +kernel
theorem dX7_letter_56 : decode cX7_letter 56 = .ok (.isub, 1) := by decide +kernel
theorem dX7_letter_57 : decode cX7_letter 57 = .ok (.iand, 1) := by decide +kernel
theorem dX7_letter_58 : decode cX7_letter 58 = .ok (.putfield 225, 3) := by decide +kernel
theorem dX7_letter_61 : decode cX7_letter 61 = .ok (.aload_n 0, 1) := by decide +kernel
theorem dX7_letter_62 : decode cX7_letter 62 = .ok (.getfield 34, 3) := by decide +kernel
theorem dX7_letter_65 : decode cX7_letter 65 = .ok (.iload_n 2, 1) := by decide +kernel
theorem dX7_letter_66 : decode cX7_letter 66 = .ok (.putfield 226, 3) := by decide +kernel
theorem dX7_letter_69 : decode cX7_letter 69 = .ok (.aload_n 0, 1) := by decide +kernel
theorem dX7_letter_70 : decode cX7_letter 70 = .ok (.getfield 34, 3) := by decide +kernel
theorem dX7_letter_73 : decode cX7_letter 73 = .ok (.iload_n 3, 1) := by decide +kernel
theorem dX7_letter_74 : decode cX7_letter 74 = .ok (.putfield 227, 3) := by decide +kernel
theorem dX7_letter_77 : decode cX7_letter 77 = .ok (.aload_n 0, 1) := by decide +kernel
theorem dX7_letter_78 : decode cX7_letter 78 = .ok (.getfield 34, 3) := by decide +kernel
theorem dX7_letter_81 : decode cX7_letter 81 = .ok (.iload 4, 2) := by decide +kernel
theorem dX7_letter_83 : decode cX7_letter 83 = .ok (.putfield 230, 3) := by decide +kernel
theorem dX7_letter_86 : decode cX7_letter 86 = .ok (.aload_n 0, 1) := by decide +kernel
theorem dX7_letter_87 : decode cX7_letter 87 = .ok (.getfield 34, 3) := by decide +kernel
theorem dX7_letter_90 : decode cX7_letter 90 = .ok (.getfield 225, 3) := by decide +kernel
theorem dX7_letter_93 : decode cX7_letter 93 = .ok (.invokestatic 233, 3) := by decide +kernel
theorem dX7_letter_96 : decode cX7_letter 96 = .ok (.ireturn, 1) := by decide +kernel
theorem dX7_could_0 : decode cX7_could 0 = .ok (.aload_n 0, 1) := by decide +kernel
theorem dX7_could_1 : decode cX7_could 1 = .ok (.invokevirtual 238, 3) := by decide +kernel
theorem dX7_could_4 : decode cX7_could 4 = .ok (.ifCond .ne 6, 3) := by decide +kernel
theorem dX7_could_7 : decode cX7_could 7 = .ok (.bipush (-2), 2) := by decide +kernel
theorem dX7_could_9 : decode cX7_could 9 = .ok (.ireturn, 1) := by decide +kernel
theorem dX7_could_10 : decode cX7_could 10 = .ok (.aload_n 0, 1) := by decide +kernel
theorem dX7_could_11 : decode cX7_could 11 = .ok (.invokevirtual 242, 3) := by decide +kernel
theorem dX7_could_14 : decode cX7_could 14 = .ok (.iconst 0, 1) := by decide +kernel
theorem dX7_could_15 : decode cX7_could 15 = .ok (.istore_n 1, 1) := by decide +kernel
theorem dX7_could_16 : decode cX7_could 16 = .ok (.iconst 0, 1) := by decide +kernel
theorem dX7_could_17 : decode cX7_could 17 = .ok (.istore_n 2, 1) := by decide +kernel
theorem dX7_could_18 : decode cX7_could 18 = .ok (.iload_n 2, 1) := by decide +kernel
theorem dX7_could_19 : decode cX7_could 19 = .ok (.aload_n 0, 1) := by decide +kernel
theorem dX7_could_20 : decode cX7_could 20 = .ok (.getfield 62, 3) := by decide +kernel
theorem dX7_could_23 : decode cX7_could 23 = .ok (.getfield 222, 3) := by decide +kernel
theorem dX7_could_26 : decode cX7_could 26 = .ok (.if_icmp .ge 41, 3) := by decide +kernel
theorem dX7_could_29 : decode cX7_could 29 = .ok (.aload_n 0, 1) := by decide +kernel
theorem dX7_could_30 : decode cX7_could 30 = .ok (.getfield 34, 3) := by decide +kernel
theorem dX7_could_33 : decode cX7_could 33 = .ok (.getfield 225, 3) := by decide +kernel
theorem dX7_could_36 : decode cX7_could 36 = .ok (.iload_n 2, 1) := by decide +kernel
theorem dX7_could_37 : decode cX7_could 37 = .ok (.invokestatic 245, 3) := by decide +kernel
theorem dX7_could_40 : decode cX7_could 40 = .ok (.ifCond .eq 21, 3) := by decide +kernel
theorem dX7_could_43 : decode cX7_could 43 = .ok (.aload_n 0, 1) := by decide +kernel
theorem dX7_could_44 : decode cX7_could 44 = .ok (.getfield 34, 3) := by decide +kernel
theorem dX7_could_47 : decode cX7_could 47 = .ok (.getfield 249, 3) := by decide +kernel
theorem dX7_could_50 : decode cX7_could 50 = .ok (.iload_n 2, 1) := by decide +kernel
theorem dX7_could_51 : decode cX7_could 51 = .ok (.iaload, 1) := by decide +kernel
theorem dX7_could_52 : decode cX7_could 52 = .ok (.ifCond .ne 9, 3) := by decide +kernel
theorem dX7_could_55 : decode cX7_could 55 = .ok (.iload_n 1, 1) := by decide +kernel
theorem dX7_could_56 : decode cX7_could 56 = .ok (.iconst 1, 1) := by decide +kernel
theorem dX7_could_57 : decode cX7_could 57 = .ok (.iload_n 2, 1) := by decide +kernel
theorem dX7_could_58 : decode cX7_could 58 = .ok (.ishl, 1) := by decide +kernel
theorem dX7_could_59 : decode cX7_could 59 = .ok (.ior, 1) := by decide +kernel
theorem dX7_could_60 : decode cX7_could 60 = .ok (.istore_n 1, 1) := by decide +kernel
theorem dX7_could_61 : decode cX7_could 61 = .ok (.iinc 2 1, 3) := by decide +kernel
theorem dX7_could_64 : decode cX7_could 64 = .ok (.goto (-46), 3) := by decide +kernel
theorem dX7_could_67 : decode cX7_could 67 = .ok (.iload_n 1, 1) := by decide +kernel
theorem dX7_could_68 : decode cX7_could 68 = .ok (.ireturn, 1) := by decide +kernel
theorem dX7_forged_0 : decode cX7_forged 0 = .ok (.iload_n 1, 1) := by decide +kernel
theorem dX7_forged_1 : decode cX7_forged 1 = .ok (.invokestatic 156, 3) := by decide +kernel
theorem dX7_forged_4 : decode cX7_forged 4 = .ok (.ifCond .eq 31, 3) := by decide +kernel
theorem dX7_forged_7 : decode cX7_forged 7 = .ok (.aload_n 0, 1) := by decide +kernel
theorem dX7_forged_8 : decode cX7_forged 8 = .ok (.iload_n 2, 1) := by decide +kernel
theorem dX7_forged_9 : decode cX7_forged 9 = .ok (.invokevirtual 118, 3) := by decide +kernel
theorem dX7_forged_12 : decode cX7_forged 12 = .ok (.ifCond .eq 23, 3) := by decide +kernel
theorem dX7_forged_15 : decode cX7_forged 15 = .ok (.iload_n 3, 1) := by decide +kernel
theorem dX7_forged_16 : decode cX7_forged 16 = .ok (.iconst 0, 1) := by decide +kernel
theorem dX7_forged_17 : decode cX7_forged 17 = .ok (.bipush 10, 2) := by decide +kernel
theorem dX7_forged_19 : decode cX7_forged 19 = .ok (.invokestatic 80, 3) := by decide +kernel
theorem dX7_forged_22 : decode cX7_forged 22 = .ok (.ifCond .eq 13, 3) := by decide +kernel
theorem dX7_forged_25 : decode cX7_forged 25 = .ok (.iload 4, 2) := by decide +kernel
theorem dX7_forged_27 : decode cX7_forged 27 = .ok (.iconst 0, 1) := by decide +kernel
theorem dX7_forged_28 : decode cX7_forged 28 = .ok (.iconst 1, 1) := by decide +kernel
theorem dX7_forged_29 : decode cX7_forged 29 = .ok (.invokestatic 80, 3) := by decide +kernel
theorem dX7_forged_32 : decode cX7_forged 32 = .ok (.ifCond .ne 7, 3) := by decide +kernel
theorem dX7_forged_35 : decode cX7_forged 35 = .ok (.ldc2_w 207, 3) := by decide +kernel
theorem dX7_forged_38 : decode cX7_forged 38 = .ok (.lreturn, 1) := by decide +kernel
theorem dX7_forged_39 : decode cX7_forged 39 = .ok (.aload_n 0, 1) := by decide +kernel
theorem dX7_forged_40 : decode cX7_forged 40 = .ok (.invokevirtual 238, 3) := by decide +kernel
theorem dX7_forged_43 : decode cX7_forged 43 = .ok (.ifCond .ne 7, 3) := by decide +kernel
theorem dX7_forged_46 : decode cX7_forged 46 = .ok (.ldc2_w 213, 3) := by decide +kernel
theorem dX7_forged_49 : decode cX7_forged 49 = .ok (.lreturn, 1) := by decide +kernel
theorem dX7_forged_50 : decode cX7_forged 50 = .ok (.aload_n 0, 1) := by decide +kernel
theorem dX7_forged_51 : decode cX7_forged 51 = .ok (.invokevirtual 242, 3) := by decide +kernel
theorem dX7_forged_54 : decode cX7_forged 54 = .ok (.aload_n 0, 1) := by decide +kernel
theorem dX7_forged_55 : decode cX7_forged 55 = .ok (.aload_n 0, 1) := by decide +kernel
theorem dX7_forged_56 : decode cX7_forged 56 = .ok (.getfield 34, 3) := by decide +kernel
theorem dX7_forged_59 : decode cX7_forged 59 = .ok (.getfield 225, 3) := by decide +kernel
theorem dX7_forged_62 : decode cX7_forged 62 = .ok (.iconst 0, 1) := by decide +kernel
theorem dX7_forged_63 : decode cX7_forged 63 = .ok (.iload_n 1, 1) := by decide +kernel
theorem dX7_forged_64 : decode cX7_forged 64 = .ok (.iload_n 2, 1) := by decide +kernel
theorem dX7_forged_65 : decode cX7_forged 65 = .ok (.invokevirtual 219, 3) := by decide +kernel
theorem dX7_forged_68 : decode cX7_forged 68 = .ok (.iload_n 3, 1) := by decide +kernel
theorem dX7_forged_69 : decode cX7_forged 69 = .ok (.i2l, 1) := by decide +kernel
theorem dX7_forged_70 : decode cX7_forged 70 = .ok (.lmul, 1) := by decide +kernel
theorem dX7_forged_71 : decode cX7_forged 71 = .ok (.lstore 5, 2) := by decide +kernel
theorem dX7_forged_73 : decode cX7_forged 73 = .ok (.lload 5, 2) := by decide +kernel
theorem dX7_forged_75 : decode cX7_forged 75 = .ok (.aload_n 0, 1) := by decide +kernel
theorem dX7_forged_76 : decode cX7_forged 76 = .ok (.invokevirtual 251, 3) := by decide +kernel
theorem dX7_forged_79 : decode cX7_forged 79 = .ok (.bipush 10, 2) := by decide +kernel
theorem dX7_forged_81 : decode cX7_forged 81 = .ok (.iload_n 3, 1) := by decide +kernel
theorem dX7_forged_82 : decode cX7_forged 82 = .ok (.isub, 1) := by decide +kernel
theorem dX7_forged_83 : decode cX7_forged 83 = .ok (.i2l, 1) := by decide +kernel
theorem dX7_forged_84 : decode cX7_forged 84 = .ok (.lmul, 1) := by decide +kernel
theorem dX7_forged_85 : decode cX7_forged 85 = .ok (.ladd, 1) := by decide +kernel
theorem dX7_forged_86 : decode cX7_forged 86 = .ok (.lstore 7, 2) := by decide +kernel
theorem dX7_forged_88 : decode cX7_forged 88 = .ok (.lload 7, 2) := by decide +kernel
theorem dX7_forged_90 : decode cX7_forged 90 = .ok (.lconst 0, 1) := by decide +kernel
theorem dX7_forged_91 : decode cX7_forged 91 = .ok (.lcmp, 1) := by decide +kernel
theorem dX7_forged_92 : decode cX7_forged 92 = .ok (.ifCond .ne 9, 3) := by decide +kernel
theorem dX7_forged_95 : decode cX7_forged 95 = .ok (.ldc2_w 213, 3) := by decide +kernel
theorem dX7_forged_98 : decode cX7_forged 98 = .ok (.goto 12, 3) := by decide +kernel
theorem dX7_forged_101 : decode cX7_forged 101 = .ok (.lload 5, 2) := by decide +kernel
theorem dX7_forged_103 : decode cX7_forged 103 = .ok (.lload 7, 2) := by decide +kernel
theorem dX7_forged_105 : decode cX7_forged 105 = .ok (.iload 4, 2) := by decide +kernel
theorem dX7_forged_107 : decode cX7_forged 107 = .ok (.invokestatic 215, 3) := by decide +kernel
theorem dX7_forged_110 : decode cX7_forged 110 = .ok (.lreturn, 1) := by decide +kernel
theorem dX7_kills_0 : decode cX7_kills 0 = .ok (.aload_n 0, 1) := by decide +kernel
theorem dX7_kills_1 : decode cX7_kills 1 = .ok (.iload_n 1, 1) := by decide +kernel
theorem dX7_kills_2 : decode cX7_kills 2 = .ok (.invokevirtual 126, 3) := by decide +kernel
theorem dX7_kills_5 : decode cX7_kills 5 = .ok (.ifCond .eq 11, 3) := by decide +kernel
theorem dX7_kills_8 : decode cX7_kills 8 = .ok (.aload_n 0, 1) := by decide +kernel
theorem dX7_kills_9 : decode cX7_kills 9 = .ok (.iload_n 1, 1) := by decide +kernel
theorem dX7_kills_10 : decode cX7_kills 10 = .ok (.invokevirtual 142, 3) := by decide +kernel
theorem dX7_kills_13 : decode cX7_kills 13 = .ok (.ifCond .ne 6, 3) := by decide +kernel
theorem dX7_kills_16 : decode cX7_kills 16 = .ok (.ldc 255, 2) := by decide +kernel
theorem dX7_kills_18 : decode cX7_kills 18 = .ok (.ireturn, 1) := by decide +kernel
theorem dX7_kills_19 : decode cX7_kills 19 = .ok (.aload_n 0, 1) := by decide +kernel
theorem dX7_kills_20 : decode cX7_kills 20 = .ok (.iload_n 1, 1) := by decide +kernel
theorem dX7_kills_21 : decode cX7_kills 21 = .ok (.iconst 0, 1) := by decide +kernel
theorem dX7_kills_22 : decode cX7_kills 22 = .ok (.invokevirtual 256, 3) := by decide +kernel
theorem dX7_kills_25 : decode cX7_kills 25 = .ok (.aload_n 0, 1) := by decide +kernel
theorem dX7_kills_26 : decode cX7_kills 26 = .ok (.iload_n 1, 1) := by decide +kernel
theorem dX7_kills_27 : decode cX7_kills 27 = .ok (.aload_n 0, 1) := by decide +kernel
theorem dX7_kills_28 : decode cX7_kills 28 = .ok (.getfield 62, 3) := by decide +kernel
theorem dX7_kills_31 : decode cX7_kills 31 = .ok (.getfield 109, 3) := by decide +kernel
theorem dX7_kills_34 : decode cX7_kills 34 = .ok (.invokevirtual 256, 3) := by decide +kernel
theorem dX7_kills_37 : decode cX7_kills 37 = .ok (.isub, 1) := by decide +kernel
theorem dX7_kills_38 : decode cX7_kills 38 = .ok (.ireturn, 1) := by decide +kernel
theorem dX7_part_0 : decode cX7_part 0 = .ok (.aload_n 0, 1) := by decide +kernel
theorem dX7_part_1 : decode cX7_part 1 = .ok (.iload_n 1, 1) := by decide +kernel
theorem dX7_part_2 : decode cX7_part 2 = .ok (.invokevirtual 126, 3) := by decide +kernel
theorem dX7_part_5 : decode cX7_part 5 = .ok (.ifCond .ne 6, 3) := by decide +kernel
theorem dX7_part_8 : decode cX7_part 8 = .ok (.ldc 255, 2) := by decide +kernel
theorem dX7_part_10 : decode cX7_part 10 = .ok (.ireturn, 1) := by decide +kernel
theorem dX7_part_11 : decode cX7_part 11 = .ok (.aload_n 0, 1) := by decide +kernel
theorem dX7_part_12 : decode cX7_part 12 = .ok (.getfield 55, 3) := by decide +kernel
theorem dX7_part_15 : decode cX7_part 15 = .ok (.aload_n 0, 1) := by decide +kernel
theorem dX7_part_16 : decode cX7_part 16 = .ok (.getfield 62, 3) := by decide +kernel
theorem dX7_part_19 : decode cX7_part 19 = .ok (.aload_n 0, 1) := by decide +kernel
theorem dX7_part_20 : decode cX7_part 20 = .ok (.getfield 48, 3) := by decide +kernel
theorem dX7_part_23 : decode cX7_part 23 = .ok (.iload_n 1, 1) := by decide +kernel
theorem dX7_part_24 : decode cX7_part 24 = .ok (.aload_n 0, 1) := by decide +kernel
theorem dX7_part_25 : decode cX7_part 25 = .ok (.getfield 62, 3) := by decide +kernel
theorem dX7_part_28 : decode cX7_part 28 = .ok (.getfield 109, 3) := by decide +kernel
theorem dX7_part_31 : decode cX7_part 31 = .ok (.aload_n 0, 1) := by decide +kernel
theorem dX7_part_32 : decode cX7_part 32 = .ok (.getfield 19, 3) := by decide +kernel
theorem dX7_part_35 : decode cX7_part 35 = .ok (.getfield 145, 3) := by decide +kernel
theorem dX7_part_38 : decode cX7_part 38 = .ok (.invokevirtual 259, 3) := by decide +kernel
theorem dX7_part_41 : decode cX7_part 41 = .ok (.aload_n 0, 1) := by decide +kernel
theorem dX7_part_42 : decode cX7_part 42 = .ok (.getfield 19, 3) := by decide +kernel
theorem dX7_part_45 : decode cX7_part 45 = .ok (.getfield 159, 3) := by decide +kernel
theorem dX7_part_48 : decode cX7_part 48 = .ok (.iload_n 1, 1) := by decide +kernel
theorem dX7_part_49 : decode cX7_part 49 = .ok (.aaload, 1) := by decide +kernel
theorem dX7_part_50 : decode cX7_part 50 = .ok (.aload_n 0, 1) := by decide +kernel
theorem dX7_part_51 : decode cX7_part 51 = .ok (.getfield 19, 3) := by decide +kernel
theorem dX7_part_54 : decode cX7_part 54 = .ok (.getfield 145, 3) := by decide +kernel
theorem dX7_part_57 : decode cX7_part 57 = .ok (.invokevirtual 191, 3) := by decide +kernel
theorem dX7_part_60 : decode cX7_part 60 = .ok (.aload_n 0, 1) := by decide +kernel
theorem dX7_part_61 : decode cX7_part 61 = .ok (.getfield 55, 3) := by decide +kernel
theorem dX7_part_64 : decode cX7_part 64 = .ok (.aload_n 0, 1) := by decide +kernel
theorem dX7_part_65 : decode cX7_part 65 = .ok (.getfield 19, 3) := by decide +kernel
theorem dX7_part_68 : decode cX7_part 68 = .ok (.getfield 145, 3) := by decide +kernel
theorem dX7_part_71 : decode cX7_part 71 = .ok (.invokevirtual 191, 3) := by decide +kernel
theorem dX7_part_74 : decode cX7_part 74 = .ok (.isub, 1) := by decide +kernel
theorem dX7_part_75 : decode cX7_part 75 = .ok (.ireturn, 1) := by decide +kernel
theorem dX7_writing_0 : decode cX7_writing 0 = .ok (.iload_n 1, 1) := by decide +kernel
theorem dX7_writing_1 : decode cX7_writing 1 = .ok (.iconst 0, 1) := by decide +kernel
theorem dX7_writing_2 : decode cX7_writing 2 = .ok (.bipush 99, 2) := by decide +kernel
theorem dX7_writing_4 : decode cX7_writing 4 = .ok (.invokestatic 80, 3) := by decide +kernel
theorem dX7_writing_7 : decode cX7_writing 7 = .ok (.ifCond .eq 18, 3) := by decide +kernel
theorem dX7_writing_10 : decode cX7_writing 10 = .ok (.iload_n 2, 1) := by decide +kernel
theorem dX7_writing_11 : decode cX7_writing 11 = .ok (.invokestatic 156, 3) := by decide +kernel
theorem dX7_writing_14 : decode cX7_writing 14 = .ok (.ifCond .eq 11, 3) := by decide +kernel
theorem dX7_writing_17 : decode cX7_writing 17 = .ok (.aload_n 0, 1) := by decide +kernel
theorem dX7_writing_18 : decode cX7_writing 18 = .ok (.iload_n 3, 1) := by decide +kernel
theorem dX7_writing_19 : decode cX7_writing 19 = .ok (.invokevirtual 126, 3) := by decide +kernel
theorem dX7_writing_22 : decode cX7_writing 22 = .ok (.ifCond .ne 5, 3) := by decide +kernel
theorem dX7_writing_25 : decode cX7_writing 25 = .ok (.iconst (-1), 1) := by decide +kernel
theorem dX7_writing_26 : decode cX7_writing 26 = .ok (.ireturn, 1) := by decide +kernel
theorem dX7_writing_27 : decode cX7_writing 27 = .ok (.aload_n 0, 1) := by decide +kernel
theorem dX7_writing_28 : decode cX7_writing 28 = .ok (.getfield 41, 3) := by decide +kernel
theorem dX7_writing_31 : decode cX7_writing 31 = .ok (.getfield 95, 3) := by decide +kernel
theorem dX7_writing_34 : decode cX7_writing 34 = .ok (.bipush 40, 2) := by decide +kernel
theorem dX7_writing_36 : decode cX7_writing 36 = .ok (.if_icmp .lt 6, 3) := by decide +kernel
theorem dX7_writing_39 : decode cX7_writing 39 = .ok (.bipush (-3), 2) := by decide +kernel
theorem dX7_writing_41 : decode cX7_writing 41 = .ok (.ireturn, 1) := by decide +kernel
theorem dX7_writing_42 : decode cX7_writing 42 = .ok (.aload_n 0, 1) := by decide +kernel
theorem dX7_writing_43 : decode cX7_writing 43 = .ok (.getfield 41, 3) := by decide +kernel
theorem dX7_writing_46 : decode cX7_writing 46 = .ok (.iload_n 1, 1) := by decide +kernel
theorem dX7_writing_47 : decode cX7_writing 47 = .ok (.iload_n 2, 1) := by decide +kernel
theorem dX7_writing_48 : decode cX7_writing 48 = .ok (.isub, 1) := by decide +kernel
theorem dX7_writing_49 : decode cX7_writing 49 = .ok (.bipush 16, 2) := by decide +kernel
theorem dX7_writing_51 : decode cX7_writing 51 = .ok (.iadd, 1) := by decide +kernel
theorem dX7_writing_52 : decode cX7_writing 52 = .ok (.iload_n 3, 1) := by decide +kernel
theorem dX7_writing_53 : decode cX7_writing 53 = .ok (.invokevirtual 263, 3) := by decide +kernel
theorem dX7_writing_56 : decode cX7_writing 56 = .ok (.aload_n 0, 1) := by decide +kernel
theorem dX7_writing_57 : decode cX7_writing 57 = .ok (.getfield 41, 3) := by decide +kernel
theorem dX7_writing_60 : decode cX7_writing 60 = .ok (.getfield 95, 3) := by decide +kernel
theorem dX7_writing_63 : decode cX7_writing 63 = .ok (.ireturn, 1) := by decide +kernel
theorem dX7_span_0 : decode cX7_span 0 = .ok (.aload_n 0, 1) := by decide +kernel
theorem dX7_span_1 : decode cX7_span 1 = .ok (.iload_n 1, 1) := by decide +kernel
theorem dX7_span_2 : decode cX7_span 2 = .ok (.invokevirtual 126, 3) := by decide +kernel
theorem dX7_span_5 : decode cX7_span 5 = .ok (.ifCond .eq 12, 3) := by decide +kernel
theorem dX7_span_8 : decode cX7_span 8 = .ok (.iload_n 2, 1) := by decide +kernel
theorem dX7_span_9 : decode cX7_span 9 = .ok (.iconst 0, 1) := by decide +kernel
theorem dX7_span_10 : decode cX7_span 10 = .ok (.iconst 3, 1) := by decide +kernel
theorem dX7_span_11 : decode cX7_span 11 = .ok (.invokestatic 80, 3) := by decide +kernel
theorem dX7_span_14 : decode cX7_span 14 = .ok (.ifCond .ne 6, 3) := by decide +kernel
theorem dX7_span_17 : decode cX7_span 17 = .ok (.ldc 255, 2) := by decide +kernel
theorem dX7_span_19 : decode cX7_span 19 = .ok (.ireturn, 1) := by decide +kernel
theorem dX7_span_20 : decode cX7_span 20 = .ok (.aload_n 0, 1) := by decide +kernel
theorem dX7_span_21 : decode cX7_span 21 = .ok (.getfield 41, 3) := by decide +kernel
theorem dX7_span_24 : decode cX7_span 24 = .ok (.iload_n 1, 1) := by decide +kernel
theorem dX7_span_25 : decode cX7_span 25 = .ok (.invokevirtual 265, 3) := by decide +kernel
theorem dX7_span_28 : decode cX7_span 28 = .ok (.istore_n 3, 1) := by decide +kernel
theorem dX7_span_29 : decode cX7_span 29 = .ok (.iload_n 3, 1) := by decide +kernel
theorem dX7_span_30 : decode cX7_span 30 = .ok (.ifCond .ne 6, 3) := by decide +kernel
theorem dX7_span_33 : decode cX7_span 33 = .ok (.ldc 255, 2) := by decide +kernel
theorem dX7_span_35 : decode cX7_span 35 = .ok (.ireturn, 1) := by decide +kernel
theorem dX7_span_36 : decode cX7_span 36 = .ok (.iload_n 2, 1) := by decide +kernel
theorem dX7_span_37 : decode cX7_span 37 = .ok (.lookupswitch 45 #[(0, 27), (1, 36)], 27) := by decide +kernel
theorem dX7_span_64 : decode cX7_span 64 = .ok (.aload_n 0, 1) := by decide +kernel
theorem dX7_span_65 : decode cX7_span 65 = .ok (.getfield 41, 3) := by decide +kernel
theorem dX7_span_68 : decode cX7_span 68 = .ok (.iload_n 1, 1) := by decide +kernel
theorem dX7_span_69 : decode cX7_span 69 = .ok (.invokevirtual 268, 3) := by decide +kernel
theorem dX7_span_72 : decode cX7_span 72 = .ok (.ireturn, 1) := by decide +kernel
theorem dX7_span_73 : decode cX7_span 73 = .ok (.aload_n 0, 1) := by decide +kernel
theorem dX7_span_74 : decode cX7_span 74 = .ok (.getfield 41, 3) := by decide +kernel
theorem dX7_span_77 : decode cX7_span 77 = .ok (.iload_n 1, 1) := by decide +kernel
theorem dX7_span_78 : decode cX7_span 78 = .ok (.invokevirtual 271, 3) := by decide +kernel
theorem dX7_span_81 : decode cX7_span 81 = .ok (.ireturn, 1) := by decide +kernel
theorem dX7_span_82 : decode cX7_span 82 = .ok (.aload_n 0, 1) := by decide +kernel
theorem dX7_span_83 : decode cX7_span 83 = .ok (.getfield 41, 3) := by decide +kernel
theorem dX7_span_86 : decode cX7_span 86 = .ok (.iload_n 1, 1) := by decide +kernel
theorem dX7_span_87 : decode cX7_span 87 = .ok (.invokevirtual 274, 3) := by decide +kernel
theorem dX7_span_90 : decode cX7_span 90 = .ok (.i2l, 1) := by decide +kernel
theorem dX7_span_91 : decode cX7_span 91 = .ok (.iload_n 3, 1) := by decide +kernel
theorem dX7_span_92 : decode cX7_span 92 = .ok (.i2l, 1) := by decide +kernel
theorem dX7_span_93 : decode cX7_span 93 = .ok (.iload_n 2, 1) := by decide +kernel
theorem dX7_span_94 : decode cX7_span 94 = .ok (.iconst 2, 1) := by decide +kernel
theorem dX7_span_95 : decode cX7_span 95 = .ok (.isub, 1) := by decide +kernel
theorem dX7_span_96 : decode cX7_span 96 = .ok (.invokestatic 215, 3) := by decide +kernel
theorem dX7_span_99 : decode cX7_span 99 = .ok (.l2i, 1) := by decide +kernel
theorem dX7_span_100 : decode cX7_span 100 = .ok (.ireturn, 1) := by decide +kernel
theorem dX7_wants_0 : decode cX7_wants 0 = .ok (.iload_n 1, 1) := by decide +kernel
theorem dX7_wants_1 : decode cX7_wants 1 = .ok (.iconst 0, 1) := by decide +kernel
theorem dX7_wants_2 : decode cX7_wants 2 = .ok (.iconst 3, 1) := by decide +kernel
theorem dX7_wants_3 : decode cX7_wants 3 = .ok (.invokestatic 80, 3) := by decide +kernel
theorem dX7_wants_6 : decode cX7_wants 6 = .ok (.ifCond .ne 5, 3) := by decide +kernel
theorem dX7_wants_9 : decode cX7_wants 9 = .ok (.iconst (-1), 1) := by decide +kernel
theorem dX7_wants_10 : decode cX7_wants 10 = .ok (.ireturn, 1) := by decide +kernel
theorem dX7_wants_11 : decode cX7_wants 11 = .ok (.iconst 0, 1) := by decide +kernel
theorem dX7_wants_12 : decode cX7_wants 12 = .ok (.istore_n 2, 1) := by decide +kernel
theorem dX7_wants_13 : decode cX7_wants 13 = .ok (.iload_n 2, 1) := by decide +kernel
theorem dX7_wants_14 : decode cX7_wants 14 = .ok (.aload_n 0, 1) := by decide +kernel
theorem dX7_wants_15 : decode cX7_wants 15 = .ok (.getfield 62, 3) := by decide +kernel
theorem dX7_wants_18 : decode cX7_wants 18 = .ok (.getfield 222, 3) := by decide +kernel
theorem dX7_wants_21 : decode cX7_wants 21 = .ok (.if_icmp .ge 36, 3) := by decide +kernel
theorem dX7_wants_24 : decode cX7_wants 24 = .ok (.aload_n 0, 1) := by decide +kernel
theorem dX7_wants_25 : decode cX7_wants 25 = .ok (.getfield 62, 3) := by decide +kernel
theorem dX7_wants_28 : decode cX7_wants 28 = .ok (.getfield 129, 3) := by decide +kernel
theorem dX7_wants_31 : decode cX7_wants 31 = .ok (.iload_n 2, 1) := by decide +kernel
theorem dX7_wants_32 : decode cX7_wants 32 = .ok (.iaload, 1) := by decide +kernel
theorem dX7_wants_33 : decode cX7_wants 33 = .ok (.iload_n 1, 1) := by decide +kernel
theorem dX7_wants_34 : decode cX7_wants 34 = .ok (.if_icmp .ne 17, 3) := by decide +kernel
theorem dX7_wants_37 : decode cX7_wants 37 = .ok (.aload_n 0, 1) := by decide +kernel
theorem dX7_wants_38 : decode cX7_wants 38 = .ok (.iload_n 2, 1) := by decide +kernel
theorem dX7_wants_39 : decode cX7_wants 39 = .ok (.iconst 0, 1) := by decide +kernel
theorem dX7_wants_40 : decode cX7_wants 40 = .ok (.invokevirtual 167, 3) := by decide +kernel
theorem dX7_wants_43 : decode cX7_wants 43 = .ok (.sipush 200, 3) := by decide +kernel
theorem dX7_wants_46 : decode cX7_wants 46 = .ok (.if_icmp .lt 5, 3) := by decide +kernel
theorem dX7_wants_49 : decode cX7_wants 49 = .ok (.iconst 0, 1) := by decide +kernel
theorem dX7_wants_50 : decode cX7_wants 50 = .ok (.ireturn, 1) := by decide +kernel
theorem dX7_wants_51 : decode cX7_wants 51 = .ok (.iinc 2 1, 3) := by decide +kernel
theorem dX7_wants_54 : decode cX7_wants 54 = .ok (.goto (-41), 3) := by decide +kernel
theorem dX7_wants_57 : decode cX7_wants 57 = .ok (.iconst 1, 1) := by decide +kernel
theorem dX7_wants_58 : decode cX7_wants 58 = .ok (.ireturn, 1) := by decide +kernel
theorem dX7_drawn_0 : decode cX7_drawn 0 = .ok (.iload_n 1, 1) := by decide +kernel
theorem dX7_drawn_1 : decode cX7_drawn 1 = .ok (.invokestatic 156, 3) := by decide +kernel
theorem dX7_drawn_4 : decode cX7_drawn 4 = .ok (.ifCond .eq 11, 3) := by decide +kernel
theorem dX7_drawn_7 : decode cX7_drawn 7 = .ok (.aload_n 0, 1) := by decide +kernel
theorem dX7_drawn_8 : decode cX7_drawn 8 = .ok (.iload_n 2, 1) := by decide +kernel
theorem dX7_drawn_9 : decode cX7_drawn 9 = .ok (.invokevirtual 118, 3) := by decide +kernel
theorem dX7_drawn_12 : decode cX7_drawn 12 = .ok (.ifCond .ne 5, 3) := by decide +kernel
theorem dX7_drawn_15 : decode cX7_drawn 15 = .ok (.iconst (-1), 1) := by decide +kernel
theorem dX7_drawn_16 : decode cX7_drawn 16 = .ok (.ireturn, 1) := by decide +kernel
theorem dX7_drawn_17 : decode cX7_drawn 17 = .ok (.iconst 0, 1) := by decide +kernel
theorem dX7_drawn_18 : decode cX7_drawn 18 = .ok (.istore_n 3, 1) := by decide +kernel
theorem dX7_drawn_19 : decode cX7_drawn 19 = .ok (.iconst 0, 1) := by decide +kernel
theorem dX7_drawn_20 : decode cX7_drawn 20 = .ok (.istore 4, 2) := by decide +kernel
theorem dX7_drawn_22 : decode cX7_drawn 22 = .ok (.iload 4, 2) := by decide +kernel
theorem dX7_drawn_24 : decode cX7_drawn 24 = .ok (.aload_n 0, 1) := by decide +kernel
theorem dX7_drawn_25 : decode cX7_drawn 25 = .ok (.getfield 62, 3) := by decide +kernel
theorem dX7_drawn_28 : decode cX7_drawn 28 = .ok (.getfield 222, 3) := by decide +kernel
theorem dX7_drawn_31 : decode cX7_drawn 31 = .ok (.if_icmp .ge 76, 3) := by decide +kernel
theorem dX7_drawn_34 : decode cX7_drawn 34 = .ok (.aload_n 0, 1) := by decide +kernel
theorem dX7_drawn_35 : decode cX7_drawn 35 = .ok (.getfield 19, 3) := by decide +kernel
theorem dX7_drawn_38 : decode cX7_drawn 38 = .ok (.aload_n 0, 1) := by decide +kernel
theorem dX7_drawn_39 : decode cX7_drawn 39 = .ok (.getfield 19, 3) := by decide +kernel
theorem dX7_drawn_42 : decode cX7_drawn 42 = .ok (.getfield 77, 3) := by decide +kernel
theorem dX7_drawn_45 : decode cX7_drawn 45 = .ok (.ldc_w 277, 3) := by decide +kernel
theorem dX7_drawn_48 : decode cX7_drawn 48 = .ok (.imul, 1) := by decide +kernel
theorem dX7_drawn_49 : decode cX7_drawn 49 = .ok (.sipush 12345, 3) := by decide +kernel
theorem dX7_drawn_52 : decode cX7_drawn 52 = .ok (.iadd, 1) := by decide +kernel
theorem dX7_drawn_53 : decode cX7_drawn 53 = .ok (.putfield 77, 3) := by decide +kernel
theorem dX7_drawn_56 : decode cX7_drawn 56 = .ok (.aload_n 0, 1) := by decide +kernel
theorem dX7_drawn_57 : decode cX7_drawn 57 = .ok (.getfield 19, 3) := by decide +kernel
theorem dX7_drawn_60 : decode cX7_drawn 60 = .ok (.getfield 77, 3) := by decide +kernel
theorem dX7_drawn_63 : decode cX7_drawn 63 = .ok (.bipush 16, 2) := by decide +kernel
theorem dX7_drawn_65 : decode cX7_drawn 65 = .ok (.iushr, 1) := by decide +kernel
theorem dX7_drawn_66 : decode cX7_drawn 66 = .ok (.sipush 1000, 3) := by decide +kernel
theorem dX7_drawn_69 : decode cX7_drawn 69 = .ok (.irem, 1) := by decide +kernel
theorem dX7_drawn_70 : decode cX7_drawn 70 = .ok (.istore 5, 2) := by decide +kernel
theorem dX7_drawn_72 : decode cX7_drawn 72 = .ok (.iload 5, 2) := by decide +kernel
theorem dX7_drawn_74 : decode cX7_drawn 74 = .ok (.aload_n 0, 1) := by decide +kernel
theorem dX7_drawn_75 : decode cX7_drawn 75 = .ok (.getfield 19, 3) := by decide +kernel
theorem dX7_drawn_78 : decode cX7_drawn 78 = .ok (.getfield 159, 3) := by decide +kernel
theorem dX7_drawn_81 : decode cX7_drawn 81 = .ok (.iload 4, 2) := by decide +kernel
theorem dX7_drawn_83 : decode cX7_drawn 83 = .ok (.aaload, 1) := by decide +kernel
theorem dX7_drawn_84 : decode cX7_drawn 84 = .ok (.getfield 163, 3) := by decide +kernel
theorem dX7_drawn_87 : decode cX7_drawn 87 = .ok (.iload_n 2, 1) := by decide +kernel
theorem dX7_drawn_88 : decode cX7_drawn 88 = .ok (.aaload, 1) := by decide +kernel
theorem dX7_drawn_89 : decode cX7_drawn 89 = .ok (.iload_n 1, 1) := by decide +kernel
theorem dX7_drawn_90 : decode cX7_drawn 90 = .ok (.iaload, 1) := by decide +kernel
theorem dX7_drawn_91 : decode cX7_drawn 91 = .ok (.if_icmp .ge 10, 3) := by decide +kernel
theorem dX7_drawn_94 : decode cX7_drawn 94 = .ok (.iload_n 3, 1) := by decide +kernel
theorem dX7_drawn_95 : decode cX7_drawn 95 = .ok (.iconst 1, 1) := by decide +kernel
theorem dX7_drawn_96 : decode cX7_drawn 96 = .ok (.iload 4, 2) := by decide +kernel
theorem dX7_drawn_98 : decode cX7_drawn 98 = .ok (.ishl, 1) := by decide +kernel
theorem dX7_drawn_99 : decode cX7_drawn 99 = .ok (.ior, 1) := by decide +kernel
theorem dX7_drawn_100 : decode cX7_drawn 100 = .ok (.istore_n 3, 1) := by decide +kernel
theorem dX7_drawn_101 : decode cX7_drawn 101 = .ok (.iinc 4 1, 3) := by decide +kernel
theorem dX7_drawn_104 : decode cX7_drawn 104 = .ok (.goto (-82), 3) := by decide +kernel
theorem dX7_drawn_107 : decode cX7_drawn 107 = .ok (.iload_n 3, 1) := by decide +kernel
theorem dX7_drawn_108 : decode cX7_drawn 108 = .ok (.ireturn, 1) := by decide +kernel
theorem dX7_lot_0 : decode cX7_lot 0 = .ok (.aload_n 0, 1) := by decide +kernel
theorem dX7_lot_1 : decode cX7_lot 1 = .ok (.getfield 19, 3) := by decide +kernel
theorem dX7_lot_4 : decode cX7_lot 4 = .ok (.getfield 77, 3) := by decide +kernel
theorem dX7_lot_7 : decode cX7_lot 7 = .ok (.istore_n 2, 1) := by decide +kernel
theorem dX7_lot_8 : decode cX7_lot 8 = .ok (.aload_n 0, 1) := by decide +kernel
theorem dX7_lot_9 : decode cX7_lot 9 = .ok (.getfield 19, 3) := by decide +kernel
theorem dX7_lot_12 : decode cX7_lot 12 = .ok (.iload_n 1, 1) := by decide +kernel
theorem dX7_lot_13 : decode cX7_lot 13 = .ok (.putfield 77, 3) := by decide +kernel
theorem dX7_lot_16 : decode cX7_lot 16 = .ok (.iload_n 2, 1) := by decide +kernel
theorem dX7_lot_17 : decode cX7_lot 17 = .ok (.ireturn, 1) := by decide +kernel
theorem dX7_rate_0 : decode cX7_rate 0 = .ok (.aload_n 0, 1) := by decide +kernel
theorem dX7_rate_1 : decode cX7_rate 1 = .ok (.iload_n 2, 1) := by decide +kernel
theorem dX7_rate_2 : decode cX7_rate 2 = .ok (.invokevirtual 126, 3) := by decide +kernel
theorem dX7_rate_5 : decode cX7_rate 5 = .ok (.ifCond .ne 6, 3) := by decide +kernel
theorem dX7_rate_8 : decode cX7_rate 8 = .ok (.ldc 255, 2) := by decide +kernel
theorem dX7_rate_10 : decode cX7_rate 10 = .ok (.ireturn, 1) := by decide +kernel
theorem dX7_rate_11 : decode cX7_rate 11 = .ok (.iload_n 1, 1) := by decide +kernel
theorem dX7_rate_12 : decode cX7_rate 12 = .ok (.tableswitch 76 0 5 #[40, 46, 52, 58, 64, 70], 40) := by decide +kernel
theorem dX7_rate_52 : decode cX7_rate 52 = .ok (.aload_n 0, 1) := by decide +kernel
theorem dX7_rate_53 : decode cX7_rate 53 = .ok (.iload_n 2, 1) := by decide +kernel
theorem dX7_rate_54 : decode cX7_rate 54 = .ok (.invokevirtual 278, 3) := by decide +kernel
theorem dX7_rate_57 : decode cX7_rate 57 = .ok (.ireturn, 1) := by decide +kernel
theorem dX7_rate_58 : decode cX7_rate 58 = .ok (.aload_n 0, 1) := by decide +kernel
theorem dX7_rate_59 : decode cX7_rate 59 = .ok (.iload_n 2, 1) := by decide +kernel
theorem dX7_rate_60 : decode cX7_rate 60 = .ok (.invokevirtual 281, 3) := by decide +kernel
theorem dX7_rate_63 : decode cX7_rate 63 = .ok (.ireturn, 1) := by decide +kernel
theorem dX7_rate_64 : decode cX7_rate 64 = .ok (.aload_n 0, 1) := by decide +kernel
theorem dX7_rate_65 : decode cX7_rate 65 = .ok (.iload_n 2, 1) := by decide +kernel
theorem dX7_rate_66 : decode cX7_rate 66 = .ok (.invokevirtual 284, 3) := by decide +kernel
theorem dX7_rate_69 : decode cX7_rate 69 = .ok (.ireturn, 1) := by decide +kernel
theorem dX7_rate_70 : decode cX7_rate 70 = .ok (.aload_n 0, 1) := by decide +kernel
theorem dX7_rate_71 : decode cX7_rate 71 = .ok (.iload_n 2, 1) := by decide +kernel
theorem dX7_rate_72 : decode cX7_rate 72 = .ok (.invokevirtual 287, 3) := by decide +kernel
theorem dX7_rate_75 : decode cX7_rate 75 = .ok (.ireturn, 1) := by decide +kernel
theorem dX7_rate_76 : decode cX7_rate 76 = .ok (.aload_n 0, 1) := by decide +kernel
theorem dX7_rate_77 : decode cX7_rate 77 = .ok (.iload_n 2, 1) := by decide +kernel
theorem dX7_rate_78 : decode cX7_rate 78 = .ok (.invokevirtual 290, 3) := by decide +kernel
theorem dX7_rate_81 : decode cX7_rate 81 = .ok (.ireturn, 1) := by decide +kernel
theorem dX7_rate_82 : decode cX7_rate 82 = .ok (.aload_n 0, 1) := by decide +kernel
theorem dX7_rate_83 : decode cX7_rate 83 = .ok (.iload_n 2, 1) := by decide +kernel
theorem dX7_rate_84 : decode cX7_rate 84 = .ok (.invokevirtual 293, 3) := by decide +kernel
theorem dX7_rate_87 : decode cX7_rate 87 = .ok (.ireturn, 1) := by decide +kernel
theorem dX7_rate_88 : decode cX7_rate 88 = .ok (.ldc 255, 2) := by decide +kernel
theorem dX7_rate_90 : decode cX7_rate 90 = .ok (.ireturn, 1) := by decide +kernel
theorem dX7_keep_0 : decode cX7_keep 0 = .ok (.iload_n 1, 1) := by decide +kernel
theorem dX7_keep_1 : decode cX7_keep 1 = .ok (.iconst 0, 1) := by decide +kernel
theorem dX7_keep_2 : decode cX7_keep 2 = .ok (.iconst 1, 1) := by decide +kernel
theorem dX7_keep_3 : decode cX7_keep 3 = .ok (.invokestatic 80, 3) := by decide +kernel
theorem dX7_keep_6 : decode cX7_keep 6 = .ok (.ifCond .ne 5, 3) := by decide +kernel
theorem dX7_keep_9 : decode cX7_keep 9 = .ok (.iconst (-1), 1) := by decide +kernel
theorem dX7_keep_10 : decode cX7_keep 10 = .ok (.ireturn, 1) := by decide +kernel
theorem dX7_keep_11 : decode cX7_keep 11 = .ok (.aload_n 0, 1) := by decide +kernel
theorem dX7_keep_12 : decode cX7_keep 12 = .ok (.getfield 23, 3) := by decide +kernel
theorem dX7_keep_15 : decode cX7_keep 15 = .ok (.iload_n 1, 1) := by decide +kernel
theorem dX7_keep_16 : decode cX7_keep 16 = .ok (.aaload, 1) := by decide +kernel
theorem dX7_keep_17 : decode cX7_keep 17 = .ok (.aload_n 0, 1) := by decide +kernel
theorem dX7_keep_18 : decode cX7_keep 18 = .ok (.getfield 19, 3) := by decide +kernel
theorem dX7_keep_21 : decode cX7_keep 21 = .ok (.invokevirtual 296, 3) := by decide +kernel
theorem dX7_keep_24 : decode cX7_keep 24 = .ok (.aload_n 0, 1) := by decide +kernel
theorem dX7_keep_25 : decode cX7_keep 25 = .ok (.getfield 27, 3) := by decide +kernel
theorem dX7_keep_28 : decode cX7_keep 28 = .ok (.iload_n 1, 1) := by decide +kernel
theorem dX7_keep_29 : decode cX7_keep 29 = .ok (.iconst 1, 1) := by decide +kernel
theorem dX7_keep_30 : decode cX7_keep 30 = .ok (.bastore, 1) := by decide +kernel
theorem dX7_keep_31 : decode cX7_keep 31 = .ok (.aload_n 0, 1) := by decide +kernel
theorem dX7_keep_32 : decode cX7_keep 32 = .ok (.getfield 19, 3) := by decide +kernel
theorem dX7_keep_35 : decode cX7_keep 35 = .ok (.getfield 145, 3) := by decide +kernel
theorem dX7_keep_38 : decode cX7_keep 38 = .ok (.ireturn, 1) := by decide +kernel
theorem dX7_back_0 : decode cX7_back 0 = .ok (.iload_n 1, 1) := by decide +kernel
theorem dX7_back_1 : decode cX7_back 1 = .ok (.iconst 0, 1) := by decide +kernel
theorem dX7_back_2 : decode cX7_back 2 = .ok (.iconst 1, 1) := by decide +kernel
theorem dX7_back_3 : decode cX7_back 3 = .ok (.invokestatic 80, 3) := by decide +kernel
theorem dX7_back_6 : decode cX7_back 6 = .ok (.ifCond .ne 5, 3) := by decide +kernel
theorem dX7_back_9 : decode cX7_back 9 = .ok (.iconst (-1), 1) := by decide +kernel
theorem dX7_back_10 : decode cX7_back 10 = .ok (.ireturn, 1) := by decide +kernel
theorem dX7_back_11 : decode cX7_back 11 = .ok (.aload_n 0, 1) := by decide +kernel
theorem dX7_back_12 : decode cX7_back 12 = .ok (.getfield 27, 3) := by decide +kernel
theorem dX7_back_15 : decode cX7_back 15 = .ok (.iload_n 1, 1) := by decide +kernel
theorem dX7_back_16 : decode cX7_back 16 = .ok (.baload, 1) := by decide +kernel
theorem dX7_back_17 : decode cX7_back 17 = .ok (.ifCond .ne 6, 3) := by decide +kernel
theorem dX7_back_20 : decode cX7_back 20 = .ok (.bipush (-2), 2) := by decide +kernel
theorem dX7_back_22 : decode cX7_back 22 = .ok (.ireturn, 1) := by decide +kernel
theorem dX7_back_23 : decode cX7_back 23 = .ok (.aload_n 0, 1) := by decide +kernel
theorem dX7_back_24 : decode cX7_back 24 = .ok (.getfield 19, 3) := by decide +kernel
theorem dX7_back_27 : decode cX7_back 27 = .ok (.aload_n 0, 1) := by decide +kernel
theorem dX7_back_28 : decode cX7_back 28 = .ok (.getfield 23, 3) := by decide +kernel
theorem dX7_back_31 : decode cX7_back 31 = .ok (.iload_n 1, 1) := by decide +kernel
theorem dX7_back_32 : decode cX7_back 32 = .ok (.aaload, 1) := by decide +kernel
theorem dX7_back_33 : decode cX7_back 33 = .ok (.invokevirtual 296, 3) := by decide +kernel
theorem dX7_back_36 : decode cX7_back 36 = .ok (.aload_n 0, 1) := by decide +kernel
theorem dX7_back_37 : decode cX7_back 37 = .ok (.getfield 19, 3) := by decide +kernel
theorem dX7_back_40 : decode cX7_back 40 = .ok (.getfield 145, 3) := by decide +kernel
theorem dX7_back_43 : decode cX7_back 43 = .ok (.ireturn, 1) := by decide +kernel
theorem dX7_count_0 : decode cX7_count 0 = .ok (.iload_n 1, 1) := by decide +kernel
theorem dX7_count_1 : decode cX7_count 1 = .ok (.tableswitch 90 0 5 #[39, 47, 55, 63, 74, 82], 39) := by decide +kernel
theorem dX7_count_40 : decode cX7_count 40 = .ok (.aload_n 0, 1) := by decide +kernel
theorem dX7_count_41 : decode cX7_count 41 = .ok (.getfield 62, 3) := by decide +kernel
theorem dX7_count_44 : decode cX7_count 44 = .ok (.getfield 184, 3) := by decide +kernel
theorem dX7_count_47 : decode cX7_count 47 = .ok (.ireturn, 1) := by decide +kernel
theorem dX7_count_48 : decode cX7_count 48 = .ok (.aload_n 0, 1) := by decide +kernel
theorem dX7_count_49 : decode cX7_count 49 = .ok (.getfield 62, 3) := by decide +kernel
theorem dX7_count_52 : decode cX7_count 52 = .ok (.getfield 222, 3) := by decide +kernel
theorem dX7_count_55 : decode cX7_count 55 = .ok (.ireturn, 1) := by decide +kernel
theorem dX7_count_56 : decode cX7_count 56 = .ok (.aload_n 0, 1) := by decide +kernel
theorem dX7_count_57 : decode cX7_count 57 = .ok (.getfield 19, 3) := by decide +kernel
theorem dX7_count_60 : decode cX7_count 60 = .ok (.getfield 145, 3) := by decide +kernel
theorem dX7_count_63 : decode cX7_count 63 = .ok (.ireturn, 1) := by decide +kernel
theorem dX7_count_64 : decode cX7_count 64 = .ok (.aload_n 0, 1) := by decide +kernel
theorem dX7_count_65 : decode cX7_count 65 = .ok (.getfield 19, 3) := by decide +kernel
theorem dX7_count_68 : decode cX7_count 68 = .ok (.getfield 173, 3) := by decide +kernel
theorem dX7_count_71 : decode cX7_count 71 = .ok (.getfield 176, 3) := by decide +kernel
theorem dX7_count_74 : decode cX7_count 74 = .ok (.ireturn, 1) := by decide +kernel
theorem dX7_count_75 : decode cX7_count 75 = .ok (.aload_n 0, 1) := by decide +kernel
theorem dX7_count_76 : decode cX7_count 76 = .ok (.getfield 41, 3) := by decide +kernel
theorem dX7_count_79 : decode cX7_count 79 = .ok (.getfield 95, 3) := by decide +kernel
theorem dX7_count_82 : decode cX7_count 82 = .ok (.ireturn, 1) := by decide +kernel
theorem dX7_count_83 : decode cX7_count 83 = .ok (.aload_n 0, 1) := by decide +kernel
theorem dX7_count_84 : decode cX7_count 84 = .ok (.getfield 10, 3) := by decide +kernel
theorem dX7_count_87 : decode cX7_count 87 = .ok (.getfield 88, 3) := by decide +kernel
theorem dX7_count_90 : decode cX7_count 90 = .ok (.ireturn, 1) := by decide +kernel
theorem dX7_count_91 : decode cX7_count 91 = .ok (.iconst (-1), 1) := by decide +kernel
theorem dX7_count_92 : decode cX7_count 92 = .ok (.ireturn, 1) := by decide +kernel
theorem dX7_trace_0 : decode cX7_trace 0 = .ok (.aload_n 0, 1) := by decide +kernel
theorem dX7_trace_1 : decode cX7_trace 1 = .ok (.getfield 73, 3) := by decide +kernel
theorem dX7_trace_4 : decode cX7_trace 4 = .ok (.lreturn, 1) := by decide +kernel
theorem dX7_between_0 : decode cX7_between 0 = .ok (.iload_n 0, 1) := by decide +kernel
theorem dX7_between_1 : decode cX7_between 1 = .ok (.iload_n 1, 1) := by decide +kernel
theorem dX7_between_2 : decode cX7_between 2 = .ok (.if_icmp .lt 12, 3) := by decide +kernel
theorem dX7_between_5 : decode cX7_between 5 = .ok (.iload_n 0, 1) := by decide +kernel
theorem dX7_between_6 : decode cX7_between 6 = .ok (.iload_n 2, 1) := by decide +kernel
theorem dX7_between_7 : decode cX7_between 7 = .ok (.if_icmp .gt 7, 3) := by decide +kernel
theorem dX7_between_10 : decode cX7_between 10 = .ok (.iconst 1, 1) := by decide +kernel
theorem dX7_between_11 : decode cX7_between 11 = .ok (.goto 4, 3) := by decide +kernel
theorem dX7_between_14 : decode cX7_between 14 = .ok (.iconst 0, 1) := by decide +kernel
theorem dX7_between_15 : decode cX7_between 15 = .ok (.ireturn, 1) := by decide +kernel
theorem dX7_isAge_0 : decode cX7_isAge 0 = .ok (.iload_n 0, 1) := by decide +kernel
theorem dX7_isAge_1 : decode cX7_isAge 1 = .ok (.bipush 10, 2) := by decide +kernel
theorem dX7_isAge_3 : decode cX7_isAge 3 = .ok (.bipush 69, 2) := by decide +kernel
theorem dX7_isAge_5 : decode cX7_isAge 5 = .ok (.invokestatic 80, 3) := by decide +kernel
theorem dX7_isAge_8 : decode cX7_isAge 8 = .ok (.ireturn, 1) := by decide +kernel
theorem dX7_isPlace_0 : decode cX7_isPlace 0 = .ok (.iload_n 1, 1) := by decide +kernel
theorem dX7_isPlace_1 : decode cX7_isPlace 1 = .ok (.iconst 0, 1) := by decide +kernel
theorem dX7_isPlace_2 : decode cX7_isPlace 2 = .ok (.aload_n 0, 1) := by decide +kernel
theorem dX7_isPlace_3 : decode cX7_isPlace 3 = .ok (.getfield 62, 3) := by decide +kernel
theorem dX7_isPlace_6 : decode cX7_isPlace 6 = .ok (.getfield 184, 3) := by decide +kernel
theorem dX7_isPlace_9 : decode cX7_isPlace 9 = .ok (.iconst 1, 1) := by decide +kernel
theorem dX7_isPlace_10 : decode cX7_isPlace 10 = .ok (.isub, 1) := by decide +kernel
theorem dX7_isPlace_11 : decode cX7_isPlace 11 = .ok (.invokestatic 80, 3) := by decide +kernel
theorem dX7_isPlace_14 : decode cX7_isPlace 14 = .ok (.ireturn, 1) := by decide +kernel
theorem dX7_isWord_0 : decode cX7_isWord 0 = .ok (.iload_n 1, 1) := by decide +kernel
theorem dX7_isWord_1 : decode cX7_isWord 1 = .ok (.iconst 0, 1) := by decide +kernel
theorem dX7_isWord_2 : decode cX7_isWord 2 = .ok (.aload_n 0, 1) := by decide +kernel
theorem dX7_isWord_3 : decode cX7_isWord 3 = .ok (.getfield 62, 3) := by decide +kernel
theorem dX7_isWord_6 : decode cX7_isWord 6 = .ok (.getfield 222, 3) := by decide +kernel
theorem dX7_isWord_9 : decode cX7_isWord 9 = .ok (.iconst 1, 1) := by decide +kernel
theorem dX7_isWord_10 : decode cX7_isWord 10 = .ok (.isub, 1) := by decide +kernel
theorem dX7_isWord_11 : decode cX7_isWord 11 = .ok (.invokestatic 80, 3) := by decide +kernel
theorem dX7_isWord_14 : decode cX7_isWord 14 = .ok (.ireturn, 1) := by decide +kernel
theorem dX7_isCoined_0 : decode cX7_isCoined 0 = .ok (.aload_n 0, 1) := by decide +kernel
theorem dX7_isCoined_1 : decode cX7_isCoined 1 = .ok (.getfield 62, 3) := by decide +kernel
theorem dX7_isCoined_4 : decode cX7_isCoined 4 = .ok (.getfield 133, 3) := by decide +kernel
theorem dX7_isCoined_7 : decode cX7_isCoined 7 = .ok (.iload_n 1, 1) := by decide +kernel
theorem dX7_isCoined_8 : decode cX7_isCoined 8 = .ok (.iaload, 1) := by decide +kernel
theorem dX7_isCoined_9 : decode cX7_isCoined 9 = .ok (.aload_n 0, 1) := by decide +kernel
theorem dX7_isCoined_10 : decode cX7_isCoined 10 = .ok (.getfield 19, 3) := by decide +kernel
theorem dX7_isCoined_13 : decode cX7_isCoined 13 = .ok (.getfield 145, 3) := by decide +kernel
theorem dX7_isCoined_16 : decode cX7_isCoined 16 = .ok (.if_icmp .gt 7, 3) := by decide +kernel
theorem dX7_isCoined_19 : decode cX7_isCoined 19 = .ok (.iconst 1, 1) := by decide +kernel
theorem dX7_isCoined_20 : decode cX7_isCoined 20 = .ok (.goto 4, 3) := by decide +kernel
theorem dX7_isCoined_23 : decode cX7_isCoined 23 = .ok (.iconst 0, 1) := by decide +kernel
theorem dX7_isCoined_24 : decode cX7_isCoined 24 = .ok (.ireturn, 1) := by decide +kernel
theorem dX7_isIn_0 : decode cX7_isIn 0 = .ok (.iload_n 0, 1) := by decide +kernel
theorem dX7_isIn_1 : decode cX7_isIn 1 = .ok (.iload_n 1, 1) := by decide +kernel
theorem dX7_isIn_2 : decode cX7_isIn 2 = .ok (.ishr, 1) := by decide +kernel
theorem dX7_isIn_3 : decode cX7_isIn 3 = .ok (.iconst 1, 1) := by decide +kernel
theorem dX7_isIn_4 : decode cX7_isIn 4 = .ok (.iand, 1) := by decide +kernel
theorem dX7_isIn_5 : decode cX7_isIn 5 = .ok (.iconst 1, 1) := by decide +kernel
theorem dX7_isIn_6 : decode cX7_isIn 6 = .ok (.if_icmp .ne 7, 3) := by decide +kernel
theorem dX7_isIn_9 : decode cX7_isIn 9 = .ok (.iconst 1, 1) := by decide +kernel
theorem dX7_isIn_10 : decode cX7_isIn 10 = .ok (.goto 4, 3) := by decide +kernel
theorem dX7_isIn_13 : decode cX7_isIn 13 = .ok (.iconst 0, 1) := by decide +kernel
theorem dX7_isIn_14 : decode cX7_isIn 14 = .ok (.ireturn, 1) := by decide +kernel
theorem dX7_meanNow_0 : decode cX7_meanNow 0 = .ok (.iconst 0, 1) := by decide +kernel
theorem dX7_meanNow_1 : decode cX7_meanNow 1 = .ok (.istore_n 3, 1) := by decide +kernel
theorem dX7_meanNow_2 : decode cX7_meanNow 2 = .ok (.iconst 0, 1) := by decide +kernel
theorem dX7_meanNow_3 : decode cX7_meanNow 3 = .ok (.istore 4, 2) := by decide +kernel
theorem dX7_meanNow_5 : decode cX7_meanNow 5 = .ok (.iload 4, 2) := by decide +kernel
theorem dX7_meanNow_7 : decode cX7_meanNow 7 = .ok (.aload_n 0, 1) := by decide +kernel
theorem dX7_meanNow_8 : decode cX7_meanNow 8 = .ok (.getfield 62, 3) := by decide +kernel
theorem dX7_meanNow_11 : decode cX7_meanNow 11 = .ok (.getfield 184, 3) := by decide +kernel
theorem dX7_meanNow_14 : decode cX7_meanNow 14 = .ok (.if_icmp .ge 27, 3) := by decide +kernel
theorem dX7_meanNow_17 : decode cX7_meanNow 17 = .ok (.iload_n 3, 1) := by decide +kernel
theorem dX7_meanNow_18 : decode cX7_meanNow 18 = .ok (.aload_n 0, 1) := by decide +kernel
theorem dX7_meanNow_19 : decode cX7_meanNow 19 = .ok (.getfield 19, 3) := by decide +kernel
theorem dX7_meanNow_22 : decode cX7_meanNow 22 = .ok (.getfield 159, 3) := by decide +kernel
theorem dX7_meanNow_25 : decode cX7_meanNow 25 = .ok (.iload_n 1, 1) := by decide +kernel
theorem dX7_meanNow_26 : decode cX7_meanNow 26 = .ok (.aaload, 1) := by decide +kernel
theorem dX7_meanNow_27 : decode cX7_meanNow 27 = .ok (.iload 4, 2) := by decide +kernel
theorem dX7_meanNow_29 : decode cX7_meanNow 29 = .ok (.iload_n 2, 1) := by decide +kernel
theorem dX7_meanNow_30 : decode cX7_meanNow 30 = .ok (.invokevirtual 170, 3) := by decide +kernel
theorem dX7_meanNow_33 : decode cX7_meanNow 33 = .ok (.iadd, 1) := by decide +kernel
theorem dX7_meanNow_34 : decode cX7_meanNow 34 = .ok (.istore_n 3, 1) := by decide +kernel
theorem dX7_meanNow_35 : decode cX7_meanNow 35 = .ok (.iinc 4 1, 3) := by decide +kernel
theorem dX7_meanNow_38 : decode cX7_meanNow 38 = .ok (.goto (-33), 3) := by decide +kernel
theorem dX7_meanNow_41 : decode cX7_meanNow 41 = .ok (.iload_n 3, 1) := by decide +kernel
theorem dX7_meanNow_42 : decode cX7_meanNow 42 = .ok (.aload_n 0, 1) := by decide +kernel
theorem dX7_meanNow_43 : decode cX7_meanNow 43 = .ok (.getfield 62, 3) := by decide +kernel
theorem dX7_meanNow_46 : decode cX7_meanNow 46 = .ok (.getfield 184, 3) := by decide +kernel
theorem dX7_meanNow_49 : decode cX7_meanNow 49 = .ok (.invokestatic 300, 3) := by decide +kernel
theorem dX7_meanNow_52 : decode cX7_meanNow 52 = .ok (.ireturn, 1) := by decide +kernel
theorem dX7_mean_0 : decode cX7_mean 0 = .ok (.iload_n 1, 1) := by decide +kernel
theorem dX7_mean_1 : decode cX7_mean 1 = .ok (.ifCond .le 9, 3) := by decide +kernel
theorem dX7_mean_4 : decode cX7_mean 4 = .ok (.iload_n 0, 1) := by decide +kernel
theorem dX7_mean_5 : decode cX7_mean 5 = .ok (.iload_n 1, 1) := by decide +kernel
theorem dX7_mean_6 : decode cX7_mean 6 = .ok (.idiv, 1) := by decide +kernel
theorem dX7_mean_7 : decode cX7_mean 7 = .ok (.goto 4, 3) := by decide +kernel
theorem dX7_mean_10 : decode cX7_mean 10 = .ok (.iconst 0, 1) := by decide +kernel
theorem dX7_mean_11 : decode cX7_mean 11 = .ok (.ireturn, 1) := by decide +kernel
theorem dX7_weight_0 : decode cX7_weight 0 = .ok (.lconst 1, 1) := by decide +kernel
theorem dX7_weight_1 : decode cX7_weight 1 = .ok (.lstore 5, 2) := by decide +kernel
theorem dX7_weight_3 : decode cX7_weight 3 = .ok (.iconst 0, 1) := by decide +kernel
theorem dX7_weight_4 : decode cX7_weight 4 = .ok (.istore 7, 2) := by decide +kernel
theorem dX7_weight_6 : decode cX7_weight 6 = .ok (.iload 7, 2) := by decide +kernel
theorem dX7_weight_8 : decode cX7_weight 8 = .ok (.aload_n 0, 1) := by decide +kernel
theorem dX7_weight_9 : decode cX7_weight 9 = .ok (.getfield 62, 3) := by decide +kernel
theorem dX7_weight_12 : decode cX7_weight 12 = .ok (.getfield 222, 3) := by decide +kernel
theorem dX7_weight_15 : decode cX7_weight 15 = .ok (.if_icmp .ge 70, 3) := by decide +kernel
theorem dX7_weight_18 : decode cX7_weight 18 = .ok (.aload_n 0, 1) := by decide +kernel
theorem dX7_weight_19 : decode cX7_weight 19 = .ok (.getfield 19, 3) := by decide +kernel
theorem dX7_weight_22 : decode cX7_weight 22 = .ok (.getfield 159, 3) := by decide +kernel
theorem dX7_weight_25 : decode cX7_weight 25 = .ok (.iload 7, 2) := by decide +kernel
theorem dX7_weight_27 : decode cX7_weight 27 = .ok (.aaload, 1) := by decide +kernel
theorem dX7_weight_28 : decode cX7_weight 28 = .ok (.getfield 163, 3) := by decide +kernel
theorem dX7_weight_31 : decode cX7_weight 31 = .ok (.iload 4, 2) := by decide +kernel
theorem dX7_weight_33 : decode cX7_weight 33 = .ok (.aaload, 1) := by decide +kernel
theorem dX7_weight_34 : decode cX7_weight 34 = .ok (.iload_n 3, 1) := by decide +kernel
theorem dX7_weight_35 : decode cX7_weight 35 = .ok (.iaload, 1) := by decide +kernel
theorem dX7_weight_36 : decode cX7_weight 36 = .ok (.istore 8, 2) := by decide +kernel
theorem dX7_weight_38 : decode cX7_weight 38 = .ok (.iload_n 1, 1) := by decide +kernel
theorem dX7_weight_39 : decode cX7_weight 39 = .ok (.iload 7, 2) := by decide +kernel
theorem dX7_weight_41 : decode cX7_weight 41 = .ok (.invokestatic 245, 3) := by decide +kernel
theorem dX7_weight_44 : decode cX7_weight 44 = .ok (.ifCond .eq 14, 3) := by decide +kernel
theorem dX7_weight_47 : decode cX7_weight 47 = .ok (.lload 5, 2) := by decide +kernel
theorem dX7_weight_49 : decode cX7_weight 49 = .ok (.iload 8, 2) := by decide +kernel
theorem dX7_weight_51 : decode cX7_weight 51 = .ok (.i2l, 1) := by decide +kernel
theorem dX7_weight_52 : decode cX7_weight 52 = .ok (.lmul, 1) := by decide +kernel
theorem dX7_weight_53 : decode cX7_weight 53 = .ok (.lstore 5, 2) := by decide +kernel
theorem dX7_weight_55 : decode cX7_weight 55 = .ok (.goto 24, 3) := by decide +kernel
theorem dX7_weight_58 : decode cX7_weight 58 = .ok (.iload_n 2, 1) := by decide +kernel
theorem dX7_weight_59 : decode cX7_weight 59 = .ok (.iload 7, 2) := by decide +kernel
theorem dX7_weight_61 : decode cX7_weight 61 = .ok (.invokestatic 245, 3) := by decide +kernel
theorem dX7_weight_64 : decode cX7_weight 64 = .ok (.ifCond .eq 15, 3) := by decide +kernel
theorem dX7_weight_67 : decode cX7_weight 67 = .ok (.lload 5, 2) := by decide +kernel
theorem dX7_weight_69 : decode cX7_weight 69 = .ok (.sipush 1000, 3) := by decide +kernel
theorem dX7_weight_72 : decode cX7_weight 72 = .ok (.iload 8, 2) := by decide +kernel
theorem dX7_weight_74 : decode cX7_weight 74 = .ok (.isub, 1) := by decide +kernel
theorem dX7_weight_75 : decode cX7_weight 75 = .ok (.i2l, 1) := by decide +kernel
theorem dX7_weight_76 : decode cX7_weight 76 = .ok (.lmul, 1) := by decide +kernel
theorem dX7_weight_77 : decode cX7_weight 77 = .ok (.lstore 5, 2) := by decide +kernel
theorem dX7_weight_79 : decode cX7_weight 79 = .ok (.iinc 7 1, 3) := by decide +kernel
theorem dX7_weight_82 : decode cX7_weight 82 = .ok (.goto (-76), 3) := by decide +kernel
theorem dX7_weight_85 : decode cX7_weight 85 = .ok (.lload 5, 2) := by decide +kernel
theorem dX7_weight_87 : decode cX7_weight 87 = .ok (.lreturn, 1) := by decide +kernel
theorem dX7_weights_0 : decode cX7_weights 0 = .ok (.lconst 0, 1) := by decide +kernel
theorem dX7_weights_1 : decode cX7_weights 1 = .ok (.lstore 5, 2) := by decide +kernel
theorem dX7_weights_3 : decode cX7_weights 3 = .ok (.iload_n 3, 1) := by decide +kernel
theorem dX7_weights_4 : decode cX7_weights 4 = .ok (.istore 7, 2) := by decide +kernel
theorem dX7_weights_6 : decode cX7_weights 6 = .ok (.iload 7, 2) := by decide +kernel
theorem dX7_weights_8 : decode cX7_weights 8 = .ok (.iload 4, 2) := by decide +kernel
theorem dX7_weights_10 : decode cX7_weights 10 = .ok (.if_icmp .gt 45, 3) := by decide +kernel
theorem dX7_weights_13 : decode cX7_weights 13 = .ok (.iconst 0, 1) := by decide +kernel
theorem dX7_weights_14 : decode cX7_weights 14 = .ok (.istore 8, 2) := by decide +kernel
theorem dX7_weights_16 : decode cX7_weights 16 = .ok (.iload 8, 2) := by decide +kernel
theorem dX7_weights_18 : decode cX7_weights 18 = .ok (.aload_n 0, 1) := by decide +kernel
theorem dX7_weights_19 : decode cX7_weights 19 = .ok (.getfield 62, 3) := by decide +kernel
theorem dX7_weights_22 : decode cX7_weights 22 = .ok (.getfield 184, 3) := by decide +kernel
theorem dX7_weights_25 : decode cX7_weights 25 = .ok (.if_icmp .ge 24, 3) := by decide +kernel
theorem dX7_weights_28 : decode cX7_weights 28 = .ok (.lload 5, 2) := by decide +kernel
theorem dX7_weights_30 : decode cX7_weights 30 = .ok (.aload_n 0, 1) := by decide +kernel
theorem dX7_weights_31 : decode cX7_weights 31 = .ok (.iload_n 1, 1) := by decide +kernel
theorem dX7_weights_32 : decode cX7_weights 32 = .ok (.iload_n 2, 1) := by decide +kernel
theorem dX7_weights_33 : decode cX7_weights 33 = .ok (.iload 7, 2) := by decide +kernel
theorem dX7_weights_35 : decode cX7_weights 35 = .ok (.iload 8, 2) := by decide +kernel
theorem dX7_weights_37 : decode cX7_weights 37 = .ok (.invokevirtual 219, 3) := by decide +kernel
theorem dX7_weights_40 : decode cX7_weights 40 = .ok (.ladd, 1) := by decide +kernel
theorem dX7_weights_41 : decode cX7_weights 41 = .ok (.lstore 5, 2) := by decide +kernel
theorem dX7_weights_43 : decode cX7_weights 43 = .ok (.iinc 8 1, 3) := by decide +kernel
theorem dX7_weights_46 : decode cX7_weights 46 = .ok (.goto (-30), 3) := by decide +kernel
theorem dX7_weights_49 : decode cX7_weights 49 = .ok (.iinc 7 1, 3) := by decide +kernel
theorem dX7_weights_52 : decode cX7_weights 52 = .ok (.goto (-46), 3) := by decide +kernel
theorem dX7_weights_55 : decode cX7_weights 55 = .ok (.lload 5, 2) := by decide +kernel
theorem dX7_weights_57 : decode cX7_weights 57 = .ok (.lreturn, 1) := by decide +kernel
theorem dX7_letterStands_0 : decode cX7_letterStands 0 = .ok (.aload_n 0, 1) := by decide +kernel
theorem dX7_letterStands_1 : decode cX7_letterStands 1 = .ok (.getfield 34, 3) := by decide +kernel
theorem dX7_letterStands_4 : decode cX7_letterStands 4 = .ok (.getfield 98, 3) := by decide +kernel
theorem dX7_letterStands_7 : decode cX7_letterStands 7 = .ok (.ifCond .eq 24, 3) := by decide +kernel
theorem dX7_letterStands_10 : decode cX7_letterStands 10 = .ok (.aload_n 0, 1) := by decide +kernel
theorem dX7_letterStands_11 : decode cX7_letterStands 11 = .ok (.getfield 34, 3) := by decide +kernel
theorem dX7_letterStands_14 : decode cX7_letterStands 14 = .ok (.getfield 226, 3) := by decide +kernel
theorem dX7_letterStands_17 : decode cX7_letterStands 17 = .ok (.aload_n 0, 1) := by decide +kernel
theorem dX7_letterStands_18 : decode cX7_letterStands 18 = .ok (.getfield 19, 3) := by decide +kernel
theorem dX7_letterStands_21 : decode cX7_letterStands 21 = .ok (.getfield 145, 3) := by decide +kernel
theorem dX7_letterStands_24 : decode cX7_letterStands 24 = .ok (.if_icmp .gt 7, 3) := by decide +kernel
theorem dX7_letterStands_27 : decode cX7_letterStands 27 = .ok (.iconst 1, 1) := by decide +kernel
theorem dX7_letterStands_28 : decode cX7_letterStands 28 = .ok (.goto 4, 3) := by decide +kernel
theorem dX7_letterStands_31 : decode cX7_letterStands 31 = .ok (.iconst 0, 1) := by decide +kernel
theorem dX7_letterStands_32 : decode cX7_letterStands 32 = .ok (.ireturn, 1) := by decide +kernel
theorem dX7_recallLetter_0 : decode cX7_recallLetter 0 = .ok (.iconst 0, 1) := by decide +kernel
theorem dX7_recallLetter_1 : decode cX7_recallLetter 1 = .ok (.istore_n 1, 1) := by decide +kernel
theorem dX7_recallLetter_2 : decode cX7_recallLetter 2 = .ok (.iload_n 1, 1) := by decide +kernel
theorem dX7_recallLetter_3 : decode cX7_recallLetter 3 = .ok (.aload_n 0, 1) := by decide +kernel
theorem dX7_recallLetter_4 : decode cX7_recallLetter 4 = .ok (.getfield 62, 3) := by decide +kernel
theorem dX7_recallLetter_7 : decode cX7_recallLetter 7 = .ok (.getfield 222, 3) := by decide +kernel
theorem dX7_recallLetter_10 : decode cX7_recallLetter 10 = .ok (.if_icmp .ge 88, 3) := by decide +kernel
theorem dX7_recallLetter_13 : decode cX7_recallLetter 13 = .ok (.aload_n 0, 1) := by decide +kernel
theorem dX7_recallLetter_14 : decode cX7_recallLetter 14 = .ok (.getfield 34, 3) := by decide +kernel
theorem dX7_recallLetter_17 : decode cX7_recallLetter 17 = .ok (.getfield 225, 3) := by decide +kernel
theorem dX7_recallLetter_20 : decode cX7_recallLetter 20 = .ok (.iload_n 1, 1) := by decide +kernel
theorem dX7_recallLetter_21 : decode cX7_recallLetter 21 = .ok (.invokestatic 245, 3) := by decide +kernel
theorem dX7_recallLetter_24 : decode cX7_recallLetter 24 = .ok (.ifCond .eq 68, 3) := by decide +kernel
theorem dX7_recallLetter_27 : decode cX7_recallLetter 27 = .ok (.aload_n 0, 1) := by decide +kernel
theorem dX7_recallLetter_28 : decode cX7_recallLetter 28 = .ok (.getfield 55, 3) := by decide +kernel
theorem dX7_recallLetter_31 : decode cX7_recallLetter 31 = .ok (.aload_n 0, 1) := by decide +kernel
theorem dX7_recallLetter_32 : decode cX7_recallLetter 32 = .ok (.getfield 62, 3) := by decide +kernel
theorem dX7_recallLetter_35 : decode cX7_recallLetter 35 = .ok (.aload_n 0, 1) := by decide +kernel
theorem dX7_recallLetter_36 : decode cX7_recallLetter 36 = .ok (.getfield 19, 3) := by decide +kernel
theorem dX7_recallLetter_39 : decode cX7_recallLetter 39 = .ok (.getfield 173, 3) := by decide +kernel
theorem dX7_recallLetter_42 : decode cX7_recallLetter 42 = .ok (.iload_n 1, 1) := by decide +kernel
theorem dX7_recallLetter_43 : decode cX7_recallLetter 43 = .ok (.aload_n 0, 1) := by decide +kernel
theorem dX7_recallLetter_44 : decode cX7_recallLetter 44 = .ok (.getfield 62, 3) := by decide +kernel
theorem dX7_recallLetter_47 : decode cX7_recallLetter 47 = .ok (.getfield 109, 3) := by decide +kernel
theorem dX7_recallLetter_50 : decode cX7_recallLetter 50 = .ok (.aload_n 0, 1) := by decide +kernel
theorem dX7_recallLetter_51 : decode cX7_recallLetter 51 = .ok (.getfield 34, 3) := by decide +kernel
theorem dX7_recallLetter_54 : decode cX7_recallLetter 54 = .ok (.getfield 226, 3) := by decide +kernel
theorem dX7_recallLetter_57 : decode cX7_recallLetter 57 = .ok (.invokevirtual 259, 3) := by decide +kernel
theorem dX7_recallLetter_60 : decode cX7_recallLetter 60 = .ok (.aload_n 0, 1) := by decide +kernel
theorem dX7_recallLetter_61 : decode cX7_recallLetter 61 = .ok (.getfield 34, 3) := by decide +kernel
theorem dX7_recallLetter_64 : decode cX7_recallLetter 64 = .ok (.getfield 249, 3) := by decide +kernel
theorem dX7_recallLetter_67 : decode cX7_recallLetter 67 = .ok (.iload_n 1, 1) := by decide +kernel
theorem dX7_recallLetter_68 : decode cX7_recallLetter 68 = .ok (.aload_n 0, 1) := by decide +kernel
theorem dX7_recallLetter_69 : decode cX7_recallLetter 69 = .ok (.getfield 55, 3) := by decide +kernel
theorem dX7_recallLetter_72 : decode cX7_recallLetter 72 = .ok (.getfield 163, 3) := by decide +kernel
theorem dX7_recallLetter_75 : decode cX7_recallLetter 75 = .ok (.aload_n 0, 1) := by decide +kernel
theorem dX7_recallLetter_76 : decode cX7_recallLetter 76 = .ok (.getfield 34, 3) := by decide +kernel
theorem dX7_recallLetter_79 : decode cX7_recallLetter 79 = .ok (.getfield 230, 3) := by decide +kernel
theorem dX7_recallLetter_82 : decode cX7_recallLetter 82 = .ok (.aaload, 1) := by decide +kernel
theorem dX7_recallLetter_83 : decode cX7_recallLetter 83 = .ok (.aload_n 0, 1) := by decide +kernel
theorem dX7_recallLetter_84 : decode cX7_recallLetter 84 = .ok (.getfield 34, 3) := by decide +kernel
theorem dX7_recallLetter_87 : decode cX7_recallLetter 87 = .ok (.getfield 227, 3) := by decide +kernel
theorem dX7_recallLetter_90 : decode cX7_recallLetter 90 = .ok (.iaload, 1) := by decide +kernel
theorem dX7_recallLetter_91 : decode cX7_recallLetter 91 = .ok (.iastore, 1) := by decide +kernel
theorem dX7_recallLetter_92 : decode cX7_recallLetter 92 = .ok (.iinc 1 1, 3) := by decide +kernel
theorem dX7_recallLetter_95 : decode cX7_recallLetter 95 = .ok (.goto (-93), 3) := by decide +kernel
theorem dX7_recallLetter_98 : decode cX7_recallLetter 98 = .ok (.return_, 1) := by decide +kernel
theorem dX7_letterWeight_0 : decode cX7_letterWeight 0 = .ok (.lconst 1, 1) := by decide +kernel
theorem dX7_letterWeight_1 : decode cX7_letterWeight 1 = .ok (.lstore_n 1, 1) := by decide +kernel
theorem dX7_letterWeight_2 : decode cX7_letterWeight 2 = .ok (.iconst 0, 1) := by decide +kernel
theorem dX7_letterWeight_3 : decode cX7_letterWeight 3 = .ok (.istore_n 3, 1) := by decide +kernel
theorem dX7_letterWeight_4 : decode cX7_letterWeight 4 = .ok (.iload_n 3, 1) := by decide +kernel
theorem dX7_letterWeight_5 : decode cX7_letterWeight 5 = .ok (.aload_n 0, 1) := by decide +kernel
theorem dX7_letterWeight_6 : decode cX7_letterWeight 6 = .ok (.getfield 62, 3) := by decide +kernel
theorem dX7_letterWeight_9 : decode cX7_letterWeight 9 = .ok (.getfield 222, 3) := by decide +kernel
theorem dX7_letterWeight_12 : decode cX7_letterWeight 12 = .ok (.if_icmp .ge 36, 3) := by decide +kernel
theorem dX7_letterWeight_15 : decode cX7_letterWeight 15 = .ok (.aload_n 0, 1) := by decide +kernel
theorem dX7_letterWeight_16 : decode cX7_letterWeight 16 = .ok (.getfield 34, 3) := by decide +kernel
theorem dX7_letterWeight_19 : decode cX7_letterWeight 19 = .ok (.getfield 225, 3) := by decide +kernel
theorem dX7_letterWeight_22 : decode cX7_letterWeight 22 = .ok (.iload_n 3, 1) := by decide +kernel
theorem dX7_letterWeight_23 : decode cX7_letterWeight 23 = .ok (.invokestatic 245, 3) := by decide +kernel
theorem dX7_letterWeight_26 : decode cX7_letterWeight 26 = .ok (.ifCond .eq 16, 3) := by decide +kernel
theorem dX7_letterWeight_29 : decode cX7_letterWeight 29 = .ok (.lload_n 1, 1) := by decide +kernel
theorem dX7_letterWeight_30 : decode cX7_letterWeight 30 = .ok (.aload_n 0, 1) := by decide +kernel
theorem dX7_letterWeight_31 : decode cX7_letterWeight 31 = .ok (.getfield 34, 3) := by decide +kernel
theorem dX7_letterWeight_34 : decode cX7_letterWeight 34 = .ok (.getfield 249, 3) := by decide +kernel
theorem dX7_letterWeight_37 : decode cX7_letterWeight 37 = .ok (.iload_n 3, 1) := by decide +kernel
theorem dX7_letterWeight_38 : decode cX7_letterWeight 38 = .ok (.iaload, 1) := by decide +kernel
theorem dX7_letterWeight_39 : decode cX7_letterWeight 39 = .ok (.i2l, 1) := by decide +kernel
theorem dX7_letterWeight_40 : decode cX7_letterWeight 40 = .ok (.lmul, 1) := by decide +kernel
theorem dX7_letterWeight_41 : decode cX7_letterWeight 41 = .ok (.lstore_n 1, 1) := by decide +kernel
theorem dX7_letterWeight_42 : decode cX7_letterWeight 42 = .ok (.iinc 3 1, 3) := by decide +kernel
theorem dX7_letterWeight_45 : decode cX7_letterWeight 45 = .ok (.goto (-41), 3) := by decide +kernel
theorem dX7_letterWeight_48 : decode cX7_letterWeight 48 = .ok (.lload_n 1, 1) := by decide +kernel
theorem dX7_letterWeight_49 : decode cX7_letterWeight 49 = .ok (.lreturn, 1) := by decide +kernel
end
section
theorem dX7_leastTerms_0 : decode cX7_leastTerms 0 = .ok (.lload_n 0, 1) := by decide +kernel
theorem dX7_leastTerms_1 : decode cX7_leastTerms 1 = .ok (.invokestatic 303, 3) := by decide +kernel
theorem dX7_leastTerms_4 : decode cX7_leastTerms 4 = .ok (.lload_n 2, 1) := by decide +kernel
theorem dX7_leastTerms_5 : decode cX7_leastTerms 5 = .ok (.invokestatic 307, 3) := by decide +kernel
theorem dX7_leastTerms_8 : decode cX7_leastTerms 8 = .ok (.lstore 5, 2) := by decide +kernel
theorem dX7_leastTerms_10 : decode cX7_leastTerms 10 = .ok (.lload 5, 2) := by decide +kernel
theorem dX7_leastTerms_12 : decode cX7_leastTerms 12 = .ok (.lconst 0, 1) := by decide +kernel
theorem dX7_leastTerms_13 : decode cX7_leastTerms 13 = .ok (.lcmp, 1) := by decide +kernel
theorem dX7_leastTerms_14 : decode cX7_leastTerms 14 = .ok (.ifCond .gt 7, 3) := by decide +kernel
theorem dX7_leastTerms_17 : decode cX7_leastTerms 17 = .ok (.ldc2_w 213, 3) := by decide +kernel
theorem dX7_leastTerms_20 : decode cX7_leastTerms 20 = .ok (.lreturn, 1) := by decide +kernel
theorem dX7_leastTerms_21 : decode cX7_leastTerms 21 = .ok (.iload 4, 2) := by decide +kernel
theorem dX7_leastTerms_23 : decode cX7_leastTerms 23 = .ok (.ifCond .ne 7, 3) := by decide +kernel
theorem dX7_leastTerms_26 : decode cX7_leastTerms 26 = .ok (.lload_n 0, 1) := by decide +kernel
theorem dX7_leastTerms_27 : decode cX7_leastTerms 27 = .ok (.goto 4, 3) := by decide +kernel
theorem dX7_leastTerms_30 : decode cX7_leastTerms 30 = .ok (.lload_n 2, 1) := by decide +kernel
theorem dX7_leastTerms_31 : decode cX7_leastTerms 31 = .ok (.lload 5, 2) := by decide +kernel
theorem dX7_leastTerms_33 : decode cX7_leastTerms 33 = .ok (.ldiv, 1) := by decide +kernel
theorem dX7_leastTerms_34 : decode cX7_leastTerms 34 = .ok (.lreturn, 1) := by decide +kernel
theorem dX7_commonDivisor_0 : decode cX7_commonDivisor 0 = .ok (.lload_n 0, 1) := by decide +kernel
theorem dX7_commonDivisor_1 : decode cX7_commonDivisor 1 = .ok (.lstore 4, 2) := by decide +kernel
theorem dX7_commonDivisor_3 : decode cX7_commonDivisor 3 = .ok (.lload_n 2, 1) := by decide +kernel
theorem dX7_commonDivisor_4 : decode cX7_commonDivisor 4 = .ok (.lstore 6, 2) := by decide +kernel
theorem dX7_commonDivisor_6 : decode cX7_commonDivisor 6 = .ok (.iconst 0, 1) := by decide +kernel
theorem dX7_commonDivisor_7 : decode cX7_commonDivisor 7 = .ok (.istore 8, 2) := by decide +kernel
theorem dX7_commonDivisor_9 : decode cX7_commonDivisor 9 = .ok (.iload 8, 2) := by decide +kernel
theorem dX7_commonDivisor_11 : decode cX7_commonDivisor 11 = .ok (.sipush 1000, 3) := by decide +kernel
theorem dX7_commonDivisor_14 : decode cX7_commonDivisor 14 = .ok (.if_icmp .ge 31, 3) := by decide +kernel
theorem dX7_commonDivisor_17 : decode cX7_commonDivisor 17 = .ok (.lload 6, 2) := by decide +kernel
theorem dX7_commonDivisor_19 : decode cX7_commonDivisor 19 = .ok (.lconst 0, 1) := by decide +kernel
theorem dX7_commonDivisor_20 : decode cX7_commonDivisor 20 = .ok (.lcmp, 1) := by decide +kernel
theorem dX7_commonDivisor_21 : decode cX7_commonDivisor 21 = .ok (.ifCond .eq 24, 3) := by decide +kernel
theorem dX7_commonDivisor_24 : decode cX7_commonDivisor 24 = .ok (.lload 4, 2) := by decide +kernel
theorem dX7_commonDivisor_26 : decode cX7_commonDivisor 26 = .ok (.lload 6, 2) := by decide +kernel
theorem dX7_commonDivisor_28 : decode cX7_commonDivisor 28 = .ok (.lrem, 1) := by decide +kernel
theorem dX7_commonDivisor_29 : decode cX7_commonDivisor 29 = .ok (.lstore 9, 2) := by decide +kernel
theorem dX7_commonDivisor_31 : decode cX7_commonDivisor 31 = .ok (.lload 6, 2) := by decide +kernel
theorem dX7_commonDivisor_33 : decode cX7_commonDivisor 33 = .ok (.lstore 4, 2) := by decide +kernel
theorem dX7_commonDivisor_35 : decode cX7_commonDivisor 35 = .ok (.lload 9, 2) := by decide +kernel
theorem dX7_commonDivisor_37 : decode cX7_commonDivisor 37 = .ok (.lstore 6, 2) := by decide +kernel
theorem dX7_commonDivisor_39 : decode cX7_commonDivisor 39 = .ok (.iinc 8 1, 3) := by decide +kernel
theorem dX7_commonDivisor_42 : decode cX7_commonDivisor 42 = .ok (.goto (-33), 3) := by decide +kernel
theorem dX7_commonDivisor_45 : decode cX7_commonDivisor 45 = .ok (.lload 4, 2) := by decide +kernel
theorem dX7_commonDivisor_47 : decode cX7_commonDivisor 47 = .ok (.lreturn, 1) := by decide +kernel
theorem dX7_lastOver_0 : decode cX7_lastOver 0 = .ok (.aload_n 0, 1) := by decide +kernel
theorem dX7_lastOver_1 : decode cX7_lastOver 1 = .ok (.getfield 55, 3) := by decide +kernel
theorem dX7_lastOver_4 : decode cX7_lastOver 4 = .ok (.aload_n 0, 1) := by decide +kernel
theorem dX7_lastOver_5 : decode cX7_lastOver 5 = .ok (.getfield 62, 3) := by decide +kernel
theorem dX7_lastOver_8 : decode cX7_lastOver 8 = .ok (.aload_n 0, 1) := by decide +kernel
theorem dX7_lastOver_9 : decode cX7_lastOver 9 = .ok (.getfield 19, 3) := by decide +kernel
theorem dX7_lastOver_12 : decode cX7_lastOver 12 = .ok (.getfield 173, 3) := by decide +kernel
theorem dX7_lastOver_15 : decode cX7_lastOver 15 = .ok (.iload_n 1, 1) := by decide +kernel
theorem dX7_lastOver_16 : decode cX7_lastOver 16 = .ok (.iload_n 2, 1) := by decide +kernel
theorem dX7_lastOver_17 : decode cX7_lastOver 17 = .ok (.bipush 99, 2) := by decide +kernel
theorem dX7_lastOver_19 : decode cX7_lastOver 19 = .ok (.invokevirtual 259, 3) := by decide +kernel
theorem dX7_lastOver_22 : decode cX7_lastOver 22 = .ok (.aload_n 0, 1) := by decide +kernel
theorem dX7_lastOver_23 : decode cX7_lastOver 23 = .ok (.getfield 55, 3) := by decide +kernel
theorem dX7_lastOver_26 : decode cX7_lastOver 26 = .ok (.bipush 99, 2) := by decide +kernel
theorem dX7_lastOver_28 : decode cX7_lastOver 28 = .ok (.invokevirtual 198, 3) := by decide +kernel
theorem dX7_lastOver_31 : decode cX7_lastOver 31 = .ok (.istore_n 3, 1) := by decide +kernel
theorem dX7_lastOver_32 : decode cX7_lastOver 32 = .ok (.iload_n 3, 1) := by decide +kernel
theorem dX7_lastOver_33 : decode cX7_lastOver 33 = .ok (.bipush (-9), 2) := by decide +kernel
theorem dX7_lastOver_35 : decode cX7_lastOver 35 = .ok (.if_icmp .ne 8, 3) := by decide +kernel
theorem dX7_lastOver_38 : decode cX7_lastOver 38 = .ok (.bipush 99, 2) := by decide +kernel
theorem dX7_lastOver_40 : decode cX7_lastOver 40 = .ok (.goto 4, 3) := by decide +kernel
theorem dX7_lastOver_43 : decode cX7_lastOver 43 = .ok (.iload_n 3, 1) := by decide +kernel
theorem dX7_lastOver_44 : decode cX7_lastOver 44 = .ok (.ireturn, 1) := by decide +kernel
theorem dX7_rateWord_0 : decode cX7_rateWord 0 = .ok (.aload_n 0, 1) := by decide +kernel
theorem dX7_rateWord_1 : decode cX7_rateWord 1 = .ok (.dup, 1) := by decide +kernel
theorem dX7_rateWord_2 : decode cX7_rateWord 2 = .ok (.getfield 73, 3) := by decide +kernel
theorem dX7_rateWord_5 : decode cX7_rateWord 5 = .ok (.lconst 1, 1) := by decide +kernel
theorem dX7_rateWord_6 : decode cX7_rateWord 6 = .ok (.ladd, 1) := by decide +kernel
theorem dX7_rateWord_7 : decode cX7_rateWord 7 = .ok (.putfield 73, 3) := by decide +kernel
theorem dX7_rateWord_10 : decode cX7_rateWord 10 = .ok (.aload_n 0, 1) := by decide +kernel
theorem dX7_rateWord_11 : decode cX7_rateWord 11 = .ok (.getfield 62, 3) := by decide +kernel
theorem dX7_rateWord_14 : decode cX7_rateWord 14 = .ok (.getfield 133, 3) := by decide +kernel
theorem dX7_rateWord_17 : decode cX7_rateWord 17 = .ok (.iload_n 1, 1) := by decide +kernel
theorem dX7_rateWord_18 : decode cX7_rateWord 18 = .ok (.iaload, 1) := by decide +kernel
theorem dX7_rateWord_19 : decode cX7_rateWord 19 = .ok (.ireturn, 1) := by decide +kernel
theorem dX7_rateNew_0 : decode cX7_rateNew 0 = .ok (.aload_n 0, 1) := by decide +kernel
theorem dX7_rateNew_1 : decode cX7_rateNew 1 = .ok (.dup, 1) := by decide +kernel
theorem dX7_rateNew_2 : decode cX7_rateNew 2 = .ok (.getfield 73, 3) := by decide +kernel
theorem dX7_rateNew_5 : decode cX7_rateNew 5 = .ok (.ldc2_w 311, 3) := by decide +kernel
theorem dX7_rateNew_8 : decode cX7_rateNew 8 = .ok (.ladd, 1) := by decide +kernel
theorem dX7_rateNew_9 : decode cX7_rateNew 9 = .ok (.putfield 73, 3) := by decide +kernel
theorem dX7_rateNew_12 : decode cX7_rateNew 12 = .ok (.aload_n 0, 1) := by decide +kernel
theorem dX7_rateNew_13 : decode cX7_rateNew 13 = .ok (.iload_n 1, 1) := by decide +kernel
theorem dX7_rateNew_14 : decode cX7_rateNew 14 = .ok (.invokevirtual 278, 3) := by decide +kernel
theorem dX7_rateNew_17 : decode cX7_rateNew 17 = .ok (.aload_n 0, 1) := by decide +kernel
theorem dX7_rateNew_18 : decode cX7_rateNew 18 = .ok (.iload_n 1, 1) := by decide +kernel
theorem dX7_rateNew_19 : decode cX7_rateNew 19 = .ok (.iconst 0, 1) := by decide +kernel
theorem dX7_rateNew_20 : decode cX7_rateNew 20 = .ok (.invokevirtual 167, 3) := by decide +kernel
theorem dX7_rateNew_23 : decode cX7_rateNew 23 = .ok (.iadd, 1) := by decide +kernel
theorem dX7_rateNew_24 : decode cX7_rateNew 24 = .ok (.ireturn, 1) := by decide +kernel
theorem dX7_rateHad_0 : decode cX7_rateHad 0 = .ok (.aload_n 0, 1) := by decide +kernel
theorem dX7_rateHad_1 : decode cX7_rateHad 1 = .ok (.dup, 1) := by decide +kernel
theorem dX7_rateHad_2 : decode cX7_rateHad 2 = .ok (.getfield 73, 3) := by decide +kernel
theorem dX7_rateHad_5 : decode cX7_rateHad 5 = .ok (.ldc2_w 313, 3) := by decide +kernel
theorem dX7_rateHad_8 : decode cX7_rateHad 8 = .ok (.ladd, 1) := by decide +kernel
theorem dX7_rateHad_9 : decode cX7_rateHad 9 = .ok (.putfield 73, 3) := by decide +kernel
theorem dX7_rateHad_12 : decode cX7_rateHad 12 = .ok (.aload_n 0, 1) := by decide +kernel
theorem dX7_rateHad_13 : decode cX7_rateHad 13 = .ok (.iload_n 1, 1) := by decide +kernel
theorem dX7_rateHad_14 : decode cX7_rateHad 14 = .ok (.invokevirtual 278, 3) := by decide +kernel
theorem dX7_rateHad_17 : decode cX7_rateHad 17 = .ok (.aload_n 0, 1) := by decide +kernel
theorem dX7_rateHad_18 : decode cX7_rateHad 18 = .ok (.iload_n 1, 1) := by decide +kernel
theorem dX7_rateHad_19 : decode cX7_rateHad 19 = .ok (.iconst 2, 1) := by decide +kernel
theorem dX7_rateHad_20 : decode cX7_rateHad 20 = .ok (.invokevirtual 167, 3) := by decide +kernel
theorem dX7_rateHad_23 : decode cX7_rateHad 23 = .ok (.iadd, 1) := by decide +kernel
theorem dX7_rateHad_24 : decode cX7_rateHad 24 = .ok (.ireturn, 1) := by decide +kernel
theorem dX7_rateOver_0 : decode cX7_rateOver 0 = .ok (.aload_n 0, 1) := by decide +kernel
theorem dX7_rateOver_1 : decode cX7_rateOver 1 = .ok (.dup, 1) := by decide +kernel
theorem dX7_rateOver_2 : decode cX7_rateOver 2 = .ok (.getfield 73, 3) := by decide +kernel
theorem dX7_rateOver_5 : decode cX7_rateOver 5 = .ok (.ldc2_w 315, 3) := by decide +kernel
theorem dX7_rateOver_8 : decode cX7_rateOver 8 = .ok (.ladd, 1) := by decide +kernel
theorem dX7_rateOver_9 : decode cX7_rateOver 9 = .ok (.putfield 73, 3) := by decide +kernel
theorem dX7_rateOver_12 : decode cX7_rateOver 12 = .ok (.aload_n 0, 1) := by decide +kernel
theorem dX7_rateOver_13 : decode cX7_rateOver 13 = .ok (.iload_n 1, 1) := by decide +kernel
theorem dX7_rateOver_14 : decode cX7_rateOver 14 = .ok (.invokevirtual 284, 3) := by decide +kernel
theorem dX7_rateOver_17 : decode cX7_rateOver 17 = .ok (.aload_n 0, 1) := by decide +kernel
theorem dX7_rateOver_18 : decode cX7_rateOver 18 = .ok (.iload_n 1, 1) := by decide +kernel
theorem dX7_rateOver_19 : decode cX7_rateOver 19 = .ok (.iconst 1, 1) := by decide +kernel
theorem dX7_rateOver_20 : decode cX7_rateOver 20 = .ok (.invokevirtual 167, 3) := by decide +kernel
theorem dX7_rateOver_23 : decode cX7_rateOver 23 = .ok (.isub, 1) := by decide +kernel
theorem dX7_rateOver_24 : decode cX7_rateOver 24 = .ok (.ireturn, 1) := by decide +kernel
theorem dX7_rateKept_0 : decode cX7_rateKept 0 = .ok (.aload_n 0, 1) := by decide +kernel
theorem dX7_rateKept_1 : decode cX7_rateKept 1 = .ok (.dup, 1) := by decide +kernel
theorem dX7_rateKept_2 : decode cX7_rateKept 2 = .ok (.getfield 73, 3) := by decide +kernel
theorem dX7_rateKept_5 : decode cX7_rateKept 5 = .ok (.ldc2_w 317, 3) := by decide +kernel
theorem dX7_rateKept_8 : decode cX7_rateKept 8 = .ok (.ladd, 1) := by decide +kernel
theorem dX7_rateKept_9 : decode cX7_rateKept 9 = .ok (.putfield 73, 3) := by decide +kernel
theorem dX7_rateKept_12 : decode cX7_rateKept 12 = .ok (.iconst 2, 1) := by decide +kernel
theorem dX7_rateKept_13 : decode cX7_rateKept 13 = .ok (.aload_n 0, 1) := by decide +kernel
theorem dX7_rateKept_14 : decode cX7_rateKept 14 = .ok (.iload_n 1, 1) := by decide +kernel
theorem dX7_rateKept_15 : decode cX7_rateKept 15 = .ok (.invokevirtual 287, 3) := by decide +kernel
theorem dX7_rateKept_18 : decode cX7_rateKept 18 = .ok (.imul, 1) := by decide +kernel
theorem dX7_rateKept_19 : decode cX7_rateKept 19 = .ok (.ireturn, 1) := by decide +kernel
theorem dX7_rateStayed_0 : decode cX7_rateStayed 0 = .ok (.aload_n 0, 1) := by decide +kernel
theorem dX7_rateStayed_1 : decode cX7_rateStayed 1 = .ok (.dup, 1) := by decide +kernel
theorem dX7_rateStayed_2 : decode cX7_rateStayed 2 = .ok (.getfield 73, 3) := by decide +kernel
theorem dX7_rateStayed_5 : decode cX7_rateStayed 5 = .ok (.ldc2_w 319, 3) := by decide +kernel
theorem dX7_rateStayed_8 : decode cX7_rateStayed 8 = .ok (.ladd, 1) := by decide +kernel
theorem dX7_rateStayed_9 : decode cX7_rateStayed 9 = .ok (.putfield 73, 3) := by decide +kernel
theorem dX7_rateStayed_12 : decode cX7_rateStayed 12 = .ok (.aload_n 0, 1) := by decide +kernel
theorem dX7_rateStayed_13 : decode cX7_rateStayed 13 = .ok (.iload_n 1, 1) := by decide +kernel
theorem dX7_rateStayed_14 : decode cX7_rateStayed 14 = .ok (.invokevirtual 278, 3) := by decide +kernel
theorem dX7_rateStayed_17 : decode cX7_rateStayed 17 = .ok (.aload_n 0, 1) := by decide +kernel
theorem dX7_rateStayed_18 : decode cX7_rateStayed 18 = .ok (.getfield 62, 3) := by decide +kernel
theorem dX7_rateStayed_21 : decode cX7_rateStayed 21 = .ok (.getfield 129, 3) := by decide +kernel
theorem dX7_rateStayed_24 : decode cX7_rateStayed 24 = .ok (.iload_n 1, 1) := by decide +kernel
theorem dX7_rateStayed_25 : decode cX7_rateStayed 25 = .ok (.iaload, 1) := by decide +kernel
theorem dX7_rateStayed_26 : decode cX7_rateStayed 26 = .ok (.iadd, 1) := by decide +kernel
theorem dX7_rateStayed_27 : decode cX7_rateStayed 27 = .ok (.ireturn, 1) := by decide +kernel
theorem dX8_init_0 : decode cX8_init 0 = .ok (.aload_n 0, 1) := by decide +kernel
theorem dX8_init_1 : decode cX8_init 1 = .ok (.invokespecial 1, 3) := by decide +kernel
theorem dX8_init_4 : decode cX8_init 4 = .ok (.aload_n 0, 1) := by decide +kernel
theorem dX8_init_5 : decode cX8_init 5 = .ok (.sipush 2950, 3) := by decide +kernel
theorem dX8_init_8 : decode cX8_init 8 = .ok (.newarray .int, 2) := by decide +kernel
theorem dX8_init_10 : decode cX8_init 10 = .ok (.putfield 7, 3) := by decide +kernel
theorem dX8_init_13 : decode cX8_init 13 = .ok (.aload_n 0, 1) := by decide +kernel
theorem dX8_init_14 : decode cX8_init 14 = .ok (.sipush 2950, 3) := by decide +kernel
theorem dX8_init_17 : decode cX8_init 17 = .ok (.newarray .int, 2) := by decide +kernel
theorem dX8_init_19 : decode cX8_init 19 = .ok (.putfield 13, 3) := by decide +kernel
theorem dX8_init_22 : decode cX8_init 22 = .ok (.aload_n 0, 1) := by decide +kernel
theorem dX8_init_23 : decode cX8_init 23 = .ok (.sipush 5900, 3) := by decide +kernel
theorem dX8_init_26 : decode cX8_init 26 = .ok (.newarray .int, 2) := by decide +kernel
theorem dX8_init_28 : decode cX8_init 28 = .ok (.putfield 16, 3) := by decide +kernel
theorem dX8_init_31 : decode cX8_init 31 = .ok (.aload_n 0, 1) := by decide +kernel
theorem dX8_init_32 : decode cX8_init 32 = .ok (.iconst 2, 1) := by decide +kernel
theorem dX8_init_33 : decode cX8_init 33 = .ok (.newarray .boolean, 2) := by decide +kernel
theorem dX8_init_35 : decode cX8_init 35 = .ok (.putfield 19, 3) := by decide +kernel
theorem dX8_init_38 : decode cX8_init 38 = .ok (.aload_n 0, 1) := by decide +kernel
theorem dX8_init_39 : decode cX8_init 39 = .ok (.sipush 300, 3) := by decide +kernel
theorem dX8_init_42 : decode cX8_init 42 = .ok (.newarray .int, 2) := by decide +kernel
theorem dX8_init_44 : decode cX8_init 44 = .ok (.putfield 23, 3) := by decide +kernel
theorem dX8_init_47 : decode cX8_init 47 = .ok (.aload_n 0, 1) := by decide +kernel
theorem dX8_init_48 : decode cX8_init 48 = .ok (.bipush 10, 2) := by decide +kernel
theorem dX8_init_50 : decode cX8_init 50 = .ok (.newarray .int, 2) := by decide +kernel
theorem dX8_init_52 : decode cX8_init 52 = .ok (.putfield 26, 3) := by decide +kernel
theorem dX8_init_55 : decode cX8_init 55 = .ok (.aload_n 0, 1) := by decide +kernel
theorem dX8_init_56 : decode cX8_init 56 = .ok (.bipush 18, 2) := by decide +kernel
theorem dX8_init_58 : decode cX8_init 58 = .ok (.newarray .int, 2) := by decide +kernel
theorem dX8_init_60 : decode cX8_init 60 = .ok (.putfield 29, 3) := by decide +kernel
theorem dX8_init_63 : decode cX8_init 63 = .ok (.aload_n 0, 1) := by decide +kernel
theorem dX8_init_64 : decode cX8_init 64 = .ok (.bipush 40, 2) := by decide +kernel
theorem dX8_init_66 : decode cX8_init 66 = .ok (.newarray .int, 2) := by decide +kernel
theorem dX8_init_68 : decode cX8_init 68 = .ok (.putfield 32, 3) := by decide +kernel
theorem dX8_init_71 : decode cX8_init 71 = .ok (.aload_n 0, 1) := by decide +kernel
theorem dX8_init_72 : decode cX8_init 72 = .ok (.iconst 4, 1) := by decide +kernel
theorem dX8_init_73 : decode cX8_init 73 = .ok (.newarray .int, 2) := by decide +kernel
theorem dX8_init_75 : decode cX8_init 75 = .ok (.putfield 35, 3) := by decide +kernel
theorem dX8_init_78 : decode cX8_init 78 = .ok (.aload_n 0, 1) := by decide +kernel
theorem dX8_init_79 : decode cX8_init 79 = .ok (.bipush 120, 2) := by decide +kernel
theorem dX8_init_81 : decode cX8_init 81 = .ok (.newarray .int, 2) := by decide +kernel
theorem dX8_init_83 : decode cX8_init 83 = .ok (.putfield 38, 3) := by decide +kernel
theorem dX8_init_86 : decode cX8_init 86 = .ok (.aload_n 0, 1) := by decide +kernel
theorem dX8_init_87 : decode cX8_init 87 = .ok (.iconst 3, 1) := by decide +kernel
theorem dX8_init_88 : decode cX8_init 88 = .ok (.newarray .int, 2) := by decide +kernel
theorem dX8_init_90 : decode cX8_init 90 = .ok (.putfield 41, 3) := by decide +kernel
theorem dX8_init_93 : decode cX8_init 93 = .ok (.aload_n 0, 1) := by decide +kernel
theorem dX8_init_94 : decode cX8_init 94 = .ok (.iconst 3, 1) := by decide +kernel
theorem dX8_init_95 : decode cX8_init 95 = .ok (.newarray .int, 2) := by decide +kernel
theorem dX8_init_97 : decode cX8_init 97 = .ok (.putfield 44, 3) := by decide +kernel
theorem dX8_init_100 : decode cX8_init 100 = .ok (.aload_n 0, 1) := by decide +kernel
theorem dX8_init_101 : decode cX8_init 101 = .ok (.iconst 3, 1) := by decide +kernel
theorem dX8_init_102 : decode cX8_init 102 = .ok (.newarray .int, 2) := by decide +kernel
theorem dX8_init_104 : decode cX8_init 104 = .ok (.putfield 47, 3) := by decide +kernel
theorem dX8_init_107 : decode cX8_init 107 = .ok (.aload_n 0, 1) := by decide +kernel
theorem dX8_init_108 : decode cX8_init 108 = .ok (.getfield 26, 3) := by decide +kernel
theorem dX8_init_111 : decode cX8_init 111 = .ok (.iconst 4, 1) := by decide +kernel
theorem dX8_init_112 : decode cX8_init 112 = .ok (.iconst 2, 1) := by decide +kernel
theorem dX8_init_113 : decode cX8_init 113 = .ok (.iastore, 1) := by decide +kernel
theorem dX8_init_114 : decode cX8_init 114 = .ok (.aload_n 0, 1) := by decide +kernel
theorem dX8_init_115 : decode cX8_init 115 = .ok (.getfield 7, 3) := by decide +kernel
theorem dX8_init_118 : decode cX8_init 118 = .ok (.iconst 1, 1) := by decide +kernel
theorem dX8_init_119 : decode cX8_init 119 = .ok (.iconst 1, 1) := by decide +kernel
theorem dX8_init_120 : decode cX8_init 120 = .ok (.iastore, 1) := by decide +kernel
theorem dX8_init_121 : decode cX8_init 121 = .ok (.aload_n 0, 1) := by decide +kernel
theorem dX8_init_122 : decode cX8_init 122 = .ok (.invokevirtual 50, 3) := by decide +kernel
theorem dX8_init_125 : decode cX8_init 125 = .ok (.aload_n 0, 1) := by decide +kernel
theorem dX8_init_126 : decode cX8_init 126 = .ok (.invokevirtual 53, 3) := by decide +kernel
theorem dX8_init_129 : decode cX8_init 129 = .ok (.return_, 1) := by decide +kernel
theorem dX8_in_0 : decode cX8_in 0 = .ok (.iload_n 0, 1) := by decide +kernel
theorem dX8_in_1 : decode cX8_in 1 = .ok (.iload_n 1, 1) := by decide +kernel
theorem dX8_in_2 : decode cX8_in 2 = .ok (.if_icmp .lt 12, 3) := by decide +kernel
theorem dX8_in_5 : decode cX8_in 5 = .ok (.iload_n 0, 1) := by decide +kernel
theorem dX8_in_6 : decode cX8_in 6 = .ok (.iload_n 2, 1) := by decide +kernel
theorem dX8_in_7 : decode cX8_in 7 = .ok (.if_icmp .gt 7, 3) := by decide +kernel
theorem dX8_in_10 : decode cX8_in 10 = .ok (.iconst 1, 1) := by decide +kernel
theorem dX8_in_11 : decode cX8_in 11 = .ok (.goto 4, 3) := by decide +kernel
theorem dX8_in_14 : decode cX8_in 14 = .ok (.iconst 0, 1) := by decide +kernel
theorem dX8_in_15 : decode cX8_in 15 = .ok (.ireturn, 1) := by decide +kernel
theorem dX8_type_0 : decode cX8_type 0 = .ok (.aload_n 0, 1) := by decide +kernel
theorem dX8_type_1 : decode cX8_type 1 = .ok (.iconst 0, 1) := by decide +kernel
theorem dX8_type_2 : decode cX8_type 2 = .ok (.putfield 56, 3) := by decide +kernel
theorem dX8_type_5 : decode cX8_type 5 = .ok (.iload_n 3, 1) := by decide +kernel
theorem dX8_type_6 : decode cX8_type 6 = .ok (.iconst 1, 1) := by decide +kernel
theorem dX8_type_7 : decode cX8_type 7 = .ok (.bipush 8, 2) := by decide +kernel
theorem dX8_type_9 : decode cX8_type 9 = .ok (.invokestatic 60, 3) := by decide +kernel
theorem dX8_type_12 : decode cX8_type 12 = .ok (.ifCond .ne 5, 3) := by decide +kernel
theorem dX8_type_15 : decode cX8_type 15 = .ok (.iconst (-1), 1) := by decide +kernel
theorem dX8_type_16 : decode cX8_type 16 = .ok (.ireturn, 1) := by decide +kernel
theorem dX8_type_17 : decode cX8_type 17 = .ok (.aload_n 0, 1) := by decide +kernel
theorem dX8_type_18 : decode cX8_type 18 = .ok (.getfield 64, 3) := by decide +kernel
theorem dX8_type_21 : decode cX8_type 21 = .ok (.iload_n 3, 1) := by decide +kernel
theorem dX8_type_22 : decode cX8_type 22 = .ok (.iadd, 1) := by decide +kernel
theorem dX8_type_23 : decode cX8_type 23 = .ok (.sipush 300, 3) := by decide +kernel
theorem dX8_type_26 : decode cX8_type 26 = .ok (.if_icmp .le 6, 3) := by decide +kernel
theorem dX8_type_29 : decode cX8_type 29 = .ok (.bipush (-3), 2) := by decide +kernel
theorem dX8_type_31 : decode cX8_type 31 = .ok (.ireturn, 1) := by decide +kernel
theorem dX8_type_32 : decode cX8_type 32 = .ok (.iload_n 3, 1) := by decide +kernel
theorem dX8_type_33 : decode cX8_type 33 = .ok (.iconst 1, 1) := by decide +kernel
theorem dX8_type_34 : decode cX8_type 34 = .ok (.isub, 1) := by decide +kernel
theorem dX8_type_35 : decode cX8_type 35 = .ok (.istore 4, 2) := by decide +kernel
theorem dX8_type_37 : decode cX8_type 37 = .ok (.iload 4, 2) := by decide +kernel
theorem dX8_type_39 : decode cX8_type 39 = .ok (.ifCond .lt 40, 3) := by decide +kernel
theorem dX8_type_42 : decode cX8_type 42 = .ok (.aload_n 0, 1) := by decide +kernel
theorem dX8_type_43 : decode cX8_type 43 = .ok (.getfield 23, 3) := by decide +kernel
theorem dX8_type_46 : decode cX8_type 46 = .ok (.aload_n 0, 1) := by decide +kernel
theorem dX8_type_47 : decode cX8_type 47 = .ok (.getfield 64, 3) := by decide +kernel
theorem dX8_type_50 : decode cX8_type 50 = .ok (.lload_n 1, 1) := by decide +kernel
theorem dX8_type_51 : decode cX8_type 51 = .ok (.bipush 8, 2) := by decide +kernel
theorem dX8_type_53 : decode cX8_type 53 = .ok (.iload 4, 2) := by decide +kernel
theorem dX8_type_55 : decode cX8_type 55 = .ok (.imul, 1) := by decide +kernel
theorem dX8_type_56 : decode cX8_type 56 = .ok (.lshr, 1) := by decide +kernel
theorem dX8_type_57 : decode cX8_type 57 = .ok (.ldc2_w 67, 3) := by decide +kernel
theorem dX8_type_60 : decode cX8_type 60 = .ok (.land, 1) := by decide +kernel
theorem dX8_type_61 : decode cX8_type 61 = .ok (.l2i, 1) := by decide +kernel
theorem dX8_type_62 : decode cX8_type 62 = .ok (.iastore, 1) := by decide +kernel
theorem dX8_type_63 : decode cX8_type 63 = .ok (.aload_n 0, 1) := by decide +kernel
theorem dX8_type_64 : decode cX8_type 64 = .ok (.dup, 1) := by decide +kernel
theorem dX8_type_65 : decode cX8_type 65 = .ok (.getfield 64, 3) := by decide +kernel
theorem dX8_type_68 : decode cX8_type 68 = .ok (.iconst 1, 1) := by decide +kernel
theorem dX8_type_69 : decode cX8_type 69 = .ok (.iadd, 1) := by decide +kernel
theorem dX8_type_70 : decode cX8_type 70 = .ok (.putfield 64, 3) := by decide +kernel
theorem dX8_type_73 : decode cX8_type 73 = .ok (.iinc 4 (-1), 3) := by decide +kernel
theorem dX8_type_76 : decode cX8_type 76 = .ok (.goto (-39), 3) := by decide +kernel
theorem dX8_type_79 : decode cX8_type 79 = .ok (.aload_n 0, 1) := by decide +kernel
theorem dX8_type_80 : decode cX8_type 80 = .ok (.getfield 64, 3) := by decide +kernel
theorem dX8_type_83 : decode cX8_type 83 = .ok (.ireturn, 1) := by decide +kernel
theorem dX8_clear_0 : decode cX8_clear 0 = .ok (.aload_n 0, 1) := by decide +kernel
theorem dX8_clear_1 : decode cX8_clear 1 = .ok (.iconst 0, 1) := by decide +kernel
theorem dX8_clear_2 : decode cX8_clear 2 = .ok (.putfield 56, 3) := by decide +kernel
theorem dX8_clear_5 : decode cX8_clear 5 = .ok (.aload_n 0, 1) := by decide +kernel
theorem dX8_clear_6 : decode cX8_clear 6 = .ok (.getfield 64, 3) := by decide +kernel
theorem dX8_clear_9 : decode cX8_clear 9 = .ok (.istore_n 1, 1) := by decide +kernel
theorem dX8_clear_10 : decode cX8_clear 10 = .ok (.aload_n 0, 1) := by decide +kernel
theorem dX8_clear_11 : decode cX8_clear 11 = .ok (.iconst 0, 1) := by decide +kernel
theorem dX8_clear_12 : decode cX8_clear 12 = .ok (.putfield 64, 3) := by decide +kernel
theorem dX8_clear_15 : decode cX8_clear 15 = .ok (.iload_n 1, 1) := by decide +kernel
theorem dX8_clear_16 : decode cX8_clear 16 = .ok (.ireturn, 1) := by decide +kernel
theorem dX8_byteAt_0 : decode cX8_byteAt 0 = .ok (.iload_n 1, 1) := by decide +kernel
theorem dX8_byteAt_1 : decode cX8_byteAt 1 = .ok (.aload_n 0, 1) := by decide +kernel
theorem dX8_byteAt_2 : decode cX8_byteAt 2 = .ok (.getfield 64, 3) := by decide +kernel
theorem dX8_byteAt_5 : decode cX8_byteAt 5 = .ok (.if_icmp .ge 12, 3) := by decide +kernel
theorem dX8_byteAt_8 : decode cX8_byteAt 8 = .ok (.aload_n 0, 1) := by decide +kernel
theorem dX8_byteAt_9 : decode cX8_byteAt 9 = .ok (.getfield 23, 3) := by decide +kernel
theorem dX8_byteAt_12 : decode cX8_byteAt 12 = .ok (.iload_n 1, 1) := by decide +kernel
theorem dX8_byteAt_13 : decode cX8_byteAt 13 = .ok (.iaload, 1) := by decide +kernel
theorem dX8_byteAt_14 : decode cX8_byteAt 14 = .ok (.goto 4, 3) := by decide +kernel
theorem dX8_byteAt_17 : decode cX8_byteAt 17 = .ok (.iconst (-1), 1) := by decide +kernel
theorem dX8_byteAt_18 : decode cX8_byteAt 18 = .ok (.ireturn, 1) := by decide +kernel
theorem dX8_add_0 : decode cX8_add 0 = .ok (.iload_n 2, 1) := by decide +kernel
theorem dX8_add_1 : decode cX8_add 1 = .ok (.ifCond .ne 7, 3) := by decide +kernel
theorem dX8_add_4 : decode cX8_add 4 = .ok (.lload_n 0, 1) := by decide +kernel
theorem dX8_add_5 : decode cX8_add 5 = .ok (.goto 11, 3) := by decide +kernel
theorem dX8_add_8 : decode cX8_add 8 = .ok (.ldc2_w 69, 3) := by decide +kernel
theorem dX8_add_11 : decode cX8_add 11 = .ok (.lload_n 0, 1) := by decide +kernel
theorem dX8_add_12 : decode cX8_add 12 = .ok (.lmul, 1) := by decide +kernel
theorem dX8_add_13 : decode cX8_add 13 = .ok (.iload_n 2, 1) := by decide +kernel
theorem dX8_add_14 : decode cX8_add 14 = .ok (.i2l, 1) := by decide +kernel
theorem dX8_add_15 : decode cX8_add 15 = .ok (.ladd, 1) := by decide +kernel
theorem dX8_add_16 : decode cX8_add 16 = .ok (.lreturn, 1) := by decide +kernel
theorem dX8_named_0 : decode cX8_named 0 = .ok (.lconst 0, 1) := by decide +kernel
theorem dX8_named_1 : decode cX8_named 1 = .ok (.iload_n 0, 1) := by decide +kernel
theorem dX8_named_2 : decode cX8_named 2 = .ok (.invokestatic 71, 3) := by decide +kernel
theorem dX8_named_5 : decode cX8_named 5 = .ok (.iload_n 1, 1) := by decide +kernel
theorem dX8_named_6 : decode cX8_named 6 = .ok (.invokestatic 71, 3) := by decide +kernel
theorem dX8_named_9 : decode cX8_named 9 = .ok (.iload_n 2, 1) := by decide +kernel
theorem dX8_named_10 : decode cX8_named 10 = .ok (.invokestatic 71, 3) := by decide +kernel
theorem dX8_named_13 : decode cX8_named 13 = .ok (.iload_n 3, 1) := by decide +kernel
theorem dX8_named_14 : decode cX8_named 14 = .ok (.invokestatic 71, 3) := by decide +kernel
theorem dX8_named_17 : decode cX8_named 17 = .ok (.iload 4, 2) := by decide +kernel
theorem dX8_named_19 : decode cX8_named 19 = .ok (.invokestatic 71, 3) := by decide +kernel
theorem dX8_named_22 : decode cX8_named 22 = .ok (.lreturn, 1) := by decide +kernel
theorem dX8_wordOf_0 : decode cX8_wordOf 0 = .ok (.lload_n 0, 1) := by decide +kernel
theorem dX8_wordOf_1 : decode cX8_wordOf 1 = .ok (.bipush 112, 2) := by decide +kernel
theorem dX8_wordOf_3 : decode cX8_wordOf 3 = .ok (.bipush 108, 2) := by decide +kernel
theorem dX8_wordOf_5 : decode cX8_wordOf 5 = .ok (.bipush 97, 2) := by decide +kernel
theorem dX8_wordOf_7 : decode cX8_wordOf 7 = .ok (.bipush 99, 2) := by decide +kernel
theorem dX8_wordOf_9 : decode cX8_wordOf 9 = .ok (.bipush 101, 2) := by decide +kernel
theorem dX8_wordOf_11 : decode cX8_wordOf 11 = .ok (.invokestatic 75, 3) := by decide +kernel
theorem dX8_wordOf_14 : decode cX8_wordOf 14 = .ok (.lcmp, 1) := by decide +kernel
theorem dX8_wordOf_15 : decode cX8_wordOf 15 = .ok (.ifCond .ne 7, 3) := by decide +kernel
theorem dX8_wordOf_18 : decode cX8_wordOf 18 = .ok (.iconst 0, 1) := by decide +kernel
theorem dX8_wordOf_19 : decode cX8_wordOf 19 = .ok (.goto 46, 3) := by decide +kernel
theorem dX8_wordOf_22 : decode cX8_wordOf 22 = .ok (.lload_n 0, 1) := by decide +kernel
theorem dX8_wordOf_23 : decode cX8_wordOf 23 = .ok (.bipush 110, 2) := by decide +kernel
theorem dX8_wordOf_25 : decode cX8_wordOf 25 = .ok (.bipush 101, 2) := by decide +kernel
theorem dX8_wordOf_27 : decode cX8_wordOf 27 = .ok (.bipush 97, 2) := by decide +kernel
theorem dX8_wordOf_29 : decode cX8_wordOf 29 = .ok (.bipush 114, 2) := by decide +kernel
theorem dX8_wordOf_31 : decode cX8_wordOf 31 = .ok (.iconst 0, 1) := by decide +kernel
theorem dX8_wordOf_32 : decode cX8_wordOf 32 = .ok (.invokestatic 75, 3) := by decide +kernel
theorem dX8_wordOf_35 : decode cX8_wordOf 35 = .ok (.lcmp, 1) := by decide +kernel
theorem dX8_wordOf_36 : decode cX8_wordOf 36 = .ok (.ifCond .ne 7, 3) := by decide +kernel
theorem dX8_wordOf_39 : decode cX8_wordOf 39 = .ok (.iconst 1, 1) := by decide +kernel
theorem dX8_wordOf_40 : decode cX8_wordOf 40 = .ok (.goto 25, 3) := by decide +kernel
theorem dX8_wordOf_43 : decode cX8_wordOf 43 = .ok (.lload_n 0, 1) := by decide +kernel
theorem dX8_wordOf_44 : decode cX8_wordOf 44 = .ok (.bipush 108, 2) := by decide +kernel
theorem dX8_wordOf_46 : decode cX8_wordOf 46 = .ok (.bipush 97, 2) := by decide +kernel
theorem dX8_wordOf_48 : decode cX8_wordOf 48 = .ok (.bipush 119, 2) := by decide +kernel
theorem dX8_wordOf_50 : decode cX8_wordOf 50 = .ok (.iconst 0, 1) := by decide +kernel
theorem dX8_wordOf_51 : decode cX8_wordOf 51 = .ok (.iconst 0, 1) := by decide +kernel
theorem dX8_wordOf_52 : decode cX8_wordOf 52 = .ok (.invokestatic 75, 3) := by decide +kernel
theorem dX8_wordOf_55 : decode cX8_wordOf 55 = .ok (.lcmp, 1) := by decide +kernel
theorem dX8_wordOf_56 : decode cX8_wordOf 56 = .ok (.ifCond .ne 7, 3) := by decide +kernel
theorem dX8_wordOf_59 : decode cX8_wordOf 59 = .ok (.iconst 2, 1) := by decide +kernel
theorem dX8_wordOf_60 : decode cX8_wordOf 60 = .ok (.goto 5, 3) := by decide +kernel
theorem dX8_wordOf_63 : decode cX8_wordOf 63 = .ok (.bipush (-9), 2) := by decide +kernel
theorem dX8_wordOf_65 : decode cX8_wordOf 65 = .ok (.istore_n 2, 1) := by decide +kernel
theorem dX8_wordOf_66 : decode cX8_wordOf 66 = .ok (.iload_n 2, 1) := by decide +kernel
theorem dX8_wordOf_67 : decode cX8_wordOf 67 = .ok (.bipush (-9), 2) := by decide +kernel
theorem dX8_wordOf_69 : decode cX8_wordOf 69 = .ok (.if_icmp .eq 7, 3) := by decide +kernel
theorem dX8_wordOf_72 : decode cX8_wordOf 72 = .ok (.iload_n 2, 1) := by decide +kernel
theorem dX8_wordOf_73 : decode cX8_wordOf 73 = .ok (.goto 70, 3) := by decide +kernel
theorem dX8_wordOf_76 : decode cX8_wordOf 76 = .ok (.lload_n 0, 1) := by decide +kernel
theorem dX8_wordOf_77 : decode cX8_wordOf 77 = .ok (.bipush 115, 2) := by decide +kernel
theorem dX8_wordOf_79 : decode cX8_wordOf 79 = .ok (.bipush 116, 2) := by decide +kernel
theorem dX8_wordOf_81 : decode cX8_wordOf 81 = .ok (.bipush 97, 2) := by decide +kernel
theorem dX8_wordOf_83 : decode cX8_wordOf 83 = .ok (.bipush 114, 2) := by decide +kernel
theorem dX8_wordOf_85 : decode cX8_wordOf 85 = .ok (.bipush 116, 2) := by decide +kernel
theorem dX8_wordOf_87 : decode cX8_wordOf 87 = .ok (.invokestatic 75, 3) := by decide +kernel
theorem dX8_wordOf_90 : decode cX8_wordOf 90 = .ok (.lcmp, 1) := by decide +kernel
theorem dX8_wordOf_91 : decode cX8_wordOf 91 = .ok (.ifCond .ne 7, 3) := by decide +kernel
theorem dX8_wordOf_94 : decode cX8_wordOf 94 = .ok (.iconst 3, 1) := by decide +kernel
theorem dX8_wordOf_95 : decode cX8_wordOf 95 = .ok (.goto 48, 3) := by decide +kernel
theorem dX8_wordOf_98 : decode cX8_wordOf 98 = .ok (.lload_n 0, 1) := by decide +kernel
theorem dX8_wordOf_99 : decode cX8_wordOf 99 = .ok (.bipush 119, 2) := by decide +kernel
theorem dX8_wordOf_101 : decode cX8_wordOf 101 = .ok (.bipush 111, 2) := by decide +kernel
theorem dX8_wordOf_103 : decode cX8_wordOf 103 = .ok (.bipush 114, 2) := by decide +kernel
theorem dX8_wordOf_105 : decode cX8_wordOf 105 = .ok (.bipush 100, 2) := by decide +kernel
theorem dX8_wordOf_107 : decode cX8_wordOf 107 = .ok (.iconst 0, 1) := by decide +kernel
theorem dX8_wordOf_108 : decode cX8_wordOf 108 = .ok (.invokestatic 75, 3) := by decide +kernel
theorem dX8_wordOf_111 : decode cX8_wordOf 111 = .ok (.lcmp, 1) := by decide +kernel
theorem dX8_wordOf_112 : decode cX8_wordOf 112 = .ok (.ifCond .ne 7, 3) := by decide +kernel
theorem dX8_wordOf_115 : decode cX8_wordOf 115 = .ok (.iconst 4, 1) := by decide +kernel
theorem dX8_wordOf_116 : decode cX8_wordOf 116 = .ok (.goto 27, 3) := by decide +kernel
theorem dX8_wordOf_119 : decode cX8_wordOf 119 = .ok (.lload_n 0, 1) := by decide +kernel
theorem dX8_wordOf_120 : decode cX8_wordOf 120 = .ok (.bipush 112, 2) := by decide +kernel
theorem dX8_wordOf_122 : decode cX8_wordOf 122 = .ok (.bipush 108, 2) := by decide +kernel
theorem dX8_wordOf_124 : decode cX8_wordOf 124 = .ok (.bipush 97, 2) := by decide +kernel
theorem dX8_wordOf_126 : decode cX8_wordOf 126 = .ok (.bipush 105, 2) := by decide +kernel
theorem dX8_wordOf_128 : decode cX8_wordOf 128 = .ok (.bipush 110, 2) := by decide +kernel
theorem dX8_wordOf_130 : decode cX8_wordOf 130 = .ok (.invokestatic 75, 3) := by decide +kernel
theorem dX8_wordOf_133 : decode cX8_wordOf 133 = .ok (.lcmp, 1) := by decide +kernel
theorem dX8_wordOf_134 : decode cX8_wordOf 134 = .ok (.ifCond .ne 7, 3) := by decide +kernel
theorem dX8_wordOf_137 : decode cX8_wordOf 137 = .ok (.iconst 5, 1) := by decide +kernel
theorem dX8_wordOf_138 : decode cX8_wordOf 138 = .ok (.goto 5, 3) := by decide +kernel
theorem dX8_wordOf_141 : decode cX8_wordOf 141 = .ok (.bipush (-9), 2) := by decide +kernel
theorem dX8_wordOf_143 : decode cX8_wordOf 143 = .ok (.ireturn, 1) := by decide +kernel
theorem dX8_advances_0 : decode cX8_advances 0 = .ok (.aload_n 0, 1) := by decide +kernel
theorem dX8_advances_1 : decode cX8_advances 1 = .ok (.aload_n 0, 1) := by decide +kernel
theorem dX8_advances_2 : decode cX8_advances 2 = .ok (.getfield 79, 3) := by decide +kernel
theorem dX8_advances_5 : decode cX8_advances 5 = .ok (.invokevirtual 82, 3) := by decide +kernel
theorem dX8_advances_8 : decode cX8_advances 8 = .ok (.bipush 32, 2) := by decide +kernel
theorem dX8_advances_10 : decode cX8_advances 10 = .ok (.if_icmp .ne 16, 3) := by decide +kernel
theorem dX8_advances_13 : decode cX8_advances 13 = .ok (.aload_n 0, 1) := by decide +kernel
theorem dX8_advances_14 : decode cX8_advances 14 = .ok (.dup, 1) := by decide +kernel
theorem dX8_advances_15 : decode cX8_advances 15 = .ok (.getfield 79, 3) := by decide +kernel
theorem dX8_advances_18 : decode cX8_advances 18 = .ok (.iconst 1, 1) := by decide +kernel
theorem dX8_advances_19 : decode cX8_advances 19 = .ok (.iadd, 1) := by decide +kernel
theorem dX8_advances_20 : decode cX8_advances 20 = .ok (.putfield 79, 3) := by decide +kernel
theorem dX8_advances_23 : decode cX8_advances 23 = .ok (.goto (-23), 3) := by decide +kernel
theorem dX8_advances_26 : decode cX8_advances 26 = .ok (.aload_n 0, 1) := by decide +kernel
theorem dX8_advances_27 : decode cX8_advances 27 = .ok (.aload_n 0, 1) := by decide +kernel
theorem dX8_advances_28 : decode cX8_advances 28 = .ok (.getfield 79, 3) := by decide +kernel
theorem dX8_advances_31 : decode cX8_advances 31 = .ok (.putfield 86, 3) := by decide +kernel
theorem dX8_advances_34 : decode cX8_advances 34 = .ok (.aload_n 0, 1) := by decide +kernel
theorem dX8_advances_35 : decode cX8_advances 35 = .ok (.aload_n 0, 1) := by decide +kernel
theorem dX8_advances_36 : decode cX8_advances 36 = .ok (.getfield 79, 3) := by decide +kernel
theorem dX8_advances_39 : decode cX8_advances 39 = .ok (.invokevirtual 82, 3) := by decide +kernel
theorem dX8_advances_42 : decode cX8_advances 42 = .ok (.istore_n 1, 1) := by decide +kernel
theorem dX8_advances_43 : decode cX8_advances 43 = .ok (.iload_n 1, 1) := by decide +kernel
theorem dX8_advances_44 : decode cX8_advances 44 = .ok (.ifCond .ge 11, 3) := by decide +kernel
theorem dX8_advances_47 : decode cX8_advances 47 = .ok (.aload_n 0, 1) := by decide +kernel
theorem dX8_advances_48 : decode cX8_advances 48 = .ok (.iconst 0, 1) := by decide +kernel
theorem dX8_advances_49 : decode cX8_advances 49 = .ok (.putfield 89, 3) := by decide +kernel
theorem dX8_advances_52 : decode cX8_advances 52 = .ok (.goto 258, 3) := by decide +kernel
theorem dX8_advances_55 : decode cX8_advances 55 = .ok (.iload_n 1, 1) := by decide +kernel
theorem dX8_advances_56 : decode cX8_advances 56 = .ok (.bipush 97, 2) := by decide +kernel
theorem dX8_advances_58 : decode cX8_advances 58 = .ok (.bipush 122, 2) := by decide +kernel
theorem dX8_advances_60 : decode cX8_advances 60 = .ok (.invokestatic 60, 3) := by decide +kernel
theorem dX8_advances_63 : decode cX8_advances 63 = .ok (.ifCond .eq 96, 3) := by decide +kernel
theorem dX8_advances_66 : decode cX8_advances 66 = .ok (.lconst 0, 1) := by decide +kernel
theorem dX8_advances_67 : decode cX8_advances 67 = .ok (.lstore_n 2, 1) := by decide +kernel
theorem dX8_advances_68 : decode cX8_advances 68 = .ok (.aload_n 0, 1) := by decide +kernel
theorem dX8_advances_69 : decode cX8_advances 69 = .ok (.aload_n 0, 1) := by decide +kernel
theorem dX8_advances_70 : decode cX8_advances 70 = .ok (.getfield 79, 3) := by decide +kernel
theorem dX8_advances_73 : decode cX8_advances 73 = .ok (.invokevirtual 82, 3) := by decide +kernel
theorem dX8_advances_76 : decode cX8_advances 76 = .ok (.bipush 97, 2) := by decide +kernel
theorem dX8_advances_78 : decode cX8_advances 78 = .ok (.bipush 122, 2) := by decide +kernel
theorem dX8_advances_80 : decode cX8_advances 80 = .ok (.invokestatic 60, 3) := by decide +kernel
theorem dX8_advances_83 : decode cX8_advances 83 = .ok (.ifCond .eq 47, 3) := by decide +kernel
theorem dX8_advances_86 : decode cX8_advances 86 = .ok (.aload_n 0, 1) := by decide +kernel
theorem dX8_advances_87 : decode cX8_advances 87 = .ok (.getfield 79, 3) := by decide +kernel
theorem dX8_advances_90 : decode cX8_advances 90 = .ok (.aload_n 0, 1) := by decide +kernel
theorem dX8_advances_91 : decode cX8_advances 91 = .ok (.getfield 86, 3) := by decide +kernel
theorem dX8_advances_94 : decode cX8_advances 94 = .ok (.isub, 1) := by decide +kernel
theorem dX8_advances_95 : decode cX8_advances 95 = .ok (.bipush 6, 2) := by decide +kernel
theorem dX8_advances_97 : decode cX8_advances 97 = .ok (.if_icmp .ge 18, 3) := by decide +kernel
theorem dX8_advances_100 : decode cX8_advances 100 = .ok (.lload_n 2, 1) := by decide +kernel
theorem dX8_advances_101 : decode cX8_advances 101 = .ok (.aload_n 0, 1) := by decide +kernel
theorem dX8_advances_102 : decode cX8_advances 102 = .ok (.aload_n 0, 1) := by decide +kernel
theorem dX8_advances_103 : decode cX8_advances 103 = .ok (.getfield 79, 3) := by decide +kernel
theorem dX8_advances_106 : decode cX8_advances 106 = .ok (.invokevirtual 82, 3) := by decide +kernel
theorem dX8_advances_109 : decode cX8_advances 109 = .ok (.invokestatic 71, 3) := by decide +kernel
theorem dX8_advances_112 : decode cX8_advances 112 = .ok (.goto 4, 3) := by decide +kernel
theorem dX8_advances_115 : decode cX8_advances 115 = .ok (.lload_n 2, 1) := by decide +kernel
theorem dX8_advances_116 : decode cX8_advances 116 = .ok (.lstore_n 2, 1) := by decide +kernel
theorem dX8_advances_117 : decode cX8_advances 117 = .ok (.aload_n 0, 1) := by decide +kernel
theorem dX8_advances_118 : decode cX8_advances 118 = .ok (.dup, 1) := by decide +kernel
theorem dX8_advances_119 : decode cX8_advances 119 = .ok (.getfield 79, 3) := by decide +kernel
theorem dX8_advances_122 : decode cX8_advances 122 = .ok (.iconst 1, 1) := by decide +kernel
theorem dX8_advances_123 : decode cX8_advances 123 = .ok (.iadd, 1) := by decide +kernel
theorem dX8_advances_124 : decode cX8_advances 124 = .ok (.putfield 79, 3) := by decide +kernel
theorem dX8_advances_127 : decode cX8_advances 127 = .ok (.goto (-59), 3) := by decide +kernel
theorem dX8_advances_130 : decode cX8_advances 130 = .ok (.aload_n 0, 1) := by decide +kernel
theorem dX8_advances_131 : decode cX8_advances 131 = .ok (.lload_n 2, 1) := by decide +kernel
theorem dX8_advances_132 : decode cX8_advances 132 = .ok (.invokestatic 92, 3) := by decide +kernel
theorem dX8_advances_135 : decode cX8_advances 135 = .ok (.putfield 96, 3) := by decide +kernel
theorem dX8_advances_138 : decode cX8_advances 138 = .ok (.aload_n 0, 1) := by decide +kernel
theorem dX8_advances_139 : decode cX8_advances 139 = .ok (.aload_n 0, 1) := by decide +kernel
theorem dX8_advances_140 : decode cX8_advances 140 = .ok (.getfield 96, 3) := by decide +kernel
theorem dX8_advances_143 : decode cX8_advances 143 = .ok (.bipush (-9), 2) := by decide +kernel
theorem dX8_advances_145 : decode cX8_advances 145 = .ok (.if_icmp .ne 7, 3) := by decide +kernel
theorem dX8_advances_148 : decode cX8_advances 148 = .ok (.iconst 4, 1) := by decide +kernel
theorem dX8_advances_149 : decode cX8_advances 149 = .ok (.goto 4, 3) := by decide +kernel
theorem dX8_advances_152 : decode cX8_advances 152 = .ok (.iconst 1, 1) := by decide +kernel
theorem dX8_advances_153 : decode cX8_advances 153 = .ok (.putfield 89, 3) := by decide +kernel
theorem dX8_advances_156 : decode cX8_advances 156 = .ok (.goto 154, 3) := by decide +kernel
theorem dX8_advances_159 : decode cX8_advances 159 = .ok (.iload_n 1, 1) := by decide +kernel
theorem dX8_advances_160 : decode cX8_advances 160 = .ok (.bipush 48, 2) := by decide +kernel
theorem dX8_advances_162 : decode cX8_advances 162 = .ok (.bipush 57, 2) := by decide +kernel
theorem dX8_advances_164 : decode cX8_advances 164 = .ok (.invokestatic 60, 3) := by decide +kernel
theorem dX8_advances_167 : decode cX8_advances 167 = .ok (.ifCond .eq 118, 3) := by decide +kernel
theorem dX8_advances_170 : decode cX8_advances 170 = .ok (.aload_n 0, 1) := by decide +kernel
theorem dX8_advances_171 : decode cX8_advances 171 = .ok (.iconst 0, 1) := by decide +kernel
theorem dX8_advances_172 : decode cX8_advances 172 = .ok (.putfield 96, 3) := by decide +kernel
theorem dX8_advances_175 : decode cX8_advances 175 = .ok (.aload_n 0, 1) := by decide +kernel
theorem dX8_advances_176 : decode cX8_advances 176 = .ok (.aload_n 0, 1) := by decide +kernel
theorem dX8_advances_177 : decode cX8_advances 177 = .ok (.getfield 79, 3) := by decide +kernel
theorem dX8_advances_180 : decode cX8_advances 180 = .ok (.invokevirtual 82, 3) := by decide +kernel
theorem dX8_advances_183 : decode cX8_advances 183 = .ok (.bipush 48, 2) := by decide +kernel
theorem dX8_advances_185 : decode cX8_advances 185 = .ok (.bipush 57, 2) := by decide +kernel
theorem dX8_advances_187 : decode cX8_advances 187 = .ok (.invokestatic 60, 3) := by decide +kernel
theorem dX8_advances_190 : decode cX8_advances 190 = .ok (.ifCond .eq 55, 3) := by decide +kernel
theorem dX8_advances_193 : decode cX8_advances 193 = .ok (.aload_n 0, 1) := by decide +kernel
theorem dX8_advances_194 : decode cX8_advances 194 = .ok (.aload_n 0, 1) := by decide +kernel
theorem dX8_advances_195 : decode cX8_advances 195 = .ok (.getfield 96, 3) := by decide +kernel
theorem dX8_advances_198 : decode cX8_advances 198 = .ok (.bipush 99, 2) := by decide +kernel
theorem dX8_advances_200 : decode cX8_advances 200 = .ok (.if_icmp .le 10, 3) := by decide +kernel
theorem dX8_advances_203 : decode cX8_advances 203 = .ok (.aload_n 0, 1) := by decide +kernel
theorem dX8_advances_204 : decode cX8_advances 204 = .ok (.getfield 96, 3) := by decide +kernel
theorem dX8_advances_207 : decode cX8_advances 207 = .ok (.goto 22, 3) := by decide +kernel
theorem dX8_advances_210 : decode cX8_advances 210 = .ok (.bipush 10, 2) := by decide +kernel
theorem dX8_advances_212 : decode cX8_advances 212 = .ok (.aload_n 0, 1) := by decide +kernel
theorem dX8_advances_213 : decode cX8_advances 213 = .ok (.getfield 96, 3) := by decide +kernel
theorem dX8_advances_216 : decode cX8_advances 216 = .ok (.imul, 1) := by decide +kernel
theorem dX8_advances_217 : decode cX8_advances 217 = .ok (.aload_n 0, 1) := by decide +kernel
theorem dX8_advances_218 : decode cX8_advances 218 = .ok (.aload_n 0, 1) := by decide +kernel
theorem dX8_advances_219 : decode cX8_advances 219 = .ok (.getfield 79, 3) := by decide +kernel
theorem dX8_advances_222 : decode cX8_advances 222 = .ok (.invokevirtual 82, 3) := by decide +kernel
theorem dX8_advances_225 : decode cX8_advances 225 = .ok (.iadd, 1) := by decide +kernel
theorem dX8_advances_226 : decode cX8_advances 226 = .ok (.bipush 48, 2) := by decide +kernel
theorem dX8_advances_228 : decode cX8_advances 228 = .ok (.isub, 1) := by decide +kernel
theorem dX8_advances_229 : decode cX8_advances 229 = .ok (.putfield 96, 3) := by decide +kernel
theorem dX8_advances_232 : decode cX8_advances 232 = .ok (.aload_n 0, 1) := by decide +kernel
theorem dX8_advances_233 : decode cX8_advances 233 = .ok (.dup, 1) := by decide +kernel
theorem dX8_advances_234 : decode cX8_advances 234 = .ok (.getfield 79, 3) := by decide +kernel
theorem dX8_advances_237 : decode cX8_advances 237 = .ok (.iconst 1, 1) := by decide +kernel
theorem dX8_advances_238 : decode cX8_advances 238 = .ok (.iadd, 1) := by decide +kernel
theorem dX8_advances_239 : decode cX8_advances 239 = .ok (.putfield 79, 3) := by decide +kernel
theorem dX8_advances_242 : decode cX8_advances 242 = .ok (.goto (-67), 3) := by decide +kernel
theorem dX8_advances_245 : decode cX8_advances 245 = .ok (.aload_n 0, 1) := by decide +kernel
theorem dX8_advances_246 : decode cX8_advances 246 = .ok (.aload_n 0, 1) := by decide +kernel
theorem dX8_advances_247 : decode cX8_advances 247 = .ok (.getfield 96, 3) := by decide +kernel
theorem dX8_advances_250 : decode cX8_advances 250 = .ok (.bipush 99, 2) := by decide +kernel
theorem dX8_advances_252 : decode cX8_advances 252 = .ok (.if_icmp .gt 22, 3) := by decide +kernel
theorem dX8_advances_255 : decode cX8_advances 255 = .ok (.iload_n 1, 1) := by decide +kernel
theorem dX8_advances_256 : decode cX8_advances 256 = .ok (.bipush 48, 2) := by decide +kernel
theorem dX8_advances_258 : decode cX8_advances 258 = .ok (.if_icmp .ne 20, 3) := by decide +kernel
theorem dX8_advances_261 : decode cX8_advances 261 = .ok (.aload_n 0, 1) := by decide +kernel
theorem dX8_advances_262 : decode cX8_advances 262 = .ok (.getfield 79, 3) := by decide +kernel
theorem dX8_advances_265 : decode cX8_advances 265 = .ok (.aload_n 0, 1) := by decide +kernel
theorem dX8_advances_266 : decode cX8_advances 266 = .ok (.getfield 86, 3) := by decide +kernel
theorem dX8_advances_269 : decode cX8_advances 269 = .ok (.isub, 1) := by decide +kernel
theorem dX8_advances_270 : decode cX8_advances 270 = .ok (.iconst 1, 1) := by decide +kernel
theorem dX8_advances_271 : decode cX8_advances 271 = .ok (.if_icmp .le 7, 3) := by decide +kernel
theorem dX8_advances_274 : decode cX8_advances 274 = .ok (.iconst 4, 1) := by decide +kernel
theorem dX8_advances_275 : decode cX8_advances 275 = .ok (.goto 4, 3) := by decide +kernel
theorem dX8_advances_278 : decode cX8_advances 278 = .ok (.iconst 2, 1) := by decide +kernel
theorem dX8_advances_279 : decode cX8_advances 279 = .ok (.putfield 89, 3) := by decide +kernel
theorem dX8_advances_282 : decode cX8_advances 282 = .ok (.goto 28, 3) := by decide +kernel
theorem dX8_advances_285 : decode cX8_advances 285 = .ok (.aload_n 0, 1) := by decide +kernel
theorem dX8_advances_286 : decode cX8_advances 286 = .ok (.dup, 1) := by decide +kernel
theorem dX8_advances_287 : decode cX8_advances 287 = .ok (.getfield 79, 3) := by decide +kernel
theorem dX8_advances_290 : decode cX8_advances 290 = .ok (.iconst 1, 1) := by decide +kernel
theorem dX8_advances_291 : decode cX8_advances 291 = .ok (.iadd, 1) := by decide +kernel
theorem dX8_advances_292 : decode cX8_advances 292 = .ok (.putfield 79, 3) := by decide +kernel
theorem dX8_advances_295 : decode cX8_advances 295 = .ok (.aload_n 0, 1) := by decide +kernel
theorem dX8_advances_296 : decode cX8_advances 296 = .ok (.iload_n 1, 1) := by decide +kernel
theorem dX8_advances_297 : decode cX8_advances 297 = .ok (.bipush 59, 2) := by decide +kernel
theorem dX8_advances_299 : decode cX8_advances 299 = .ok (.if_icmp .ne 7, 3) := by decide +kernel
theorem dX8_advances_302 : decode cX8_advances 302 = .ok (.iconst 3, 1) := by decide +kernel
theorem dX8_advances_303 : decode cX8_advances 303 = .ok (.goto 4, 3) := by decide +kernel
theorem dX8_advances_306 : decode cX8_advances 306 = .ok (.iconst 4, 1) := by decide +kernel
theorem dX8_advances_307 : decode cX8_advances 307 = .ok (.putfield 89, 3) := by decide +kernel
theorem dX8_advances_310 : decode cX8_advances 310 = .ok (.return_, 1) := by decide +kernel
theorem dX8_isWell_0 : decode cX8_isWell 0 = .ok (.aload_n 0, 1) := by decide +kernel
theorem dX8_isWell_1 : decode cX8_isWell 1 = .ok (.getfield 99, 3) := by decide +kernel
theorem dX8_isWell_4 : decode cX8_isWell 4 = .ok (.ifCond .ge 7, 3) := by decide +kernel
theorem dX8_isWell_7 : decode cX8_isWell 7 = .ok (.iconst 1, 1) := by decide +kernel
theorem dX8_isWell_8 : decode cX8_isWell 8 = .ok (.goto 4, 3) := by decide +kernel
theorem dX8_isWell_11 : decode cX8_isWell 11 = .ok (.iconst 0, 1) := by decide +kernel
theorem dX8_isWell_12 : decode cX8_isWell 12 = .ok (.ireturn, 1) := by decide +kernel
theorem dX8_takes_0 : decode cX8_takes 0 = .ok (.aload_n 0, 1) := by decide +kernel
theorem dX8_takes_1 : decode cX8_takes 1 = .ok (.invokevirtual 102, 3) := by decide +kernel
theorem dX8_takes_4 : decode cX8_takes 4 = .ok (.ifCond .ne 5, 3) := by decide +kernel
theorem dX8_takes_7 : decode cX8_takes 7 = .ok (.iconst 0, 1) := by decide +kernel
theorem dX8_takes_8 : decode cX8_takes 8 = .ok (.ireturn, 1) := by decide +kernel
theorem dX8_takes_9 : decode cX8_takes 9 = .ok (.iload_n 1, 1) := by decide +kernel
theorem dX8_takes_10 : decode cX8_takes 10 = .ok (.ifCond .ne 13, 3) := by decide +kernel
theorem dX8_takes_13 : decode cX8_takes 13 = .ok (.aload_n 0, 1) := by decide +kernel
theorem dX8_takes_14 : decode cX8_takes 14 = .ok (.aload_n 0, 1) := by decide +kernel
theorem dX8_takes_15 : decode cX8_takes 15 = .ok (.getfield 86, 3) := by decide +kernel
theorem dX8_takes_18 : decode cX8_takes 18 = .ok (.putfield 99, 3) := by decide +kernel
theorem dX8_takes_21 : decode cX8_takes 21 = .ok (.iconst 0, 1) := by decide +kernel
theorem dX8_takes_22 : decode cX8_takes 22 = .ok (.ireturn, 1) := by decide +kernel
theorem dX8_takes_23 : decode cX8_takes 23 = .ok (.aload_n 0, 1) := by decide +kernel
theorem dX8_takes_24 : decode cX8_takes 24 = .ok (.getfield 96, 3) := by decide +kernel
theorem dX8_takes_27 : decode cX8_takes 27 = .ok (.istore_n 2, 1) := by decide +kernel
theorem dX8_takes_28 : decode cX8_takes 28 = .ok (.aload_n 0, 1) := by decide +kernel
theorem dX8_takes_29 : decode cX8_takes 29 = .ok (.invokevirtual 106, 3) := by decide +kernel
theorem dX8_takes_32 : decode cX8_takes 32 = .ok (.iload_n 2, 1) := by decide +kernel
theorem dX8_takes_33 : decode cX8_takes 33 = .ok (.ireturn, 1) := by decide +kernel
theorem dX8_number_0 : decode cX8_number 0 = .ok (.aload_n 0, 1) := by decide +kernel
theorem dX8_number_1 : decode cX8_number 1 = .ok (.aload_n 0, 1) := by decide +kernel
theorem dX8_number_2 : decode cX8_number 2 = .ok (.getfield 89, 3) := by decide +kernel
theorem dX8_number_5 : decode cX8_number 5 = .ok (.iconst 2, 1) := by decide +kernel
theorem dX8_number_6 : decode cX8_number 6 = .ok (.if_icmp .ne 19, 3) := by decide +kernel
theorem dX8_number_9 : decode cX8_number 9 = .ok (.aload_n 0, 1) := by decide +kernel
theorem dX8_number_10 : decode cX8_number 10 = .ok (.getfield 96, 3) := by decide +kernel
theorem dX8_number_13 : decode cX8_number 13 = .ok (.iload_n 1, 1) := by decide +kernel
theorem dX8_number_14 : decode cX8_number 14 = .ok (.iload_n 2, 1) := by decide +kernel
theorem dX8_number_15 : decode cX8_number 15 = .ok (.invokestatic 60, 3) := by decide +kernel
theorem dX8_number_18 : decode cX8_number 18 = .ok (.ifCond .eq 7, 3) := by decide +kernel
theorem dX8_number_21 : decode cX8_number 21 = .ok (.iconst 1, 1) := by decide +kernel
theorem dX8_number_22 : decode cX8_number 22 = .ok (.goto 4, 3) := by decide +kernel
theorem dX8_number_25 : decode cX8_number 25 = .ok (.iconst 0, 1) := by decide +kernel
theorem dX8_number_26 : decode cX8_number 26 = .ok (.invokevirtual 109, 3) := by decide +kernel
theorem dX8_number_29 : decode cX8_number 29 = .ok (.ireturn, 1) := by decide +kernel
theorem dX8_drafts_0 : decode cX8_drafts 0 = .ok (.aload_n 0, 1) := by decide +kernel
theorem dX8_drafts_1 : decode cX8_drafts 1 = .ok (.getfield 26, 3) := by decide +kernel
theorem dX8_drafts_4 : decode cX8_drafts 4 = .ok (.iconst 5, 1) := by decide +kernel
theorem dX8_drafts_5 : decode cX8_drafts 5 = .ok (.bipush 6, 2) := by decide +kernel
theorem dX8_drafts_7 : decode cX8_drafts 7 = .ok (.iastore, 1) := by decide +kernel
theorem dX8_drafts_8 : decode cX8_drafts 8 = .ok (.aload_n 0, 1) := by decide +kernel
theorem dX8_drafts_9 : decode cX8_drafts 9 = .ok (.getfield 26, 3) := by decide +kernel
theorem dX8_drafts_12 : decode cX8_drafts 12 = .ok (.bipush 6, 2) := by decide +kernel
theorem dX8_drafts_14 : decode cX8_drafts 14 = .ok (.iconst 3, 1) := by decide +kernel
theorem dX8_drafts_15 : decode cX8_drafts 15 = .ok (.iastore, 1) := by decide +kernel
theorem dX8_drafts_16 : decode cX8_drafts 16 = .ok (.aload_n 0, 1) := by decide +kernel
theorem dX8_drafts_17 : decode cX8_drafts 17 = .ok (.getfield 26, 3) := by decide +kernel
theorem dX8_drafts_20 : decode cX8_drafts 20 = .ok (.bipush 7, 2) := by decide +kernel
theorem dX8_drafts_22 : decode cX8_drafts 22 = .ok (.iconst 5, 1) := by decide +kernel
theorem dX8_drafts_23 : decode cX8_drafts 23 = .ok (.iastore, 1) := by decide +kernel
theorem dX8_drafts_24 : decode cX8_drafts 24 = .ok (.aload_n 0, 1) := by decide +kernel
theorem dX8_drafts_25 : decode cX8_drafts 25 = .ok (.getfield 26, 3) := by decide +kernel
theorem dX8_drafts_28 : decode cX8_drafts 28 = .ok (.bipush 8, 2) := by decide +kernel
theorem dX8_drafts_30 : decode cX8_drafts 30 = .ok (.bipush 20, 2) := by decide +kernel
theorem dX8_drafts_32 : decode cX8_drafts 32 = .ok (.iastore, 1) := by decide +kernel
theorem dX8_drafts_33 : decode cX8_drafts 33 = .ok (.iconst 0, 1) := by decide +kernel
theorem dX8_drafts_34 : decode cX8_drafts 34 = .ok (.istore_n 1, 1) := by decide +kernel
theorem dX8_drafts_35 : decode cX8_drafts 35 = .ok (.iload_n 1, 1) := by decide +kernel
theorem dX8_drafts_36 : decode cX8_drafts 36 = .ok (.bipush 9, 2) := by decide +kernel
theorem dX8_drafts_38 : decode cX8_drafts 38 = .ok (.if_icmp .ge 19, 3) := by decide +kernel
theorem dX8_drafts_41 : decode cX8_drafts 41 = .ok (.aload_n 0, 1) := by decide +kernel
theorem dX8_drafts_42 : decode cX8_drafts 42 = .ok (.getfield 29, 3) := by decide +kernel
theorem dX8_drafts_45 : decode cX8_drafts 45 = .ok (.bipush 9, 2) := by decide +kernel
theorem dX8_drafts_47 : decode cX8_drafts 47 = .ok (.iload_n 1, 1) := by decide +kernel
theorem dX8_drafts_48 : decode cX8_drafts 48 = .ok (.iadd, 1) := by decide +kernel
theorem dX8_drafts_49 : decode cX8_drafts 49 = .ok (.iconst 0, 1) := by decide +kernel
theorem dX8_drafts_50 : decode cX8_drafts 50 = .ok (.iastore, 1) := by decide +kernel
theorem dX8_drafts_51 : decode cX8_drafts 51 = .ok (.iinc 1 1, 3) := by decide +kernel
theorem dX8_drafts_54 : decode cX8_drafts 54 = .ok (.goto (-19), 3) := by decide +kernel
theorem dX8_drafts_57 : decode cX8_drafts 57 = .ok (.aload_n 0, 1) := by decide +kernel
theorem dX8_drafts_58 : decode cX8_drafts 58 = .ok (.iconst 0, 1) := by decide +kernel
theorem dX8_drafts_59 : decode cX8_drafts 59 = .ok (.putfield 113, 3) := by decide +kernel
theorem dX8_drafts_62 : decode cX8_drafts 62 = .ok (.aload_n 0, 1) := by decide +kernel
theorem dX8_drafts_63 : decode cX8_drafts 63 = .ok (.iconst 0, 1) := by decide +kernel
theorem dX8_drafts_64 : decode cX8_drafts 64 = .ok (.putfield 116, 3) := by decide +kernel
theorem dX8_drafts_67 : decode cX8_drafts 67 = .ok (.aload_n 0, 1) := by decide +kernel
theorem dX8_drafts_68 : decode cX8_drafts 68 = .ok (.iconst 0, 1) := by decide +kernel
theorem dX8_drafts_69 : decode cX8_drafts 69 = .ok (.putfield 119, 3) := by decide +kernel
theorem dX8_drafts_72 : decode cX8_drafts 72 = .ok (.aload_n 0, 1) := by decide +kernel
theorem dX8_drafts_73 : decode cX8_drafts 73 = .ok (.iconst 0, 1) := by decide +kernel
theorem dX8_drafts_74 : decode cX8_drafts 74 = .ok (.putfield 123, 3) := by decide +kernel
theorem dX8_drafts_77 : decode cX8_drafts 77 = .ok (.return_, 1) := by decide +kernel
theorem dX8_mayBegin_0 : decode cX8_mayBegin 0 = .ok (.iload_n 1, 1) := by decide +kernel
theorem dX8_mayBegin_1 : decode cX8_mayBegin 1 = .ok (.ifCond .ne 19, 3) := by decide +kernel
theorem dX8_mayBegin_4 : decode cX8_mayBegin 4 = .ok (.aload_n 0, 1) := by decide +kernel
theorem dX8_mayBegin_5 : decode cX8_mayBegin 5 = .ok (.getfield 113, 3) := by decide +kernel
theorem dX8_mayBegin_8 : decode cX8_mayBegin 8 = .ok (.iconst 3, 1) := by decide +kernel
theorem dX8_mayBegin_9 : decode cX8_mayBegin 9 = .ok (.if_icmp .ge 7, 3) := by decide +kernel
theorem dX8_mayBegin_12 : decode cX8_mayBegin 12 = .ok (.iconst 1, 1) := by decide +kernel
theorem dX8_mayBegin_13 : decode cX8_mayBegin 13 = .ok (.goto 78, 3) := by decide +kernel
theorem dX8_mayBegin_16 : decode cX8_mayBegin 16 = .ok (.iconst 0, 1) := by decide +kernel
theorem dX8_mayBegin_17 : decode cX8_mayBegin 17 = .ok (.goto 74, 3) := by decide +kernel
theorem dX8_mayBegin_20 : decode cX8_mayBegin 20 = .ok (.iload_n 1, 1) := by decide +kernel
theorem dX8_mayBegin_21 : decode cX8_mayBegin 21 = .ok (.iconst 2, 1) := by decide +kernel
theorem dX8_mayBegin_22 : decode cX8_mayBegin 22 = .ok (.if_icmp .ne 18, 3) := by decide +kernel
theorem dX8_mayBegin_25 : decode cX8_mayBegin 25 = .ok (.aload_n 0, 1) := by decide +kernel
theorem dX8_mayBegin_26 : decode cX8_mayBegin 26 = .ok (.getfield 119, 3) := by decide +kernel
theorem dX8_mayBegin_29 : decode cX8_mayBegin 29 = .ok (.ifCond .ne 7, 3) := by decide +kernel
theorem dX8_mayBegin_32 : decode cX8_mayBegin 32 = .ok (.iconst 1, 1) := by decide +kernel
theorem dX8_mayBegin_33 : decode cX8_mayBegin 33 = .ok (.goto 58, 3) := by decide +kernel
theorem dX8_mayBegin_36 : decode cX8_mayBegin 36 = .ok (.iconst 0, 1) := by decide +kernel
theorem dX8_mayBegin_37 : decode cX8_mayBegin 37 = .ok (.goto 54, 3) := by decide +kernel
theorem dX8_mayBegin_40 : decode cX8_mayBegin 40 = .ok (.iload_n 1, 1) := by decide +kernel
theorem dX8_mayBegin_41 : decode cX8_mayBegin 41 = .ok (.iconst 3, 1) := by decide +kernel
theorem dX8_mayBegin_42 : decode cX8_mayBegin 42 = .ok (.if_icmp .ne 18, 3) := by decide +kernel
theorem dX8_mayBegin_45 : decode cX8_mayBegin 45 = .ok (.aload_n 0, 1) := by decide +kernel
theorem dX8_mayBegin_46 : decode cX8_mayBegin 46 = .ok (.getfield 123, 3) := by decide +kernel
theorem dX8_mayBegin_49 : decode cX8_mayBegin 49 = .ok (.ifCond .ne 7, 3) := by decide +kernel
theorem dX8_mayBegin_52 : decode cX8_mayBegin 52 = .ok (.iconst 1, 1) := by decide +kernel
theorem dX8_mayBegin_53 : decode cX8_mayBegin 53 = .ok (.goto 38, 3) := by decide +kernel
theorem dX8_mayBegin_56 : decode cX8_mayBegin 56 = .ok (.iconst 0, 1) := by decide +kernel
theorem dX8_mayBegin_57 : decode cX8_mayBegin 57 = .ok (.goto 34, 3) := by decide +kernel
theorem dX8_mayBegin_60 : decode cX8_mayBegin 60 = .ok (.iload_n 1, 1) := by decide +kernel
theorem dX8_mayBegin_61 : decode cX8_mayBegin 61 = .ok (.iconst 4, 1) := by decide +kernel
theorem dX8_mayBegin_62 : decode cX8_mayBegin 62 = .ok (.if_icmp .ne 19, 3) := by decide +kernel
theorem dX8_mayBegin_65 : decode cX8_mayBegin 65 = .ok (.aload_n 0, 1) := by decide +kernel
theorem dX8_mayBegin_66 : decode cX8_mayBegin 66 = .ok (.getfield 116, 3) := by decide +kernel
theorem dX8_mayBegin_69 : decode cX8_mayBegin 69 = .ok (.iconst 5, 1) := by decide +kernel
theorem dX8_mayBegin_70 : decode cX8_mayBegin 70 = .ok (.if_icmp .ge 7, 3) := by decide +kernel
theorem dX8_mayBegin_73 : decode cX8_mayBegin 73 = .ok (.iconst 1, 1) := by decide +kernel
theorem dX8_mayBegin_74 : decode cX8_mayBegin 74 = .ok (.goto 17, 3) := by decide +kernel
theorem dX8_mayBegin_77 : decode cX8_mayBegin 77 = .ok (.iconst 0, 1) := by decide +kernel
theorem dX8_mayBegin_78 : decode cX8_mayBegin 78 = .ok (.goto 13, 3) := by decide +kernel
theorem dX8_mayBegin_81 : decode cX8_mayBegin 81 = .ok (.iload_n 1, 1) := by decide +kernel
theorem dX8_mayBegin_82 : decode cX8_mayBegin 82 = .ok (.iconst 1, 1) := by decide +kernel
theorem dX8_mayBegin_83 : decode cX8_mayBegin 83 = .ok (.if_icmp .ne 7, 3) := by decide +kernel
theorem dX8_mayBegin_86 : decode cX8_mayBegin 86 = .ok (.iconst 1, 1) := by decide +kernel
theorem dX8_mayBegin_87 : decode cX8_mayBegin 87 = .ok (.goto 4, 3) := by decide +kernel
theorem dX8_mayBegin_90 : decode cX8_mayBegin 90 = .ok (.iconst 0, 1) := by decide +kernel
theorem dX8_mayBegin_91 : decode cX8_mayBegin 91 = .ok (.ireturn, 1) := by decide +kernel
theorem dX8_readsItem_0 : decode cX8_readsItem 0 = .ok (.iload_n 1, 1) := by decide +kernel
theorem dX8_readsItem_1 : decode cX8_readsItem 1 = .ok (.ifCond .ne 16, 3) := by decide +kernel
theorem dX8_readsItem_4 : decode cX8_readsItem 4 = .ok (.aload_n 0, 1) := by decide +kernel
theorem dX8_readsItem_5 : decode cX8_readsItem 5 = .ok (.dup, 1) := by decide +kernel
theorem dX8_readsItem_6 : decode cX8_readsItem 6 = .ok (.getfield 113, 3) := by decide +kernel
theorem dX8_readsItem_9 : decode cX8_readsItem 9 = .ok (.iconst 1, 1) := by decide +kernel
theorem dX8_readsItem_10 : decode cX8_readsItem 10 = .ok (.iadd, 1) := by decide +kernel
theorem dX8_readsItem_11 : decode cX8_readsItem 11 = .ok (.putfield 113, 3) := by decide +kernel
theorem dX8_readsItem_14 : decode cX8_readsItem 14 = .ok (.goto 304, 3) := by decide +kernel
theorem dX8_readsItem_17 : decode cX8_readsItem 17 = .ok (.iload_n 1, 1) := by decide +kernel
theorem dX8_readsItem_18 : decode cX8_readsItem 18 = .ok (.iconst 1, 1) := by decide +kernel
theorem dX8_readsItem_19 : decode cX8_readsItem 19 = .ok (.if_icmp .ne 107, 3) := by decide +kernel
theorem dX8_readsItem_22 : decode cX8_readsItem 22 = .ok (.aload_n 0, 1) := by decide +kernel
theorem dX8_readsItem_23 : decode cX8_readsItem 23 = .ok (.iconst 0, 1) := by decide +kernel
theorem dX8_readsItem_24 : decode cX8_readsItem 24 = .ok (.aload_n 0, 1) := by decide +kernel
theorem dX8_readsItem_25 : decode cX8_readsItem 25 = .ok (.getfield 113, 3) := by decide +kernel
theorem dX8_readsItem_28 : decode cX8_readsItem 28 = .ok (.iconst 1, 1) := by decide +kernel
theorem dX8_readsItem_29 : decode cX8_readsItem 29 = .ok (.isub, 1) := by decide +kernel
theorem dX8_readsItem_30 : decode cX8_readsItem 30 = .ok (.invokevirtual 126, 3) := by decide +kernel
theorem dX8_readsItem_33 : decode cX8_readsItem 33 = .ok (.istore_n 2, 1) := by decide +kernel
theorem dX8_readsItem_34 : decode cX8_readsItem 34 = .ok (.aload_n 0, 1) := by decide +kernel
theorem dX8_readsItem_35 : decode cX8_readsItem 35 = .ok (.aload_n 0, 1) := by decide +kernel
theorem dX8_readsItem_36 : decode cX8_readsItem 36 = .ok (.getfield 89, 3) := by decide +kernel
theorem dX8_readsItem_39 : decode cX8_readsItem 39 = .ok (.iconst 2, 1) := by decide +kernel
theorem dX8_readsItem_40 : decode cX8_readsItem 40 = .ok (.if_icmp .ne 32, 3) := by decide +kernel
theorem dX8_readsItem_43 : decode cX8_readsItem 43 = .ok (.aload_n 0, 1) := by decide +kernel
theorem dX8_readsItem_44 : decode cX8_readsItem 44 = .ok (.getfield 96, 3) := by decide +kernel
theorem dX8_readsItem_47 : decode cX8_readsItem 47 = .ok (.iconst 0, 1) := by decide +kernel
theorem dX8_readsItem_48 : decode cX8_readsItem 48 = .ok (.aload_n 0, 1) := by decide +kernel
theorem dX8_readsItem_49 : decode cX8_readsItem 49 = .ok (.getfield 113, 3) := by decide +kernel
theorem dX8_readsItem_52 : decode cX8_readsItem 52 = .ok (.iconst 1, 1) := by decide +kernel
theorem dX8_readsItem_53 : decode cX8_readsItem 53 = .ok (.isub, 1) := by decide +kernel
theorem dX8_readsItem_54 : decode cX8_readsItem 54 = .ok (.invokestatic 60, 3) := by decide +kernel
theorem dX8_readsItem_57 : decode cX8_readsItem 57 = .ok (.ifCond .eq 15, 3) := by decide +kernel
theorem dX8_readsItem_60 : decode cX8_readsItem 60 = .ok (.aload_n 0, 1) := by decide +kernel
theorem dX8_readsItem_61 : decode cX8_readsItem 61 = .ok (.getfield 96, 3) := by decide +kernel
theorem dX8_readsItem_64 : decode cX8_readsItem 64 = .ok (.iload_n 2, 1) := by decide +kernel
theorem dX8_readsItem_65 : decode cX8_readsItem 65 = .ok (.if_icmp .eq 7, 3) := by decide +kernel
theorem dX8_readsItem_68 : decode cX8_readsItem 68 = .ok (.iconst 1, 1) := by decide +kernel
theorem dX8_readsItem_69 : decode cX8_readsItem 69 = .ok (.goto 4, 3) := by decide +kernel
theorem dX8_readsItem_72 : decode cX8_readsItem 72 = .ok (.iconst 0, 1) := by decide +kernel
theorem dX8_readsItem_73 : decode cX8_readsItem 73 = .ok (.invokevirtual 109, 3) := by decide +kernel
theorem dX8_readsItem_76 : decode cX8_readsItem 76 = .ok (.istore_n 3, 1) := by decide +kernel
theorem dX8_readsItem_77 : decode cX8_readsItem 77 = .ok (.aload_n 0, 1) := by decide +kernel
theorem dX8_readsItem_78 : decode cX8_readsItem 78 = .ok (.iconst 0, 1) := by decide +kernel
theorem dX8_readsItem_79 : decode cX8_readsItem 79 = .ok (.bipush 9, 2) := by decide +kernel
theorem dX8_readsItem_81 : decode cX8_readsItem 81 = .ok (.invokevirtual 126, 3) := by decide +kernel
theorem dX8_readsItem_84 : decode cX8_readsItem 84 = .ok (.istore 4, 2) := by decide +kernel
theorem dX8_readsItem_86 : decode cX8_readsItem 86 = .ok (.aload_n 0, 1) := by decide +kernel
theorem dX8_readsItem_87 : decode cX8_readsItem 87 = .ok (.invokevirtual 102, 3) := by decide +kernel
theorem dX8_readsItem_90 : decode cX8_readsItem 90 = .ok (.ifCond .eq 33, 3) := by decide +kernel
theorem dX8_readsItem_93 : decode cX8_readsItem 93 = .ok (.aload_n 0, 1) := by decide +kernel
theorem dX8_readsItem_94 : decode cX8_readsItem 94 = .ok (.getfield 29, 3) := by decide +kernel
theorem dX8_readsItem_97 : decode cX8_readsItem 97 = .ok (.bipush 9, 2) := by decide +kernel
theorem dX8_readsItem_99 : decode cX8_readsItem 99 = .ok (.iconst 3, 1) := by decide +kernel
theorem dX8_readsItem_100 : decode cX8_readsItem 100 = .ok (.iload_n 2, 1) := by decide +kernel
theorem dX8_readsItem_101 : decode cX8_readsItem 101 = .ok (.imul, 1) := by decide +kernel
theorem dX8_readsItem_102 : decode cX8_readsItem 102 = .ok (.iadd, 1) := by decide +kernel
theorem dX8_readsItem_103 : decode cX8_readsItem 103 = .ok (.iload_n 3, 1) := by decide +kernel
theorem dX8_readsItem_104 : decode cX8_readsItem 104 = .ok (.iadd, 1) := by decide +kernel
theorem dX8_readsItem_105 : decode cX8_readsItem 105 = .ok (.iload 4, 2) := by decide +kernel
theorem dX8_readsItem_107 : decode cX8_readsItem 107 = .ok (.iastore, 1) := by decide +kernel
theorem dX8_readsItem_108 : decode cX8_readsItem 108 = .ok (.aload_n 0, 1) := by decide +kernel
theorem dX8_readsItem_109 : decode cX8_readsItem 109 = .ok (.getfield 29, 3) := by decide +kernel
theorem dX8_readsItem_112 : decode cX8_readsItem 112 = .ok (.bipush 9, 2) := by decide +kernel
theorem dX8_readsItem_114 : decode cX8_readsItem 114 = .ok (.iconst 3, 1) := by decide +kernel
theorem dX8_readsItem_115 : decode cX8_readsItem 115 = .ok (.iload_n 3, 1) := by decide +kernel
theorem dX8_readsItem_116 : decode cX8_readsItem 116 = .ok (.imul, 1) := by decide +kernel
theorem dX8_readsItem_117 : decode cX8_readsItem 117 = .ok (.iadd, 1) := by decide +kernel
theorem dX8_readsItem_118 : decode cX8_readsItem 118 = .ok (.iload_n 2, 1) := by decide +kernel
theorem dX8_readsItem_119 : decode cX8_readsItem 119 = .ok (.iadd, 1) := by decide +kernel
theorem dX8_readsItem_120 : decode cX8_readsItem 120 = .ok (.iload 4, 2) := by decide +kernel
theorem dX8_readsItem_122 : decode cX8_readsItem 122 = .ok (.iastore, 1) := by decide +kernel
theorem dX8_readsItem_123 : decode cX8_readsItem 123 = .ok (.goto 195, 3) := by decide +kernel
theorem dX8_readsItem_126 : decode cX8_readsItem 126 = .ok (.iload_n 1, 1) := by decide +kernel
theorem dX8_readsItem_127 : decode cX8_readsItem 127 = .ok (.iconst 2, 1) := by decide +kernel
theorem dX8_readsItem_128 : decode cX8_readsItem 128 = .ok (.if_icmp .ne 52, 3) := by decide +kernel
theorem dX8_readsItem_131 : decode cX8_readsItem 131 = .ok (.aload_n 0, 1) := by decide +kernel
theorem dX8_readsItem_132 : decode cX8_readsItem 132 = .ok (.iconst 1, 1) := by decide +kernel
theorem dX8_readsItem_133 : decode cX8_readsItem 133 = .ok (.putfield 119, 3) := by decide +kernel
theorem dX8_readsItem_136 : decode cX8_readsItem 136 = .ok (.aload_n 0, 1) := by decide +kernel
theorem dX8_readsItem_137 : decode cX8_readsItem 137 = .ok (.getfield 26, 3) := by decide +kernel
theorem dX8_readsItem_140 : decode cX8_readsItem 140 = .ok (.iconst 5, 1) := by decide +kernel
theorem dX8_readsItem_141 : decode cX8_readsItem 141 = .ok (.aload_n 0, 1) := by decide +kernel
theorem dX8_readsItem_142 : decode cX8_readsItem 142 = .ok (.iconst 0, 1) := by decide +kernel
theorem dX8_readsItem_143 : decode cX8_readsItem 143 = .ok (.bipush 9, 2) := by decide +kernel
theorem dX8_readsItem_145 : decode cX8_readsItem 145 = .ok (.invokevirtual 126, 3) := by decide +kernel
theorem dX8_readsItem_148 : decode cX8_readsItem 148 = .ok (.iastore, 1) := by decide +kernel
theorem dX8_readsItem_149 : decode cX8_readsItem 149 = .ok (.aload_n 0, 1) := by decide +kernel
theorem dX8_readsItem_150 : decode cX8_readsItem 150 = .ok (.getfield 26, 3) := by decide +kernel
theorem dX8_readsItem_153 : decode cX8_readsItem 153 = .ok (.bipush 6, 2) := by decide +kernel
theorem dX8_readsItem_155 : decode cX8_readsItem 155 = .ok (.aload_n 0, 1) := by decide +kernel
theorem dX8_readsItem_156 : decode cX8_readsItem 156 = .ok (.iconst 0, 1) := by decide +kernel
theorem dX8_readsItem_157 : decode cX8_readsItem 157 = .ok (.bipush 9, 2) := by decide +kernel
theorem dX8_readsItem_159 : decode cX8_readsItem 159 = .ok (.invokevirtual 126, 3) := by decide +kernel
theorem dX8_readsItem_162 : decode cX8_readsItem 162 = .ok (.iastore, 1) := by decide +kernel
theorem dX8_readsItem_163 : decode cX8_readsItem 163 = .ok (.aload_n 0, 1) := by decide +kernel
theorem dX8_readsItem_164 : decode cX8_readsItem 164 = .ok (.getfield 26, 3) := by decide +kernel
theorem dX8_readsItem_167 : decode cX8_readsItem 167 = .ok (.bipush 7, 2) := by decide +kernel
theorem dX8_readsItem_169 : decode cX8_readsItem 169 = .ok (.aload_n 0, 1) := by decide +kernel
theorem dX8_readsItem_170 : decode cX8_readsItem 170 = .ok (.iconst 0, 1) := by decide +kernel
theorem dX8_readsItem_171 : decode cX8_readsItem 171 = .ok (.bipush 9, 2) := by decide +kernel
theorem dX8_readsItem_173 : decode cX8_readsItem 173 = .ok (.invokevirtual 126, 3) := by decide +kernel
theorem dX8_readsItem_176 : decode cX8_readsItem 176 = .ok (.iastore, 1) := by decide +kernel
theorem dX8_readsItem_177 : decode cX8_readsItem 177 = .ok (.goto 141, 3) := by decide +kernel
theorem dX8_readsItem_180 : decode cX8_readsItem 180 = .ok (.iload_n 1, 1) := by decide +kernel
theorem dX8_readsItem_181 : decode cX8_readsItem 181 = .ok (.iconst 3, 1) := by decide +kernel
theorem dX8_readsItem_182 : decode cX8_readsItem 182 = .ok (.if_icmp .ne 25, 3) := by decide +kernel
theorem dX8_readsItem_185 : decode cX8_readsItem 185 = .ok (.aload_n 0, 1) := by decide +kernel
theorem dX8_readsItem_186 : decode cX8_readsItem 186 = .ok (.iconst 1, 1) := by decide +kernel
theorem dX8_readsItem_187 : decode cX8_readsItem 187 = .ok (.putfield 123, 3) := by decide +kernel
theorem dX8_readsItem_190 : decode cX8_readsItem 190 = .ok (.aload_n 0, 1) := by decide +kernel
theorem dX8_readsItem_191 : decode cX8_readsItem 191 = .ok (.getfield 26, 3) := by decide +kernel
theorem dX8_readsItem_194 : decode cX8_readsItem 194 = .ok (.bipush 8, 2) := by decide +kernel
theorem dX8_readsItem_196 : decode cX8_readsItem 196 = .ok (.aload_n 0, 1) := by decide +kernel
theorem dX8_readsItem_197 : decode cX8_readsItem 197 = .ok (.iconst 1, 1) := by decide +kernel
theorem dX8_readsItem_198 : decode cX8_readsItem 198 = .ok (.bipush 99, 2) := by decide +kernel
theorem dX8_readsItem_200 : decode cX8_readsItem 200 = .ok (.invokevirtual 126, 3) := by decide +kernel
theorem dX8_readsItem_203 : decode cX8_readsItem 203 = .ok (.iastore, 1) := by decide +kernel
theorem dX8_readsItem_204 : decode cX8_readsItem 204 = .ok (.goto 114, 3) := by decide +kernel
theorem dX8_readsItem_207 : decode cX8_readsItem 207 = .ok (.bipush 20, 2) := by decide +kernel
theorem dX8_readsItem_209 : decode cX8_readsItem 209 = .ok (.iconst 4, 1) := by decide +kernel
theorem dX8_readsItem_210 : decode cX8_readsItem 210 = .ok (.aload_n 0, 1) := by decide +kernel
theorem dX8_readsItem_211 : decode cX8_readsItem 211 = .ok (.getfield 116, 3) := by decide +kernel
theorem dX8_readsItem_214 : decode cX8_readsItem 214 = .ok (.imul, 1) := by decide +kernel
theorem dX8_readsItem_215 : decode cX8_readsItem 215 = .ok (.iadd, 1) := by decide +kernel
theorem dX8_readsItem_216 : decode cX8_readsItem 216 = .ok (.istore_n 2, 1) := by decide +kernel
theorem dX8_readsItem_217 : decode cX8_readsItem 217 = .ok (.aload_n 0, 1) := by decide +kernel
theorem dX8_readsItem_218 : decode cX8_readsItem 218 = .ok (.getfield 32, 3) := by decide +kernel
theorem dX8_readsItem_221 : decode cX8_readsItem 221 = .ok (.iload_n 2, 1) := by decide +kernel
theorem dX8_readsItem_222 : decode cX8_readsItem 222 = .ok (.aload_n 0, 1) := by decide +kernel
theorem dX8_readsItem_223 : decode cX8_readsItem 223 = .ok (.iconst 0, 1) := by decide +kernel
theorem dX8_readsItem_224 : decode cX8_readsItem 224 = .ok (.iconst 3, 1) := by decide +kernel
theorem dX8_readsItem_225 : decode cX8_readsItem 225 = .ok (.invokevirtual 126, 3) := by decide +kernel
theorem dX8_readsItem_228 : decode cX8_readsItem 228 = .ok (.iastore, 1) := by decide +kernel
theorem dX8_readsItem_229 : decode cX8_readsItem 229 = .ok (.aload_n 0, 1) := by decide +kernel
theorem dX8_readsItem_230 : decode cX8_readsItem 230 = .ok (.getfield 32, 3) := by decide +kernel
theorem dX8_readsItem_233 : decode cX8_readsItem 233 = .ok (.iload_n 2, 1) := by decide +kernel
theorem dX8_readsItem_234 : decode cX8_readsItem 234 = .ok (.iconst 1, 1) := by decide +kernel
theorem dX8_readsItem_235 : decode cX8_readsItem 235 = .ok (.iadd, 1) := by decide +kernel
theorem dX8_readsItem_236 : decode cX8_readsItem 236 = .ok (.aload_n 0, 1) := by decide +kernel
theorem dX8_readsItem_237 : decode cX8_readsItem 237 = .ok (.iconst 0, 1) := by decide +kernel
theorem dX8_readsItem_238 : decode cX8_readsItem 238 = .ok (.bipush 90, 2) := by decide +kernel
theorem dX8_readsItem_240 : decode cX8_readsItem 240 = .ok (.invokevirtual 126, 3) := by decide +kernel
theorem dX8_readsItem_243 : decode cX8_readsItem 243 = .ok (.iastore, 1) := by decide +kernel
theorem dX8_readsItem_244 : decode cX8_readsItem 244 = .ok (.aload_n 0, 1) := by decide +kernel
theorem dX8_readsItem_245 : decode cX8_readsItem 245 = .ok (.getfield 32, 3) := by decide +kernel
theorem dX8_readsItem_248 : decode cX8_readsItem 248 = .ok (.iload_n 2, 1) := by decide +kernel
theorem dX8_readsItem_249 : decode cX8_readsItem 249 = .ok (.iconst 2, 1) := by decide +kernel
theorem dX8_readsItem_250 : decode cX8_readsItem 250 = .ok (.iadd, 1) := by decide +kernel
theorem dX8_readsItem_251 : decode cX8_readsItem 251 = .ok (.aload_n 0, 1) := by decide +kernel
theorem dX8_readsItem_252 : decode cX8_readsItem 252 = .ok (.iconst 0, 1) := by decide +kernel
theorem dX8_readsItem_253 : decode cX8_readsItem 253 = .ok (.aload_n 0, 1) := by decide +kernel
theorem dX8_readsItem_254 : decode cX8_readsItem 254 = .ok (.getfield 113, 3) := by decide +kernel
theorem dX8_readsItem_257 : decode cX8_readsItem 257 = .ok (.iconst 1, 1) := by decide +kernel
theorem dX8_readsItem_258 : decode cX8_readsItem 258 = .ok (.isub, 1) := by decide +kernel
theorem dX8_readsItem_259 : decode cX8_readsItem 259 = .ok (.invokevirtual 126, 3) := by decide +kernel
theorem dX8_readsItem_262 : decode cX8_readsItem 262 = .ok (.iastore, 1) := by decide +kernel
theorem dX8_readsItem_263 : decode cX8_readsItem 263 = .ok (.aload_n 0, 1) := by decide +kernel
theorem dX8_readsItem_264 : decode cX8_readsItem 264 = .ok (.getfield 32, 3) := by decide +kernel
theorem dX8_readsItem_267 : decode cX8_readsItem 267 = .ok (.iload_n 2, 1) := by decide +kernel
theorem dX8_readsItem_268 : decode cX8_readsItem 268 = .ok (.iconst 3, 1) := by decide +kernel
theorem dX8_readsItem_269 : decode cX8_readsItem 269 = .ok (.iadd, 1) := by decide +kernel
theorem dX8_readsItem_270 : decode cX8_readsItem 270 = .ok (.iconst 0, 1) := by decide +kernel
theorem dX8_readsItem_271 : decode cX8_readsItem 271 = .ok (.iastore, 1) := by decide +kernel
theorem dX8_readsItem_272 : decode cX8_readsItem 272 = .ok (.aload_n 0, 1) := by decide +kernel
theorem dX8_readsItem_273 : decode cX8_readsItem 273 = .ok (.invokevirtual 102, 3) := by decide +kernel
theorem dX8_readsItem_276 : decode cX8_readsItem 276 = .ok (.ifCond .eq 32, 3) := by decide +kernel
theorem dX8_readsItem_279 : decode cX8_readsItem 279 = .ok (.aload_n 0, 1) := by decide +kernel
theorem dX8_readsItem_280 : decode cX8_readsItem 280 = .ok (.getfield 89, 3) := by decide +kernel
theorem dX8_readsItem_283 : decode cX8_readsItem 283 = .ok (.iconst 1, 1) := by decide +kernel
theorem dX8_readsItem_284 : decode cX8_readsItem 284 = .ok (.if_icmp .ne 24, 3) := by decide +kernel
theorem dX8_readsItem_287 : decode cX8_readsItem 287 = .ok (.aload_n 0, 1) := by decide +kernel
theorem dX8_readsItem_288 : decode cX8_readsItem 288 = .ok (.getfield 96, 3) := by decide +kernel
theorem dX8_readsItem_291 : decode cX8_readsItem 291 = .ok (.iconst 5, 1) := by decide +kernel
theorem dX8_readsItem_292 : decode cX8_readsItem 292 = .ok (.if_icmp .ne 16, 3) := by decide +kernel
theorem dX8_readsItem_295 : decode cX8_readsItem 295 = .ok (.aload_n 0, 1) := by decide +kernel
theorem dX8_readsItem_296 : decode cX8_readsItem 296 = .ok (.getfield 32, 3) := by decide +kernel
theorem dX8_readsItem_299 : decode cX8_readsItem 299 = .ok (.iload_n 2, 1) := by decide +kernel
theorem dX8_readsItem_300 : decode cX8_readsItem 300 = .ok (.iconst 3, 1) := by decide +kernel
theorem dX8_readsItem_301 : decode cX8_readsItem 301 = .ok (.iadd, 1) := by decide +kernel
theorem dX8_readsItem_302 : decode cX8_readsItem 302 = .ok (.iconst 1, 1) := by decide +kernel
theorem dX8_readsItem_303 : decode cX8_readsItem 303 = .ok (.iastore, 1) := by decide +kernel
theorem dX8_readsItem_304 : decode cX8_readsItem 304 = .ok (.aload_n 0, 1) := by decide +kernel
theorem dX8_readsItem_305 : decode cX8_readsItem 305 = .ok (.invokevirtual 106, 3) := by decide +kernel
theorem dX8_readsItem_308 : decode cX8_readsItem 308 = .ok (.aload_n 0, 1) := by decide +kernel
theorem dX8_readsItem_309 : decode cX8_readsItem 309 = .ok (.dup, 1) := by decide +kernel
theorem dX8_readsItem_310 : decode cX8_readsItem 310 = .ok (.getfield 116, 3) := by decide +kernel
theorem dX8_readsItem_313 : decode cX8_readsItem 313 = .ok (.iconst 1, 1) := by decide +kernel
theorem dX8_readsItem_314 : decode cX8_readsItem 314 = .ok (.iadd, 1) := by decide +kernel
theorem dX8_readsItem_315 : decode cX8_readsItem 315 = .ok (.putfield 116, 3) := by decide +kernel
theorem dX8_readsItem_318 : decode cX8_readsItem 318 = .ok (.return_, 1) := by decide +kernel
theorem dX8_land_0 : decode cX8_land 0 = .ok (.aload_n 0, 1) := by decide +kernel
theorem dX8_land_1 : decode cX8_land 1 = .ok (.iconst 0, 1) := by decide +kernel
theorem dX8_land_2 : decode cX8_land 2 = .ok (.putfield 56, 3) := by decide +kernel
theorem dX8_land_5 : decode cX8_land 5 = .ok (.aload_n 0, 1) := by decide +kernel
theorem dX8_land_6 : decode cX8_land 6 = .ok (.iconst (-1), 1) := by decide +kernel
theorem dX8_land_7 : decode cX8_land 7 = .ok (.putfield 99, 3) := by decide +kernel
theorem dX8_land_10 : decode cX8_land 10 = .ok (.aload_n 0, 1) := by decide +kernel
theorem dX8_land_11 : decode cX8_land 11 = .ok (.iconst 0, 1) := by decide +kernel
theorem dX8_land_12 : decode cX8_land 12 = .ok (.putfield 79, 3) := by decide +kernel
theorem dX8_land_15 : decode cX8_land 15 = .ok (.iconst 0, 1) := by decide +kernel
theorem dX8_land_16 : decode cX8_land 16 = .ok (.istore_n 1, 1) := by decide +kernel
theorem dX8_land_17 : decode cX8_land 17 = .ok (.aload_n 0, 1) := by decide +kernel
theorem dX8_land_18 : decode cX8_land 18 = .ok (.invokevirtual 50, 3) := by decide +kernel
theorem dX8_land_21 : decode cX8_land 21 = .ok (.aload_n 0, 1) := by decide +kernel
theorem dX8_land_22 : decode cX8_land 22 = .ok (.invokevirtual 106, 3) := by decide +kernel
theorem dX8_land_25 : decode cX8_land 25 = .ok (.aload_n 0, 1) := by decide +kernel
theorem dX8_land_26 : decode cX8_land 26 = .ok (.invokevirtual 102, 3) := by decide +kernel
theorem dX8_land_29 : decode cX8_land 29 = .ok (.ifCond .eq 75, 3) := by decide +kernel
theorem dX8_land_32 : decode cX8_land 32 = .ok (.aload_n 0, 1) := by decide +kernel
theorem dX8_land_33 : decode cX8_land 33 = .ok (.getfield 89, 3) := by decide +kernel
theorem dX8_land_36 : decode cX8_land 36 = .ok (.ifCond .eq 68, 3) := by decide +kernel
theorem dX8_land_39 : decode cX8_land 39 = .ok (.aload_n 0, 1) := by decide +kernel
theorem dX8_land_40 : decode cX8_land 40 = .ok (.aload_n 0, 1) := by decide +kernel
theorem dX8_land_41 : decode cX8_land 41 = .ok (.getfield 89, 3) := by decide +kernel
theorem dX8_land_44 : decode cX8_land 44 = .ok (.iconst 1, 1) := by decide +kernel
theorem dX8_land_45 : decode cX8_land 45 = .ok (.if_icmp .ne 18, 3) := by decide +kernel
theorem dX8_land_48 : decode cX8_land 48 = .ok (.aload_n 0, 1) := by decide +kernel
theorem dX8_land_49 : decode cX8_land 49 = .ok (.aload_n 0, 1) := by decide +kernel
theorem dX8_land_50 : decode cX8_land 50 = .ok (.getfield 96, 3) := by decide +kernel
theorem dX8_land_53 : decode cX8_land 53 = .ok (.invokevirtual 130, 3) := by decide +kernel
theorem dX8_land_56 : decode cX8_land 56 = .ok (.ifCond .eq 7, 3) := by decide +kernel
theorem dX8_land_59 : decode cX8_land 59 = .ok (.iconst 1, 1) := by decide +kernel
theorem dX8_land_60 : decode cX8_land 60 = .ok (.goto 4, 3) := by decide +kernel
theorem dX8_land_63 : decode cX8_land 63 = .ok (.iconst 0, 1) := by decide +kernel
theorem dX8_land_64 : decode cX8_land 64 = .ok (.invokevirtual 109, 3) := by decide +kernel
theorem dX8_land_67 : decode cX8_land 67 = .ok (.istore_n 2, 1) := by decide +kernel
theorem dX8_land_68 : decode cX8_land 68 = .ok (.aload_n 0, 1) := by decide +kernel
theorem dX8_land_69 : decode cX8_land 69 = .ok (.invokevirtual 102, 3) := by decide +kernel
theorem dX8_land_72 : decode cX8_land 72 = .ok (.ifCond .eq 8, 3) := by decide +kernel
theorem dX8_land_75 : decode cX8_land 75 = .ok (.aload_n 0, 1) := by decide +kernel
theorem dX8_land_76 : decode cX8_land 76 = .ok (.iload_n 2, 1) := by decide +kernel
theorem dX8_land_77 : decode cX8_land 77 = .ok (.invokevirtual 134, 3) := by decide +kernel
theorem dX8_land_80 : decode cX8_land 80 = .ok (.aload_n 0, 1) := by decide +kernel
theorem dX8_land_81 : decode cX8_land 81 = .ok (.aload_n 0, 1) := by decide +kernel
theorem dX8_land_82 : decode cX8_land 82 = .ok (.getfield 89, 3) := by decide +kernel
theorem dX8_land_85 : decode cX8_land 85 = .ok (.iconst 3, 1) := by decide +kernel
theorem dX8_land_86 : decode cX8_land 86 = .ok (.if_icmp .ne 7, 3) := by decide +kernel
theorem dX8_land_89 : decode cX8_land 89 = .ok (.iconst 1, 1) := by decide +kernel
theorem dX8_land_90 : decode cX8_land 90 = .ok (.goto 4, 3) := by decide +kernel
theorem dX8_land_93 : decode cX8_land 93 = .ok (.iconst 0, 1) := by decide +kernel
theorem dX8_land_94 : decode cX8_land 94 = .ok (.invokevirtual 109, 3) := by decide +kernel
theorem dX8_land_97 : decode cX8_land 97 = .ok (.pop, 1) := by decide +kernel
theorem dX8_land_98 : decode cX8_land 98 = .ok (.iinc 1 1, 3) := by decide +kernel
theorem dX8_land_101 : decode cX8_land 101 = .ok (.goto (-76), 3) := by decide +kernel
theorem dX8_land_104 : decode cX8_land 104 = .ok (.aload_n 0, 1) := by decide +kernel
theorem dX8_land_105 : decode cX8_land 105 = .ok (.invokevirtual 102, 3) := by decide +kernel
theorem dX8_land_108 : decode cX8_land 108 = .ok (.ifCond .ne 11, 3) := by decide +kernel
theorem dX8_land_111 : decode cX8_land 111 = .ok (.bipush (-10), 2) := by decide +kernel
theorem dX8_land_113 : decode cX8_land 113 = .ok (.aload_n 0, 1) := by decide +kernel
theorem dX8_land_114 : decode cX8_land 114 = .ok (.getfield 99, 3) := by decide +kernel
theorem dX8_land_117 : decode cX8_land 117 = .ok (.isub, 1) := by decide +kernel
theorem dX8_land_118 : decode cX8_land 118 = .ok (.ireturn, 1) := by decide +kernel
theorem dX8_land_119 : decode cX8_land 119 = .ok (.aload_n 0, 1) := by decide +kernel
theorem dX8_land_120 : decode cX8_land 120 = .ok (.invokevirtual 53, 3) := by decide +kernel
theorem dX8_land_123 : decode cX8_land 123 = .ok (.aload_n 0, 1) := by decide +kernel
theorem dX8_land_124 : decode cX8_land 124 = .ok (.iconst 0, 1) := by decide +kernel
theorem dX8_land_125 : decode cX8_land 125 = .ok (.putfield 64, 3) := by decide +kernel
theorem dX8_land_128 : decode cX8_land 128 = .ok (.iload_n 1, 1) := by decide +kernel
theorem dX8_land_129 : decode cX8_land 129 = .ok (.ireturn, 1) := by decide +kernel
theorem dX8_adopts_0 : decode cX8_adopts 0 = .ok (.iconst 0, 1) := by decide +kernel
theorem dX8_adopts_1 : decode cX8_adopts 1 = .ok (.istore_n 1, 1) := by decide +kernel
theorem dX8_adopts_2 : decode cX8_adopts 2 = .ok (.iload_n 1, 1) := by decide +kernel
theorem dX8_adopts_3 : decode cX8_adopts 3 = .ok (.iconst 4, 1) := by decide +kernel
theorem dX8_adopts_4 : decode cX8_adopts 4 = .ok (.if_icmp .ge 23, 3) := by decide +kernel
theorem dX8_adopts_7 : decode cX8_adopts 7 = .ok (.aload_n 0, 1) := by decide +kernel
theorem dX8_adopts_8 : decode cX8_adopts 8 = .ok (.getfield 26, 3) := by decide +kernel
theorem dX8_adopts_11 : decode cX8_adopts 11 = .ok (.iload_n 1, 1) := by decide +kernel
theorem dX8_adopts_12 : decode cX8_adopts 12 = .ok (.aload_n 0, 1) := by decide +kernel
theorem dX8_adopts_13 : decode cX8_adopts 13 = .ok (.getfield 26, 3) := by decide +kernel
theorem dX8_adopts_16 : decode cX8_adopts 16 = .ok (.iconst 5, 1) := by decide +kernel
theorem dX8_adopts_17 : decode cX8_adopts 17 = .ok (.iload_n 1, 1) := by decide +kernel
theorem dX8_adopts_18 : decode cX8_adopts 18 = .ok (.iadd, 1) := by decide +kernel
theorem dX8_adopts_19 : decode cX8_adopts 19 = .ok (.iaload, 1) := by decide +kernel
theorem dX8_adopts_20 : decode cX8_adopts 20 = .ok (.iastore, 1) := by decide +kernel
theorem dX8_adopts_21 : decode cX8_adopts 21 = .ok (.iinc 1 1, 3) := by decide +kernel
theorem dX8_adopts_24 : decode cX8_adopts 24 = .ok (.goto (-22), 3) := by decide +kernel
theorem dX8_adopts_27 : decode cX8_adopts 27 = .ok (.iconst 0, 1) := by decide +kernel
theorem dX8_adopts_28 : decode cX8_adopts 28 = .ok (.istore_n 1, 1) := by decide +kernel
theorem dX8_adopts_29 : decode cX8_adopts 29 = .ok (.iload_n 1, 1) := by decide +kernel
theorem dX8_adopts_30 : decode cX8_adopts 30 = .ok (.bipush 9, 2) := by decide +kernel
theorem dX8_adopts_32 : decode cX8_adopts 32 = .ok (.if_icmp .ge 24, 3) := by decide +kernel
theorem dX8_adopts_35 : decode cX8_adopts 35 = .ok (.aload_n 0, 1) := by decide +kernel
theorem dX8_adopts_36 : decode cX8_adopts 36 = .ok (.getfield 29, 3) := by decide +kernel
theorem dX8_adopts_39 : decode cX8_adopts 39 = .ok (.iload_n 1, 1) := by decide +kernel
theorem dX8_adopts_40 : decode cX8_adopts 40 = .ok (.aload_n 0, 1) := by decide +kernel
theorem dX8_adopts_41 : decode cX8_adopts 41 = .ok (.getfield 29, 3) := by decide +kernel
theorem dX8_adopts_44 : decode cX8_adopts 44 = .ok (.bipush 9, 2) := by decide +kernel
theorem dX8_adopts_46 : decode cX8_adopts 46 = .ok (.iload_n 1, 1) := by decide +kernel
theorem dX8_adopts_47 : decode cX8_adopts 47 = .ok (.iadd, 1) := by decide +kernel
theorem dX8_adopts_48 : decode cX8_adopts 48 = .ok (.iaload, 1) := by decide +kernel
theorem dX8_adopts_49 : decode cX8_adopts 49 = .ok (.iastore, 1) := by decide +kernel
theorem dX8_adopts_50 : decode cX8_adopts 50 = .ok (.iinc 1 1, 3) := by decide +kernel
theorem dX8_adopts_53 : decode cX8_adopts 53 = .ok (.goto (-24), 3) := by decide +kernel
theorem dX8_adopts_56 : decode cX8_adopts 56 = .ok (.iconst 0, 1) := by decide +kernel
theorem dX8_adopts_57 : decode cX8_adopts 57 = .ok (.istore_n 1, 1) := by decide +kernel
theorem dX8_adopts_58 : decode cX8_adopts 58 = .ok (.iload_n 1, 1) := by decide +kernel
theorem dX8_adopts_59 : decode cX8_adopts 59 = .ok (.bipush 20, 2) := by decide +kernel
theorem dX8_adopts_61 : decode cX8_adopts 61 = .ok (.if_icmp .ge 24, 3) := by decide +kernel
theorem dX8_adopts_64 : decode cX8_adopts 64 = .ok (.aload_n 0, 1) := by decide +kernel
theorem dX8_adopts_65 : decode cX8_adopts 65 = .ok (.getfield 32, 3) := by decide +kernel
theorem dX8_adopts_68 : decode cX8_adopts 68 = .ok (.iload_n 1, 1) := by decide +kernel
theorem dX8_adopts_69 : decode cX8_adopts 69 = .ok (.aload_n 0, 1) := by decide +kernel
theorem dX8_adopts_70 : decode cX8_adopts 70 = .ok (.getfield 32, 3) := by decide +kernel
theorem dX8_adopts_73 : decode cX8_adopts 73 = .ok (.bipush 20, 2) := by decide +kernel
theorem dX8_adopts_75 : decode cX8_adopts 75 = .ok (.iload_n 1, 1) := by decide +kernel
theorem dX8_adopts_76 : decode cX8_adopts 76 = .ok (.iadd, 1) := by decide +kernel
theorem dX8_adopts_77 : decode cX8_adopts 77 = .ok (.iaload, 1) := by decide +kernel
theorem dX8_adopts_78 : decode cX8_adopts 78 = .ok (.iastore, 1) := by decide +kernel
theorem dX8_adopts_79 : decode cX8_adopts 79 = .ok (.iinc 1 1, 3) := by decide +kernel
theorem dX8_adopts_82 : decode cX8_adopts 82 = .ok (.goto (-24), 3) := by decide +kernel
theorem dX8_adopts_85 : decode cX8_adopts 85 = .ok (.aload_n 0, 1) := by decide +kernel
theorem dX8_adopts_86 : decode cX8_adopts 86 = .ok (.aload_n 0, 1) := by decide +kernel
theorem dX8_adopts_87 : decode cX8_adopts 87 = .ok (.getfield 113, 3) := by decide +kernel
theorem dX8_adopts_90 : decode cX8_adopts 90 = .ok (.putfield 138, 3) := by decide +kernel
theorem dX8_adopts_93 : decode cX8_adopts 93 = .ok (.aload_n 0, 1) := by decide +kernel
theorem dX8_adopts_94 : decode cX8_adopts 94 = .ok (.aload_n 0, 1) := by decide +kernel
theorem dX8_adopts_95 : decode cX8_adopts 95 = .ok (.getfield 116, 3) := by decide +kernel
theorem dX8_adopts_98 : decode cX8_adopts 98 = .ok (.putfield 141, 3) := by decide +kernel
theorem dX8_adopts_101 : decode cX8_adopts 101 = .ok (.aload_n 0, 1) := by decide +kernel
theorem dX8_adopts_102 : decode cX8_adopts 102 = .ok (.iconst 0, 1) := by decide +kernel
theorem dX8_adopts_103 : decode cX8_adopts 103 = .ok (.putfield 144, 3) := by decide +kernel
theorem dX8_adopts_106 : decode cX8_adopts 106 = .ok (.aload_n 0, 1) := by decide +kernel
theorem dX8_adopts_107 : decode cX8_adopts 107 = .ok (.iconst 0, 1) := by decide +kernel
theorem dX8_adopts_108 : decode cX8_adopts 108 = .ok (.putfield 147, 3) := by decide +kernel
theorem dX8_adopts_111 : decode cX8_adopts 111 = .ok (.aload_n 0, 1) := by decide +kernel
theorem dX8_adopts_112 : decode cX8_adopts 112 = .ok (.getfield 19, 3) := by decide +kernel
theorem dX8_adopts_115 : decode cX8_adopts 115 = .ok (.iconst 0, 1) := by decide +kernel
theorem dX8_adopts_116 : decode cX8_adopts 116 = .ok (.iconst 0, 1) := by decide +kernel
theorem dX8_adopts_117 : decode cX8_adopts 117 = .ok (.bastore, 1) := by decide +kernel
theorem dX8_adopts_118 : decode cX8_adopts 118 = .ok (.aload_n 0, 1) := by decide +kernel
theorem dX8_adopts_119 : decode cX8_adopts 119 = .ok (.getfield 19, 3) := by decide +kernel
theorem dX8_adopts_122 : decode cX8_adopts 122 = .ok (.iconst 1, 1) := by decide +kernel
theorem dX8_adopts_123 : decode cX8_adopts 123 = .ok (.iconst 0, 1) := by decide +kernel
theorem dX8_adopts_124 : decode cX8_adopts 124 = .ok (.bastore, 1) := by decide +kernel
theorem dX8_adopts_125 : decode cX8_adopts 125 = .ok (.aload_n 0, 1) := by decide +kernel
theorem dX8_adopts_126 : decode cX8_adopts 126 = .ok (.getfield 7, 3) := by decide +kernel
theorem dX8_adopts_129 : decode cX8_adopts 129 = .ok (.iconst 2, 1) := by decide +kernel
theorem dX8_adopts_130 : decode cX8_adopts 130 = .ok (.iconst 0, 1) := by decide +kernel
theorem dX8_adopts_131 : decode cX8_adopts 131 = .ok (.iastore, 1) := by decide +kernel
theorem dX8_adopts_132 : decode cX8_adopts 132 = .ok (.aload_n 0, 1) := by decide +kernel
theorem dX8_adopts_133 : decode cX8_adopts 133 = .ok (.invokevirtual 150, 3) := by decide +kernel
theorem dX8_adopts_136 : decode cX8_adopts 136 = .ok (.return_, 1) := by decide +kernel
theorem dX8_isPlace_0 : decode cX8_isPlace 0 = .ok (.iload_n 1, 1) := by decide +kernel
theorem dX8_isPlace_1 : decode cX8_isPlace 1 = .ok (.iconst 0, 1) := by decide +kernel
theorem dX8_isPlace_2 : decode cX8_isPlace 2 = .ok (.aload_n 0, 1) := by decide +kernel
theorem dX8_isPlace_3 : decode cX8_isPlace 3 = .ok (.getfield 138, 3) := by decide +kernel
theorem dX8_isPlace_6 : decode cX8_isPlace 6 = .ok (.iconst 1, 1) := by decide +kernel
theorem dX8_isPlace_7 : decode cX8_isPlace 7 = .ok (.isub, 1) := by decide +kernel
theorem dX8_isPlace_8 : decode cX8_isPlace 8 = .ok (.invokestatic 60, 3) := by decide +kernel
theorem dX8_isPlace_11 : decode cX8_isPlace 11 = .ok (.ireturn, 1) := by decide +kernel
theorem dX8_isWord_0 : decode cX8_isWord 0 = .ok (.iload_n 1, 1) := by decide +kernel
theorem dX8_isWord_1 : decode cX8_isWord 1 = .ok (.iconst 0, 1) := by decide +kernel
theorem dX8_isWord_2 : decode cX8_isWord 2 = .ok (.aload_n 0, 1) := by decide +kernel
theorem dX8_isWord_3 : decode cX8_isWord 3 = .ok (.getfield 141, 3) := by decide +kernel
theorem dX8_isWord_6 : decode cX8_isWord 6 = .ok (.iconst 1, 1) := by decide +kernel
theorem dX8_isWord_7 : decode cX8_isWord 7 = .ok (.isub, 1) := by decide +kernel
theorem dX8_isWord_8 : decode cX8_isWord 8 = .ok (.invokestatic 60, 3) := by decide +kernel
theorem dX8_isWord_11 : decode cX8_isWord 11 = .ok (.ireturn, 1) := by decide +kernel
theorem dX8_isAge_0 : decode cX8_isAge 0 = .ok (.iload_n 0, 1) := by decide +kernel
theorem dX8_isAge_1 : decode cX8_isAge 1 = .ok (.bipush 10, 2) := by decide +kernel
theorem dX8_isAge_3 : decode cX8_isAge 3 = .ok (.bipush 69, 2) := by decide +kernel
theorem dX8_isAge_5 : decode cX8_isAge 5 = .ok (.invokestatic 60, 3) := by decide +kernel
theorem dX8_isAge_8 : decode cX8_isAge 8 = .ok (.ireturn, 1) := by decide +kernel
theorem dX8_law_0 : decode cX8_law 0 = .ok (.aload_n 0, 1) := by decide +kernel
theorem dX8_law_1 : decode cX8_law 1 = .ok (.iconst 0, 1) := by decide +kernel
theorem dX8_law_2 : decode cX8_law 2 = .ok (.putfield 56, 3) := by decide +kernel
theorem dX8_law_5 : decode cX8_law 5 = .ok (.iload_n 1, 1) := by decide +kernel
theorem dX8_law_6 : decode cX8_law 6 = .ok (.iconst 0, 1) := by decide +kernel
theorem dX8_law_7 : decode cX8_law 7 = .ok (.iconst 4, 1) := by decide +kernel
theorem dX8_law_8 : decode cX8_law 8 = .ok (.invokestatic 60, 3) := by decide +kernel
theorem dX8_law_11 : decode cX8_law 11 = .ok (.ifCond .eq 12, 3) := by decide +kernel
theorem dX8_law_14 : decode cX8_law 14 = .ok (.aload_n 0, 1) := by decide +kernel
theorem dX8_law_15 : decode cX8_law 15 = .ok (.getfield 26, 3) := by decide +kernel
theorem dX8_law_18 : decode cX8_law 18 = .ok (.iload_n 1, 1) := by decide +kernel
theorem dX8_law_19 : decode cX8_law 19 = .ok (.iaload, 1) := by decide +kernel
theorem dX8_law_20 : decode cX8_law 20 = .ok (.goto 4, 3) := by decide +kernel
theorem dX8_law_23 : decode cX8_law 23 = .ok (.iconst (-1), 1) := by decide +kernel
theorem dX8_law_24 : decode cX8_law 24 = .ok (.ireturn, 1) := by decide +kernel
theorem dX8_late_0 : decode cX8_late 0 = .ok (.aload_n 0, 1) := by decide +kernel
theorem dX8_late_1 : decode cX8_late 1 = .ok (.iconst 0, 1) := by decide +kernel
theorem dX8_late_2 : decode cX8_late 2 = .ok (.putfield 56, 3) := by decide +kernel
theorem dX8_late_5 : decode cX8_late 5 = .ok (.iload_n 1, 1) := by decide +kernel
theorem dX8_late_6 : decode cX8_late 6 = .ok (.iconst 0, 1) := by decide +kernel
theorem dX8_late_7 : decode cX8_late 7 = .ok (.bipush 30, 2) := by decide +kernel
theorem dX8_late_9 : decode cX8_late 9 = .ok (.invokestatic 60, 3) := by decide +kernel
theorem dX8_late_12 : decode cX8_late 12 = .ok (.ifCond .ne 5, 3) := by decide +kernel
theorem dX8_late_15 : decode cX8_late 15 = .ok (.iconst (-1), 1) := by decide +kernel
theorem dX8_late_16 : decode cX8_late 16 = .ok (.ireturn, 1) := by decide +kernel
theorem dX8_late_17 : decode cX8_late 17 = .ok (.aload_n 0, 1) := by decide +kernel
theorem dX8_late_18 : decode cX8_late 18 = .ok (.getfield 26, 3) := by decide +kernel
theorem dX8_late_21 : decode cX8_late 21 = .ok (.iconst 4, 1) := by decide +kernel
theorem dX8_late_22 : decode cX8_late 22 = .ok (.iaload, 1) := by decide +kernel
theorem dX8_late_23 : decode cX8_late 23 = .ok (.istore_n 2, 1) := by decide +kernel
theorem dX8_late_24 : decode cX8_late 24 = .ok (.aload_n 0, 1) := by decide +kernel
theorem dX8_late_25 : decode cX8_late 25 = .ok (.getfield 26, 3) := by decide +kernel
theorem dX8_late_28 : decode cX8_late 28 = .ok (.iconst 4, 1) := by decide +kernel
theorem dX8_late_29 : decode cX8_late 29 = .ok (.iload_n 1, 1) := by decide +kernel
theorem dX8_late_30 : decode cX8_late 30 = .ok (.iastore, 1) := by decide +kernel
theorem dX8_late_31 : decode cX8_late 31 = .ok (.iload_n 2, 1) := by decide +kernel
theorem dX8_late_32 : decode cX8_late 32 = .ok (.ireturn, 1) := by decide +kernel
theorem dX8_near_0 : decode cX8_near 0 = .ok (.aload_n 0, 1) := by decide +kernel
theorem dX8_near_1 : decode cX8_near 1 = .ok (.iconst 0, 1) := by decide +kernel
theorem dX8_near_2 : decode cX8_near 2 = .ok (.putfield 56, 3) := by decide +kernel
theorem dX8_near_5 : decode cX8_near 5 = .ok (.aload_n 0, 1) := by decide +kernel
theorem dX8_near_6 : decode cX8_near 6 = .ok (.iload_n 1, 1) := by decide +kernel
theorem dX8_near_7 : decode cX8_near 7 = .ok (.invokevirtual 153, 3) := by decide +kernel
theorem dX8_near_10 : decode cX8_near 10 = .ok (.ifCond .eq 29, 3) := by decide +kernel
theorem dX8_near_13 : decode cX8_near 13 = .ok (.aload_n 0, 1) := by decide +kernel
theorem dX8_near_14 : decode cX8_near 14 = .ok (.iload_n 2, 1) := by decide +kernel
theorem dX8_near_15 : decode cX8_near 15 = .ok (.invokevirtual 153, 3) := by decide +kernel
theorem dX8_near_18 : decode cX8_near 18 = .ok (.ifCond .eq 21, 3) := by decide +kernel
theorem dX8_near_21 : decode cX8_near 21 = .ok (.iload_n 1, 1) := by decide +kernel
theorem dX8_near_22 : decode cX8_near 22 = .ok (.iload_n 2, 1) := by decide +kernel
theorem dX8_near_23 : decode cX8_near 23 = .ok (.if_icmp .eq 16, 3) := by decide +kernel
theorem dX8_near_26 : decode cX8_near 26 = .ok (.aload_n 0, 1) := by decide +kernel
theorem dX8_near_27 : decode cX8_near 27 = .ok (.getfield 29, 3) := by decide +kernel
theorem dX8_near_30 : decode cX8_near 30 = .ok (.iconst 3, 1) := by decide +kernel
theorem dX8_near_31 : decode cX8_near 31 = .ok (.iload_n 1, 1) := by decide +kernel
theorem dX8_near_32 : decode cX8_near 32 = .ok (.imul, 1) := by decide +kernel
theorem dX8_near_33 : decode cX8_near 33 = .ok (.iload_n 2, 1) := by decide +kernel
theorem dX8_near_34 : decode cX8_near 34 = .ok (.iadd, 1) := by decide +kernel
theorem dX8_near_35 : decode cX8_near 35 = .ok (.iaload, 1) := by decide +kernel
theorem dX8_near_36 : decode cX8_near 36 = .ok (.goto 4, 3) := by decide +kernel
theorem dX8_near_39 : decode cX8_near 39 = .ok (.iconst (-1), 1) := by decide +kernel
theorem dX8_near_40 : decode cX8_near 40 = .ok (.ireturn, 1) := by decide +kernel
theorem dX8_isCoined_0 : decode cX8_isCoined 0 = .ok (.aload_n 0, 1) := by decide +kernel
theorem dX8_isCoined_1 : decode cX8_isCoined 1 = .ok (.getfield 32, 3) := by decide +kernel
theorem dX8_isCoined_4 : decode cX8_isCoined 4 = .ok (.iconst 4, 1) := by decide +kernel
theorem dX8_isCoined_5 : decode cX8_isCoined 5 = .ok (.iload_n 1, 1) := by decide +kernel
theorem dX8_isCoined_6 : decode cX8_isCoined 6 = .ok (.imul, 1) := by decide +kernel
theorem dX8_isCoined_7 : decode cX8_isCoined 7 = .ok (.iconst 1, 1) := by decide +kernel
theorem dX8_isCoined_8 : decode cX8_isCoined 8 = .ok (.iadd, 1) := by decide +kernel
theorem dX8_isCoined_9 : decode cX8_isCoined 9 = .ok (.iaload, 1) := by decide +kernel
theorem dX8_isCoined_10 : decode cX8_isCoined 10 = .ok (.aload_n 0, 1) := by decide +kernel
theorem dX8_isCoined_11 : decode cX8_isCoined 11 = .ok (.getfield 7, 3) := by decide +kernel
theorem dX8_isCoined_14 : decode cX8_isCoined 14 = .ok (.iconst 0, 1) := by decide +kernel
theorem dX8_isCoined_15 : decode cX8_isCoined 15 = .ok (.iaload, 1) := by decide +kernel
theorem dX8_isCoined_16 : decode cX8_isCoined 16 = .ok (.if_icmp .gt 7, 3) := by decide +kernel
theorem dX8_isCoined_19 : decode cX8_isCoined 19 = .ok (.iconst 1, 1) := by decide +kernel
theorem dX8_isCoined_20 : decode cX8_isCoined 20 = .ok (.goto 4, 3) := by decide +kernel
theorem dX8_isCoined_23 : decode cX8_isCoined 23 = .ok (.iconst 0, 1) := by decide +kernel
theorem dX8_isCoined_24 : decode cX8_isCoined 24 = .ok (.ireturn, 1) := by decide +kernel
theorem dX8_word_0 : decode cX8_word 0 = .ok (.aload_n 0, 1) := by decide +kernel
theorem dX8_word_1 : decode cX8_word 1 = .ok (.iconst 0, 1) := by decide +kernel
theorem dX8_word_2 : decode cX8_word 2 = .ok (.putfield 56, 3) := by decide +kernel
theorem dX8_word_5 : decode cX8_word 5 = .ok (.aload_n 0, 1) := by decide +kernel
theorem dX8_word_6 : decode cX8_word 6 = .ok (.iload_n 1, 1) := by decide +kernel
theorem dX8_word_7 : decode cX8_word 7 = .ok (.invokevirtual 156, 3) := by decide +kernel
theorem dX8_word_10 : decode cX8_word 10 = .ok (.ifCond .eq 12, 3) := by decide +kernel
theorem dX8_word_13 : decode cX8_word 13 = .ok (.iload_n 2, 1) := by decide +kernel
theorem dX8_word_14 : decode cX8_word 14 = .ok (.iconst 0, 1) := by decide +kernel
theorem dX8_word_15 : decode cX8_word 15 = .ok (.iconst 4, 1) := by decide +kernel
theorem dX8_word_16 : decode cX8_word 16 = .ok (.invokestatic 60, 3) := by decide +kernel
theorem dX8_word_19 : decode cX8_word 19 = .ok (.ifCond .ne 7, 3) := by decide +kernel
theorem dX8_word_22 : decode cX8_word 22 = .ok (.iconst (-1), 1) := by decide +kernel
theorem dX8_word_23 : decode cX8_word 23 = .ok (.goto 34, 3) := by decide +kernel
theorem dX8_word_26 : decode cX8_word 26 = .ok (.iload_n 2, 1) := by decide +kernel
theorem dX8_word_27 : decode cX8_word 27 = .ok (.iconst 4, 1) := by decide +kernel
theorem dX8_word_28 : decode cX8_word 28 = .ok (.if_icmp .ge 16, 3) := by decide +kernel
theorem dX8_word_31 : decode cX8_word 31 = .ok (.aload_n 0, 1) := by decide +kernel
theorem dX8_word_32 : decode cX8_word 32 = .ok (.getfield 32, 3) := by decide +kernel
theorem dX8_word_35 : decode cX8_word 35 = .ok (.iconst 4, 1) := by decide +kernel
theorem dX8_word_36 : decode cX8_word 36 = .ok (.iload_n 1, 1) := by decide +kernel
theorem dX8_word_37 : decode cX8_word 37 = .ok (.imul, 1) := by decide +kernel
theorem dX8_word_38 : decode cX8_word 38 = .ok (.iload_n 2, 1) := by decide +kernel
theorem dX8_word_39 : decode cX8_word 39 = .ok (.iadd, 1) := by decide +kernel
theorem dX8_word_40 : decode cX8_word 40 = .ok (.iaload, 1) := by decide +kernel
theorem dX8_word_41 : decode cX8_word 41 = .ok (.goto 16, 3) := by decide +kernel
theorem dX8_word_44 : decode cX8_word 44 = .ok (.aload_n 0, 1) := by decide +kernel
theorem dX8_word_45 : decode cX8_word 45 = .ok (.iload_n 1, 1) := by decide +kernel
theorem dX8_word_46 : decode cX8_word 46 = .ok (.invokevirtual 159, 3) := by decide +kernel
theorem dX8_word_49 : decode cX8_word 49 = .ok (.ifCond .eq 7, 3) := by decide +kernel
theorem dX8_word_52 : decode cX8_word 52 = .ok (.iconst 1, 1) := by decide +kernel
theorem dX8_word_53 : decode cX8_word 53 = .ok (.goto 4, 3) := by decide +kernel
theorem dX8_word_56 : decode cX8_word 56 = .ok (.iconst 0, 1) := by decide +kernel
theorem dX8_word_57 : decode cX8_word 57 = .ok (.ireturn, 1) := by decide +kernel
theorem dX8_at_0 : decode cX8_at 0 = .ok (.bipush 50, 2) := by decide +kernel
theorem dX8_at_2 : decode cX8_at 2 = .ok (.sipush 180, 3) := by decide +kernel
theorem dX8_at_5 : decode cX8_at 5 = .ok (.iload_n 0, 1) := by decide +kernel
theorem dX8_at_6 : decode cX8_at 6 = .ok (.imul, 1) := by decide +kernel
theorem dX8_at_7 : decode cX8_at 7 = .ok (.iadd, 1) := by decide +kernel
theorem dX8_at_8 : decode cX8_at 8 = .ok (.bipush 60, 2) := by decide +kernel
theorem dX8_at_10 : decode cX8_at 10 = .ok (.iload_n 1, 1) := by decide +kernel
theorem dX8_at_11 : decode cX8_at 11 = .ok (.imul, 1) := by decide +kernel
theorem dX8_at_12 : decode cX8_at 12 = .ok (.iadd, 1) := by decide +kernel
theorem dX8_at_13 : decode cX8_at 13 = .ok (.iload_n 2, 1) := by decide +kernel
theorem dX8_at_14 : decode cX8_at 14 = .ok (.iadd, 1) := by decide +kernel
theorem dX8_at_15 : decode cX8_at 15 = .ok (.bipush 10, 2) := by decide +kernel
theorem dX8_at_17 : decode cX8_at 17 = .ok (.isub, 1) := by decide +kernel
theorem dX8_at_18 : decode cX8_at 18 = .ok (.ireturn, 1) := by decide +kernel
theorem dX8_of_0 : decode cX8_of 0 = .ok (.iload_n 3, 1) := by decide +kernel
theorem dX8_of_1 : decode cX8_of 1 = .ok (.ifCond .ne 8, 3) := by decide +kernel
theorem dX8_of_4 : decode cX8_of 4 = .ok (.bipush 13, 2) := by decide +kernel
theorem dX8_of_6 : decode cX8_of 6 = .ok (.goto 15, 3) := by decide +kernel
theorem dX8_of_9 : decode cX8_of 9 = .ok (.iload_n 3, 1) := by decide +kernel
theorem dX8_of_10 : decode cX8_of 10 = .ok (.iconst 1, 1) := by decide +kernel
theorem dX8_of_11 : decode cX8_of 11 = .ok (.if_icmp .ne 8, 3) := by decide +kernel
theorem dX8_of_14 : decode cX8_of 14 = .ok (.bipush 35, 2) := by decide +kernel
theorem dX8_of_16 : decode cX8_of 16 = .ok (.goto 5, 3) := by decide +kernel
theorem dX8_of_19 : decode cX8_of 19 = .ok (.bipush 10, 2) := by decide +kernel
theorem dX8_of_21 : decode cX8_of 21 = .ok (.istore 4, 2) := by decide +kernel
theorem dX8_of_23 : decode cX8_of 23 = .ok (.iload_n 3, 1) := by decide +kernel
theorem dX8_of_24 : decode cX8_of 24 = .ok (.ifCond .ne 8, 3) := by decide +kernel
theorem dX8_of_27 : decode cX8_of 27 = .ok (.bipush 19, 2) := by decide +kernel
theorem dX8_of_29 : decode cX8_of 29 = .ok (.goto 15, 3) := by decide +kernel
theorem dX8_of_32 : decode cX8_of 32 = .ok (.iload_n 3, 1) := by decide +kernel
theorem dX8_of_33 : decode cX8_of 33 = .ok (.iconst 1, 1) := by decide +kernel
theorem dX8_of_34 : decode cX8_of 34 = .ok (.if_icmp .ne 8, 3) := by decide +kernel
theorem dX8_of_37 : decode cX8_of 37 = .ok (.bipush 50, 2) := by decide +kernel
theorem dX8_of_39 : decode cX8_of 39 = .ok (.goto 5, 3) := by decide +kernel
theorem dX8_of_42 : decode cX8_of 42 = .ok (.bipush 69, 2) := by decide +kernel
theorem dX8_of_44 : decode cX8_of 44 = .ok (.istore 5, 2) := by decide +kernel
theorem dX8_of_46 : decode cX8_of 46 = .ok (.iconst 0, 1) := by decide +kernel
theorem dX8_of_47 : decode cX8_of 47 = .ok (.istore 6, 2) := by decide +kernel
theorem dX8_of_49 : decode cX8_of 49 = .ok (.iload 4, 2) := by decide +kernel
theorem dX8_of_51 : decode cX8_of 51 = .ok (.istore 7, 2) := by decide +kernel
theorem dX8_of_53 : decode cX8_of 53 = .ok (.iload 7, 2) := by decide +kernel
theorem dX8_of_55 : decode cX8_of 55 = .ok (.iload 5, 2) := by decide +kernel
theorem dX8_of_57 : decode cX8_of 57 = .ok (.if_icmp .gt 26, 3) := by decide +kernel
theorem dX8_of_60 : decode cX8_of 60 = .ok (.iload 6, 2) := by decide +kernel
theorem dX8_of_62 : decode cX8_of 62 = .ok (.aload_n 0, 1) := by decide +kernel
theorem dX8_of_63 : decode cX8_of 63 = .ok (.getfield 7, 3) := by decide +kernel
theorem dX8_of_66 : decode cX8_of 66 = .ok (.iload_n 1, 1) := by decide +kernel
theorem dX8_of_67 : decode cX8_of 67 = .ok (.iload_n 2, 1) := by decide +kernel
theorem dX8_of_68 : decode cX8_of 68 = .ok (.iload 7, 2) := by decide +kernel
theorem dX8_of_70 : decode cX8_of 70 = .ok (.invokestatic 162, 3) := by decide +kernel
theorem dX8_of_73 : decode cX8_of 73 = .ok (.iaload, 1) := by decide +kernel
theorem dX8_of_74 : decode cX8_of 74 = .ok (.iadd, 1) := by decide +kernel
theorem dX8_of_75 : decode cX8_of 75 = .ok (.istore 6, 2) := by decide +kernel
theorem dX8_of_77 : decode cX8_of 77 = .ok (.iinc 7 1, 3) := by decide +kernel
theorem dX8_of_80 : decode cX8_of 80 = .ok (.goto (-27), 3) := by decide +kernel
theorem dX8_of_83 : decode cX8_of 83 = .ok (.iload 6, 2) := by decide +kernel
theorem dX8_of_85 : decode cX8_of 85 = .ok (.iload 5, 2) := by decide +kernel
theorem dX8_of_87 : decode cX8_of 87 = .ok (.iload 4, 2) := by decide +kernel
theorem dX8_of_89 : decode cX8_of 89 = .ok (.isub, 1) := by decide +kernel
theorem dX8_of_90 : decode cX8_of 90 = .ok (.iconst 1, 1) := by decide +kernel
theorem dX8_of_91 : decode cX8_of 91 = .ok (.iadd, 1) := by decide +kernel
theorem dX8_of_92 : decode cX8_of 92 = .ok (.idiv, 1) := by decide +kernel
theorem dX8_of_93 : decode cX8_of 93 = .ok (.ireturn, 1) := by decide +kernel
theorem dX8_mean_0 : decode cX8_mean 0 = .ok (.iconst 0, 1) := by decide +kernel
theorem dX8_mean_1 : decode cX8_mean 1 = .ok (.istore_n 3, 1) := by decide +kernel
theorem dX8_mean_2 : decode cX8_mean 2 = .ok (.iconst 0, 1) := by decide +kernel
theorem dX8_mean_3 : decode cX8_mean 3 = .ok (.istore 4, 2) := by decide +kernel
theorem dX8_mean_5 : decode cX8_mean 5 = .ok (.iload 4, 2) := by decide +kernel
theorem dX8_mean_7 : decode cX8_mean 7 = .ok (.aload_n 0, 1) := by decide +kernel
theorem dX8_mean_8 : decode cX8_mean 8 = .ok (.getfield 138, 3) := by decide +kernel
theorem dX8_mean_11 : decode cX8_mean 11 = .ok (.if_icmp .ge 20, 3) := by decide +kernel
theorem dX8_mean_14 : decode cX8_mean 14 = .ok (.iload_n 3, 1) := by decide +kernel
theorem dX8_mean_15 : decode cX8_mean 15 = .ok (.aload_n 0, 1) := by decide +kernel
theorem dX8_mean_16 : decode cX8_mean 16 = .ok (.iload_n 1, 1) := by decide +kernel
theorem dX8_mean_17 : decode cX8_mean 17 = .ok (.iload 4, 2) := by decide +kernel
theorem dX8_mean_19 : decode cX8_mean 19 = .ok (.iload_n 2, 1) := by decide +kernel
theorem dX8_mean_20 : decode cX8_mean 20 = .ok (.invokevirtual 166, 3) := by decide +kernel
theorem dX8_mean_23 : decode cX8_mean 23 = .ok (.iadd, 1) := by decide +kernel
theorem dX8_mean_24 : decode cX8_mean 24 = .ok (.istore_n 3, 1) := by decide +kernel
theorem dX8_mean_25 : decode cX8_mean 25 = .ok (.iinc 4 1, 3) := by decide +kernel
theorem dX8_mean_28 : decode cX8_mean 28 = .ok (.goto (-23), 3) := by decide +kernel
theorem dX8_mean_31 : decode cX8_mean 31 = .ok (.aload_n 0, 1) := by decide +kernel
theorem dX8_mean_32 : decode cX8_mean 32 = .ok (.getfield 138, 3) := by decide +kernel
theorem dX8_mean_35 : decode cX8_mean 35 = .ok (.ifCond .ne 7, 3) := by decide +kernel
theorem dX8_mean_38 : decode cX8_mean 38 = .ok (.iconst 0, 1) := by decide +kernel
theorem dX8_mean_39 : decode cX8_mean 39 = .ok (.goto 9, 3) := by decide +kernel
theorem dX8_mean_42 : decode cX8_mean 42 = .ok (.iload_n 3, 1) := by decide +kernel
theorem dX8_mean_43 : decode cX8_mean 43 = .ok (.aload_n 0, 1) := by decide +kernel
theorem dX8_mean_44 : decode cX8_mean 44 = .ok (.getfield 138, 3) := by decide +kernel
theorem dX8_mean_47 : decode cX8_mean 47 = .ok (.idiv, 1) := by decide +kernel
theorem dX8_mean_48 : decode cX8_mean 48 = .ok (.ireturn, 1) := by decide +kernel
theorem dX8_records_0 : decode cX8_records 0 = .ok (.iconst 0, 1) := by decide +kernel
theorem dX8_records_1 : decode cX8_records 1 = .ok (.istore_n 1, 1) := by decide +kernel
theorem dX8_records_2 : decode cX8_records 2 = .ok (.iload_n 1, 1) := by decide +kernel
theorem dX8_records_3 : decode cX8_records 3 = .ok (.aload_n 0, 1) := by decide +kernel
theorem dX8_records_4 : decode cX8_records 4 = .ok (.getfield 141, 3) := by decide +kernel
theorem dX8_records_7 : decode cX8_records 7 = .ok (.if_icmp .ge 84, 3) := by decide +kernel
theorem dX8_records_10 : decode cX8_records 10 = .ok (.iconst 0, 1) := by decide +kernel
theorem dX8_records_11 : decode cX8_records 11 = .ok (.istore_n 2, 1) := by decide +kernel
theorem dX8_records_12 : decode cX8_records 12 = .ok (.iload_n 2, 1) := by decide +kernel
theorem dX8_records_13 : decode cX8_records 13 = .ok (.aload_n 0, 1) := by decide +kernel
theorem dX8_records_14 : decode cX8_records 14 = .ok (.getfield 138, 3) := by decide +kernel
theorem dX8_records_17 : decode cX8_records 17 = .ok (.if_icmp .ge 42, 3) := by decide +kernel
theorem dX8_records_20 : decode cX8_records 20 = .ok (.aload_n 0, 1) := by decide +kernel
theorem dX8_records_21 : decode cX8_records 21 = .ok (.getfield 7, 3) := by decide +kernel
theorem dX8_records_24 : decode cX8_records 24 = .ok (.sipush 950, 3) := by decide +kernel
theorem dX8_records_27 : decode cX8_records 27 = .ok (.sipush 300, 3) := by decide +kernel
theorem dX8_records_30 : decode cX8_records 30 = .ok (.iload_n 1, 1) := by decide +kernel
theorem dX8_records_31 : decode cX8_records 31 = .ok (.imul, 1) := by decide +kernel
theorem dX8_records_32 : decode cX8_records 32 = .ok (.iadd, 1) := by decide +kernel
theorem dX8_records_33 : decode cX8_records 33 = .ok (.bipush 100, 2) := by decide +kernel
theorem dX8_records_35 : decode cX8_records 35 = .ok (.iload_n 2, 1) := by decide +kernel
theorem dX8_records_36 : decode cX8_records 36 = .ok (.imul, 1) := by decide +kernel
theorem dX8_records_37 : decode cX8_records 37 = .ok (.iadd, 1) := by decide +kernel
theorem dX8_records_38 : decode cX8_records 38 = .ok (.aload_n 0, 1) := by decide +kernel
theorem dX8_records_39 : decode cX8_records 39 = .ok (.getfield 7, 3) := by decide +kernel
theorem dX8_records_42 : decode cX8_records 42 = .ok (.iconst 0, 1) := by decide +kernel
theorem dX8_records_43 : decode cX8_records 43 = .ok (.iaload, 1) := by decide +kernel
theorem dX8_records_44 : decode cX8_records 44 = .ok (.iadd, 1) := by decide +kernel
theorem dX8_records_45 : decode cX8_records 45 = .ok (.aload_n 0, 1) := by decide +kernel
theorem dX8_records_46 : decode cX8_records 46 = .ok (.iload_n 1, 1) := by decide +kernel
theorem dX8_records_47 : decode cX8_records 47 = .ok (.iload_n 2, 1) := by decide +kernel
theorem dX8_records_48 : decode cX8_records 48 = .ok (.iconst 0, 1) := by decide +kernel
theorem dX8_records_49 : decode cX8_records 49 = .ok (.invokevirtual 166, 3) := by decide +kernel
theorem dX8_records_52 : decode cX8_records 52 = .ok (.iastore, 1) := by decide +kernel
theorem dX8_records_53 : decode cX8_records 53 = .ok (.iinc 2 1, 3) := by decide +kernel
theorem dX8_records_56 : decode cX8_records 56 = .ok (.goto (-44), 3) := by decide +kernel
theorem dX8_records_59 : decode cX8_records 59 = .ok (.aload_n 0, 1) := by decide +kernel
theorem dX8_records_60 : decode cX8_records 60 = .ok (.getfield 7, 3) := by decide +kernel
theorem dX8_records_63 : decode cX8_records 63 = .ok (.sipush 2450, 3) := by decide +kernel
theorem dX8_records_66 : decode cX8_records 66 = .ok (.bipush 100, 2) := by decide +kernel
theorem dX8_records_68 : decode cX8_records 68 = .ok (.iload_n 1, 1) := by decide +kernel
theorem dX8_records_69 : decode cX8_records 69 = .ok (.imul, 1) := by decide +kernel
theorem dX8_records_70 : decode cX8_records 70 = .ok (.iadd, 1) := by decide +kernel
theorem dX8_records_71 : decode cX8_records 71 = .ok (.aload_n 0, 1) := by decide +kernel
theorem dX8_records_72 : decode cX8_records 72 = .ok (.getfield 7, 3) := by decide +kernel
theorem dX8_records_75 : decode cX8_records 75 = .ok (.iconst 0, 1) := by decide +kernel
theorem dX8_records_76 : decode cX8_records 76 = .ok (.iaload, 1) := by decide +kernel
theorem dX8_records_77 : decode cX8_records 77 = .ok (.iadd, 1) := by decide +kernel
theorem dX8_records_78 : decode cX8_records 78 = .ok (.aload_n 0, 1) := by decide +kernel
theorem dX8_records_79 : decode cX8_records 79 = .ok (.iload_n 1, 1) := by decide +kernel
theorem dX8_records_80 : decode cX8_records 80 = .ok (.iconst 1, 1) := by decide +kernel
theorem dX8_records_81 : decode cX8_records 81 = .ok (.invokevirtual 169, 3) := by decide +kernel
theorem dX8_records_84 : decode cX8_records 84 = .ok (.iastore, 1) := by decide +kernel
theorem dX8_records_85 : decode cX8_records 85 = .ok (.iinc 1 1, 3) := by decide +kernel
theorem dX8_records_88 : decode cX8_records 88 = .ok (.goto (-86), 3) := by decide +kernel
theorem dX8_records_91 : decode cX8_records 91 = .ok (.return_, 1) := by decide +kernel
theorem dX8_sings_0 : decode cX8_sings 0 = .ok (.bipush 13, 2) := by decide +kernel
theorem dX8_sings_2 : decode cX8_sings 2 = .ok (.istore 4, 2) := by decide +kernel
theorem dX8_sings_4 : decode cX8_sings 4 = .ok (.iload 4, 2) := by decide +kernel
theorem dX8_sings_6 : decode cX8_sings 6 = .ok (.bipush 20, 2) := by decide +kernel
theorem dX8_sings_8 : decode cX8_sings 8 = .ok (.if_icmp .ge 61, 3) := by decide +kernel
theorem dX8_sings_11 : decode cX8_sings 11 = .ok (.aload_n 0, 1) := by decide +kernel
theorem dX8_sings_12 : decode cX8_sings 12 = .ok (.iload_n 1, 1) := by decide +kernel
theorem dX8_sings_13 : decode cX8_sings 13 = .ok (.invokevirtual 159, 3) := by decide +kernel
theorem dX8_sings_16 : decode cX8_sings 16 = .ok (.ifCond .eq 53, 3) := by decide +kernel
theorem dX8_sings_19 : decode cX8_sings 19 = .ok (.iload_n 1, 1) := by decide +kernel
theorem dX8_sings_20 : decode cX8_sings 20 = .ok (.iload_n 2, 1) := by decide +kernel
theorem dX8_sings_21 : decode cX8_sings 21 = .ok (.iload 4, 2) := by decide +kernel
theorem dX8_sings_23 : decode cX8_sings 23 = .ok (.invokestatic 162, 3) := by decide +kernel
theorem dX8_sings_26 : decode cX8_sings 26 = .ok (.istore 5, 2) := by decide +kernel
theorem dX8_sings_28 : decode cX8_sings 28 = .ok (.aload_n 0, 1) := by decide +kernel
theorem dX8_sings_29 : decode cX8_sings 29 = .ok (.getfield 7, 3) := by decide +kernel
theorem dX8_sings_32 : decode cX8_sings 32 = .ok (.iload 5, 2) := by decide +kernel
theorem dX8_sings_34 : decode cX8_sings 34 = .ok (.aload_n 0, 1) := by decide +kernel
theorem dX8_sings_35 : decode cX8_sings 35 = .ok (.getfield 7, 3) := by decide +kernel
theorem dX8_sings_38 : decode cX8_sings 38 = .ok (.iload 5, 2) := by decide +kernel
theorem dX8_sings_40 : decode cX8_sings 40 = .ok (.iaload, 1) := by decide +kernel
theorem dX8_sings_41 : decode cX8_sings 41 = .ok (.bipush 10, 2) := by decide +kernel
theorem dX8_sings_43 : decode cX8_sings 43 = .ok (.iload_n 3, 1) := by decide +kernel
theorem dX8_sings_44 : decode cX8_sings 44 = .ok (.imul, 1) := by decide +kernel
theorem dX8_sings_45 : decode cX8_sings 45 = .ok (.if_icmp .ge 10, 3) := by decide +kernel
theorem dX8_sings_48 : decode cX8_sings 48 = .ok (.bipush 10, 2) := by decide +kernel
theorem dX8_sings_50 : decode cX8_sings 50 = .ok (.iload_n 3, 1) := by decide +kernel
theorem dX8_sings_51 : decode cX8_sings 51 = .ok (.imul, 1) := by decide +kernel
theorem dX8_sings_52 : decode cX8_sings 52 = .ok (.goto 10, 3) := by decide +kernel
theorem dX8_sings_55 : decode cX8_sings 55 = .ok (.aload_n 0, 1) := by decide +kernel
theorem dX8_sings_56 : decode cX8_sings 56 = .ok (.getfield 7, 3) := by decide +kernel
theorem dX8_sings_59 : decode cX8_sings 59 = .ok (.iload 5, 2) := by decide +kernel
theorem dX8_sings_61 : decode cX8_sings 61 = .ok (.iaload, 1) := by decide +kernel
theorem dX8_sings_62 : decode cX8_sings 62 = .ok (.iastore, 1) := by decide +kernel
theorem dX8_sings_63 : decode cX8_sings 63 = .ok (.iinc 4 1, 3) := by decide +kernel
theorem dX8_sings_66 : decode cX8_sings 66 = .ok (.goto (-62), 3) := by decide +kernel
theorem dX8_sings_69 : decode cX8_sings 69 = .ok (.return_, 1) := by decide +kernel
theorem dX8_comes_0 : decode cX8_comes 0 = .ok (.iconst 0, 1) := by decide +kernel
theorem dX8_comes_1 : decode cX8_comes 1 = .ok (.istore_n 1, 1) := by decide +kernel
theorem dX8_comes_2 : decode cX8_comes 2 = .ok (.iload_n 1, 1) := by decide +kernel
theorem dX8_comes_3 : decode cX8_comes 3 = .ok (.aload_n 0, 1) := by decide +kernel
theorem dX8_comes_4 : decode cX8_comes 4 = .ok (.getfield 141, 3) := by decide +kernel
theorem dX8_comes_7 : decode cX8_comes 7 = .ok (.if_icmp .ge 101, 3) := by decide +kernel
theorem dX8_comes_10 : decode cX8_comes 10 = .ok (.bipush 15, 2) := by decide +kernel
theorem dX8_comes_12 : decode cX8_comes 12 = .ok (.istore_n 2, 1) := by decide +kernel
theorem dX8_comes_13 : decode cX8_comes 13 = .ok (.iload_n 2, 1) := by decide +kernel
theorem dX8_comes_14 : decode cX8_comes 14 = .ok (.bipush 18, 2) := by decide +kernel
theorem dX8_comes_16 : decode cX8_comes 16 = .ok (.if_icmp .ge 86, 3) := by decide +kernel
theorem dX8_comes_19 : decode cX8_comes 19 = .ok (.aload_n 0, 1) := by decide +kernel
theorem dX8_comes_20 : decode cX8_comes 20 = .ok (.getfield 32, 3) := by decide +kernel
theorem dX8_comes_23 : decode cX8_comes 23 = .ok (.iconst 4, 1) := by decide +kernel
theorem dX8_comes_24 : decode cX8_comes 24 = .ok (.iload_n 1, 1) := by decide +kernel
theorem dX8_comes_25 : decode cX8_comes 25 = .ok (.imul, 1) := by decide +kernel
theorem dX8_comes_26 : decode cX8_comes 26 = .ok (.iconst 1, 1) := by decide +kernel
theorem dX8_comes_27 : decode cX8_comes 27 = .ok (.iadd, 1) := by decide +kernel
theorem dX8_comes_28 : decode cX8_comes 28 = .ok (.iaload, 1) := by decide +kernel
theorem dX8_comes_29 : decode cX8_comes 29 = .ok (.aload_n 0, 1) := by decide +kernel
theorem dX8_comes_30 : decode cX8_comes 30 = .ok (.getfield 7, 3) := by decide +kernel
theorem dX8_comes_33 : decode cX8_comes 33 = .ok (.iconst 0, 1) := by decide +kernel
theorem dX8_comes_34 : decode cX8_comes 34 = .ok (.iaload, 1) := by decide +kernel
theorem dX8_comes_35 : decode cX8_comes 35 = .ok (.if_icmp .ne 67, 3) := by decide +kernel
theorem dX8_comes_38 : decode cX8_comes 38 = .ok (.iload_n 1, 1) := by decide +kernel
theorem dX8_comes_39 : decode cX8_comes 39 = .ok (.aload_n 0, 1) := by decide +kernel
theorem dX8_comes_40 : decode cX8_comes 40 = .ok (.getfield 32, 3) := by decide +kernel
theorem dX8_comes_43 : decode cX8_comes 43 = .ok (.iconst 4, 1) := by decide +kernel
theorem dX8_comes_44 : decode cX8_comes 44 = .ok (.iload_n 1, 1) := by decide +kernel
theorem dX8_comes_45 : decode cX8_comes 45 = .ok (.imul, 1) := by decide +kernel
theorem dX8_comes_46 : decode cX8_comes 46 = .ok (.iconst 2, 1) := by decide +kernel
theorem dX8_comes_47 : decode cX8_comes 47 = .ok (.iadd, 1) := by decide +kernel
theorem dX8_comes_48 : decode cX8_comes 48 = .ok (.iaload, 1) := by decide +kernel
theorem dX8_comes_49 : decode cX8_comes 49 = .ok (.iload_n 2, 1) := by decide +kernel
theorem dX8_comes_50 : decode cX8_comes 50 = .ok (.invokestatic 162, 3) := by decide +kernel
theorem dX8_comes_53 : decode cX8_comes 53 = .ok (.istore_n 3, 1) := by decide +kernel
theorem dX8_comes_54 : decode cX8_comes 54 = .ok (.aload_n 0, 1) := by decide +kernel
theorem dX8_comes_55 : decode cX8_comes 55 = .ok (.getfield 7, 3) := by decide +kernel
theorem dX8_comes_58 : decode cX8_comes 58 = .ok (.iload_n 3, 1) := by decide +kernel
theorem dX8_comes_59 : decode cX8_comes 59 = .ok (.aload_n 0, 1) := by decide +kernel
theorem dX8_comes_60 : decode cX8_comes 60 = .ok (.getfield 7, 3) := by decide +kernel
theorem dX8_comes_63 : decode cX8_comes 63 = .ok (.iload_n 3, 1) := by decide +kernel
theorem dX8_comes_64 : decode cX8_comes 64 = .ok (.iaload, 1) := by decide +kernel
theorem dX8_comes_65 : decode cX8_comes 65 = .ok (.bipush 10, 2) := by decide +kernel
theorem dX8_comes_67 : decode cX8_comes 67 = .ok (.aload_n 0, 1) := by decide +kernel
theorem dX8_comes_68 : decode cX8_comes 68 = .ok (.getfield 26, 3) := by decide +kernel
theorem dX8_comes_71 : decode cX8_comes 71 = .ok (.iconst 3, 1) := by decide +kernel
theorem dX8_comes_72 : decode cX8_comes 72 = .ok (.iaload, 1) := by decide +kernel
theorem dX8_comes_73 : decode cX8_comes 73 = .ok (.imul, 1) := by decide +kernel
theorem dX8_comes_74 : decode cX8_comes 74 = .ok (.if_icmp .ge 15, 3) := by decide +kernel
theorem dX8_comes_77 : decode cX8_comes 77 = .ok (.bipush 10, 2) := by decide +kernel
theorem dX8_comes_79 : decode cX8_comes 79 = .ok (.aload_n 0, 1) := by decide +kernel
theorem dX8_comes_80 : decode cX8_comes 80 = .ok (.getfield 26, 3) := by decide +kernel
theorem dX8_comes_83 : decode cX8_comes 83 = .ok (.iconst 3, 1) := by decide +kernel
theorem dX8_comes_84 : decode cX8_comes 84 = .ok (.iaload, 1) := by decide +kernel
theorem dX8_comes_85 : decode cX8_comes 85 = .ok (.imul, 1) := by decide +kernel
theorem dX8_comes_86 : decode cX8_comes 86 = .ok (.goto 9, 3) := by decide +kernel
theorem dX8_comes_89 : decode cX8_comes 89 = .ok (.aload_n 0, 1) := by decide +kernel
theorem dX8_comes_90 : decode cX8_comes 90 = .ok (.getfield 7, 3) := by decide +kernel
theorem dX8_comes_93 : decode cX8_comes 93 = .ok (.iload_n 3, 1) := by decide +kernel
theorem dX8_comes_94 : decode cX8_comes 94 = .ok (.iaload, 1) := by decide +kernel
theorem dX8_comes_95 : decode cX8_comes 95 = .ok (.iastore, 1) := by decide +kernel
theorem dX8_comes_96 : decode cX8_comes 96 = .ok (.iinc 2 1, 3) := by decide +kernel
theorem dX8_comes_99 : decode cX8_comes 99 = .ok (.goto (-86), 3) := by decide +kernel
theorem dX8_comes_102 : decode cX8_comes 102 = .ok (.iinc 1 1, 3) := by decide +kernel
theorem dX8_comes_105 : decode cX8_comes 105 = .ok (.goto (-103), 3) := by decide +kernel
theorem dX8_comes_108 : decode cX8_comes 108 = .ok (.iconst 0, 1) := by decide +kernel
theorem dX8_comes_109 : decode cX8_comes 109 = .ok (.istore_n 1, 1) := by decide +kernel
theorem dX8_comes_110 : decode cX8_comes 110 = .ok (.iload_n 1, 1) := by decide +kernel
theorem dX8_comes_111 : decode cX8_comes 111 = .ok (.aload_n 0, 1) := by decide +kernel
theorem dX8_comes_112 : decode cX8_comes 112 = .ok (.getfield 7, 3) := by decide +kernel
theorem dX8_comes_115 : decode cX8_comes 115 = .ok (.iconst 2, 1) := by decide +kernel
theorem dX8_comes_116 : decode cX8_comes 116 = .ok (.iaload, 1) := by decide +kernel
theorem dX8_comes_117 : decode cX8_comes 117 = .ok (.if_icmp .ge 58, 3) := by decide +kernel
theorem dX8_comes_120 : decode cX8_comes 120 = .ok (.iconst 3, 1) := by decide +kernel
theorem dX8_comes_121 : decode cX8_comes 121 = .ok (.iconst 4, 1) := by decide +kernel
theorem dX8_comes_122 : decode cX8_comes 122 = .ok (.iload_n 1, 1) := by decide +kernel
theorem dX8_comes_123 : decode cX8_comes 123 = .ok (.imul, 1) := by decide +kernel
theorem dX8_comes_124 : decode cX8_comes 124 = .ok (.iadd, 1) := by decide +kernel
theorem dX8_comes_125 : decode cX8_comes 125 = .ok (.istore_n 2, 1) := by decide +kernel
theorem dX8_comes_126 : decode cX8_comes 126 = .ok (.aload_n 0, 1) := by decide +kernel
theorem dX8_comes_127 : decode cX8_comes 127 = .ok (.getfield 7, 3) := by decide +kernel
theorem dX8_comes_130 : decode cX8_comes 130 = .ok (.iload_n 2, 1) := by decide +kernel
theorem dX8_comes_131 : decode cX8_comes 131 = .ok (.iaload, 1) := by decide +kernel
theorem dX8_comes_132 : decode cX8_comes 132 = .ok (.aload_n 0, 1) := by decide +kernel
theorem dX8_comes_133 : decode cX8_comes 133 = .ok (.getfield 7, 3) := by decide +kernel
theorem dX8_comes_136 : decode cX8_comes 136 = .ok (.iconst 0, 1) := by decide +kernel
theorem dX8_comes_137 : decode cX8_comes 137 = .ok (.iaload, 1) := by decide +kernel
theorem dX8_comes_138 : decode cX8_comes 138 = .ok (.if_icmp .ne 31, 3) := by decide +kernel
theorem dX8_comes_141 : decode cX8_comes 141 = .ok (.aload_n 0, 1) := by decide +kernel
theorem dX8_comes_142 : decode cX8_comes 142 = .ok (.aload_n 0, 1) := by decide +kernel
theorem dX8_comes_143 : decode cX8_comes 143 = .ok (.getfield 7, 3) := by decide +kernel
theorem dX8_comes_146 : decode cX8_comes 146 = .ok (.iload_n 2, 1) := by decide +kernel
theorem dX8_comes_147 : decode cX8_comes 147 = .ok (.iconst 1, 1) := by decide +kernel
theorem dX8_comes_148 : decode cX8_comes 148 = .ok (.iadd, 1) := by decide +kernel
theorem dX8_comes_149 : decode cX8_comes 149 = .ok (.iaload, 1) := by decide +kernel
theorem dX8_comes_150 : decode cX8_comes 150 = .ok (.aload_n 0, 1) := by decide +kernel
theorem dX8_comes_151 : decode cX8_comes 151 = .ok (.getfield 7, 3) := by decide +kernel
theorem dX8_comes_154 : decode cX8_comes 154 = .ok (.iload_n 2, 1) := by decide +kernel
theorem dX8_comes_155 : decode cX8_comes 155 = .ok (.iconst 2, 1) := by decide +kernel
theorem dX8_comes_156 : decode cX8_comes 156 = .ok (.iadd, 1) := by decide +kernel
theorem dX8_comes_157 : decode cX8_comes 157 = .ok (.iaload, 1) := by decide +kernel
theorem dX8_comes_158 : decode cX8_comes 158 = .ok (.aload_n 0, 1) := by decide +kernel
theorem dX8_comes_159 : decode cX8_comes 159 = .ok (.getfield 7, 3) := by decide +kernel
theorem dX8_comes_162 : decode cX8_comes 162 = .ok (.iload_n 2, 1) := by decide +kernel
theorem dX8_comes_163 : decode cX8_comes 163 = .ok (.iconst 3, 1) := by decide +kernel
theorem dX8_comes_164 : decode cX8_comes 164 = .ok (.iadd, 1) := by decide +kernel
theorem dX8_comes_165 : decode cX8_comes 165 = .ok (.iaload, 1) := by decide +kernel
theorem dX8_comes_166 : decode cX8_comes 166 = .ok (.invokevirtual 172, 3) := by decide +kernel
theorem dX8_comes_169 : decode cX8_comes 169 = .ok (.iinc 1 1, 3) := by decide +kernel
theorem dX8_comes_172 : decode cX8_comes 172 = .ok (.goto (-62), 3) := by decide +kernel
theorem dX8_comes_175 : decode cX8_comes 175 = .ok (.aload_n 0, 1) := by decide +kernel
theorem dX8_comes_176 : decode cX8_comes 176 = .ok (.invokevirtual 176, 3) := by decide +kernel
theorem dX8_comes_179 : decode cX8_comes 179 = .ok (.return_, 1) := by decide +kernel
theorem dX8_begins_0 : decode cX8_begins 0 = .ok (.aload_n 0, 1) := by decide +kernel
theorem dX8_begins_1 : decode cX8_begins 1 = .ok (.getfield 7, 3) := by decide +kernel
theorem dX8_begins_4 : decode cX8_begins 4 = .ok (.iconst 0, 1) := by decide +kernel
theorem dX8_begins_5 : decode cX8_begins 5 = .ok (.iconst 0, 1) := by decide +kernel
theorem dX8_begins_6 : decode cX8_begins 6 = .ok (.iastore, 1) := by decide +kernel
theorem dX8_begins_7 : decode cX8_begins 7 = .ok (.bipush 50, 2) := by decide +kernel
theorem dX8_begins_9 : decode cX8_begins 9 = .ok (.istore_n 1, 1) := by decide +kernel
theorem dX8_begins_10 : decode cX8_begins 10 = .ok (.iload_n 1, 1) := by decide +kernel
theorem dX8_begins_11 : decode cX8_begins 11 = .ok (.sipush 2950, 3) := by decide +kernel
theorem dX8_begins_14 : decode cX8_begins 14 = .ok (.if_icmp .ge 16, 3) := by decide +kernel
theorem dX8_begins_17 : decode cX8_begins 17 = .ok (.aload_n 0, 1) := by decide +kernel
theorem dX8_begins_18 : decode cX8_begins 18 = .ok (.getfield 7, 3) := by decide +kernel
theorem dX8_begins_21 : decode cX8_begins 21 = .ok (.iload_n 1, 1) := by decide +kernel
theorem dX8_begins_22 : decode cX8_begins 22 = .ok (.iconst 0, 1) := by decide +kernel
theorem dX8_begins_23 : decode cX8_begins 23 = .ok (.iastore, 1) := by decide +kernel
theorem dX8_begins_24 : decode cX8_begins 24 = .ok (.iinc 1 1, 3) := by decide +kernel
theorem dX8_begins_27 : decode cX8_begins 27 = .ok (.goto (-17), 3) := by decide +kernel
theorem dX8_begins_30 : decode cX8_begins 30 = .ok (.aload_n 0, 1) := by decide +kernel
theorem dX8_begins_31 : decode cX8_begins 31 = .ok (.invokevirtual 179, 3) := by decide +kernel
theorem dX8_begins_34 : decode cX8_begins 34 = .ok (.return_, 1) := by decide +kernel
end
section
theorem dX8_goesWord_0 : decode cX8_goesWord 0 = .ok (.iconst 0, 1) := by decide +kernel
theorem dX8_goesWord_1 : decode cX8_goesWord 1 = .ok (.istore_n 2, 1) := by decide +kernel
theorem dX8_goesWord_2 : decode cX8_goesWord 2 = .ok (.iload_n 2, 1) := by decide +kernel
theorem dX8_goesWord_3 : decode cX8_goesWord 3 = .ok (.aload_n 0, 1) := by decide +kernel
theorem dX8_goesWord_4 : decode cX8_goesWord 4 = .ok (.getfield 138, 3) := by decide +kernel
theorem dX8_goesWord_7 : decode cX8_goesWord 7 = .ok (.if_icmp .ge 53, 3) := by decide +kernel
theorem dX8_goesWord_10 : decode cX8_goesWord 10 = .ok (.aload_n 0, 1) := by decide +kernel
theorem dX8_goesWord_11 : decode cX8_goesWord 11 = .ok (.getfield 44, 3) := by decide +kernel
theorem dX8_goesWord_14 : decode cX8_goesWord 14 = .ok (.iload_n 2, 1) := by decide +kernel
theorem dX8_goesWord_15 : decode cX8_goesWord 15 = .ok (.aload_n 0, 1) := by decide +kernel
theorem dX8_goesWord_16 : decode cX8_goesWord 16 = .ok (.iload_n 1, 1) := by decide +kernel
theorem dX8_goesWord_17 : decode cX8_goesWord 17 = .ok (.iload_n 2, 1) := by decide +kernel
theorem dX8_goesWord_18 : decode cX8_goesWord 18 = .ok (.iconst 0, 1) := by decide +kernel
theorem dX8_goesWord_19 : decode cX8_goesWord 19 = .ok (.invokevirtual 166, 3) := by decide +kernel
theorem dX8_goesWord_22 : decode cX8_goesWord 22 = .ok (.iastore, 1) := by decide +kernel
theorem dX8_goesWord_23 : decode cX8_goesWord 23 = .ok (.aload_n 0, 1) := by decide +kernel
theorem dX8_goesWord_24 : decode cX8_goesWord 24 = .ok (.getfield 47, 3) := by decide +kernel
theorem dX8_goesWord_27 : decode cX8_goesWord 27 = .ok (.iload_n 2, 1) := by decide +kernel
theorem dX8_goesWord_28 : decode cX8_goesWord 28 = .ok (.aload_n 0, 1) := by decide +kernel
theorem dX8_goesWord_29 : decode cX8_goesWord 29 = .ok (.getfield 32, 3) := by decide +kernel
theorem dX8_goesWord_32 : decode cX8_goesWord 32 = .ok (.iconst 4, 1) := by decide +kernel
theorem dX8_goesWord_33 : decode cX8_goesWord 33 = .ok (.iload_n 1, 1) := by decide +kernel
theorem dX8_goesWord_34 : decode cX8_goesWord 34 = .ok (.imul, 1) := by decide +kernel
theorem dX8_goesWord_35 : decode cX8_goesWord 35 = .ok (.iconst 3, 1) := by decide +kernel
theorem dX8_goesWord_36 : decode cX8_goesWord 36 = .ok (.iadd, 1) := by decide +kernel
theorem dX8_goesWord_37 : decode cX8_goesWord 37 = .ok (.iaload, 1) := by decide +kernel
theorem dX8_goesWord_38 : decode cX8_goesWord 38 = .ok (.iconst 1, 1) := by decide +kernel
theorem dX8_goesWord_39 : decode cX8_goesWord 39 = .ok (.if_icmp .ne 7, 3) := by decide +kernel
theorem dX8_goesWord_42 : decode cX8_goesWord 42 = .ok (.iconst 0, 1) := by decide +kernel
theorem dX8_goesWord_43 : decode cX8_goesWord 43 = .ok (.goto 10, 3) := by decide +kernel
theorem dX8_goesWord_46 : decode cX8_goesWord 46 = .ok (.aload_n 0, 1) := by decide +kernel
theorem dX8_goesWord_47 : decode cX8_goesWord 47 = .ok (.iload_n 1, 1) := by decide +kernel
theorem dX8_goesWord_48 : decode cX8_goesWord 48 = .ok (.iload_n 2, 1) := by decide +kernel
theorem dX8_goesWord_49 : decode cX8_goesWord 49 = .ok (.iconst 1, 1) := by decide +kernel
theorem dX8_goesWord_50 : decode cX8_goesWord 50 = .ok (.invokevirtual 166, 3) := by decide +kernel
theorem dX8_goesWord_53 : decode cX8_goesWord 53 = .ok (.iastore, 1) := by decide +kernel
theorem dX8_goesWord_54 : decode cX8_goesWord 54 = .ok (.iinc 2 1, 3) := by decide +kernel
theorem dX8_goesWord_57 : decode cX8_goesWord 57 = .ok (.goto (-55), 3) := by decide +kernel
theorem dX8_goesWord_60 : decode cX8_goesWord 60 = .ok (.iconst 0, 1) := by decide +kernel
theorem dX8_goesWord_61 : decode cX8_goesWord 61 = .ok (.istore_n 2, 1) := by decide +kernel
theorem dX8_goesWord_62 : decode cX8_goesWord 62 = .ok (.iload_n 2, 1) := by decide +kernel
theorem dX8_goesWord_63 : decode cX8_goesWord 63 = .ok (.aload_n 0, 1) := by decide +kernel
theorem dX8_goesWord_64 : decode cX8_goesWord 64 = .ok (.getfield 138, 3) := by decide +kernel
theorem dX8_goesWord_67 : decode cX8_goesWord 67 = .ok (.if_icmp .ge 105, 3) := by decide +kernel
theorem dX8_goesWord_70 : decode cX8_goesWord 70 = .ok (.aload_n 0, 1) := by decide +kernel
theorem dX8_goesWord_71 : decode cX8_goesWord 71 = .ok (.getfield 41, 3) := by decide +kernel
theorem dX8_goesWord_74 : decode cX8_goesWord 74 = .ok (.iload_n 2, 1) := by decide +kernel
theorem dX8_goesWord_75 : decode cX8_goesWord 75 = .ok (.aload_n 0, 1) := by decide +kernel
theorem dX8_goesWord_76 : decode cX8_goesWord 76 = .ok (.getfield 44, 3) := by decide +kernel
theorem dX8_goesWord_79 : decode cX8_goesWord 79 = .ok (.iload_n 2, 1) := by decide +kernel
theorem dX8_goesWord_80 : decode cX8_goesWord 80 = .ok (.iaload, 1) := by decide +kernel
theorem dX8_goesWord_81 : decode cX8_goesWord 81 = .ok (.iastore, 1) := by decide +kernel
theorem dX8_goesWord_82 : decode cX8_goesWord 82 = .ok (.iconst 0, 1) := by decide +kernel
theorem dX8_goesWord_83 : decode cX8_goesWord 83 = .ok (.istore_n 3, 1) := by decide +kernel
theorem dX8_goesWord_84 : decode cX8_goesWord 84 = .ok (.iload_n 3, 1) := by decide +kernel
theorem dX8_goesWord_85 : decode cX8_goesWord 85 = .ok (.aload_n 0, 1) := by decide +kernel
theorem dX8_goesWord_86 : decode cX8_goesWord 86 = .ok (.getfield 138, 3) := by decide +kernel
theorem dX8_goesWord_89 : decode cX8_goesWord 89 = .ok (.if_icmp .ge 47, 3) := by decide +kernel
theorem dX8_goesWord_92 : decode cX8_goesWord 92 = .ok (.aload_n 0, 1) := by decide +kernel
theorem dX8_goesWord_93 : decode cX8_goesWord 93 = .ok (.getfield 41, 3) := by decide +kernel
theorem dX8_goesWord_96 : decode cX8_goesWord 96 = .ok (.iload_n 2, 1) := by decide +kernel
theorem dX8_goesWord_97 : decode cX8_goesWord 97 = .ok (.dup2, 1) := by decide +kernel
theorem dX8_goesWord_98 : decode cX8_goesWord 98 = .ok (.iaload, 1) := by decide +kernel
theorem dX8_goesWord_99 : decode cX8_goesWord 99 = .ok (.iload_n 3, 1) := by decide +kernel
theorem dX8_goesWord_100 : decode cX8_goesWord 100 = .ok (.iload_n 2, 1) := by decide +kernel
theorem dX8_goesWord_101 : decode cX8_goesWord 101 = .ok (.if_icmp .ne 7, 3) := by decide +kernel
theorem dX8_goesWord_104 : decode cX8_goesWord 104 = .ok (.iconst 0, 1) := by decide +kernel
theorem dX8_goesWord_105 : decode cX8_goesWord 105 = .ok (.goto 23, 3) := by decide +kernel
theorem dX8_goesWord_108 : decode cX8_goesWord 108 = .ok (.aload_n 0, 1) := by decide +kernel
theorem dX8_goesWord_109 : decode cX8_goesWord 109 = .ok (.getfield 29, 3) := by decide +kernel
theorem dX8_goesWord_112 : decode cX8_goesWord 112 = .ok (.iconst 3, 1) := by decide +kernel
theorem dX8_goesWord_113 : decode cX8_goesWord 113 = .ok (.iload_n 2, 1) := by decide +kernel
theorem dX8_goesWord_114 : decode cX8_goesWord 114 = .ok (.imul, 1) := by decide +kernel
theorem dX8_goesWord_115 : decode cX8_goesWord 115 = .ok (.iload_n 3, 1) := by decide +kernel
theorem dX8_goesWord_116 : decode cX8_goesWord 116 = .ok (.iadd, 1) := by decide +kernel
theorem dX8_goesWord_117 : decode cX8_goesWord 117 = .ok (.iaload, 1) := by decide +kernel
theorem dX8_goesWord_118 : decode cX8_goesWord 118 = .ok (.aload_n 0, 1) := by decide +kernel
theorem dX8_goesWord_119 : decode cX8_goesWord 119 = .ok (.getfield 44, 3) := by decide +kernel
theorem dX8_goesWord_122 : decode cX8_goesWord 122 = .ok (.iload_n 3, 1) := by decide +kernel
theorem dX8_goesWord_123 : decode cX8_goesWord 123 = .ok (.iaload, 1) := by decide +kernel
theorem dX8_goesWord_124 : decode cX8_goesWord 124 = .ok (.imul, 1) := by decide +kernel
theorem dX8_goesWord_125 : decode cX8_goesWord 125 = .ok (.bipush 10, 2) := by decide +kernel
theorem dX8_goesWord_127 : decode cX8_goesWord 127 = .ok (.idiv, 1) := by decide +kernel
theorem dX8_goesWord_128 : decode cX8_goesWord 128 = .ok (.iadd, 1) := by decide +kernel
theorem dX8_goesWord_129 : decode cX8_goesWord 129 = .ok (.iastore, 1) := by decide +kernel
theorem dX8_goesWord_130 : decode cX8_goesWord 130 = .ok (.iinc 3 1, 3) := by decide +kernel
theorem dX8_goesWord_133 : decode cX8_goesWord 133 = .ok (.goto (-49), 3) := by decide +kernel
theorem dX8_goesWord_136 : decode cX8_goesWord 136 = .ok (.aload_n 0, 1) := by decide +kernel
theorem dX8_goesWord_137 : decode cX8_goesWord 137 = .ok (.getfield 41, 3) := by decide +kernel
theorem dX8_goesWord_140 : decode cX8_goesWord 140 = .ok (.iload_n 2, 1) := by decide +kernel
theorem dX8_goesWord_141 : decode cX8_goesWord 141 = .ok (.aload_n 0, 1) := by decide +kernel
theorem dX8_goesWord_142 : decode cX8_goesWord 142 = .ok (.getfield 41, 3) := by decide +kernel
theorem dX8_goesWord_145 : decode cX8_goesWord 145 = .ok (.iload_n 2, 1) := by decide +kernel
theorem dX8_goesWord_146 : decode cX8_goesWord 146 = .ok (.iaload, 1) := by decide +kernel
theorem dX8_goesWord_147 : decode cX8_goesWord 147 = .ok (.sipush 1000, 3) := by decide +kernel
theorem dX8_goesWord_150 : decode cX8_goesWord 150 = .ok (.if_icmp .le 9, 3) := by decide +kernel
theorem dX8_goesWord_153 : decode cX8_goesWord 153 = .ok (.sipush 1000, 3) := by decide +kernel
theorem dX8_goesWord_156 : decode cX8_goesWord 156 = .ok (.goto 9, 3) := by decide +kernel
theorem dX8_goesWord_159 : decode cX8_goesWord 159 = .ok (.aload_n 0, 1) := by decide +kernel
theorem dX8_goesWord_160 : decode cX8_goesWord 160 = .ok (.getfield 41, 3) := by decide +kernel
theorem dX8_goesWord_163 : decode cX8_goesWord 163 = .ok (.iload_n 2, 1) := by decide +kernel
theorem dX8_goesWord_164 : decode cX8_goesWord 164 = .ok (.iaload, 1) := by decide +kernel
theorem dX8_goesWord_165 : decode cX8_goesWord 165 = .ok (.iastore, 1) := by decide +kernel
theorem dX8_goesWord_166 : decode cX8_goesWord 166 = .ok (.iinc 2 1, 3) := by decide +kernel
theorem dX8_goesWord_169 : decode cX8_goesWord 169 = .ok (.goto (-107), 3) := by decide +kernel
theorem dX8_goesWord_172 : decode cX8_goesWord 172 = .ok (.iconst 0, 1) := by decide +kernel
theorem dX8_goesWord_173 : decode cX8_goesWord 173 = .ok (.istore_n 2, 1) := by decide +kernel
theorem dX8_goesWord_174 : decode cX8_goesWord 174 = .ok (.iload_n 2, 1) := by decide +kernel
theorem dX8_goesWord_175 : decode cX8_goesWord 175 = .ok (.aload_n 0, 1) := by decide +kernel
theorem dX8_goesWord_176 : decode cX8_goesWord 176 = .ok (.getfield 138, 3) := by decide +kernel
theorem dX8_goesWord_179 : decode cX8_goesWord 179 = .ok (.if_icmp .ge 285, 3) := by decide +kernel
theorem dX8_goesWord_182 : decode cX8_goesWord 182 = .ok (.bipush 69, 2) := by decide +kernel
theorem dX8_goesWord_184 : decode cX8_goesWord 184 = .ok (.istore_n 3, 1) := by decide +kernel
theorem dX8_goesWord_185 : decode cX8_goesWord 185 = .ok (.iload_n 3, 1) := by decide +kernel
theorem dX8_goesWord_186 : decode cX8_goesWord 186 = .ok (.bipush 10, 2) := by decide +kernel
theorem dX8_goesWord_188 : decode cX8_goesWord 188 = .ok (.if_icmp .le 33, 3) := by decide +kernel
theorem dX8_goesWord_191 : decode cX8_goesWord 191 = .ok (.aload_n 0, 1) := by decide +kernel
theorem dX8_goesWord_192 : decode cX8_goesWord 192 = .ok (.getfield 7, 3) := by decide +kernel
theorem dX8_goesWord_195 : decode cX8_goesWord 195 = .ok (.iload_n 1, 1) := by decide +kernel
theorem dX8_goesWord_196 : decode cX8_goesWord 196 = .ok (.iload_n 2, 1) := by decide +kernel
theorem dX8_goesWord_197 : decode cX8_goesWord 197 = .ok (.iload_n 3, 1) := by decide +kernel
theorem dX8_goesWord_198 : decode cX8_goesWord 198 = .ok (.invokestatic 162, 3) := by decide +kernel
theorem dX8_goesWord_201 : decode cX8_goesWord 201 = .ok (.aload_n 0, 1) := by decide +kernel
theorem dX8_goesWord_202 : decode cX8_goesWord 202 = .ok (.getfield 7, 3) := by decide +kernel
theorem dX8_goesWord_205 : decode cX8_goesWord 205 = .ok (.iload_n 1, 1) := by decide +kernel
theorem dX8_goesWord_206 : decode cX8_goesWord 206 = .ok (.iload_n 2, 1) := by decide +kernel
theorem dX8_goesWord_207 : decode cX8_goesWord 207 = .ok (.iload_n 3, 1) := by decide +kernel
theorem dX8_goesWord_208 : decode cX8_goesWord 208 = .ok (.iconst 1, 1) := by decide +kernel
theorem dX8_goesWord_209 : decode cX8_goesWord 209 = .ok (.isub, 1) := by decide +kernel
theorem dX8_goesWord_210 : decode cX8_goesWord 210 = .ok (.invokestatic 162, 3) := by decide +kernel
theorem dX8_goesWord_213 : decode cX8_goesWord 213 = .ok (.iaload, 1) := by decide +kernel
theorem dX8_goesWord_214 : decode cX8_goesWord 214 = .ok (.iastore, 1) := by decide +kernel
theorem dX8_goesWord_215 : decode cX8_goesWord 215 = .ok (.iinc 3 (-1), 3) := by decide +kernel
theorem dX8_goesWord_218 : decode cX8_goesWord 218 = .ok (.goto (-33), 3) := by decide +kernel
theorem dX8_goesWord_221 : decode cX8_goesWord 221 = .ok (.aload_n 0, 1) := by decide +kernel
theorem dX8_goesWord_222 : decode cX8_goesWord 222 = .ok (.getfield 7, 3) := by decide +kernel
theorem dX8_goesWord_225 : decode cX8_goesWord 225 = .ok (.iload_n 1, 1) := by decide +kernel
theorem dX8_goesWord_226 : decode cX8_goesWord 226 = .ok (.iload_n 2, 1) := by decide +kernel
theorem dX8_goesWord_227 : decode cX8_goesWord 227 = .ok (.bipush 10, 2) := by decide +kernel
theorem dX8_goesWord_229 : decode cX8_goesWord 229 = .ok (.invokestatic 162, 3) := by decide +kernel
theorem dX8_goesWord_232 : decode cX8_goesWord 232 = .ok (.iconst 0, 1) := by decide +kernel
theorem dX8_goesWord_233 : decode cX8_goesWord 233 = .ok (.iastore, 1) := by decide +kernel
theorem dX8_goesWord_234 : decode cX8_goesWord 234 = .ok (.aload_n 0, 1) := by decide +kernel
theorem dX8_goesWord_235 : decode cX8_goesWord 235 = .ok (.getfield 7, 3) := by decide +kernel
theorem dX8_goesWord_238 : decode cX8_goesWord 238 = .ok (.iconst 0, 1) := by decide +kernel
theorem dX8_goesWord_239 : decode cX8_goesWord 239 = .ok (.iaload, 1) := by decide +kernel
theorem dX8_goesWord_240 : decode cX8_goesWord 240 = .ok (.iconst 2, 1) := by decide +kernel
theorem dX8_goesWord_241 : decode cX8_goesWord 241 = .ok (.if_icmp .ge 7, 3) := by decide +kernel
theorem dX8_goesWord_244 : decode cX8_goesWord 244 = .ok (.iconst 0, 1) := by decide +kernel
theorem dX8_goesWord_245 : decode cX8_goesWord 245 = .ok (.goto 31, 3) := by decide +kernel
theorem dX8_goesWord_248 : decode cX8_goesWord 248 = .ok (.aload_n 0, 1) := by decide +kernel
theorem dX8_goesWord_249 : decode cX8_goesWord 249 = .ok (.getfield 7, 3) := by decide +kernel
theorem dX8_goesWord_252 : decode cX8_goesWord 252 = .ok (.sipush 950, 3) := by decide +kernel
theorem dX8_goesWord_255 : decode cX8_goesWord 255 = .ok (.sipush 300, 3) := by decide +kernel
theorem dX8_goesWord_258 : decode cX8_goesWord 258 = .ok (.iload_n 1, 1) := by decide +kernel
theorem dX8_goesWord_259 : decode cX8_goesWord 259 = .ok (.imul, 1) := by decide +kernel
theorem dX8_goesWord_260 : decode cX8_goesWord 260 = .ok (.iadd, 1) := by decide +kernel
theorem dX8_goesWord_261 : decode cX8_goesWord 261 = .ok (.bipush 100, 2) := by decide +kernel
theorem dX8_goesWord_263 : decode cX8_goesWord 263 = .ok (.iload_n 2, 1) := by decide +kernel
theorem dX8_goesWord_264 : decode cX8_goesWord 264 = .ok (.imul, 1) := by decide +kernel
theorem dX8_goesWord_265 : decode cX8_goesWord 265 = .ok (.iadd, 1) := by decide +kernel
theorem dX8_goesWord_266 : decode cX8_goesWord 266 = .ok (.aload_n 0, 1) := by decide +kernel
theorem dX8_goesWord_267 : decode cX8_goesWord 267 = .ok (.getfield 7, 3) := by decide +kernel
theorem dX8_goesWord_270 : decode cX8_goesWord 270 = .ok (.iconst 0, 1) := by decide +kernel
theorem dX8_goesWord_271 : decode cX8_goesWord 271 = .ok (.iaload, 1) := by decide +kernel
theorem dX8_goesWord_272 : decode cX8_goesWord 272 = .ok (.iadd, 1) := by decide +kernel
theorem dX8_goesWord_273 : decode cX8_goesWord 273 = .ok (.iconst 2, 1) := by decide +kernel
theorem dX8_goesWord_274 : decode cX8_goesWord 274 = .ok (.isub, 1) := by decide +kernel
theorem dX8_goesWord_275 : decode cX8_goesWord 275 = .ok (.iaload, 1) := by decide +kernel
theorem dX8_goesWord_276 : decode cX8_goesWord 276 = .ok (.istore_n 3, 1) := by decide +kernel
theorem dX8_goesWord_277 : decode cX8_goesWord 277 = .ok (.bipush 10, 2) := by decide +kernel
theorem dX8_goesWord_279 : decode cX8_goesWord 279 = .ok (.istore 4, 2) := by decide +kernel
theorem dX8_goesWord_281 : decode cX8_goesWord 281 = .ok (.iload 4, 2) := by decide +kernel
theorem dX8_goesWord_283 : decode cX8_goesWord 283 = .ok (.bipush 70, 2) := by decide +kernel
theorem dX8_goesWord_285 : decode cX8_goesWord 285 = .ok (.if_icmp .ge 173, 3) := by decide +kernel
theorem dX8_goesWord_288 : decode cX8_goesWord 288 = .ok (.iload_n 1, 1) := by decide +kernel
theorem dX8_goesWord_289 : decode cX8_goesWord 289 = .ok (.iload_n 2, 1) := by decide +kernel
theorem dX8_goesWord_290 : decode cX8_goesWord 290 = .ok (.iload 4, 2) := by decide +kernel
theorem dX8_goesWord_292 : decode cX8_goesWord 292 = .ok (.invokestatic 162, 3) := by decide +kernel
theorem dX8_goesWord_295 : decode cX8_goesWord 295 = .ok (.istore 5, 2) := by decide +kernel
theorem dX8_goesWord_297 : decode cX8_goesWord 297 = .ok (.iload 4, 2) := by decide +kernel
theorem dX8_goesWord_299 : decode cX8_goesWord 299 = .ok (.bipush 13, 2) := by decide +kernel
theorem dX8_goesWord_301 : decode cX8_goesWord 301 = .ok (.bipush 19, 2) := by decide +kernel
theorem dX8_goesWord_303 : decode cX8_goesWord 303 = .ok (.invokestatic 60, 3) := by decide +kernel
theorem dX8_goesWord_306 : decode cX8_goesWord 306 = .ok (.ifCond .eq 58, 3) := by decide +kernel
theorem dX8_goesWord_309 : decode cX8_goesWord 309 = .ok (.aload_n 0, 1) := by decide +kernel
theorem dX8_goesWord_310 : decode cX8_goesWord 310 = .ok (.getfield 7, 3) := by decide +kernel
theorem dX8_goesWord_313 : decode cX8_goesWord 313 = .ok (.iload 5, 2) := by decide +kernel
theorem dX8_goesWord_315 : decode cX8_goesWord 315 = .ok (.dup2, 1) := by decide +kernel
theorem dX8_goesWord_316 : decode cX8_goesWord 316 = .ok (.iaload, 1) := by decide +kernel
theorem dX8_goesWord_317 : decode cX8_goesWord 317 = .ok (.aload_n 0, 1) := by decide +kernel
theorem dX8_goesWord_318 : decode cX8_goesWord 318 = .ok (.getfield 26, 3) := by decide +kernel
theorem dX8_goesWord_321 : decode cX8_goesWord 321 = .ok (.iconst 0, 1) := by decide +kernel
theorem dX8_goesWord_322 : decode cX8_goesWord 322 = .ok (.iaload, 1) := by decide +kernel
theorem dX8_goesWord_323 : decode cX8_goesWord 323 = .ok (.i2l, 1) := by decide +kernel
theorem dX8_goesWord_324 : decode cX8_goesWord 324 = .ok (.aload_n 0, 1) := by decide +kernel
theorem dX8_goesWord_325 : decode cX8_goesWord 325 = .ok (.getfield 41, 3) := by decide +kernel
theorem dX8_goesWord_328 : decode cX8_goesWord 328 = .ok (.iload_n 2, 1) := by decide +kernel
theorem dX8_goesWord_329 : decode cX8_goesWord 329 = .ok (.iaload, 1) := by decide +kernel
theorem dX8_goesWord_330 : decode cX8_goesWord 330 = .ok (.i2l, 1) := by decide +kernel
theorem dX8_goesWord_331 : decode cX8_goesWord 331 = .ok (.lmul, 1) := by decide +kernel
theorem dX8_goesWord_332 : decode cX8_goesWord 332 = .ok (.sipush 1000, 3) := by decide +kernel
theorem dX8_goesWord_335 : decode cX8_goesWord 335 = .ok (.aload_n 0, 1) := by decide +kernel
theorem dX8_goesWord_336 : decode cX8_goesWord 336 = .ok (.getfield 7, 3) := by decide +kernel
theorem dX8_goesWord_339 : decode cX8_goesWord 339 = .ok (.iload 5, 2) := by decide +kernel
theorem dX8_goesWord_341 : decode cX8_goesWord 341 = .ok (.iaload, 1) := by decide +kernel
theorem dX8_goesWord_342 : decode cX8_goesWord 342 = .ok (.isub, 1) := by decide +kernel
theorem dX8_goesWord_343 : decode cX8_goesWord 343 = .ok (.i2l, 1) := by decide +kernel
theorem dX8_goesWord_344 : decode cX8_goesWord 344 = .ok (.lmul, 1) := by decide +kernel
theorem dX8_goesWord_345 : decode cX8_goesWord 345 = .ok (.sipush 1000, 3) := by decide +kernel
theorem dX8_goesWord_348 : decode cX8_goesWord 348 = .ok (.aload_n 0, 1) := by decide +kernel
theorem dX8_goesWord_349 : decode cX8_goesWord 349 = .ok (.getfield 47, 3) := by decide +kernel
theorem dX8_goesWord_352 : decode cX8_goesWord 352 = .ok (.iload_n 2, 1) := by decide +kernel
theorem dX8_goesWord_353 : decode cX8_goesWord 353 = .ok (.iaload, 1) := by decide +kernel
theorem dX8_goesWord_354 : decode cX8_goesWord 354 = .ok (.isub, 1) := by decide +kernel
theorem dX8_goesWord_355 : decode cX8_goesWord 355 = .ok (.i2l, 1) := by decide +kernel
theorem dX8_goesWord_356 : decode cX8_goesWord 356 = .ok (.lmul, 1) := by decide +kernel
theorem dX8_goesWord_357 : decode cX8_goesWord 357 = .ok (.ldc2_w 182, 3) := by decide +kernel
theorem dX8_goesWord_360 : decode cX8_goesWord 360 = .ok (.ldiv, 1) := by decide +kernel
theorem dX8_goesWord_361 : decode cX8_goesWord 361 = .ok (.l2i, 1) := by decide +kernel
theorem dX8_goesWord_362 : decode cX8_goesWord 362 = .ok (.iadd, 1) := by decide +kernel
theorem dX8_goesWord_363 : decode cX8_goesWord 363 = .ok (.iastore, 1) := by decide +kernel
theorem dX8_goesWord_364 : decode cX8_goesWord 364 = .ok (.iload 4, 2) := by decide +kernel
theorem dX8_goesWord_366 : decode cX8_goesWord 366 = .ok (.bipush 20, 2) := by decide +kernel
theorem dX8_goesWord_368 : decode cX8_goesWord 368 = .ok (.if_icmp .ge 38, 3) := by decide +kernel
theorem dX8_goesWord_371 : decode cX8_goesWord 371 = .ok (.aload_n 0, 1) := by decide +kernel
theorem dX8_goesWord_372 : decode cX8_goesWord 372 = .ok (.getfield 7, 3) := by decide +kernel
theorem dX8_goesWord_375 : decode cX8_goesWord 375 = .ok (.iload 5, 2) := by decide +kernel
theorem dX8_goesWord_377 : decode cX8_goesWord 377 = .ok (.dup2, 1) := by decide +kernel
theorem dX8_goesWord_378 : decode cX8_goesWord 378 = .ok (.iaload, 1) := by decide +kernel
theorem dX8_goesWord_379 : decode cX8_goesWord 379 = .ok (.aload_n 0, 1) := by decide +kernel
theorem dX8_goesWord_380 : decode cX8_goesWord 380 = .ok (.getfield 26, 3) := by decide +kernel
theorem dX8_goesWord_383 : decode cX8_goesWord 383 = .ok (.iconst 2, 1) := by decide +kernel
theorem dX8_goesWord_384 : decode cX8_goesWord 384 = .ok (.iaload, 1) := by decide +kernel
theorem dX8_goesWord_385 : decode cX8_goesWord 385 = .ok (.aload_n 0, 1) := by decide +kernel
theorem dX8_goesWord_386 : decode cX8_goesWord 386 = .ok (.getfield 47, 3) := by decide +kernel
theorem dX8_goesWord_389 : decode cX8_goesWord 389 = .ok (.iload_n 2, 1) := by decide +kernel
theorem dX8_goesWord_390 : decode cX8_goesWord 390 = .ok (.iaload, 1) := by decide +kernel
theorem dX8_goesWord_391 : decode cX8_goesWord 391 = .ok (.imul, 1) := by decide +kernel
theorem dX8_goesWord_392 : decode cX8_goesWord 392 = .ok (.aload_n 0, 1) := by decide +kernel
theorem dX8_goesWord_393 : decode cX8_goesWord 393 = .ok (.getfield 7, 3) := by decide +kernel
theorem dX8_goesWord_396 : decode cX8_goesWord 396 = .ok (.iload 5, 2) := by decide +kernel
theorem dX8_goesWord_398 : decode cX8_goesWord 398 = .ok (.iaload, 1) := by decide +kernel
theorem dX8_goesWord_399 : decode cX8_goesWord 399 = .ok (.imul, 1) := by decide +kernel
theorem dX8_goesWord_400 : decode cX8_goesWord 400 = .ok (.sipush 10000, 3) := by decide +kernel
theorem dX8_goesWord_403 : decode cX8_goesWord 403 = .ok (.idiv, 1) := by decide +kernel
theorem dX8_goesWord_404 : decode cX8_goesWord 404 = .ok (.isub, 1) := by decide +kernel
theorem dX8_goesWord_405 : decode cX8_goesWord 405 = .ok (.iastore, 1) := by decide +kernel
theorem dX8_goesWord_406 : decode cX8_goesWord 406 = .ok (.iload 4, 2) := by decide +kernel
theorem dX8_goesWord_408 : decode cX8_goesWord 408 = .ok (.bipush 35, 2) := by decide +kernel
theorem dX8_goesWord_410 : decode cX8_goesWord 410 = .ok (.bipush 50, 2) := by decide +kernel
theorem dX8_goesWord_412 : decode cX8_goesWord 412 = .ok (.invokestatic 60, 3) := by decide +kernel
theorem dX8_goesWord_415 : decode cX8_goesWord 415 = .ok (.ifCond .eq 37, 3) := by decide +kernel
theorem dX8_goesWord_418 : decode cX8_goesWord 418 = .ok (.aload_n 0, 1) := by decide +kernel
theorem dX8_goesWord_419 : decode cX8_goesWord 419 = .ok (.getfield 7, 3) := by decide +kernel
theorem dX8_goesWord_422 : decode cX8_goesWord 422 = .ok (.iload 5, 2) := by decide +kernel
theorem dX8_goesWord_424 : decode cX8_goesWord 424 = .ok (.dup2, 1) := by decide +kernel
theorem dX8_goesWord_425 : decode cX8_goesWord 425 = .ok (.iaload, 1) := by decide +kernel
theorem dX8_goesWord_426 : decode cX8_goesWord 426 = .ok (.aload_n 0, 1) := by decide +kernel
theorem dX8_goesWord_427 : decode cX8_goesWord 427 = .ok (.getfield 26, 3) := by decide +kernel
theorem dX8_goesWord_430 : decode cX8_goesWord 430 = .ok (.iconst 1, 1) := by decide +kernel
theorem dX8_goesWord_431 : decode cX8_goesWord 431 = .ok (.iaload, 1) := by decide +kernel
theorem dX8_goesWord_432 : decode cX8_goesWord 432 = .ok (.iload_n 3, 1) := by decide +kernel
theorem dX8_goesWord_433 : decode cX8_goesWord 433 = .ok (.imul, 1) := by decide +kernel
theorem dX8_goesWord_434 : decode cX8_goesWord 434 = .ok (.sipush 1000, 3) := by decide +kernel
theorem dX8_goesWord_437 : decode cX8_goesWord 437 = .ok (.aload_n 0, 1) := by decide +kernel
theorem dX8_goesWord_438 : decode cX8_goesWord 438 = .ok (.getfield 7, 3) := by decide +kernel
theorem dX8_goesWord_441 : decode cX8_goesWord 441 = .ok (.iload 5, 2) := by decide +kernel
theorem dX8_goesWord_443 : decode cX8_goesWord 443 = .ok (.iaload, 1) := by decide +kernel
theorem dX8_goesWord_444 : decode cX8_goesWord 444 = .ok (.isub, 1) := by decide +kernel
theorem dX8_goesWord_445 : decode cX8_goesWord 445 = .ok (.imul, 1) := by decide +kernel
theorem dX8_goesWord_446 : decode cX8_goesWord 446 = .ok (.sipush 10000, 3) := by decide +kernel
theorem dX8_goesWord_449 : decode cX8_goesWord 449 = .ok (.idiv, 1) := by decide +kernel
theorem dX8_goesWord_450 : decode cX8_goesWord 450 = .ok (.iadd, 1) := by decide +kernel
theorem dX8_goesWord_451 : decode cX8_goesWord 451 = .ok (.iastore, 1) := by decide +kernel
theorem dX8_goesWord_452 : decode cX8_goesWord 452 = .ok (.iinc 4 1, 3) := by decide +kernel
theorem dX8_goesWord_455 : decode cX8_goesWord 455 = .ok (.goto (-174), 3) := by decide +kernel
theorem dX8_goesWord_458 : decode cX8_goesWord 458 = .ok (.iinc 2 1, 3) := by decide +kernel
theorem dX8_goesWord_461 : decode cX8_goesWord 461 = .ok (.goto (-287), 3) := by decide +kernel
theorem dX8_goesWord_464 : decode cX8_goesWord 464 = .ok (.return_, 1) := by decide +kernel
theorem dX8_goesBy_0 : decode cX8_goesBy 0 = .ok (.iconst 0, 1) := by decide +kernel
theorem dX8_goesBy_1 : decode cX8_goesBy 1 = .ok (.istore_n 1, 1) := by decide +kernel
theorem dX8_goesBy_2 : decode cX8_goesBy 2 = .ok (.iload_n 1, 1) := by decide +kernel
theorem dX8_goesBy_3 : decode cX8_goesBy 3 = .ok (.aload_n 0, 1) := by decide +kernel
theorem dX8_goesBy_4 : decode cX8_goesBy 4 = .ok (.getfield 141, 3) := by decide +kernel
theorem dX8_goesBy_7 : decode cX8_goesBy 7 = .ok (.if_icmp .ge 22, 3) := by decide +kernel
theorem dX8_goesBy_10 : decode cX8_goesBy 10 = .ok (.aload_n 0, 1) := by decide +kernel
theorem dX8_goesBy_11 : decode cX8_goesBy 11 = .ok (.iload_n 1, 1) := by decide +kernel
theorem dX8_goesBy_12 : decode cX8_goesBy 12 = .ok (.invokevirtual 159, 3) := by decide +kernel
theorem dX8_goesBy_15 : decode cX8_goesBy 15 = .ok (.ifCond .eq 8, 3) := by decide +kernel
theorem dX8_goesBy_18 : decode cX8_goesBy 18 = .ok (.aload_n 0, 1) := by decide +kernel
theorem dX8_goesBy_19 : decode cX8_goesBy 19 = .ok (.iload_n 1, 1) := by decide +kernel
theorem dX8_goesBy_20 : decode cX8_goesBy 20 = .ok (.invokevirtual 184, 3) := by decide +kernel
theorem dX8_goesBy_23 : decode cX8_goesBy 23 = .ok (.iinc 1 1, 3) := by decide +kernel
theorem dX8_goesBy_26 : decode cX8_goesBy 26 = .ok (.goto (-24), 3) := by decide +kernel
theorem dX8_goesBy_29 : decode cX8_goesBy 29 = .ok (.aload_n 0, 1) := by decide +kernel
theorem dX8_goesBy_30 : decode cX8_goesBy 30 = .ok (.getfield 7, 3) := by decide +kernel
theorem dX8_goesBy_33 : decode cX8_goesBy 33 = .ok (.iconst 0, 1) := by decide +kernel
theorem dX8_goesBy_34 : decode cX8_goesBy 34 = .ok (.dup2, 1) := by decide +kernel
theorem dX8_goesBy_35 : decode cX8_goesBy 35 = .ok (.iaload, 1) := by decide +kernel
theorem dX8_goesBy_36 : decode cX8_goesBy 36 = .ok (.iconst 1, 1) := by decide +kernel
theorem dX8_goesBy_37 : decode cX8_goesBy 37 = .ok (.iadd, 1) := by decide +kernel
theorem dX8_goesBy_38 : decode cX8_goesBy 38 = .ok (.iastore, 1) := by decide +kernel
theorem dX8_goesBy_39 : decode cX8_goesBy 39 = .ok (.aload_n 0, 1) := by decide +kernel
theorem dX8_goesBy_40 : decode cX8_goesBy 40 = .ok (.invokevirtual 179, 3) := by decide +kernel
theorem dX8_goesBy_43 : decode cX8_goesBy 43 = .ok (.return_, 1) := by decide +kernel
theorem dX8_go_0 : decode cX8_go 0 = .ok (.aload_n 0, 1) := by decide +kernel
theorem dX8_go_1 : decode cX8_go 1 = .ok (.iconst 0, 1) := by decide +kernel
theorem dX8_go_2 : decode cX8_go 2 = .ok (.putfield 56, 3) := by decide +kernel
theorem dX8_go_5 : decode cX8_go 5 = .ok (.iload_n 1, 1) := by decide +kernel
theorem dX8_go_6 : decode cX8_go 6 = .ok (.iconst 1, 1) := by decide +kernel
theorem dX8_go_7 : decode cX8_go 7 = .ok (.bipush 99, 2) := by decide +kernel
theorem dX8_go_9 : decode cX8_go 9 = .ok (.invokestatic 60, 3) := by decide +kernel
theorem dX8_go_12 : decode cX8_go 12 = .ok (.ifCond .ne 5, 3) := by decide +kernel
theorem dX8_go_15 : decode cX8_go 15 = .ok (.iconst (-1), 1) := by decide +kernel
theorem dX8_go_16 : decode cX8_go 16 = .ok (.ireturn, 1) := by decide +kernel
theorem dX8_go_17 : decode cX8_go 17 = .ok (.aload_n 0, 1) := by decide +kernel
theorem dX8_go_18 : decode cX8_go 18 = .ok (.getfield 7, 3) := by decide +kernel
theorem dX8_go_21 : decode cX8_go 21 = .ok (.iconst 0, 1) := by decide +kernel
theorem dX8_go_22 : decode cX8_go 22 = .ok (.iaload, 1) := by decide +kernel
theorem dX8_go_23 : decode cX8_go 23 = .ok (.bipush 99, 2) := by decide +kernel
theorem dX8_go_25 : decode cX8_go 25 = .ok (.if_icmp .ne 6, 3) := by decide +kernel
theorem dX8_go_28 : decode cX8_go 28 = .ok (.bipush (-2), 2) := by decide +kernel
theorem dX8_go_30 : decode cX8_go 30 = .ok (.ireturn, 1) := by decide +kernel
theorem dX8_go_31 : decode cX8_go 31 = .ok (.iconst 0, 1) := by decide +kernel
theorem dX8_go_32 : decode cX8_go 32 = .ok (.istore_n 2, 1) := by decide +kernel
theorem dX8_go_33 : decode cX8_go 33 = .ok (.iload_n 2, 1) := by decide +kernel
theorem dX8_go_34 : decode cX8_go 34 = .ok (.iload_n 1, 1) := by decide +kernel
theorem dX8_go_35 : decode cX8_go 35 = .ok (.if_icmp .ge 24, 3) := by decide +kernel
theorem dX8_go_38 : decode cX8_go 38 = .ok (.aload_n 0, 1) := by decide +kernel
theorem dX8_go_39 : decode cX8_go 39 = .ok (.getfield 7, 3) := by decide +kernel
theorem dX8_go_42 : decode cX8_go 42 = .ok (.iconst 0, 1) := by decide +kernel
theorem dX8_go_43 : decode cX8_go 43 = .ok (.iaload, 1) := by decide +kernel
theorem dX8_go_44 : decode cX8_go 44 = .ok (.bipush 99, 2) := by decide +kernel
theorem dX8_go_46 : decode cX8_go 46 = .ok (.if_icmp .ge 13, 3) := by decide +kernel
theorem dX8_go_49 : decode cX8_go 49 = .ok (.aload_n 0, 1) := by decide +kernel
theorem dX8_go_50 : decode cX8_go 50 = .ok (.invokevirtual 187, 3) := by decide +kernel
theorem dX8_go_53 : decode cX8_go 53 = .ok (.iinc 2 1, 3) := by decide +kernel
theorem dX8_go_56 : decode cX8_go 56 = .ok (.goto (-23), 3) := by decide +kernel
theorem dX8_go_59 : decode cX8_go 59 = .ok (.iload_n 2, 1) := by decide +kernel
theorem dX8_go_60 : decode cX8_go 60 = .ok (.ireturn, 1) := by decide +kernel
theorem dX8_anew_0 : decode cX8_anew 0 = .ok (.aload_n 0, 1) := by decide +kernel
theorem dX8_anew_1 : decode cX8_anew 1 = .ok (.iconst 0, 1) := by decide +kernel
theorem dX8_anew_2 : decode cX8_anew 2 = .ok (.putfield 56, 3) := by decide +kernel
theorem dX8_anew_5 : decode cX8_anew 5 = .ok (.aload_n 0, 1) := by decide +kernel
theorem dX8_anew_6 : decode cX8_anew 6 = .ok (.getfield 7, 3) := by decide +kernel
theorem dX8_anew_9 : decode cX8_anew 9 = .ok (.iconst 0, 1) := by decide +kernel
theorem dX8_anew_10 : decode cX8_anew 10 = .ok (.iaload, 1) := by decide +kernel
theorem dX8_anew_11 : decode cX8_anew 11 = .ok (.istore_n 1, 1) := by decide +kernel
theorem dX8_anew_12 : decode cX8_anew 12 = .ok (.aload_n 0, 1) := by decide +kernel
theorem dX8_anew_13 : decode cX8_anew 13 = .ok (.getfield 7, 3) := by decide +kernel
theorem dX8_anew_16 : decode cX8_anew 16 = .ok (.iconst 2, 1) := by decide +kernel
theorem dX8_anew_17 : decode cX8_anew 17 = .ok (.iconst 0, 1) := by decide +kernel
theorem dX8_anew_18 : decode cX8_anew 18 = .ok (.iastore, 1) := by decide +kernel
theorem dX8_anew_19 : decode cX8_anew 19 = .ok (.aload_n 0, 1) := by decide +kernel
theorem dX8_anew_20 : decode cX8_anew 20 = .ok (.invokevirtual 150, 3) := by decide +kernel
theorem dX8_anew_23 : decode cX8_anew 23 = .ok (.iload_n 1, 1) := by decide +kernel
theorem dX8_anew_24 : decode cX8_anew 24 = .ok (.ireturn, 1) := by decide +kernel
theorem dX8_share_0 : decode cX8_share 0 = .ok (.aload_n 0, 1) := by decide +kernel
theorem dX8_share_1 : decode cX8_share 1 = .ok (.iconst 0, 1) := by decide +kernel
theorem dX8_share_2 : decode cX8_share 2 = .ok (.putfield 56, 3) := by decide +kernel
theorem dX8_share_5 : decode cX8_share 5 = .ok (.aload_n 0, 1) := by decide +kernel
theorem dX8_share_6 : decode cX8_share 6 = .ok (.iload_n 1, 1) := by decide +kernel
theorem dX8_share_7 : decode cX8_share 7 = .ok (.invokevirtual 156, 3) := by decide +kernel
theorem dX8_share_10 : decode cX8_share 10 = .ok (.ifCond .eq 32, 3) := by decide +kernel
theorem dX8_share_13 : decode cX8_share 13 = .ok (.aload_n 0, 1) := by decide +kernel
theorem dX8_share_14 : decode cX8_share 14 = .ok (.iload_n 2, 1) := by decide +kernel
theorem dX8_share_15 : decode cX8_share 15 = .ok (.invokevirtual 153, 3) := by decide +kernel
theorem dX8_share_18 : decode cX8_share 18 = .ok (.ifCond .eq 24, 3) := by decide +kernel
theorem dX8_share_21 : decode cX8_share 21 = .ok (.iload_n 3, 1) := by decide +kernel
theorem dX8_share_22 : decode cX8_share 22 = .ok (.invokestatic 190, 3) := by decide +kernel
theorem dX8_share_25 : decode cX8_share 25 = .ok (.ifCond .eq 17, 3) := by decide +kernel
theorem dX8_share_28 : decode cX8_share 28 = .ok (.aload_n 0, 1) := by decide +kernel
theorem dX8_share_29 : decode cX8_share 29 = .ok (.getfield 7, 3) := by decide +kernel
theorem dX8_share_32 : decode cX8_share 32 = .ok (.iload_n 1, 1) := by decide +kernel
theorem dX8_share_33 : decode cX8_share 33 = .ok (.iload_n 2, 1) := by decide +kernel
theorem dX8_share_34 : decode cX8_share 34 = .ok (.iload_n 3, 1) := by decide +kernel
theorem dX8_share_35 : decode cX8_share 35 = .ok (.invokestatic 162, 3) := by decide +kernel
theorem dX8_share_38 : decode cX8_share 38 = .ok (.iaload, 1) := by decide +kernel
theorem dX8_share_39 : decode cX8_share 39 = .ok (.goto 4, 3) := by decide +kernel
theorem dX8_share_42 : decode cX8_share 42 = .ok (.iconst (-1), 1) := by decide +kernel
theorem dX8_share_43 : decode cX8_share 43 = .ok (.ireturn, 1) := by decide +kernel
theorem dX8_has_0 : decode cX8_has 0 = .ok (.aload_n 0, 1) := by decide +kernel
theorem dX8_has_1 : decode cX8_has 1 = .ok (.iconst 0, 1) := by decide +kernel
theorem dX8_has_2 : decode cX8_has 2 = .ok (.putfield 56, 3) := by decide +kernel
theorem dX8_has_5 : decode cX8_has 5 = .ok (.aload_n 0, 1) := by decide +kernel
theorem dX8_has_6 : decode cX8_has 6 = .ok (.iload_n 1, 1) := by decide +kernel
theorem dX8_has_7 : decode cX8_has 7 = .ok (.invokevirtual 156, 3) := by decide +kernel
theorem dX8_has_10 : decode cX8_has 10 = .ok (.ifCond .eq 32, 3) := by decide +kernel
theorem dX8_has_13 : decode cX8_has 13 = .ok (.iload_n 2, 1) := by decide +kernel
theorem dX8_has_14 : decode cX8_has 14 = .ok (.iconst (-1), 1) := by decide +kernel
theorem dX8_has_15 : decode cX8_has 15 = .ok (.if_icmp .eq 11, 3) := by decide +kernel
theorem dX8_has_18 : decode cX8_has 18 = .ok (.aload_n 0, 1) := by decide +kernel
theorem dX8_has_19 : decode cX8_has 19 = .ok (.iload_n 2, 1) := by decide +kernel
theorem dX8_has_20 : decode cX8_has 20 = .ok (.invokevirtual 153, 3) := by decide +kernel
theorem dX8_has_23 : decode cX8_has 23 = .ok (.ifCond .eq 19, 3) := by decide +kernel
theorem dX8_has_26 : decode cX8_has 26 = .ok (.iload_n 3, 1) := by decide +kernel
theorem dX8_has_27 : decode cX8_has 27 = .ok (.iconst 0, 1) := by decide +kernel
theorem dX8_has_28 : decode cX8_has 28 = .ok (.iconst 2, 1) := by decide +kernel
theorem dX8_has_29 : decode cX8_has 29 = .ok (.invokestatic 60, 3) := by decide +kernel
theorem dX8_has_32 : decode cX8_has 32 = .ok (.ifCond .eq 10, 3) := by decide +kernel
theorem dX8_has_35 : decode cX8_has 35 = .ok (.aload_n 0, 1) := by decide +kernel
theorem dX8_has_36 : decode cX8_has 36 = .ok (.getfield 138, 3) := by decide +kernel
theorem dX8_has_39 : decode cX8_has 39 = .ok (.ifCond .ne 5, 3) := by decide +kernel
theorem dX8_has_42 : decode cX8_has 42 = .ok (.iconst (-1), 1) := by decide +kernel
theorem dX8_has_43 : decode cX8_has 43 = .ok (.ireturn, 1) := by decide +kernel
theorem dX8_has_44 : decode cX8_has 44 = .ok (.iload_n 2, 1) := by decide +kernel
theorem dX8_has_45 : decode cX8_has 45 = .ok (.ifCond .ge 12, 3) := by decide +kernel
theorem dX8_has_48 : decode cX8_has 48 = .ok (.aload_n 0, 1) := by decide +kernel
theorem dX8_has_49 : decode cX8_has 49 = .ok (.iload_n 1, 1) := by decide +kernel
theorem dX8_has_50 : decode cX8_has 50 = .ok (.iload_n 3, 1) := by decide +kernel
theorem dX8_has_51 : decode cX8_has 51 = .ok (.invokevirtual 169, 3) := by decide +kernel
theorem dX8_has_54 : decode cX8_has 54 = .ok (.goto 10, 3) := by decide +kernel
theorem dX8_has_57 : decode cX8_has 57 = .ok (.aload_n 0, 1) := by decide +kernel
theorem dX8_has_58 : decode cX8_has 58 = .ok (.iload_n 1, 1) := by decide +kernel
theorem dX8_has_59 : decode cX8_has 59 = .ok (.iload_n 2, 1) := by decide +kernel
theorem dX8_has_60 : decode cX8_has 60 = .ok (.iload_n 3, 1) := by decide +kernel
theorem dX8_has_61 : decode cX8_has 61 = .ok (.invokevirtual 166, 3) := by decide +kernel
theorem dX8_has_64 : decode cX8_has 64 = .ok (.ireturn, 1) := by decide +kernel
theorem dX8_song_0 : decode cX8_song 0 = .ok (.aload_n 0, 1) := by decide +kernel
theorem dX8_song_1 : decode cX8_song 1 = .ok (.iconst 0, 1) := by decide +kernel
theorem dX8_song_2 : decode cX8_song 2 = .ok (.putfield 56, 3) := by decide +kernel
theorem dX8_song_5 : decode cX8_song 5 = .ok (.aload_n 0, 1) := by decide +kernel
theorem dX8_song_6 : decode cX8_song 6 = .ok (.iload_n 1, 1) := by decide +kernel
theorem dX8_song_7 : decode cX8_song 7 = .ok (.invokevirtual 156, 3) := by decide +kernel
theorem dX8_song_10 : decode cX8_song 10 = .ok (.ifCond .eq 21, 3) := by decide +kernel
theorem dX8_song_13 : decode cX8_song 13 = .ok (.aload_n 0, 1) := by decide +kernel
theorem dX8_song_14 : decode cX8_song 14 = .ok (.iload_n 2, 1) := by decide +kernel
theorem dX8_song_15 : decode cX8_song 15 = .ok (.invokevirtual 153, 3) := by decide +kernel
theorem dX8_song_18 : decode cX8_song 18 = .ok (.ifCond .eq 13, 3) := by decide +kernel
theorem dX8_song_21 : decode cX8_song 21 = .ok (.iload_n 3, 1) := by decide +kernel
theorem dX8_song_22 : decode cX8_song 22 = .ok (.iconst 1, 1) := by decide +kernel
theorem dX8_song_23 : decode cX8_song 23 = .ok (.bipush 99, 2) := by decide +kernel
theorem dX8_song_25 : decode cX8_song 25 = .ok (.invokestatic 60, 3) := by decide +kernel
theorem dX8_song_28 : decode cX8_song 28 = .ok (.ifCond .ne 5, 3) := by decide +kernel
theorem dX8_song_31 : decode cX8_song 31 = .ok (.iconst (-1), 1) := by decide +kernel
theorem dX8_song_32 : decode cX8_song 32 = .ok (.ireturn, 1) := by decide +kernel
theorem dX8_song_33 : decode cX8_song 33 = .ok (.aload_n 0, 1) := by decide +kernel
theorem dX8_song_34 : decode cX8_song 34 = .ok (.iload_n 1, 1) := by decide +kernel
theorem dX8_song_35 : decode cX8_song 35 = .ok (.invokevirtual 159, 3) := by decide +kernel
theorem dX8_song_38 : decode cX8_song 38 = .ok (.ifCond .ne 6, 3) := by decide +kernel
theorem dX8_song_41 : decode cX8_song 41 = .ok (.bipush (-2), 2) := by decide +kernel
theorem dX8_song_43 : decode cX8_song 43 = .ok (.ireturn, 1) := by decide +kernel
theorem dX8_song_44 : decode cX8_song 44 = .ok (.aload_n 0, 1) := by decide +kernel
theorem dX8_song_45 : decode cX8_song 45 = .ok (.getfield 7, 3) := by decide +kernel
theorem dX8_song_48 : decode cX8_song 48 = .ok (.iconst 2, 1) := by decide +kernel
theorem dX8_song_49 : decode cX8_song 49 = .ok (.iaload, 1) := by decide +kernel
theorem dX8_song_50 : decode cX8_song 50 = .ok (.bipush 10, 2) := by decide +kernel
theorem dX8_song_52 : decode cX8_song 52 = .ok (.if_icmp .ne 6, 3) := by decide +kernel
theorem dX8_song_55 : decode cX8_song 55 = .ok (.bipush (-3), 2) := by decide +kernel
theorem dX8_song_57 : decode cX8_song 57 = .ok (.ireturn, 1) := by decide +kernel
theorem dX8_song_58 : decode cX8_song 58 = .ok (.iconst 3, 1) := by decide +kernel
theorem dX8_song_59 : decode cX8_song 59 = .ok (.iconst 4, 1) := by decide +kernel
theorem dX8_song_60 : decode cX8_song 60 = .ok (.aload_n 0, 1) := by decide +kernel
theorem dX8_song_61 : decode cX8_song 61 = .ok (.getfield 7, 3) := by decide +kernel
theorem dX8_song_64 : decode cX8_song 64 = .ok (.iconst 2, 1) := by decide +kernel
theorem dX8_song_65 : decode cX8_song 65 = .ok (.iaload, 1) := by decide +kernel
theorem dX8_song_66 : decode cX8_song 66 = .ok (.imul, 1) := by decide +kernel
theorem dX8_song_67 : decode cX8_song 67 = .ok (.iadd, 1) := by decide +kernel
theorem dX8_song_68 : decode cX8_song 68 = .ok (.istore 4, 2) := by decide +kernel
theorem dX8_song_70 : decode cX8_song 70 = .ok (.aload_n 0, 1) := by decide +kernel
theorem dX8_song_71 : decode cX8_song 71 = .ok (.getfield 7, 3) := by decide +kernel
theorem dX8_song_74 : decode cX8_song 74 = .ok (.iload 4, 2) := by decide +kernel
theorem dX8_song_76 : decode cX8_song 76 = .ok (.aload_n 0, 1) := by decide +kernel
theorem dX8_song_77 : decode cX8_song 77 = .ok (.getfield 7, 3) := by decide +kernel
theorem dX8_song_80 : decode cX8_song 80 = .ok (.iconst 0, 1) := by decide +kernel
theorem dX8_song_81 : decode cX8_song 81 = .ok (.iaload, 1) := by decide +kernel
theorem dX8_song_82 : decode cX8_song 82 = .ok (.iastore, 1) := by decide +kernel
theorem dX8_song_83 : decode cX8_song 83 = .ok (.aload_n 0, 1) := by decide +kernel
theorem dX8_song_84 : decode cX8_song 84 = .ok (.getfield 7, 3) := by decide +kernel
theorem dX8_song_87 : decode cX8_song 87 = .ok (.iload 4, 2) := by decide +kernel
theorem dX8_song_89 : decode cX8_song 89 = .ok (.iconst 1, 1) := by decide +kernel
theorem dX8_song_90 : decode cX8_song 90 = .ok (.iadd, 1) := by decide +kernel
theorem dX8_song_91 : decode cX8_song 91 = .ok (.iload_n 1, 1) := by decide +kernel
theorem dX8_song_92 : decode cX8_song 92 = .ok (.iastore, 1) := by decide +kernel
theorem dX8_song_93 : decode cX8_song 93 = .ok (.aload_n 0, 1) := by decide +kernel
theorem dX8_song_94 : decode cX8_song 94 = .ok (.getfield 7, 3) := by decide +kernel
theorem dX8_song_97 : decode cX8_song 97 = .ok (.iload 4, 2) := by decide +kernel
theorem dX8_song_99 : decode cX8_song 99 = .ok (.iconst 2, 1) := by decide +kernel
theorem dX8_song_100 : decode cX8_song 100 = .ok (.iadd, 1) := by decide +kernel
theorem dX8_song_101 : decode cX8_song 101 = .ok (.iload_n 2, 1) := by decide +kernel
theorem dX8_song_102 : decode cX8_song 102 = .ok (.iastore, 1) := by decide +kernel
theorem dX8_song_103 : decode cX8_song 103 = .ok (.aload_n 0, 1) := by decide +kernel
theorem dX8_song_104 : decode cX8_song 104 = .ok (.getfield 7, 3) := by decide +kernel
theorem dX8_song_107 : decode cX8_song 107 = .ok (.iload 4, 2) := by decide +kernel
theorem dX8_song_109 : decode cX8_song 109 = .ok (.iconst 3, 1) := by decide +kernel
theorem dX8_song_110 : decode cX8_song 110 = .ok (.iadd, 1) := by decide +kernel
theorem dX8_song_111 : decode cX8_song 111 = .ok (.iload_n 3, 1) := by decide +kernel
theorem dX8_song_112 : decode cX8_song 112 = .ok (.iastore, 1) := by decide +kernel
theorem dX8_song_113 : decode cX8_song 113 = .ok (.aload_n 0, 1) := by decide +kernel
theorem dX8_song_114 : decode cX8_song 114 = .ok (.getfield 7, 3) := by decide +kernel
theorem dX8_song_117 : decode cX8_song 117 = .ok (.iconst 2, 1) := by decide +kernel
theorem dX8_song_118 : decode cX8_song 118 = .ok (.dup2, 1) := by decide +kernel
theorem dX8_song_119 : decode cX8_song 119 = .ok (.iaload, 1) := by decide +kernel
theorem dX8_song_120 : decode cX8_song 120 = .ok (.iconst 1, 1) := by decide +kernel
theorem dX8_song_121 : decode cX8_song 121 = .ok (.iadd, 1) := by decide +kernel
theorem dX8_song_122 : decode cX8_song 122 = .ok (.iastore, 1) := by decide +kernel
theorem dX8_song_123 : decode cX8_song 123 = .ok (.aload_n 0, 1) := by decide +kernel
theorem dX8_song_124 : decode cX8_song 124 = .ok (.iload_n 1, 1) := by decide +kernel
theorem dX8_song_125 : decode cX8_song 125 = .ok (.iload_n 2, 1) := by decide +kernel
theorem dX8_song_126 : decode cX8_song 126 = .ok (.iload_n 3, 1) := by decide +kernel
theorem dX8_song_127 : decode cX8_song 127 = .ok (.invokevirtual 172, 3) := by decide +kernel
theorem dX8_song_130 : decode cX8_song 130 = .ok (.aload_n 0, 1) := by decide +kernel
theorem dX8_song_131 : decode cX8_song 131 = .ok (.invokevirtual 176, 3) := by decide +kernel
theorem dX8_song_134 : decode cX8_song 134 = .ok (.aload_n 0, 1) := by decide +kernel
theorem dX8_song_135 : decode cX8_song 135 = .ok (.getfield 7, 3) := by decide +kernel
theorem dX8_song_138 : decode cX8_song 138 = .ok (.iconst 2, 1) := by decide +kernel
theorem dX8_song_139 : decode cX8_song 139 = .ok (.iaload, 1) := by decide +kernel
theorem dX8_song_140 : decode cX8_song 140 = .ok (.ireturn, 1) := by decide +kernel
theorem dX8_youngMean_0 : decode cX8_youngMean 0 = .ok (.iconst 0, 1) := by decide +kernel
theorem dX8_youngMean_1 : decode cX8_youngMean 1 = .ok (.istore_n 3, 1) := by decide +kernel
theorem dX8_youngMean_2 : decode cX8_youngMean 2 = .ok (.iconst 0, 1) := by decide +kernel
theorem dX8_youngMean_3 : decode cX8_youngMean 3 = .ok (.istore 4, 2) := by decide +kernel
theorem dX8_youngMean_5 : decode cX8_youngMean 5 = .ok (.iload 4, 2) := by decide +kernel
theorem dX8_youngMean_7 : decode cX8_youngMean 7 = .ok (.aload_n 0, 1) := by decide +kernel
theorem dX8_youngMean_8 : decode cX8_youngMean 8 = .ok (.getfield 138, 3) := by decide +kernel
theorem dX8_youngMean_11 : decode cX8_youngMean 11 = .ok (.if_icmp .ge 34, 3) := by decide +kernel
theorem dX8_youngMean_14 : decode cX8_youngMean 14 = .ok (.iload_n 3, 1) := by decide +kernel
theorem dX8_youngMean_15 : decode cX8_youngMean 15 = .ok (.aload_n 0, 1) := by decide +kernel
theorem dX8_youngMean_16 : decode cX8_youngMean 16 = .ok (.getfield 7, 3) := by decide +kernel
theorem dX8_youngMean_19 : decode cX8_youngMean 19 = .ok (.sipush 950, 3) := by decide +kernel
theorem dX8_youngMean_22 : decode cX8_youngMean 22 = .ok (.sipush 300, 3) := by decide +kernel
theorem dX8_youngMean_25 : decode cX8_youngMean 25 = .ok (.iload_n 1, 1) := by decide +kernel
theorem dX8_youngMean_26 : decode cX8_youngMean 26 = .ok (.imul, 1) := by decide +kernel
theorem dX8_youngMean_27 : decode cX8_youngMean 27 = .ok (.iadd, 1) := by decide +kernel
theorem dX8_youngMean_28 : decode cX8_youngMean 28 = .ok (.bipush 100, 2) := by decide +kernel
theorem dX8_youngMean_30 : decode cX8_youngMean 30 = .ok (.iload 4, 2) := by decide +kernel
theorem dX8_youngMean_32 : decode cX8_youngMean 32 = .ok (.imul, 1) := by decide +kernel
theorem dX8_youngMean_33 : decode cX8_youngMean 33 = .ok (.iadd, 1) := by decide +kernel
theorem dX8_youngMean_34 : decode cX8_youngMean 34 = .ok (.iload_n 2, 1) := by decide +kernel
theorem dX8_youngMean_35 : decode cX8_youngMean 35 = .ok (.iadd, 1) := by decide +kernel
theorem dX8_youngMean_36 : decode cX8_youngMean 36 = .ok (.iaload, 1) := by decide +kernel
theorem dX8_youngMean_37 : decode cX8_youngMean 37 = .ok (.iadd, 1) := by decide +kernel
theorem dX8_youngMean_38 : decode cX8_youngMean 38 = .ok (.istore_n 3, 1) := by decide +kernel
theorem dX8_youngMean_39 : decode cX8_youngMean 39 = .ok (.iinc 4 1, 3) := by decide +kernel
theorem dX8_youngMean_42 : decode cX8_youngMean 42 = .ok (.goto (-37), 3) := by decide +kernel
theorem dX8_youngMean_45 : decode cX8_youngMean 45 = .ok (.iload_n 3, 1) := by decide +kernel
theorem dX8_youngMean_46 : decode cX8_youngMean 46 = .ok (.aload_n 0, 1) := by decide +kernel
theorem dX8_youngMean_47 : decode cX8_youngMean 47 = .ok (.getfield 138, 3) := by decide +kernel
theorem dX8_youngMean_50 : decode cX8_youngMean 50 = .ok (.idiv, 1) := by decide +kernel
theorem dX8_youngMean_51 : decode cX8_youngMean 51 = .ok (.ireturn, 1) := by decide +kernel
theorem dX8_peakOf_0 : decode cX8_peakOf 0 = .ok (.aload_n 0, 1) := by decide +kernel
theorem dX8_peakOf_1 : decode cX8_peakOf 1 = .ok (.iconst 0, 1) := by decide +kernel
theorem dX8_peakOf_2 : decode cX8_peakOf 2 = .ok (.putfield 193, 3) := by decide +kernel
theorem dX8_peakOf_5 : decode cX8_peakOf 5 = .ok (.aload_n 0, 1) := by decide +kernel
theorem dX8_peakOf_6 : decode cX8_peakOf 6 = .ok (.bipush (-9), 2) := by decide +kernel
theorem dX8_peakOf_8 : decode cX8_peakOf 8 = .ok (.putfield 196, 3) := by decide +kernel
theorem dX8_peakOf_11 : decode cX8_peakOf 11 = .ok (.iconst 1, 1) := by decide +kernel
theorem dX8_peakOf_12 : decode cX8_peakOf 12 = .ok (.istore_n 2, 1) := by decide +kernel
theorem dX8_peakOf_13 : decode cX8_peakOf 13 = .ok (.iload_n 2, 1) := by decide +kernel
theorem dX8_peakOf_14 : decode cX8_peakOf 14 = .ok (.aload_n 0, 1) := by decide +kernel
theorem dX8_peakOf_15 : decode cX8_peakOf 15 = .ok (.getfield 7, 3) := by decide +kernel
theorem dX8_peakOf_18 : decode cX8_peakOf 18 = .ok (.iconst 0, 1) := by decide +kernel
theorem dX8_peakOf_19 : decode cX8_peakOf 19 = .ok (.iaload, 1) := by decide +kernel
theorem dX8_peakOf_20 : decode cX8_peakOf 20 = .ok (.if_icmp .gt 39, 3) := by decide +kernel
theorem dX8_peakOf_23 : decode cX8_peakOf 23 = .ok (.aload_n 0, 1) := by decide +kernel
theorem dX8_peakOf_24 : decode cX8_peakOf 24 = .ok (.aload_n 0, 1) := by decide +kernel
theorem dX8_peakOf_25 : decode cX8_peakOf 25 = .ok (.iload_n 1, 1) := by decide +kernel
theorem dX8_peakOf_26 : decode cX8_peakOf 26 = .ok (.iload_n 2, 1) := by decide +kernel
theorem dX8_peakOf_27 : decode cX8_peakOf 27 = .ok (.invokevirtual 199, 3) := by decide +kernel
theorem dX8_peakOf_30 : decode cX8_peakOf 30 = .ok (.aload_n 0, 1) := by decide +kernel
theorem dX8_peakOf_31 : decode cX8_peakOf 31 = .ok (.iload_n 1, 1) := by decide +kernel
theorem dX8_peakOf_32 : decode cX8_peakOf 32 = .ok (.aload_n 0, 1) := by decide +kernel
theorem dX8_peakOf_33 : decode cX8_peakOf 33 = .ok (.getfield 193, 3) := by decide +kernel
theorem dX8_peakOf_36 : decode cX8_peakOf 36 = .ok (.invokevirtual 199, 3) := by decide +kernel
theorem dX8_peakOf_39 : decode cX8_peakOf 39 = .ok (.if_icmp .le 7, 3) := by decide +kernel
theorem dX8_peakOf_42 : decode cX8_peakOf 42 = .ok (.iload_n 2, 1) := by decide +kernel
theorem dX8_peakOf_43 : decode cX8_peakOf 43 = .ok (.goto 7, 3) := by decide +kernel
theorem dX8_peakOf_46 : decode cX8_peakOf 46 = .ok (.aload_n 0, 1) := by decide +kernel
theorem dX8_peakOf_47 : decode cX8_peakOf 47 = .ok (.getfield 193, 3) := by decide +kernel
theorem dX8_peakOf_50 : decode cX8_peakOf 50 = .ok (.putfield 193, 3) := by decide +kernel
theorem dX8_peakOf_53 : decode cX8_peakOf 53 = .ok (.iinc 2 1, 3) := by decide +kernel
theorem dX8_peakOf_56 : decode cX8_peakOf 56 = .ok (.goto (-43), 3) := by decide +kernel
theorem dX8_peakOf_59 : decode cX8_peakOf 59 = .ok (.aload_n 0, 1) := by decide +kernel
theorem dX8_peakOf_60 : decode cX8_peakOf 60 = .ok (.getfield 7, 3) := by decide +kernel
theorem dX8_peakOf_63 : decode cX8_peakOf 63 = .ok (.iconst 0, 1) := by decide +kernel
theorem dX8_peakOf_64 : decode cX8_peakOf 64 = .ok (.iaload, 1) := by decide +kernel
theorem dX8_peakOf_65 : decode cX8_peakOf 65 = .ok (.istore_n 2, 1) := by decide +kernel
theorem dX8_peakOf_66 : decode cX8_peakOf 66 = .ok (.iload_n 2, 1) := by decide +kernel
theorem dX8_peakOf_67 : decode cX8_peakOf 67 = .ok (.aload_n 0, 1) := by decide +kernel
theorem dX8_peakOf_68 : decode cX8_peakOf 68 = .ok (.getfield 193, 3) := by decide +kernel
theorem dX8_peakOf_71 : decode cX8_peakOf 71 = .ok (.if_icmp .le 32, 3) := by decide +kernel
theorem dX8_peakOf_74 : decode cX8_peakOf 74 = .ok (.aload_n 0, 1) := by decide +kernel
theorem dX8_peakOf_75 : decode cX8_peakOf 75 = .ok (.aload_n 0, 1) := by decide +kernel
theorem dX8_peakOf_76 : decode cX8_peakOf 76 = .ok (.iload_n 1, 1) := by decide +kernel
theorem dX8_peakOf_77 : decode cX8_peakOf 77 = .ok (.iload_n 2, 1) := by decide +kernel
theorem dX8_peakOf_78 : decode cX8_peakOf 78 = .ok (.invokevirtual 199, 3) := by decide +kernel
theorem dX8_peakOf_81 : decode cX8_peakOf 81 = .ok (.bipush 100, 2) := by decide +kernel
theorem dX8_peakOf_83 : decode cX8_peakOf 83 = .ok (.if_icmp .ge 7, 3) := by decide +kernel
theorem dX8_peakOf_86 : decode cX8_peakOf 86 = .ok (.iload_n 2, 1) := by decide +kernel
theorem dX8_peakOf_87 : decode cX8_peakOf 87 = .ok (.goto 7, 3) := by decide +kernel
theorem dX8_peakOf_90 : decode cX8_peakOf 90 = .ok (.aload_n 0, 1) := by decide +kernel
theorem dX8_peakOf_91 : decode cX8_peakOf 91 = .ok (.getfield 196, 3) := by decide +kernel
theorem dX8_peakOf_94 : decode cX8_peakOf 94 = .ok (.putfield 196, 3) := by decide +kernel
theorem dX8_peakOf_97 : decode cX8_peakOf 97 = .ok (.iinc 2 (-1), 3) := by decide +kernel
theorem dX8_peakOf_100 : decode cX8_peakOf 100 = .ok (.goto (-34), 3) := by decide +kernel
theorem dX8_peakOf_103 : decode cX8_peakOf 103 = .ok (.aload_n 0, 1) := by decide +kernel
theorem dX8_peakOf_104 : decode cX8_peakOf 104 = .ok (.iload_n 1, 1) := by decide +kernel
theorem dX8_peakOf_105 : decode cX8_peakOf 105 = .ok (.aload_n 0, 1) := by decide +kernel
theorem dX8_peakOf_106 : decode cX8_peakOf 106 = .ok (.getfield 193, 3) := by decide +kernel
theorem dX8_peakOf_109 : decode cX8_peakOf 109 = .ok (.invokevirtual 199, 3) := by decide +kernel
theorem dX8_peakOf_112 : decode cX8_peakOf 112 = .ok (.ireturn, 1) := by decide +kernel
theorem dX8_keptAge_0 : decode cX8_keptAge 0 = .ok (.bipush 10, 2) := by decide +kernel
theorem dX8_keptAge_2 : decode cX8_keptAge 2 = .ok (.istore_n 2, 1) := by decide +kernel
theorem dX8_keptAge_3 : decode cX8_keptAge 3 = .ok (.iconst (-1), 1) := by decide +kernel
theorem dX8_keptAge_4 : decode cX8_keptAge 4 = .ok (.istore_n 3, 1) := by decide +kernel
theorem dX8_keptAge_5 : decode cX8_keptAge 5 = .ok (.bipush 10, 2) := by decide +kernel
theorem dX8_keptAge_7 : decode cX8_keptAge 7 = .ok (.istore 4, 2) := by decide +kernel
theorem dX8_keptAge_9 : decode cX8_keptAge 9 = .ok (.iload 4, 2) := by decide +kernel
theorem dX8_keptAge_11 : decode cX8_keptAge 11 = .ok (.bipush 70, 2) := by decide +kernel
theorem dX8_keptAge_13 : decode cX8_keptAge 13 = .ok (.if_icmp .ge 74, 3) := by decide +kernel
theorem dX8_keptAge_16 : decode cX8_keptAge 16 = .ok (.iconst 0, 1) := by decide +kernel
theorem dX8_keptAge_17 : decode cX8_keptAge 17 = .ok (.istore 5, 2) := by decide +kernel
theorem dX8_keptAge_19 : decode cX8_keptAge 19 = .ok (.iconst 0, 1) := by decide +kernel
theorem dX8_keptAge_20 : decode cX8_keptAge 20 = .ok (.istore 6, 2) := by decide +kernel
theorem dX8_keptAge_22 : decode cX8_keptAge 22 = .ok (.iload 6, 2) := by decide +kernel
theorem dX8_keptAge_24 : decode cX8_keptAge 24 = .ok (.aload_n 0, 1) := by decide +kernel
theorem dX8_keptAge_25 : decode cX8_keptAge 25 = .ok (.getfield 138, 3) := by decide +kernel
theorem dX8_keptAge_28 : decode cX8_keptAge 28 = .ok (.if_icmp .ge 27, 3) := by decide +kernel
theorem dX8_keptAge_31 : decode cX8_keptAge 31 = .ok (.iload 5, 2) := by decide +kernel
theorem dX8_keptAge_33 : decode cX8_keptAge 33 = .ok (.aload_n 0, 1) := by decide +kernel
theorem dX8_keptAge_34 : decode cX8_keptAge 34 = .ok (.getfield 7, 3) := by decide +kernel
theorem dX8_keptAge_37 : decode cX8_keptAge 37 = .ok (.iload_n 1, 1) := by decide +kernel
theorem dX8_keptAge_38 : decode cX8_keptAge 38 = .ok (.iload 6, 2) := by decide +kernel
theorem dX8_keptAge_40 : decode cX8_keptAge 40 = .ok (.iload 4, 2) := by decide +kernel
theorem dX8_keptAge_42 : decode cX8_keptAge 42 = .ok (.invokestatic 162, 3) := by decide +kernel
theorem dX8_keptAge_45 : decode cX8_keptAge 45 = .ok (.iaload, 1) := by decide +kernel
theorem dX8_keptAge_46 : decode cX8_keptAge 46 = .ok (.iadd, 1) := by decide +kernel
theorem dX8_keptAge_47 : decode cX8_keptAge 47 = .ok (.istore 5, 2) := by decide +kernel
theorem dX8_keptAge_49 : decode cX8_keptAge 49 = .ok (.iinc 6 1, 3) := by decide +kernel
theorem dX8_keptAge_52 : decode cX8_keptAge 52 = .ok (.goto (-30), 3) := by decide +kernel
theorem dX8_keptAge_55 : decode cX8_keptAge 55 = .ok (.iload 5, 2) := by decide +kernel
theorem dX8_keptAge_57 : decode cX8_keptAge 57 = .ok (.iload_n 3, 1) := by decide +kernel
theorem dX8_keptAge_58 : decode cX8_keptAge 58 = .ok (.if_icmp .le 8, 3) := by decide +kernel
theorem dX8_keptAge_61 : decode cX8_keptAge 61 = .ok (.iload 4, 2) := by decide +kernel
theorem dX8_keptAge_63 : decode cX8_keptAge 63 = .ok (.goto 4, 3) := by decide +kernel
theorem dX8_keptAge_66 : decode cX8_keptAge 66 = .ok (.iload_n 2, 1) := by decide +kernel
theorem dX8_keptAge_67 : decode cX8_keptAge 67 = .ok (.istore_n 2, 1) := by decide +kernel
theorem dX8_keptAge_68 : decode cX8_keptAge 68 = .ok (.iload 5, 2) := by decide +kernel
theorem dX8_keptAge_70 : decode cX8_keptAge 70 = .ok (.iload_n 3, 1) := by decide +kernel
theorem dX8_keptAge_71 : decode cX8_keptAge 71 = .ok (.if_icmp .le 8, 3) := by decide +kernel
theorem dX8_keptAge_74 : decode cX8_keptAge 74 = .ok (.iload 5, 2) := by decide +kernel
theorem dX8_keptAge_76 : decode cX8_keptAge 76 = .ok (.goto 4, 3) := by decide +kernel
theorem dX8_keptAge_79 : decode cX8_keptAge 79 = .ok (.iload_n 3, 1) := by decide +kernel
theorem dX8_keptAge_80 : decode cX8_keptAge 80 = .ok (.istore_n 3, 1) := by decide +kernel
theorem dX8_keptAge_81 : decode cX8_keptAge 81 = .ok (.iinc 4 1, 3) := by decide +kernel
theorem dX8_keptAge_84 : decode cX8_keptAge 84 = .ok (.goto (-75), 3) := by decide +kernel
theorem dX8_keptAge_87 : decode cX8_keptAge 87 = .ok (.iload_n 2, 1) := by decide +kernel
theorem dX8_keptAge_88 : decode cX8_keptAge 88 = .ok (.ireturn, 1) := by decide +kernel
theorem dX8_life_0 : decode cX8_life 0 = .ok (.aload_n 0, 1) := by decide +kernel
theorem dX8_life_1 : decode cX8_life 1 = .ok (.iconst 0, 1) := by decide +kernel
theorem dX8_life_2 : decode cX8_life 2 = .ok (.putfield 56, 3) := by decide +kernel
theorem dX8_life_5 : decode cX8_life 5 = .ok (.aload_n 0, 1) := by decide +kernel
theorem dX8_life_6 : decode cX8_life 6 = .ok (.iload_n 1, 1) := by decide +kernel
theorem dX8_life_7 : decode cX8_life 7 = .ok (.invokevirtual 156, 3) := by decide +kernel
theorem dX8_life_10 : decode cX8_life 10 = .ok (.ifCond .eq 12, 3) := by decide +kernel
theorem dX8_life_13 : decode cX8_life 13 = .ok (.iload_n 2, 1) := by decide +kernel
theorem dX8_life_14 : decode cX8_life 14 = .ok (.iconst 0, 1) := by decide +kernel
theorem dX8_life_15 : decode cX8_life 15 = .ok (.iconst 3, 1) := by decide +kernel
theorem dX8_life_16 : decode cX8_life 16 = .ok (.invokestatic 60, 3) := by decide +kernel
theorem dX8_life_19 : decode cX8_life 19 = .ok (.ifCond .ne 5, 3) := by decide +kernel
theorem dX8_life_22 : decode cX8_life 22 = .ok (.iconst (-1), 1) := by decide +kernel
theorem dX8_life_23 : decode cX8_life 23 = .ok (.ireturn, 1) := by decide +kernel
theorem dX8_life_24 : decode cX8_life 24 = .ok (.aload_n 0, 1) := by decide +kernel
theorem dX8_life_25 : decode cX8_life 25 = .ok (.iload_n 1, 1) := by decide +kernel
theorem dX8_life_26 : decode cX8_life 26 = .ok (.invokevirtual 159, 3) := by decide +kernel
theorem dX8_life_29 : decode cX8_life 29 = .ok (.ifCond .ne 6, 3) := by decide +kernel
theorem dX8_life_32 : decode cX8_life 32 = .ok (.bipush (-2), 2) := by decide +kernel
theorem dX8_life_34 : decode cX8_life 34 = .ok (.ireturn, 1) := by decide +kernel
theorem dX8_life_35 : decode cX8_life 35 = .ok (.aload_n 0, 1) := by decide +kernel
theorem dX8_life_36 : decode cX8_life 36 = .ok (.iload_n 1, 1) := by decide +kernel
theorem dX8_life_37 : decode cX8_life 37 = .ok (.invokevirtual 202, 3) := by decide +kernel
theorem dX8_life_40 : decode cX8_life 40 = .ok (.istore_n 3, 1) := by decide +kernel
theorem dX8_life_41 : decode cX8_life 41 = .ok (.iload_n 2, 1) := by decide +kernel
theorem dX8_life_42 : decode cX8_life 42 = .ok (.ifCond .ne 7, 3) := by decide +kernel
theorem dX8_life_45 : decode cX8_life 45 = .ok (.iload_n 3, 1) := by decide +kernel
theorem dX8_life_46 : decode cX8_life 46 = .ok (.goto 32, 3) := by decide +kernel
theorem dX8_life_49 : decode cX8_life 49 = .ok (.iload_n 2, 1) := by decide +kernel
theorem dX8_life_50 : decode cX8_life 50 = .ok (.iconst 1, 1) := by decide +kernel
theorem dX8_life_51 : decode cX8_life 51 = .ok (.if_icmp .ne 10, 3) := by decide +kernel
theorem dX8_life_54 : decode cX8_life 54 = .ok (.aload_n 0, 1) := by decide +kernel
theorem dX8_life_55 : decode cX8_life 55 = .ok (.getfield 193, 3) := by decide +kernel
theorem dX8_life_58 : decode cX8_life 58 = .ok (.goto 20, 3) := by decide +kernel
theorem dX8_life_61 : decode cX8_life 61 = .ok (.iload_n 2, 1) := by decide +kernel
theorem dX8_life_62 : decode cX8_life 62 = .ok (.iconst 2, 1) := by decide +kernel
theorem dX8_life_63 : decode cX8_life 63 = .ok (.if_icmp .ne 10, 3) := by decide +kernel
theorem dX8_life_66 : decode cX8_life 66 = .ok (.aload_n 0, 1) := by decide +kernel
theorem dX8_life_67 : decode cX8_life 67 = .ok (.getfield 196, 3) := by decide +kernel
theorem dX8_life_70 : decode cX8_life 70 = .ok (.goto 8, 3) := by decide +kernel
theorem dX8_life_73 : decode cX8_life 73 = .ok (.aload_n 0, 1) := by decide +kernel
theorem dX8_life_74 : decode cX8_life 74 = .ok (.iload_n 1, 1) := by decide +kernel
theorem dX8_life_75 : decode cX8_life 75 = .ok (.invokevirtual 205, 3) := by decide +kernel
theorem dX8_life_78 : decode cX8_life 78 = .ok (.ireturn, 1) := by decide +kernel
theorem dX8_printed_0 : decode cX8_printed 0 = .ok (.aload_n 0, 1) := by decide +kernel
theorem dX8_printed_1 : decode cX8_printed 1 = .ok (.iconst 0, 1) := by decide +kernel
theorem dX8_printed_2 : decode cX8_printed 2 = .ok (.putfield 56, 3) := by decide +kernel
theorem dX8_printed_5 : decode cX8_printed 5 = .ok (.aload_n 0, 1) := by decide +kernel
theorem dX8_printed_6 : decode cX8_printed 6 = .ok (.iload_n 1, 1) := by decide +kernel
theorem dX8_printed_7 : decode cX8_printed 7 = .ok (.invokevirtual 156, 3) := by decide +kernel
theorem dX8_printed_10 : decode cX8_printed 10 = .ok (.ifCond .eq 12, 3) := by decide +kernel
theorem dX8_printed_13 : decode cX8_printed 13 = .ok (.iload_n 2, 1) := by decide +kernel
theorem dX8_printed_14 : decode cX8_printed 14 = .ok (.iconst 0, 1) := by decide +kernel
theorem dX8_printed_15 : decode cX8_printed 15 = .ok (.iconst 1, 1) := by decide +kernel
theorem dX8_printed_16 : decode cX8_printed 16 = .ok (.invokestatic 60, 3) := by decide +kernel
theorem dX8_printed_19 : decode cX8_printed 19 = .ok (.ifCond .ne 5, 3) := by decide +kernel
theorem dX8_printed_22 : decode cX8_printed 22 = .ok (.iconst (-1), 1) := by decide +kernel
theorem dX8_printed_23 : decode cX8_printed 23 = .ok (.ireturn, 1) := by decide +kernel
theorem dX8_printed_24 : decode cX8_printed 24 = .ok (.iconst 0, 1) := by decide +kernel
theorem dX8_printed_25 : decode cX8_printed 25 = .ok (.istore_n 3, 1) := by decide +kernel
theorem dX8_printed_26 : decode cX8_printed 26 = .ok (.iload_n 3, 1) := by decide +kernel
theorem dX8_printed_27 : decode cX8_printed 27 = .ok (.aload_n 0, 1) := by decide +kernel
theorem dX8_printed_28 : decode cX8_printed 28 = .ok (.getfield 7, 3) := by decide +kernel
theorem dX8_printed_31 : decode cX8_printed 31 = .ok (.iconst 0, 1) := by decide +kernel
theorem dX8_printed_32 : decode cX8_printed 32 = .ok (.iaload, 1) := by decide +kernel
theorem dX8_printed_33 : decode cX8_printed 33 = .ok (.if_icmp .gt 58, 3) := by decide +kernel
theorem dX8_printed_36 : decode cX8_printed 36 = .ok (.aload_n 0, 1) := by decide +kernel
theorem dX8_printed_37 : decode cX8_printed 37 = .ok (.getfield 7, 3) := by decide +kernel
theorem dX8_printed_40 : decode cX8_printed 40 = .ok (.sipush 2450, 3) := by decide +kernel
theorem dX8_printed_43 : decode cX8_printed 43 = .ok (.bipush 100, 2) := by decide +kernel
theorem dX8_printed_45 : decode cX8_printed 45 = .ok (.iload_n 1, 1) := by decide +kernel
theorem dX8_printed_46 : decode cX8_printed 46 = .ok (.imul, 1) := by decide +kernel
theorem dX8_printed_47 : decode cX8_printed 47 = .ok (.iadd, 1) := by decide +kernel
theorem dX8_printed_48 : decode cX8_printed 48 = .ok (.iload_n 3, 1) := by decide +kernel
theorem dX8_printed_49 : decode cX8_printed 49 = .ok (.iadd, 1) := by decide +kernel
theorem dX8_printed_50 : decode cX8_printed 50 = .ok (.iaload, 1) := by decide +kernel
theorem dX8_printed_51 : decode cX8_printed 51 = .ok (.bipush 100, 2) := by decide +kernel
theorem dX8_printed_53 : decode cX8_printed 53 = .ok (.if_icmp .lt 32, 3) := by decide +kernel
theorem dX8_printed_56 : decode cX8_printed 56 = .ok (.iload_n 3, 1) := by decide +kernel
theorem dX8_printed_57 : decode cX8_printed 57 = .ok (.aload_n 0, 1) := by decide +kernel
theorem dX8_printed_58 : decode cX8_printed 58 = .ok (.getfield 26, 3) := by decide +kernel
theorem dX8_printed_61 : decode cX8_printed 61 = .ok (.iconst 4, 1) := by decide +kernel
theorem dX8_printed_62 : decode cX8_printed 62 = .ok (.iaload, 1) := by decide +kernel
theorem dX8_printed_63 : decode cX8_printed 63 = .ok (.iadd, 1) := by decide +kernel
theorem dX8_printed_64 : decode cX8_printed 64 = .ok (.iload_n 2, 1) := by decide +kernel
theorem dX8_printed_65 : decode cX8_printed 65 = .ok (.iconst 1, 1) := by decide +kernel
theorem dX8_printed_66 : decode cX8_printed 66 = .ok (.if_icmp .ne 16, 3) := by decide +kernel
theorem dX8_printed_69 : decode cX8_printed 69 = .ok (.aload_n 0, 1) := by decide +kernel
theorem dX8_printed_70 : decode cX8_printed 70 = .ok (.getfield 32, 3) := by decide +kernel
theorem dX8_printed_73 : decode cX8_printed 73 = .ok (.iconst 4, 1) := by decide +kernel
theorem dX8_printed_74 : decode cX8_printed 74 = .ok (.iload_n 1, 1) := by decide +kernel
theorem dX8_printed_75 : decode cX8_printed 75 = .ok (.imul, 1) := by decide +kernel
theorem dX8_printed_76 : decode cX8_printed 76 = .ok (.iconst 1, 1) := by decide +kernel
theorem dX8_printed_77 : decode cX8_printed 77 = .ok (.iadd, 1) := by decide +kernel
theorem dX8_printed_78 : decode cX8_printed 78 = .ok (.iaload, 1) := by decide +kernel
theorem dX8_printed_79 : decode cX8_printed 79 = .ok (.goto 4, 3) := by decide +kernel
theorem dX8_printed_82 : decode cX8_printed 82 = .ok (.iconst 0, 1) := by decide +kernel
theorem dX8_printed_83 : decode cX8_printed 83 = .ok (.isub, 1) := by decide +kernel
theorem dX8_printed_84 : decode cX8_printed 84 = .ok (.ireturn, 1) := by decide +kernel
theorem dX8_printed_85 : decode cX8_printed 85 = .ok (.iinc 3 1, 3) := by decide +kernel
theorem dX8_printed_88 : decode cX8_printed 88 = .ok (.goto (-62), 3) := by decide +kernel
theorem dX8_printed_91 : decode cX8_printed 91 = .ok (.bipush (-9), 2) := by decide +kernel
theorem dX8_printed_93 : decode cX8_printed 93 = .ok (.ireturn, 1) := by decide +kernel
theorem dX8_gcd_0 : decode cX8_gcd 0 = .ok (.lload_n 0, 1) := by decide +kernel
theorem dX8_gcd_1 : decode cX8_gcd 1 = .ok (.lconst 0, 1) := by decide +kernel
theorem dX8_gcd_2 : decode cX8_gcd 2 = .ok (.lcmp, 1) := by decide +kernel
theorem dX8_gcd_3 : decode cX8_gcd 3 = .ok (.ifCond .ge 8, 3) := by decide +kernel
theorem dX8_gcd_6 : decode cX8_gcd 6 = .ok (.lload_n 0, 1) := by decide +kernel
theorem dX8_gcd_7 : decode cX8_gcd 7 = .ok (.lneg, 1) := by decide +kernel
theorem dX8_gcd_8 : decode cX8_gcd 8 = .ok (.goto 4, 3) := by decide +kernel
theorem dX8_gcd_11 : decode cX8_gcd 11 = .ok (.lload_n 0, 1) := by decide +kernel
theorem dX8_gcd_12 : decode cX8_gcd 12 = .ok (.lstore 4, 2) := by decide +kernel
theorem dX8_gcd_14 : decode cX8_gcd 14 = .ok (.lload_n 2, 1) := by decide +kernel
theorem dX8_gcd_15 : decode cX8_gcd 15 = .ok (.lstore 6, 2) := by decide +kernel
theorem dX8_gcd_17 : decode cX8_gcd 17 = .ok (.lload 6, 2) := by decide +kernel
theorem dX8_gcd_19 : decode cX8_gcd 19 = .ok (.lconst 0, 1) := by decide +kernel
theorem dX8_gcd_20 : decode cX8_gcd 20 = .ok (.lcmp, 1) := by decide +kernel
theorem dX8_gcd_21 : decode cX8_gcd 21 = .ok (.ifCond .eq 21, 3) := by decide +kernel
theorem dX8_gcd_24 : decode cX8_gcd 24 = .ok (.lload 4, 2) := by decide +kernel
theorem dX8_gcd_26 : decode cX8_gcd 26 = .ok (.lload 6, 2) := by decide +kernel
theorem dX8_gcd_28 : decode cX8_gcd 28 = .ok (.lrem, 1) := by decide +kernel
theorem dX8_gcd_29 : decode cX8_gcd 29 = .ok (.lstore 8, 2) := by decide +kernel
theorem dX8_gcd_31 : decode cX8_gcd 31 = .ok (.lload 6, 2) := by decide +kernel
theorem dX8_gcd_33 : decode cX8_gcd 33 = .ok (.lstore 4, 2) := by decide +kernel
theorem dX8_gcd_35 : decode cX8_gcd 35 = .ok (.lload 8, 2) := by decide +kernel
theorem dX8_gcd_37 : decode cX8_gcd 37 = .ok (.lstore 6, 2) := by decide +kernel
theorem dX8_gcd_39 : decode cX8_gcd 39 = .ok (.goto (-22), 3) := by decide +kernel
theorem dX8_gcd_42 : decode cX8_gcd 42 = .ok (.lload 4, 2) := by decide +kernel
theorem dX8_gcd_44 : decode cX8_gcd 44 = .ok (.lreturn, 1) := by decide +kernel
theorem dX8_part_0 : decode cX8_part 0 = .ok (.lload_n 0, 1) := by decide +kernel
theorem dX8_part_1 : decode cX8_part 1 = .ok (.lload_n 2, 1) := by decide +kernel
theorem dX8_part_2 : decode cX8_part 2 = .ok (.invokestatic 208, 3) := by decide +kernel
theorem dX8_part_5 : decode cX8_part 5 = .ok (.lstore 5, 2) := by decide +kernel
theorem dX8_part_7 : decode cX8_part 7 = .ok (.iload 4, 2) := by decide +kernel
theorem dX8_part_9 : decode cX8_part 9 = .ok (.ifCond .ne 10, 3) := by decide +kernel
theorem dX8_part_12 : decode cX8_part 12 = .ok (.lload_n 0, 1) := by decide +kernel
theorem dX8_part_13 : decode cX8_part 13 = .ok (.lload 5, 2) := by decide +kernel
theorem dX8_part_15 : decode cX8_part 15 = .ok (.ldiv, 1) := by decide +kernel
theorem dX8_part_16 : decode cX8_part 16 = .ok (.goto 7, 3) := by decide +kernel
theorem dX8_part_19 : decode cX8_part 19 = .ok (.lload_n 2, 1) := by decide +kernel
theorem dX8_part_20 : decode cX8_part 20 = .ok (.lload 5, 2) := by decide +kernel
theorem dX8_part_22 : decode cX8_part 22 = .ok (.ldiv, 1) := by decide +kernel
theorem dX8_part_23 : decode cX8_part 23 = .ok (.lreturn, 1) := by decide +kernel
theorem dX8_weight_0 : decode cX8_weight 0 = .ok (.lconst 1, 1) := by decide +kernel
theorem dX8_weight_1 : decode cX8_weight 1 = .ok (.lstore 5, 2) := by decide +kernel
theorem dX8_weight_3 : decode cX8_weight 3 = .ok (.iconst 0, 1) := by decide +kernel
theorem dX8_weight_4 : decode cX8_weight 4 = .ok (.istore 7, 2) := by decide +kernel
theorem dX8_weight_6 : decode cX8_weight 6 = .ok (.iload 7, 2) := by decide +kernel
theorem dX8_weight_8 : decode cX8_weight 8 = .ok (.aload_n 0, 1) := by decide +kernel
theorem dX8_weight_9 : decode cX8_weight 9 = .ok (.getfield 141, 3) := by decide +kernel
theorem dX8_weight_12 : decode cX8_weight 12 = .ok (.if_icmp .ge 66, 3) := by decide +kernel
theorem dX8_weight_15 : decode cX8_weight 15 = .ok (.aload_n 0, 1) := by decide +kernel
theorem dX8_weight_16 : decode cX8_weight 16 = .ok (.getfield 7, 3) := by decide +kernel
theorem dX8_weight_19 : decode cX8_weight 19 = .ok (.iload 7, 2) := by decide +kernel
theorem dX8_weight_21 : decode cX8_weight 21 = .ok (.iload 4, 2) := by decide +kernel
theorem dX8_weight_23 : decode cX8_weight 23 = .ok (.iload_n 3, 1) := by decide +kernel
theorem dX8_weight_24 : decode cX8_weight 24 = .ok (.invokestatic 162, 3) := by decide +kernel
theorem dX8_weight_27 : decode cX8_weight 27 = .ok (.iaload, 1) := by decide +kernel
theorem dX8_weight_28 : decode cX8_weight 28 = .ok (.istore 8, 2) := by decide +kernel
theorem dX8_weight_30 : decode cX8_weight 30 = .ok (.lload 5, 2) := by decide +kernel
theorem dX8_weight_32 : decode cX8_weight 32 = .ok (.iload_n 1, 1) := by decide +kernel
theorem dX8_weight_33 : decode cX8_weight 33 = .ok (.iload 7, 2) := by decide +kernel
theorem dX8_weight_35 : decode cX8_weight 35 = .ok (.ishr, 1) := by decide +kernel
theorem dX8_weight_36 : decode cX8_weight 36 = .ok (.iconst 1, 1) := by decide +kernel
theorem dX8_weight_37 : decode cX8_weight 37 = .ok (.iand, 1) := by decide +kernel
theorem dX8_weight_38 : decode cX8_weight 38 = .ok (.iconst 1, 1) := by decide +kernel
theorem dX8_weight_39 : decode cX8_weight 39 = .ok (.if_icmp .ne 9, 3) := by decide +kernel
theorem dX8_weight_42 : decode cX8_weight 42 = .ok (.iload 8, 2) := by decide +kernel
theorem dX8_weight_44 : decode cX8_weight 44 = .ok (.i2l, 1) := by decide +kernel
theorem dX8_weight_45 : decode cX8_weight 45 = .ok (.goto 24, 3) := by decide +kernel
theorem dX8_weight_48 : decode cX8_weight 48 = .ok (.iload_n 2, 1) := by decide +kernel
theorem dX8_weight_49 : decode cX8_weight 49 = .ok (.iload 7, 2) := by decide +kernel
theorem dX8_weight_51 : decode cX8_weight 51 = .ok (.ishr, 1) := by decide +kernel
theorem dX8_weight_52 : decode cX8_weight 52 = .ok (.iconst 1, 1) := by decide +kernel
theorem dX8_weight_53 : decode cX8_weight 53 = .ok (.iand, 1) := by decide +kernel
theorem dX8_weight_54 : decode cX8_weight 54 = .ok (.iconst 1, 1) := by decide +kernel
theorem dX8_weight_55 : decode cX8_weight 55 = .ok (.if_icmp .ne 13, 3) := by decide +kernel
theorem dX8_weight_58 : decode cX8_weight 58 = .ok (.sipush 1000, 3) := by decide +kernel
theorem dX8_weight_61 : decode cX8_weight 61 = .ok (.iload 8, 2) := by decide +kernel
theorem dX8_weight_63 : decode cX8_weight 63 = .ok (.isub, 1) := by decide +kernel
theorem dX8_weight_64 : decode cX8_weight 64 = .ok (.i2l, 1) := by decide +kernel
theorem dX8_weight_65 : decode cX8_weight 65 = .ok (.goto 4, 3) := by decide +kernel
theorem dX8_weight_68 : decode cX8_weight 68 = .ok (.lconst 1, 1) := by decide +kernel
theorem dX8_weight_69 : decode cX8_weight 69 = .ok (.lmul, 1) := by decide +kernel
theorem dX8_weight_70 : decode cX8_weight 70 = .ok (.lstore 5, 2) := by decide +kernel
theorem dX8_weight_72 : decode cX8_weight 72 = .ok (.iinc 7 1, 3) := by decide +kernel
theorem dX8_weight_75 : decode cX8_weight 75 = .ok (.goto (-69), 3) := by decide +kernel
theorem dX8_weight_78 : decode cX8_weight 78 = .ok (.lload 5, 2) := by decide +kernel
theorem dX8_weight_80 : decode cX8_weight 80 = .ok (.lreturn, 1) := by decide +kernel
theorem dX8_weights_0 : decode cX8_weights 0 = .ok (.lconst 0, 1) := by decide +kernel
theorem dX8_weights_1 : decode cX8_weights 1 = .ok (.lstore 5, 2) := by decide +kernel
theorem dX8_weights_3 : decode cX8_weights 3 = .ok (.iconst 0, 1) := by decide +kernel
theorem dX8_weights_4 : decode cX8_weights 4 = .ok (.istore 7, 2) := by decide +kernel
theorem dX8_weights_6 : decode cX8_weights 6 = .ok (.iload 7, 2) := by decide +kernel
theorem dX8_weights_8 : decode cX8_weights 8 = .ok (.aload_n 0, 1) := by decide +kernel
theorem dX8_weights_9 : decode cX8_weights 9 = .ok (.getfield 138, 3) := by decide +kernel
theorem dX8_weights_12 : decode cX8_weights 12 = .ok (.if_icmp .ge 40, 3) := by decide +kernel
theorem dX8_weights_15 : decode cX8_weights 15 = .ok (.iload_n 3, 1) := by decide +kernel
theorem dX8_weights_16 : decode cX8_weights 16 = .ok (.istore 8, 2) := by decide +kernel
theorem dX8_weights_18 : decode cX8_weights 18 = .ok (.iload 8, 2) := by decide +kernel
theorem dX8_weights_20 : decode cX8_weights 20 = .ok (.iload 4, 2) := by decide +kernel
theorem dX8_weights_22 : decode cX8_weights 22 = .ok (.if_icmp .gt 24, 3) := by decide +kernel
theorem dX8_weights_25 : decode cX8_weights 25 = .ok (.lload 5, 2) := by decide +kernel
theorem dX8_weights_27 : decode cX8_weights 27 = .ok (.aload_n 0, 1) := by decide +kernel
theorem dX8_weights_28 : decode cX8_weights 28 = .ok (.iload_n 1, 1) := by decide +kernel
theorem dX8_weights_29 : decode cX8_weights 29 = .ok (.iload_n 2, 1) := by decide +kernel
theorem dX8_weights_30 : decode cX8_weights 30 = .ok (.iload 8, 2) := by decide +kernel
theorem dX8_weights_32 : decode cX8_weights 32 = .ok (.iload 7, 2) := by decide +kernel
theorem dX8_weights_34 : decode cX8_weights 34 = .ok (.invokevirtual 212, 3) := by decide +kernel
theorem dX8_weights_37 : decode cX8_weights 37 = .ok (.ladd, 1) := by decide +kernel
theorem dX8_weights_38 : decode cX8_weights 38 = .ok (.lstore 5, 2) := by decide +kernel
theorem dX8_weights_40 : decode cX8_weights 40 = .ok (.iinc 8 1, 3) := by decide +kernel
theorem dX8_weights_43 : decode cX8_weights 43 = .ok (.goto (-25), 3) := by decide +kernel
theorem dX8_weights_46 : decode cX8_weights 46 = .ok (.iinc 7 1, 3) := by decide +kernel
theorem dX8_weights_49 : decode cX8_weights 49 = .ok (.goto (-43), 3) := by decide +kernel
theorem dX8_weights_52 : decode cX8_weights 52 = .ok (.lload 5, 2) := by decide +kernel
theorem dX8_weights_54 : decode cX8_weights 54 = .ok (.lreturn, 1) := by decide +kernel
theorem dX8_old_0 : decode cX8_old 0 = .ok (.aload_n 0, 1) := by decide +kernel
theorem dX8_old_1 : decode cX8_old 1 = .ok (.iconst 0, 1) := by decide +kernel
theorem dX8_old_2 : decode cX8_old 2 = .ok (.putfield 56, 3) := by decide +kernel
theorem dX8_old_5 : decode cX8_old 5 = .ok (.iload_n 3, 1) := by decide +kernel
theorem dX8_old_6 : decode cX8_old 6 = .ok (.invokestatic 190, 3) := by decide +kernel
theorem dX8_old_9 : decode cX8_old 9 = .ok (.ifCond .eq 24, 3) := by decide +kernel
theorem dX8_old_12 : decode cX8_old 12 = .ok (.iload 4, 2) := by decide +kernel
theorem dX8_old_14 : decode cX8_old 14 = .ok (.iload_n 3, 1) := by decide +kernel
theorem dX8_old_15 : decode cX8_old 15 = .ok (.bipush 69, 2) := by decide +kernel
theorem dX8_old_17 : decode cX8_old 17 = .ok (.invokestatic 60, 3) := by decide +kernel
theorem dX8_old_20 : decode cX8_old 20 = .ok (.ifCond .eq 13, 3) := by decide +kernel
theorem dX8_old_23 : decode cX8_old 23 = .ok (.iload 5, 2) := by decide +kernel
theorem dX8_old_25 : decode cX8_old 25 = .ok (.iconst 0, 1) := by decide +kernel
theorem dX8_old_26 : decode cX8_old 26 = .ok (.iconst 1, 1) := by decide +kernel
theorem dX8_old_27 : decode cX8_old 27 = .ok (.invokestatic 60, 3) := by decide +kernel
theorem dX8_old_30 : decode cX8_old 30 = .ok (.ifCond .ne 7, 3) := by decide +kernel
theorem dX8_old_33 : decode cX8_old 33 = .ok (.ldc2_w 216, 3) := by decide +kernel
theorem dX8_old_36 : decode cX8_old 36 = .ok (.lreturn, 1) := by decide +kernel
theorem dX8_old_37 : decode cX8_old 37 = .ok (.aload_n 0, 1) := by decide +kernel
theorem dX8_old_38 : decode cX8_old 38 = .ok (.iload_n 1, 1) := by decide +kernel
theorem dX8_old_39 : decode cX8_old 39 = .ok (.iload_n 2, 1) := by decide +kernel
theorem dX8_old_40 : decode cX8_old 40 = .ok (.bipush 10, 2) := by decide +kernel
theorem dX8_old_42 : decode cX8_old 42 = .ok (.bipush 69, 2) := by decide +kernel
theorem dX8_old_44 : decode cX8_old 44 = .ok (.invokevirtual 218, 3) := by decide +kernel
theorem dX8_old_47 : decode cX8_old 47 = .ok (.lstore 6, 2) := by decide +kernel
theorem dX8_old_49 : decode cX8_old 49 = .ok (.lload 6, 2) := by decide +kernel
theorem dX8_old_51 : decode cX8_old 51 = .ok (.lconst 0, 1) := by decide +kernel
theorem dX8_old_52 : decode cX8_old 52 = .ok (.lcmp, 1) := by decide +kernel
theorem dX8_old_53 : decode cX8_old 53 = .ok (.ifCond .ne 9, 3) := by decide +kernel
theorem dX8_old_56 : decode cX8_old 56 = .ok (.ldc2_w 221, 3) := by decide +kernel
theorem dX8_old_59 : decode cX8_old 59 = .ok (.goto 19, 3) := by decide +kernel
theorem dX8_old_62 : decode cX8_old 62 = .ok (.aload_n 0, 1) := by decide +kernel
theorem dX8_old_63 : decode cX8_old 63 = .ok (.iload_n 1, 1) := by decide +kernel
theorem dX8_old_64 : decode cX8_old 64 = .ok (.iload_n 2, 1) := by decide +kernel
theorem dX8_old_65 : decode cX8_old 65 = .ok (.iload_n 3, 1) := by decide +kernel
theorem dX8_old_66 : decode cX8_old 66 = .ok (.iload 4, 2) := by decide +kernel
theorem dX8_old_68 : decode cX8_old 68 = .ok (.invokevirtual 218, 3) := by decide +kernel
theorem dX8_old_71 : decode cX8_old 71 = .ok (.lload 6, 2) := by decide +kernel
theorem dX8_old_73 : decode cX8_old 73 = .ok (.iload 5, 2) := by decide +kernel
theorem dX8_old_75 : decode cX8_old 75 = .ok (.invokestatic 223, 3) := by decide +kernel
theorem dX8_old_78 : decode cX8_old 78 = .ok (.lreturn, 1) := by decide +kernel
theorem dX8_likeliest_0 : decode cX8_likeliest 0 = .ok (.aload_n 0, 1) := by decide +kernel
theorem dX8_likeliest_1 : decode cX8_likeliest 1 = .ok (.iconst 0, 1) := by decide +kernel
theorem dX8_likeliest_2 : decode cX8_likeliest 2 = .ok (.putfield 56, 3) := by decide +kernel
theorem dX8_likeliest_5 : decode cX8_likeliest 5 = .ok (.iload_n 3, 1) := by decide +kernel
theorem dX8_likeliest_6 : decode cX8_likeliest 6 = .ok (.iconst 0, 1) := by decide +kernel
theorem dX8_likeliest_7 : decode cX8_likeliest 7 = .ok (.iconst 1, 1) := by decide +kernel
theorem dX8_likeliest_8 : decode cX8_likeliest 8 = .ok (.invokestatic 60, 3) := by decide +kernel
theorem dX8_likeliest_11 : decode cX8_likeliest 11 = .ok (.ifCond .ne 5, 3) := by decide +kernel
theorem dX8_likeliest_14 : decode cX8_likeliest 14 = .ok (.iconst (-1), 1) := by decide +kernel
theorem dX8_likeliest_15 : decode cX8_likeliest 15 = .ok (.ireturn, 1) := by decide +kernel
theorem dX8_likeliest_16 : decode cX8_likeliest 16 = .ok (.bipush (-9), 2) := by decide +kernel
theorem dX8_likeliest_18 : decode cX8_likeliest 18 = .ok (.istore 4, 2) := by decide +kernel
theorem dX8_likeliest_20 : decode cX8_likeliest 20 = .ok (.bipush (-9), 2) := by decide +kernel
theorem dX8_likeliest_22 : decode cX8_likeliest 22 = .ok (.istore 5, 2) := by decide +kernel
theorem dX8_likeliest_24 : decode cX8_likeliest 24 = .ok (.lconst 0, 1) := by decide +kernel
theorem dX8_likeliest_25 : decode cX8_likeliest 25 = .ok (.lstore 6, 2) := by decide +kernel
theorem dX8_likeliest_27 : decode cX8_likeliest 27 = .ok (.bipush 10, 2) := by decide +kernel
theorem dX8_likeliest_29 : decode cX8_likeliest 29 = .ok (.istore 8, 2) := by decide +kernel
theorem dX8_likeliest_31 : decode cX8_likeliest 31 = .ok (.iload 8, 2) := by decide +kernel
theorem dX8_likeliest_33 : decode cX8_likeliest 33 = .ok (.bipush 70, 2) := by decide +kernel
theorem dX8_likeliest_35 : decode cX8_likeliest 35 = .ok (.if_icmp .ge 59, 3) := by decide +kernel
theorem dX8_likeliest_38 : decode cX8_likeliest 38 = .ok (.iconst 0, 1) := by decide +kernel
theorem dX8_likeliest_39 : decode cX8_likeliest 39 = .ok (.istore 9, 2) := by decide +kernel
theorem dX8_likeliest_41 : decode cX8_likeliest 41 = .ok (.iload 9, 2) := by decide +kernel
theorem dX8_likeliest_43 : decode cX8_likeliest 43 = .ok (.aload_n 0, 1) := by decide +kernel
theorem dX8_likeliest_44 : decode cX8_likeliest 44 = .ok (.getfield 138, 3) := by decide +kernel
theorem dX8_likeliest_47 : decode cX8_likeliest 47 = .ok (.if_icmp .ge 41, 3) := by decide +kernel
theorem dX8_likeliest_50 : decode cX8_likeliest 50 = .ok (.aload_n 0, 1) := by decide +kernel
theorem dX8_likeliest_51 : decode cX8_likeliest 51 = .ok (.iload_n 1, 1) := by decide +kernel
theorem dX8_likeliest_52 : decode cX8_likeliest 52 = .ok (.iload_n 2, 1) := by decide +kernel
theorem dX8_likeliest_53 : decode cX8_likeliest 53 = .ok (.iload 8, 2) := by decide +kernel
theorem dX8_likeliest_55 : decode cX8_likeliest 55 = .ok (.iload 9, 2) := by decide +kernel
theorem dX8_likeliest_57 : decode cX8_likeliest 57 = .ok (.invokevirtual 212, 3) := by decide +kernel
theorem dX8_likeliest_60 : decode cX8_likeliest 60 = .ok (.lstore 10, 2) := by decide +kernel
theorem dX8_likeliest_62 : decode cX8_likeliest 62 = .ok (.lload 10, 2) := by decide +kernel
theorem dX8_likeliest_64 : decode cX8_likeliest 64 = .ok (.lload 6, 2) := by decide +kernel
theorem dX8_likeliest_66 : decode cX8_likeliest 66 = .ok (.lcmp, 1) := by decide +kernel
theorem dX8_likeliest_67 : decode cX8_likeliest 67 = .ok (.ifCond .le 15, 3) := by decide +kernel
theorem dX8_likeliest_70 : decode cX8_likeliest 70 = .ok (.lload 10, 2) := by decide +kernel
theorem dX8_likeliest_72 : decode cX8_likeliest 72 = .ok (.lstore 6, 2) := by decide +kernel
theorem dX8_likeliest_74 : decode cX8_likeliest 74 = .ok (.iload 8, 2) := by decide +kernel
theorem dX8_likeliest_76 : decode cX8_likeliest 76 = .ok (.istore 4, 2) := by decide +kernel
theorem dX8_likeliest_78 : decode cX8_likeliest 78 = .ok (.iload 9, 2) := by decide +kernel
theorem dX8_likeliest_80 : decode cX8_likeliest 80 = .ok (.istore 5, 2) := by decide +kernel
theorem dX8_likeliest_82 : decode cX8_likeliest 82 = .ok (.iinc 9 1, 3) := by decide +kernel
theorem dX8_likeliest_85 : decode cX8_likeliest 85 = .ok (.goto (-44), 3) := by decide +kernel
theorem dX8_likeliest_88 : decode cX8_likeliest 88 = .ok (.iinc 8 1, 3) := by decide +kernel
theorem dX8_likeliest_91 : decode cX8_likeliest 91 = .ok (.goto (-60), 3) := by decide +kernel
theorem dX8_likeliest_94 : decode cX8_likeliest 94 = .ok (.iload 4, 2) := by decide +kernel
theorem dX8_likeliest_96 : decode cX8_likeliest 96 = .ok (.bipush (-9), 2) := by decide +kernel
theorem dX8_likeliest_98 : decode cX8_likeliest 98 = .ok (.if_icmp .ne 8, 3) := by decide +kernel
theorem dX8_likeliest_101 : decode cX8_likeliest 101 = .ok (.bipush (-2), 2) := by decide +kernel
theorem dX8_likeliest_103 : decode cX8_likeliest 103 = .ok (.goto 14, 3) := by decide +kernel
theorem dX8_likeliest_106 : decode cX8_likeliest 106 = .ok (.iload_n 3, 1) := by decide +kernel
theorem dX8_likeliest_107 : decode cX8_likeliest 107 = .ok (.ifCond .ne 8, 3) := by decide +kernel
theorem dX8_likeliest_110 : decode cX8_likeliest 110 = .ok (.iload 4, 2) := by decide +kernel
theorem dX8_likeliest_112 : decode cX8_likeliest 112 = .ok (.goto 5, 3) := by decide +kernel
theorem dX8_likeliest_115 : decode cX8_likeliest 115 = .ok (.iload 5, 2) := by decide +kernel
theorem dX8_likeliest_117 : decode cX8_likeliest 117 = .ok (.ireturn, 1) := by decide +kernel
theorem dX8_letter_0 : decode cX8_letter 0 = .ok (.aload_n 0, 1) := by decide +kernel
theorem dX8_letter_1 : decode cX8_letter 1 = .ok (.iconst 0, 1) := by decide +kernel
theorem dX8_letter_2 : decode cX8_letter 2 = .ok (.putfield 56, 3) := by decide +kernel
theorem dX8_letter_5 : decode cX8_letter 5 = .ok (.iload_n 2, 1) := by decide +kernel
theorem dX8_letter_6 : decode cX8_letter 6 = .ok (.iconst 0, 1) := by decide +kernel
theorem dX8_letter_7 : decode cX8_letter 7 = .ok (.aload_n 0, 1) := by decide +kernel
theorem dX8_letter_8 : decode cX8_letter 8 = .ok (.getfield 7, 3) := by decide +kernel
theorem dX8_letter_11 : decode cX8_letter 11 = .ok (.iconst 0, 1) := by decide +kernel
theorem dX8_letter_12 : decode cX8_letter 12 = .ok (.iaload, 1) := by decide +kernel
theorem dX8_letter_13 : decode cX8_letter 13 = .ok (.invokestatic 60, 3) := by decide +kernel
theorem dX8_letter_16 : decode cX8_letter 16 = .ok (.ifCond .eq 19, 3) := by decide +kernel
theorem dX8_letter_19 : decode cX8_letter 19 = .ok (.iload_n 3, 1) := by decide +kernel
theorem dX8_letter_20 : decode cX8_letter 20 = .ok (.invokestatic 190, 3) := by decide +kernel
theorem dX8_letter_23 : decode cX8_letter 23 = .ok (.ifCond .eq 12, 3) := by decide +kernel
theorem dX8_letter_26 : decode cX8_letter 26 = .ok (.aload_n 0, 1) := by decide +kernel
theorem dX8_letter_27 : decode cX8_letter 27 = .ok (.iload 4, 2) := by decide +kernel
theorem dX8_letter_29 : decode cX8_letter 29 = .ok (.invokevirtual 153, 3) := by decide +kernel
theorem dX8_letter_32 : decode cX8_letter 32 = .ok (.ifCond .ne 5, 3) := by decide +kernel
theorem dX8_letter_35 : decode cX8_letter 35 = .ok (.iconst (-1), 1) := by decide +kernel
theorem dX8_letter_36 : decode cX8_letter 36 = .ok (.ireturn, 1) := by decide +kernel
theorem dX8_letter_37 : decode cX8_letter 37 = .ok (.aload_n 0, 1) := by decide +kernel
theorem dX8_letter_38 : decode cX8_letter 38 = .ok (.getfield 35, 3) := by decide +kernel
theorem dX8_letter_41 : decode cX8_letter 41 = .ok (.iconst 0, 1) := by decide +kernel
theorem dX8_letter_42 : decode cX8_letter 42 = .ok (.iload_n 1, 1) := by decide +kernel
theorem dX8_letter_43 : decode cX8_letter 43 = .ok (.iconst 1, 1) := by decide +kernel
theorem dX8_letter_44 : decode cX8_letter 44 = .ok (.aload_n 0, 1) := by decide +kernel
theorem dX8_letter_45 : decode cX8_letter 45 = .ok (.getfield 141, 3) := by decide +kernel
theorem dX8_letter_48 : decode cX8_letter 48 = .ok (.ishl, 1) := by decide +kernel
theorem dX8_letter_49 : decode cX8_letter 49 = .ok (.iconst 1, 1) := by decide +kernel
theorem dX8_letter_50 : decode cX8_letter 50 = .ok (.isub, 1) := by decide +kernel
theorem dX8_letter_51 : decode cX8_letter 51 = .ok (.iand, 1) := by decide +kernel
theorem dX8_letter_52 : decode cX8_letter 52 = .ok (.iastore, 1) := by decide +kernel
theorem dX8_letter_53 : decode cX8_letter 53 = .ok (.aload_n 0, 1) := by decide +kernel
theorem dX8_letter_54 : decode cX8_letter 54 = .ok (.getfield 35, 3) := by decide +kernel
theorem dX8_letter_57 : decode cX8_letter 57 = .ok (.iconst 1, 1) := by decide +kernel
theorem dX8_letter_58 : decode cX8_letter 58 = .ok (.iload_n 2, 1) := by decide +kernel
theorem dX8_letter_59 : decode cX8_letter 59 = .ok (.iastore, 1) := by decide +kernel
theorem dX8_letter_60 : decode cX8_letter 60 = .ok (.aload_n 0, 1) := by decide +kernel
theorem dX8_letter_61 : decode cX8_letter 61 = .ok (.getfield 35, 3) := by decide +kernel
theorem dX8_letter_64 : decode cX8_letter 64 = .ok (.iconst 2, 1) := by decide +kernel
theorem dX8_letter_65 : decode cX8_letter 65 = .ok (.iload_n 3, 1) := by decide +kernel
theorem dX8_letter_66 : decode cX8_letter 66 = .ok (.iastore, 1) := by decide +kernel
theorem dX8_letter_67 : decode cX8_letter 67 = .ok (.aload_n 0, 1) := by decide +kernel
theorem dX8_letter_68 : decode cX8_letter 68 = .ok (.getfield 35, 3) := by decide +kernel
theorem dX8_letter_71 : decode cX8_letter 71 = .ok (.iconst 3, 1) := by decide +kernel
theorem dX8_letter_72 : decode cX8_letter 72 = .ok (.iload 4, 2) := by decide +kernel
theorem dX8_letter_74 : decode cX8_letter 74 = .ok (.iastore, 1) := by decide +kernel
theorem dX8_letter_75 : decode cX8_letter 75 = .ok (.aload_n 0, 1) := by decide +kernel
theorem dX8_letter_76 : decode cX8_letter 76 = .ok (.iconst 1, 1) := by decide +kernel
theorem dX8_letter_77 : decode cX8_letter 77 = .ok (.putfield 144, 3) := by decide +kernel
theorem dX8_letter_80 : decode cX8_letter 80 = .ok (.iconst 0, 1) := by decide +kernel
theorem dX8_letter_81 : decode cX8_letter 81 = .ok (.istore 5, 2) := by decide +kernel
theorem dX8_letter_83 : decode cX8_letter 83 = .ok (.iconst 0, 1) := by decide +kernel
theorem dX8_letter_84 : decode cX8_letter 84 = .ok (.istore 6, 2) := by decide +kernel
theorem dX8_letter_86 : decode cX8_letter 86 = .ok (.iload 6, 2) := by decide +kernel
theorem dX8_letter_88 : decode cX8_letter 88 = .ok (.aload_n 0, 1) := by decide +kernel
theorem dX8_letter_89 : decode cX8_letter 89 = .ok (.getfield 141, 3) := by decide +kernel
theorem dX8_letter_92 : decode cX8_letter 92 = .ok (.if_icmp .ge 25, 3) := by decide +kernel
theorem dX8_letter_95 : decode cX8_letter 95 = .ok (.iload 5, 2) := by decide +kernel
theorem dX8_letter_97 : decode cX8_letter 97 = .ok (.aload_n 0, 1) := by decide +kernel
theorem dX8_letter_98 : decode cX8_letter 98 = .ok (.getfield 35, 3) := by decide +kernel
theorem dX8_letter_101 : decode cX8_letter 101 = .ok (.iconst 0, 1) := by decide +kernel
theorem dX8_letter_102 : decode cX8_letter 102 = .ok (.iaload, 1) := by decide +kernel
theorem dX8_letter_103 : decode cX8_letter 103 = .ok (.iload 6, 2) := by decide +kernel
theorem dX8_letter_105 : decode cX8_letter 105 = .ok (.ishr, 1) := by decide +kernel
theorem dX8_letter_106 : decode cX8_letter 106 = .ok (.iconst 1, 1) := by decide +kernel
theorem dX8_letter_107 : decode cX8_letter 107 = .ok (.iand, 1) := by decide +kernel
theorem dX8_letter_108 : decode cX8_letter 108 = .ok (.iadd, 1) := by decide +kernel
theorem dX8_letter_109 : decode cX8_letter 109 = .ok (.istore 5, 2) := by decide +kernel
theorem dX8_letter_111 : decode cX8_letter 111 = .ok (.iinc 6 1, 3) := by decide +kernel
theorem dX8_letter_114 : decode cX8_letter 114 = .ok (.goto (-28), 3) := by decide +kernel
theorem dX8_letter_117 : decode cX8_letter 117 = .ok (.iload 5, 2) := by decide +kernel
theorem dX8_letter_119 : decode cX8_letter 119 = .ok (.ireturn, 1) := by decide +kernel
theorem dX8_aside_0 : decode cX8_aside 0 = .ok (.iconst 0, 1) := by decide +kernel
theorem dX8_aside_1 : decode cX8_aside 1 = .ok (.istore_n 2, 1) := by decide +kernel
theorem dX8_aside_2 : decode cX8_aside 2 = .ok (.iload_n 2, 1) := by decide +kernel
theorem dX8_aside_3 : decode cX8_aside 3 = .ok (.sipush 2950, 3) := by decide +kernel
theorem dX8_aside_6 : decode cX8_aside 6 = .ok (.if_icmp .ge 40, 3) := by decide +kernel
theorem dX8_aside_9 : decode cX8_aside 9 = .ok (.iload_n 1, 1) := by decide +kernel
theorem dX8_aside_10 : decode cX8_aside 10 = .ok (.ifCond .eq 18, 3) := by decide +kernel
theorem dX8_aside_13 : decode cX8_aside 13 = .ok (.aload_n 0, 1) := by decide +kernel
theorem dX8_aside_14 : decode cX8_aside 14 = .ok (.getfield 13, 3) := by decide +kernel
theorem dX8_aside_17 : decode cX8_aside 17 = .ok (.iload_n 2, 1) := by decide +kernel
theorem dX8_aside_18 : decode cX8_aside 18 = .ok (.aload_n 0, 1) := by decide +kernel
theorem dX8_aside_19 : decode cX8_aside 19 = .ok (.getfield 7, 3) := by decide +kernel
theorem dX8_aside_22 : decode cX8_aside 22 = .ok (.iload_n 2, 1) := by decide +kernel
theorem dX8_aside_23 : decode cX8_aside 23 = .ok (.iaload, 1) := by decide +kernel
theorem dX8_aside_24 : decode cX8_aside 24 = .ok (.iastore, 1) := by decide +kernel
theorem dX8_aside_25 : decode cX8_aside 25 = .ok (.goto 15, 3) := by decide +kernel
theorem dX8_aside_28 : decode cX8_aside 28 = .ok (.aload_n 0, 1) := by decide +kernel
theorem dX8_aside_29 : decode cX8_aside 29 = .ok (.getfield 7, 3) := by decide +kernel
theorem dX8_aside_32 : decode cX8_aside 32 = .ok (.iload_n 2, 1) := by decide +kernel
theorem dX8_aside_33 : decode cX8_aside 33 = .ok (.aload_n 0, 1) := by decide +kernel
theorem dX8_aside_34 : decode cX8_aside 34 = .ok (.getfield 13, 3) := by decide +kernel
theorem dX8_aside_37 : decode cX8_aside 37 = .ok (.iload_n 2, 1) := by decide +kernel
theorem dX8_aside_38 : decode cX8_aside 38 = .ok (.iaload, 1) := by decide +kernel
theorem dX8_aside_39 : decode cX8_aside 39 = .ok (.iastore, 1) := by decide +kernel
theorem dX8_aside_40 : decode cX8_aside 40 = .ok (.iinc 2 1, 3) := by decide +kernel
theorem dX8_aside_43 : decode cX8_aside 43 = .ok (.goto (-41), 3) := by decide +kernel
theorem dX8_aside_46 : decode cX8_aside 46 = .ok (.return_, 1) := by decide +kernel
theorem dX8_goesTo_0 : decode cX8_goesTo 0 = .ok (.aload_n 0, 1) := by decide +kernel
theorem dX8_goesTo_1 : decode cX8_goesTo 1 = .ok (.invokevirtual 150, 3) := by decide +kernel
theorem dX8_goesTo_4 : decode cX8_goesTo 4 = .ok (.aload_n 0, 1) := by decide +kernel
theorem dX8_goesTo_5 : decode cX8_goesTo 5 = .ok (.getfield 7, 3) := by decide +kernel
theorem dX8_goesTo_8 : decode cX8_goesTo 8 = .ok (.iconst 0, 1) := by decide +kernel
theorem dX8_goesTo_9 : decode cX8_goesTo 9 = .ok (.iaload, 1) := by decide +kernel
theorem dX8_goesTo_10 : decode cX8_goesTo 10 = .ok (.iload_n 1, 1) := by decide +kernel
theorem dX8_goesTo_11 : decode cX8_goesTo 11 = .ok (.if_icmp .ge 10, 3) := by decide +kernel
theorem dX8_goesTo_14 : decode cX8_goesTo 14 = .ok (.aload_n 0, 1) := by decide +kernel
theorem dX8_goesTo_15 : decode cX8_goesTo 15 = .ok (.invokevirtual 187, 3) := by decide +kernel
theorem dX8_goesTo_18 : decode cX8_goesTo 18 = .ok (.goto (-14), 3) := by decide +kernel
theorem dX8_goesTo_21 : decode cX8_goesTo 21 = .ok (.return_, 1) := by decide +kernel
theorem dX8_isLetterTold_0 : decode cX8_isLetterTold 0 = .ok (.aload_n 0, 1) := by decide +kernel
theorem dX8_isLetterTold_1 : decode cX8_isLetterTold 1 = .ok (.getfield 144, 3) := by decide +kernel
theorem dX8_isLetterTold_4 : decode cX8_isLetterTold 4 = .ok (.ifCond .eq 22, 3) := by decide +kernel
theorem dX8_isLetterTold_7 : decode cX8_isLetterTold 7 = .ok (.aload_n 0, 1) := by decide +kernel
theorem dX8_isLetterTold_8 : decode cX8_isLetterTold 8 = .ok (.getfield 35, 3) := by decide +kernel
theorem dX8_isLetterTold_11 : decode cX8_isLetterTold 11 = .ok (.iconst 1, 1) := by decide +kernel
theorem dX8_isLetterTold_12 : decode cX8_isLetterTold 12 = .ok (.iaload, 1) := by decide +kernel
theorem dX8_isLetterTold_13 : decode cX8_isLetterTold 13 = .ok (.aload_n 0, 1) := by decide +kernel
theorem dX8_isLetterTold_14 : decode cX8_isLetterTold 14 = .ok (.getfield 7, 3) := by decide +kernel
theorem dX8_isLetterTold_17 : decode cX8_isLetterTold 17 = .ok (.iconst 0, 1) := by decide +kernel
theorem dX8_isLetterTold_18 : decode cX8_isLetterTold 18 = .ok (.iaload, 1) := by decide +kernel
theorem dX8_isLetterTold_19 : decode cX8_isLetterTold 19 = .ok (.if_icmp .gt 7, 3) := by decide +kernel
theorem dX8_isLetterTold_22 : decode cX8_isLetterTold 22 = .ok (.iconst 1, 1) := by decide +kernel
theorem dX8_isLetterTold_23 : decode cX8_isLetterTold 23 = .ok (.goto 4, 3) := by decide +kernel
theorem dX8_isLetterTold_26 : decode cX8_isLetterTold 26 = .ok (.iconst 0, 1) := by decide +kernel
theorem dX8_isLetterTold_27 : decode cX8_isLetterTold 27 = .ok (.ireturn, 1) := by decide +kernel
theorem dX8_could_0 : decode cX8_could 0 = .ok (.aload_n 0, 1) := by decide +kernel
theorem dX8_could_1 : decode cX8_could 1 = .ok (.iconst 0, 1) := by decide +kernel
theorem dX8_could_2 : decode cX8_could 2 = .ok (.putfield 56, 3) := by decide +kernel
theorem dX8_could_5 : decode cX8_could 5 = .ok (.aload_n 0, 1) := by decide +kernel
theorem dX8_could_6 : decode cX8_could 6 = .ok (.invokevirtual 227, 3) := by decide +kernel
theorem dX8_could_9 : decode cX8_could 9 = .ok (.ifCond .ne 6, 3) := by decide +kernel
theorem dX8_could_12 : decode cX8_could 12 = .ok (.bipush (-2), 2) := by decide +kernel
theorem dX8_could_14 : decode cX8_could 14 = .ok (.ireturn, 1) := by decide +kernel
theorem dX8_could_15 : decode cX8_could 15 = .ok (.aload_n 0, 1) := by decide +kernel
theorem dX8_could_16 : decode cX8_could 16 = .ok (.iconst 1, 1) := by decide +kernel
theorem dX8_could_17 : decode cX8_could 17 = .ok (.invokevirtual 230, 3) := by decide +kernel
theorem dX8_could_20 : decode cX8_could 20 = .ok (.aload_n 0, 1) := by decide +kernel
theorem dX8_could_21 : decode cX8_could 21 = .ok (.aload_n 0, 1) := by decide +kernel
theorem dX8_could_22 : decode cX8_could 22 = .ok (.getfield 35, 3) := by decide +kernel
theorem dX8_could_25 : decode cX8_could 25 = .ok (.iconst 1, 1) := by decide +kernel
theorem dX8_could_26 : decode cX8_could 26 = .ok (.iaload, 1) := by decide +kernel
theorem dX8_could_27 : decode cX8_could 27 = .ok (.invokevirtual 234, 3) := by decide +kernel
theorem dX8_could_30 : decode cX8_could 30 = .ok (.iconst 0, 1) := by decide +kernel
theorem dX8_could_31 : decode cX8_could 31 = .ok (.istore_n 1, 1) := by decide +kernel
theorem dX8_could_32 : decode cX8_could 32 = .ok (.iconst 0, 1) := by decide +kernel
theorem dX8_could_33 : decode cX8_could 33 = .ok (.istore_n 2, 1) := by decide +kernel
theorem dX8_could_34 : decode cX8_could 34 = .ok (.iload_n 2, 1) := by decide +kernel
theorem dX8_could_35 : decode cX8_could 35 = .ok (.aload_n 0, 1) := by decide +kernel
theorem dX8_could_36 : decode cX8_could 36 = .ok (.getfield 141, 3) := by decide +kernel
theorem dX8_could_39 : decode cX8_could 39 = .ok (.if_icmp .ge 57, 3) := by decide +kernel
theorem dX8_could_42 : decode cX8_could 42 = .ok (.iload_n 1, 1) := by decide +kernel
theorem dX8_could_43 : decode cX8_could 43 = .ok (.aload_n 0, 1) := by decide +kernel
theorem dX8_could_44 : decode cX8_could 44 = .ok (.getfield 35, 3) := by decide +kernel
theorem dX8_could_47 : decode cX8_could 47 = .ok (.iconst 0, 1) := by decide +kernel
theorem dX8_could_48 : decode cX8_could 48 = .ok (.iaload, 1) := by decide +kernel
theorem dX8_could_49 : decode cX8_could 49 = .ok (.iload_n 2, 1) := by decide +kernel
theorem dX8_could_50 : decode cX8_could 50 = .ok (.ishr, 1) := by decide +kernel
theorem dX8_could_51 : decode cX8_could 51 = .ok (.iconst 1, 1) := by decide +kernel
theorem dX8_could_52 : decode cX8_could 52 = .ok (.iand, 1) := by decide +kernel
theorem dX8_could_53 : decode cX8_could 53 = .ok (.iconst 1, 1) := by decide +kernel
theorem dX8_could_54 : decode cX8_could 54 = .ok (.if_icmp .ne 33, 3) := by decide +kernel
theorem dX8_could_57 : decode cX8_could 57 = .ok (.aload_n 0, 1) := by decide +kernel
theorem dX8_could_58 : decode cX8_could 58 = .ok (.getfield 7, 3) := by decide +kernel
theorem dX8_could_61 : decode cX8_could 61 = .ok (.iload_n 2, 1) := by decide +kernel
theorem dX8_could_62 : decode cX8_could 62 = .ok (.aload_n 0, 1) := by decide +kernel
theorem dX8_could_63 : decode cX8_could 63 = .ok (.getfield 35, 3) := by decide +kernel
theorem dX8_could_66 : decode cX8_could 66 = .ok (.iconst 3, 1) := by decide +kernel
theorem dX8_could_67 : decode cX8_could 67 = .ok (.iaload, 1) := by decide +kernel
theorem dX8_could_68 : decode cX8_could 68 = .ok (.aload_n 0, 1) := by decide +kernel
theorem dX8_could_69 : decode cX8_could 69 = .ok (.getfield 35, 3) := by decide +kernel
theorem dX8_could_72 : decode cX8_could 72 = .ok (.iconst 2, 1) := by decide +kernel
theorem dX8_could_73 : decode cX8_could 73 = .ok (.iaload, 1) := by decide +kernel
theorem dX8_could_74 : decode cX8_could 74 = .ok (.invokestatic 162, 3) := by decide +kernel
theorem dX8_could_77 : decode cX8_could 77 = .ok (.iaload, 1) := by decide +kernel
theorem dX8_could_78 : decode cX8_could 78 = .ok (.ifCond .ne 9, 3) := by decide +kernel
theorem dX8_could_81 : decode cX8_could 81 = .ok (.iconst 1, 1) := by decide +kernel
theorem dX8_could_82 : decode cX8_could 82 = .ok (.iload_n 2, 1) := by decide +kernel
theorem dX8_could_83 : decode cX8_could 83 = .ok (.ishl, 1) := by decide +kernel
theorem dX8_could_84 : decode cX8_could 84 = .ok (.goto 4, 3) := by decide +kernel
theorem dX8_could_87 : decode cX8_could 87 = .ok (.iconst 0, 1) := by decide +kernel
theorem dX8_could_88 : decode cX8_could 88 = .ok (.ior, 1) := by decide +kernel
theorem dX8_could_89 : decode cX8_could 89 = .ok (.istore_n 1, 1) := by decide +kernel
theorem dX8_could_90 : decode cX8_could 90 = .ok (.iinc 2 1, 3) := by decide +kernel
theorem dX8_could_93 : decode cX8_could 93 = .ok (.goto (-59), 3) := by decide +kernel
theorem dX8_could_96 : decode cX8_could 96 = .ok (.aload_n 0, 1) := by decide +kernel
theorem dX8_could_97 : decode cX8_could 97 = .ok (.iconst 0, 1) := by decide +kernel
theorem dX8_could_98 : decode cX8_could 98 = .ok (.invokevirtual 230, 3) := by decide +kernel
theorem dX8_could_101 : decode cX8_could 101 = .ok (.iload_n 1, 1) := by decide +kernel
theorem dX8_could_102 : decode cX8_could 102 = .ok (.ireturn, 1) := by decide +kernel
theorem dX8_forged_0 : decode cX8_forged 0 = .ok (.aload_n 0, 1) := by decide +kernel
theorem dX8_forged_1 : decode cX8_forged 1 = .ok (.iconst 0, 1) := by decide +kernel
theorem dX8_forged_2 : decode cX8_forged 2 = .ok (.putfield 56, 3) := by decide +kernel
theorem dX8_forged_5 : decode cX8_forged 5 = .ok (.iload_n 1, 1) := by decide +kernel
theorem dX8_forged_6 : decode cX8_forged 6 = .ok (.invokestatic 190, 3) := by decide +kernel
theorem dX8_forged_9 : decode cX8_forged 9 = .ok (.ifCond .eq 31, 3) := by decide +kernel
theorem dX8_forged_12 : decode cX8_forged 12 = .ok (.aload_n 0, 1) := by decide +kernel
theorem dX8_forged_13 : decode cX8_forged 13 = .ok (.iload_n 2, 1) := by decide +kernel
theorem dX8_forged_14 : decode cX8_forged 14 = .ok (.invokevirtual 153, 3) := by decide +kernel
theorem dX8_forged_17 : decode cX8_forged 17 = .ok (.ifCond .eq 23, 3) := by decide +kernel
theorem dX8_forged_20 : decode cX8_forged 20 = .ok (.iload_n 3, 1) := by decide +kernel
theorem dX8_forged_21 : decode cX8_forged 21 = .ok (.iconst 0, 1) := by decide +kernel
theorem dX8_forged_22 : decode cX8_forged 22 = .ok (.bipush 10, 2) := by decide +kernel
theorem dX8_forged_24 : decode cX8_forged 24 = .ok (.invokestatic 60, 3) := by decide +kernel
theorem dX8_forged_27 : decode cX8_forged 27 = .ok (.ifCond .eq 13, 3) := by decide +kernel
theorem dX8_forged_30 : decode cX8_forged 30 = .ok (.iload 4, 2) := by decide +kernel
theorem dX8_forged_32 : decode cX8_forged 32 = .ok (.iconst 0, 1) := by decide +kernel
theorem dX8_forged_33 : decode cX8_forged 33 = .ok (.iconst 1, 1) := by decide +kernel
theorem dX8_forged_34 : decode cX8_forged 34 = .ok (.invokestatic 60, 3) := by decide +kernel
theorem dX8_forged_37 : decode cX8_forged 37 = .ok (.ifCond .ne 7, 3) := by decide +kernel
theorem dX8_forged_40 : decode cX8_forged 40 = .ok (.ldc2_w 216, 3) := by decide +kernel
theorem dX8_forged_43 : decode cX8_forged 43 = .ok (.lreturn, 1) := by decide +kernel
theorem dX8_forged_44 : decode cX8_forged 44 = .ok (.aload_n 0, 1) := by decide +kernel
theorem dX8_forged_45 : decode cX8_forged 45 = .ok (.invokevirtual 227, 3) := by decide +kernel
theorem dX8_forged_48 : decode cX8_forged 48 = .ok (.ifCond .ne 7, 3) := by decide +kernel
theorem dX8_forged_51 : decode cX8_forged 51 = .ok (.ldc2_w 221, 3) := by decide +kernel
theorem dX8_forged_54 : decode cX8_forged 54 = .ok (.lreturn, 1) := by decide +kernel
theorem dX8_forged_55 : decode cX8_forged 55 = .ok (.iload_n 3, 1) := by decide +kernel
theorem dX8_forged_56 : decode cX8_forged 56 = .ok (.i2l, 1) := by decide +kernel
theorem dX8_forged_57 : decode cX8_forged 57 = .ok (.aload_n 0, 1) := by decide +kernel
theorem dX8_forged_58 : decode cX8_forged 58 = .ok (.aload_n 0, 1) := by decide +kernel
theorem dX8_forged_59 : decode cX8_forged 59 = .ok (.getfield 35, 3) := by decide +kernel
theorem dX8_forged_62 : decode cX8_forged 62 = .ok (.iconst 0, 1) := by decide +kernel
theorem dX8_forged_63 : decode cX8_forged 63 = .ok (.iaload, 1) := by decide +kernel
theorem dX8_forged_64 : decode cX8_forged 64 = .ok (.iconst 0, 1) := by decide +kernel
theorem dX8_forged_65 : decode cX8_forged 65 = .ok (.iload_n 1, 1) := by decide +kernel
theorem dX8_forged_66 : decode cX8_forged 66 = .ok (.iload_n 2, 1) := by decide +kernel
theorem dX8_forged_67 : decode cX8_forged 67 = .ok (.invokevirtual 212, 3) := by decide +kernel
theorem dX8_forged_70 : decode cX8_forged 70 = .ok (.lmul, 1) := by decide +kernel
theorem dX8_forged_71 : decode cX8_forged 71 = .ok (.lstore 5, 2) := by decide +kernel
theorem dX8_forged_73 : decode cX8_forged 73 = .ok (.aload_n 0, 1) := by decide +kernel
theorem dX8_forged_74 : decode cX8_forged 74 = .ok (.iconst 1, 1) := by decide +kernel
theorem dX8_forged_75 : decode cX8_forged 75 = .ok (.invokevirtual 230, 3) := by decide +kernel
theorem dX8_forged_78 : decode cX8_forged 78 = .ok (.aload_n 0, 1) := by decide +kernel
theorem dX8_forged_79 : decode cX8_forged 79 = .ok (.aload_n 0, 1) := by decide +kernel
theorem dX8_forged_80 : decode cX8_forged 80 = .ok (.getfield 35, 3) := by decide +kernel
theorem dX8_forged_83 : decode cX8_forged 83 = .ok (.iconst 1, 1) := by decide +kernel
theorem dX8_forged_84 : decode cX8_forged 84 = .ok (.iaload, 1) := by decide +kernel
theorem dX8_forged_85 : decode cX8_forged 85 = .ok (.invokevirtual 234, 3) := by decide +kernel
theorem dX8_forged_88 : decode cX8_forged 88 = .ok (.lload 5, 2) := by decide +kernel
theorem dX8_forged_90 : decode cX8_forged 90 = .ok (.bipush 10, 2) := by decide +kernel
theorem dX8_forged_92 : decode cX8_forged 92 = .ok (.iload_n 3, 1) := by decide +kernel
theorem dX8_forged_93 : decode cX8_forged 93 = .ok (.isub, 1) := by decide +kernel
theorem dX8_forged_94 : decode cX8_forged 94 = .ok (.i2l, 1) := by decide +kernel
theorem dX8_forged_95 : decode cX8_forged 95 = .ok (.aload_n 0, 1) := by decide +kernel
theorem dX8_forged_96 : decode cX8_forged 96 = .ok (.aload_n 0, 1) := by decide +kernel
theorem dX8_forged_97 : decode cX8_forged 97 = .ok (.getfield 35, 3) := by decide +kernel
theorem dX8_forged_100 : decode cX8_forged 100 = .ok (.iconst 0, 1) := by decide +kernel
theorem dX8_forged_101 : decode cX8_forged 101 = .ok (.iaload, 1) := by decide +kernel
theorem dX8_forged_102 : decode cX8_forged 102 = .ok (.iconst 0, 1) := by decide +kernel
theorem dX8_forged_103 : decode cX8_forged 103 = .ok (.aload_n 0, 1) := by decide +kernel
theorem dX8_forged_104 : decode cX8_forged 104 = .ok (.getfield 35, 3) := by decide +kernel
theorem dX8_forged_107 : decode cX8_forged 107 = .ok (.iconst 2, 1) := by decide +kernel
theorem dX8_forged_108 : decode cX8_forged 108 = .ok (.iaload, 1) := by decide +kernel
theorem dX8_forged_109 : decode cX8_forged 109 = .ok (.aload_n 0, 1) := by decide +kernel
theorem dX8_forged_110 : decode cX8_forged 110 = .ok (.getfield 35, 3) := by decide +kernel
theorem dX8_forged_113 : decode cX8_forged 113 = .ok (.iconst 3, 1) := by decide +kernel
theorem dX8_forged_114 : decode cX8_forged 114 = .ok (.iaload, 1) := by decide +kernel
theorem dX8_forged_115 : decode cX8_forged 115 = .ok (.invokevirtual 212, 3) := by decide +kernel
theorem dX8_forged_118 : decode cX8_forged 118 = .ok (.lmul, 1) := by decide +kernel
theorem dX8_forged_119 : decode cX8_forged 119 = .ok (.ladd, 1) := by decide +kernel
theorem dX8_forged_120 : decode cX8_forged 120 = .ok (.lstore 7, 2) := by decide +kernel
theorem dX8_forged_122 : decode cX8_forged 122 = .ok (.aload_n 0, 1) := by decide +kernel
theorem dX8_forged_123 : decode cX8_forged 123 = .ok (.iconst 0, 1) := by decide +kernel
theorem dX8_forged_124 : decode cX8_forged 124 = .ok (.invokevirtual 230, 3) := by decide +kernel
theorem dX8_forged_127 : decode cX8_forged 127 = .ok (.lload 7, 2) := by decide +kernel
theorem dX8_forged_129 : decode cX8_forged 129 = .ok (.lconst 0, 1) := by decide +kernel
theorem dX8_forged_130 : decode cX8_forged 130 = .ok (.lcmp, 1) := by decide +kernel
theorem dX8_forged_131 : decode cX8_forged 131 = .ok (.ifCond .ne 9, 3) := by decide +kernel
theorem dX8_forged_134 : decode cX8_forged 134 = .ok (.ldc2_w 221, 3) := by decide +kernel
theorem dX8_forged_137 : decode cX8_forged 137 = .ok (.goto 12, 3) := by decide +kernel
theorem dX8_forged_140 : decode cX8_forged 140 = .ok (.lload 5, 2) := by decide +kernel
theorem dX8_forged_142 : decode cX8_forged 142 = .ok (.lload 7, 2) := by decide +kernel
theorem dX8_forged_144 : decode cX8_forged 144 = .ok (.iload 4, 2) := by decide +kernel
theorem dX8_forged_146 : decode cX8_forged 146 = .ok (.invokestatic 223, 3) := by decide +kernel
theorem dX8_forged_149 : decode cX8_forged 149 = .ok (.lreturn, 1) := by decide +kernel
theorem dX8_overBy_0 : decode cX8_overBy 0 = .ok (.aload_n 0, 1) := by decide +kernel
theorem dX8_overBy_1 : decode cX8_overBy 1 = .ok (.getfield 26, 3) := by decide +kernel
theorem dX8_overBy_4 : decode cX8_overBy 4 = .ok (.iconst 1, 1) := by decide +kernel
theorem dX8_overBy_5 : decode cX8_overBy 5 = .ok (.iaload, 1) := by decide +kernel
theorem dX8_overBy_6 : decode cX8_overBy 6 = .ok (.istore_n 3, 1) := by decide +kernel
theorem dX8_overBy_7 : decode cX8_overBy 7 = .ok (.aload_n 0, 1) := by decide +kernel
theorem dX8_overBy_8 : decode cX8_overBy 8 = .ok (.iconst 1, 1) := by decide +kernel
theorem dX8_overBy_9 : decode cX8_overBy 9 = .ok (.invokevirtual 230, 3) := by decide +kernel
theorem dX8_overBy_12 : decode cX8_overBy 12 = .ok (.aload_n 0, 1) := by decide +kernel
theorem dX8_overBy_13 : decode cX8_overBy 13 = .ok (.getfield 26, 3) := by decide +kernel
theorem dX8_overBy_16 : decode cX8_overBy 16 = .ok (.iconst 1, 1) := by decide +kernel
theorem dX8_overBy_17 : decode cX8_overBy 17 = .ok (.iload_n 2, 1) := by decide +kernel
theorem dX8_overBy_18 : decode cX8_overBy 18 = .ok (.iastore, 1) := by decide +kernel
theorem dX8_overBy_19 : decode cX8_overBy 19 = .ok (.aload_n 0, 1) := by decide +kernel
theorem dX8_overBy_20 : decode cX8_overBy 20 = .ok (.bipush 99, 2) := by decide +kernel
theorem dX8_overBy_22 : decode cX8_overBy 22 = .ok (.invokevirtual 234, 3) := by decide +kernel
theorem dX8_overBy_25 : decode cX8_overBy 25 = .ok (.aload_n 0, 1) := by decide +kernel
theorem dX8_overBy_26 : decode cX8_overBy 26 = .ok (.iload_n 1, 1) := by decide +kernel
theorem dX8_overBy_27 : decode cX8_overBy 27 = .ok (.invokevirtual 202, 3) := by decide +kernel
theorem dX8_overBy_30 : decode cX8_overBy 30 = .ok (.pop, 1) := by decide +kernel
theorem dX8_overBy_31 : decode cX8_overBy 31 = .ok (.aload_n 0, 1) := by decide +kernel
theorem dX8_overBy_32 : decode cX8_overBy 32 = .ok (.getfield 26, 3) := by decide +kernel
theorem dX8_overBy_35 : decode cX8_overBy 35 = .ok (.iconst 1, 1) := by decide +kernel
theorem dX8_overBy_36 : decode cX8_overBy 36 = .ok (.iload_n 3, 1) := by decide +kernel
theorem dX8_overBy_37 : decode cX8_overBy 37 = .ok (.iastore, 1) := by decide +kernel
theorem dX8_overBy_38 : decode cX8_overBy 38 = .ok (.aload_n 0, 1) := by decide +kernel
theorem dX8_overBy_39 : decode cX8_overBy 39 = .ok (.iconst 0, 1) := by decide +kernel
theorem dX8_overBy_40 : decode cX8_overBy 40 = .ok (.invokevirtual 230, 3) := by decide +kernel
theorem dX8_overBy_43 : decode cX8_overBy 43 = .ok (.aload_n 0, 1) := by decide +kernel
theorem dX8_overBy_44 : decode cX8_overBy 44 = .ok (.getfield 196, 3) := by decide +kernel
theorem dX8_overBy_47 : decode cX8_overBy 47 = .ok (.bipush (-9), 2) := by decide +kernel
theorem dX8_overBy_49 : decode cX8_overBy 49 = .ok (.if_icmp .ne 8, 3) := by decide +kernel
theorem dX8_overBy_52 : decode cX8_overBy 52 = .ok (.bipush 99, 2) := by decide +kernel
theorem dX8_overBy_54 : decode cX8_overBy 54 = .ok (.goto 7, 3) := by decide +kernel
theorem dX8_overBy_57 : decode cX8_overBy 57 = .ok (.aload_n 0, 1) := by decide +kernel
theorem dX8_overBy_58 : decode cX8_overBy 58 = .ok (.getfield 196, 3) := by decide +kernel
theorem dX8_overBy_61 : decode cX8_overBy 61 = .ok (.ireturn, 1) := by decide +kernel
theorem dX8_kills_0 : decode cX8_kills 0 = .ok (.aload_n 0, 1) := by decide +kernel
theorem dX8_kills_1 : decode cX8_kills 1 = .ok (.iconst 0, 1) := by decide +kernel
theorem dX8_kills_2 : decode cX8_kills 2 = .ok (.putfield 56, 3) := by decide +kernel
theorem dX8_kills_5 : decode cX8_kills 5 = .ok (.aload_n 0, 1) := by decide +kernel
theorem dX8_kills_6 : decode cX8_kills 6 = .ok (.iload_n 1, 1) := by decide +kernel
theorem dX8_kills_7 : decode cX8_kills 7 = .ok (.invokevirtual 156, 3) := by decide +kernel
theorem dX8_kills_10 : decode cX8_kills 10 = .ok (.ifCond .eq 32, 3) := by decide +kernel
theorem dX8_kills_13 : decode cX8_kills 13 = .ok (.aload_n 0, 1) := by decide +kernel
theorem dX8_kills_14 : decode cX8_kills 14 = .ok (.iload_n 1, 1) := by decide +kernel
theorem dX8_kills_15 : decode cX8_kills 15 = .ok (.invokevirtual 159, 3) := by decide +kernel
theorem dX8_kills_18 : decode cX8_kills 18 = .ok (.ifCond .eq 24, 3) := by decide +kernel
theorem dX8_kills_21 : decode cX8_kills 21 = .ok (.aload_n 0, 1) := by decide +kernel
theorem dX8_kills_22 : decode cX8_kills 22 = .ok (.iload_n 1, 1) := by decide +kernel
theorem dX8_kills_23 : decode cX8_kills 23 = .ok (.iconst 0, 1) := by decide +kernel
theorem dX8_kills_24 : decode cX8_kills 24 = .ok (.invokevirtual 237, 3) := by decide +kernel
theorem dX8_kills_27 : decode cX8_kills 27 = .ok (.aload_n 0, 1) := by decide +kernel
theorem dX8_kills_28 : decode cX8_kills 28 = .ok (.iload_n 1, 1) := by decide +kernel
theorem dX8_kills_29 : decode cX8_kills 29 = .ok (.aload_n 0, 1) := by decide +kernel
theorem dX8_kills_30 : decode cX8_kills 30 = .ok (.getfield 26, 3) := by decide +kernel
theorem dX8_kills_33 : decode cX8_kills 33 = .ok (.iconst 1, 1) := by decide +kernel
theorem dX8_kills_34 : decode cX8_kills 34 = .ok (.iaload, 1) := by decide +kernel
theorem dX8_kills_35 : decode cX8_kills 35 = .ok (.invokevirtual 237, 3) := by decide +kernel
theorem dX8_kills_38 : decode cX8_kills 38 = .ok (.isub, 1) := by decide +kernel
theorem dX8_kills_39 : decode cX8_kills 39 = .ok (.goto 5, 3) := by decide +kernel
theorem dX8_kills_42 : decode cX8_kills 42 = .ok (.ldc 240, 2) := by decide +kernel
theorem dX8_kills_44 : decode cX8_kills 44 = .ok (.ireturn, 1) := by decide +kernel
theorem dX8_part__0 : decode cX8_part_ 0 = .ok (.aload_n 0, 1) := by decide +kernel
theorem dX8_part__1 : decode cX8_part_ 1 = .ok (.iconst 0, 1) := by decide +kernel
theorem dX8_part__2 : decode cX8_part_ 2 = .ok (.putfield 56, 3) := by decide +kernel
theorem dX8_part__5 : decode cX8_part_ 5 = .ok (.aload_n 0, 1) := by decide +kernel
theorem dX8_part__6 : decode cX8_part_ 6 = .ok (.iload_n 1, 1) := by decide +kernel
theorem dX8_part__7 : decode cX8_part_ 7 = .ok (.invokevirtual 156, 3) := by decide +kernel
theorem dX8_part__10 : decode cX8_part_ 10 = .ok (.ifCond .ne 6, 3) := by decide +kernel
theorem dX8_part__13 : decode cX8_part_ 13 = .ok (.ldc 240, 2) := by decide +kernel
theorem dX8_part__15 : decode cX8_part_ 15 = .ok (.ireturn, 1) := by decide +kernel
theorem dX8_part__16 : decode cX8_part_ 16 = .ok (.aload_n 0, 1) := by decide +kernel
theorem dX8_part__17 : decode cX8_part_ 17 = .ok (.iload_n 1, 1) := by decide +kernel
theorem dX8_part__18 : decode cX8_part_ 18 = .ok (.invokevirtual 202, 3) := by decide +kernel
theorem dX8_part__21 : decode cX8_part_ 21 = .ok (.istore_n 2, 1) := by decide +kernel
theorem dX8_part__22 : decode cX8_part_ 22 = .ok (.aload_n 0, 1) := by decide +kernel
theorem dX8_part__23 : decode cX8_part_ 23 = .ok (.getfield 7, 3) := by decide +kernel
theorem dX8_part__26 : decode cX8_part_ 26 = .ok (.iconst 0, 1) := by decide +kernel
theorem dX8_part__27 : decode cX8_part_ 27 = .ok (.iaload, 1) := by decide +kernel
theorem dX8_part__28 : decode cX8_part_ 28 = .ok (.istore_n 3, 1) := by decide +kernel
theorem dX8_part__29 : decode cX8_part_ 29 = .ok (.aload_n 0, 1) := by decide +kernel
theorem dX8_part__30 : decode cX8_part_ 30 = .ok (.iconst 1, 1) := by decide +kernel
theorem dX8_part__31 : decode cX8_part_ 31 = .ok (.invokevirtual 230, 3) := by decide +kernel
theorem dX8_part__34 : decode cX8_part_ 34 = .ok (.aload_n 0, 1) := by decide +kernel
theorem dX8_part__35 : decode cX8_part_ 35 = .ok (.getfield 7, 3) := by decide +kernel
theorem dX8_part__38 : decode cX8_part_ 38 = .ok (.iconst 2, 1) := by decide +kernel
theorem dX8_part__39 : decode cX8_part_ 39 = .ok (.iconst 0, 1) := by decide +kernel
theorem dX8_part__40 : decode cX8_part_ 40 = .ok (.iastore, 1) := by decide +kernel
theorem dX8_part__41 : decode cX8_part_ 41 = .ok (.aload_n 0, 1) := by decide +kernel
theorem dX8_part__42 : decode cX8_part_ 42 = .ok (.iload_n 3, 1) := by decide +kernel
theorem dX8_part__43 : decode cX8_part_ 43 = .ok (.invokevirtual 234, 3) := by decide +kernel
theorem dX8_part__46 : decode cX8_part_ 46 = .ok (.aload_n 0, 1) := by decide +kernel
theorem dX8_part__47 : decode cX8_part_ 47 = .ok (.iload_n 1, 1) := by decide +kernel
theorem dX8_part__48 : decode cX8_part_ 48 = .ok (.invokevirtual 202, 3) := by decide +kernel
theorem dX8_part__51 : decode cX8_part_ 51 = .ok (.istore 4, 2) := by decide +kernel
theorem dX8_part__53 : decode cX8_part_ 53 = .ok (.aload_n 0, 1) := by decide +kernel
theorem dX8_part__54 : decode cX8_part_ 54 = .ok (.iconst 0, 1) := by decide +kernel
theorem dX8_part__55 : decode cX8_part_ 55 = .ok (.invokevirtual 230, 3) := by decide +kernel
theorem dX8_part__58 : decode cX8_part_ 58 = .ok (.iload_n 2, 1) := by decide +kernel
theorem dX8_part__59 : decode cX8_part_ 59 = .ok (.iload 4, 2) := by decide +kernel
theorem dX8_part__61 : decode cX8_part_ 61 = .ok (.isub, 1) := by decide +kernel
theorem dX8_part__62 : decode cX8_part_ 62 = .ok (.ireturn, 1) := by decide +kernel
theorem dX8_writing_0 : decode cX8_writing 0 = .ok (.aload_n 0, 1) := by decide +kernel
theorem dX8_writing_1 : decode cX8_writing 1 = .ok (.iconst 0, 1) := by decide +kernel
theorem dX8_writing_2 : decode cX8_writing 2 = .ok (.putfield 56, 3) := by decide +kernel
theorem dX8_writing_5 : decode cX8_writing 5 = .ok (.iload_n 1, 1) := by decide +kernel
theorem dX8_writing_6 : decode cX8_writing 6 = .ok (.iconst 0, 1) := by decide +kernel
theorem dX8_writing_7 : decode cX8_writing 7 = .ok (.bipush 99, 2) := by decide +kernel
theorem dX8_writing_9 : decode cX8_writing 9 = .ok (.invokestatic 60, 3) := by decide +kernel
theorem dX8_writing_12 : decode cX8_writing 12 = .ok (.ifCond .eq 18, 3) := by decide +kernel
theorem dX8_writing_15 : decode cX8_writing 15 = .ok (.iload_n 2, 1) := by decide +kernel
theorem dX8_writing_16 : decode cX8_writing 16 = .ok (.invokestatic 190, 3) := by decide +kernel
theorem dX8_writing_19 : decode cX8_writing 19 = .ok (.ifCond .eq 11, 3) := by decide +kernel
theorem dX8_writing_22 : decode cX8_writing 22 = .ok (.aload_n 0, 1) := by decide +kernel
theorem dX8_writing_23 : decode cX8_writing 23 = .ok (.iload_n 3, 1) := by decide +kernel
theorem dX8_writing_24 : decode cX8_writing 24 = .ok (.invokevirtual 156, 3) := by decide +kernel
theorem dX8_writing_27 : decode cX8_writing 27 = .ok (.ifCond .ne 5, 3) := by decide +kernel
theorem dX8_writing_30 : decode cX8_writing 30 = .ok (.iconst (-1), 1) := by decide +kernel
theorem dX8_writing_31 : decode cX8_writing 31 = .ok (.ireturn, 1) := by decide +kernel
theorem dX8_writing_32 : decode cX8_writing 32 = .ok (.aload_n 0, 1) := by decide +kernel
theorem dX8_writing_33 : decode cX8_writing 33 = .ok (.getfield 147, 3) := by decide +kernel
theorem dX8_writing_36 : decode cX8_writing 36 = .ok (.bipush 40, 2) := by decide +kernel
theorem dX8_writing_38 : decode cX8_writing 38 = .ok (.if_icmp .ne 6, 3) := by decide +kernel
theorem dX8_writing_41 : decode cX8_writing 41 = .ok (.bipush (-3), 2) := by decide +kernel
theorem dX8_writing_43 : decode cX8_writing 43 = .ok (.ireturn, 1) := by decide +kernel
theorem dX8_writing_44 : decode cX8_writing 44 = .ok (.aload_n 0, 1) := by decide +kernel
theorem dX8_writing_45 : decode cX8_writing 45 = .ok (.getfield 38, 3) := by decide +kernel
theorem dX8_writing_48 : decode cX8_writing 48 = .ok (.iconst 3, 1) := by decide +kernel
theorem dX8_writing_49 : decode cX8_writing 49 = .ok (.aload_n 0, 1) := by decide +kernel
theorem dX8_writing_50 : decode cX8_writing 50 = .ok (.getfield 147, 3) := by decide +kernel
theorem dX8_writing_53 : decode cX8_writing 53 = .ok (.imul, 1) := by decide +kernel
theorem dX8_writing_54 : decode cX8_writing 54 = .ok (.iload_n 1, 1) := by decide +kernel
theorem dX8_writing_55 : decode cX8_writing 55 = .ok (.iastore, 1) := by decide +kernel
theorem dX8_writing_56 : decode cX8_writing 56 = .ok (.aload_n 0, 1) := by decide +kernel
theorem dX8_writing_57 : decode cX8_writing 57 = .ok (.getfield 38, 3) := by decide +kernel
theorem dX8_writing_60 : decode cX8_writing 60 = .ok (.iconst 3, 1) := by decide +kernel
theorem dX8_writing_61 : decode cX8_writing 61 = .ok (.aload_n 0, 1) := by decide +kernel
theorem dX8_writing_62 : decode cX8_writing 62 = .ok (.getfield 147, 3) := by decide +kernel
theorem dX8_writing_65 : decode cX8_writing 65 = .ok (.imul, 1) := by decide +kernel
theorem dX8_writing_66 : decode cX8_writing 66 = .ok (.iconst 1, 1) := by decide +kernel
theorem dX8_writing_67 : decode cX8_writing 67 = .ok (.iadd, 1) := by decide +kernel
theorem dX8_writing_68 : decode cX8_writing 68 = .ok (.iload_n 2, 1) := by decide +kernel
theorem dX8_writing_69 : decode cX8_writing 69 = .ok (.iastore, 1) := by decide +kernel
theorem dX8_writing_70 : decode cX8_writing 70 = .ok (.aload_n 0, 1) := by decide +kernel
theorem dX8_writing_71 : decode cX8_writing 71 = .ok (.getfield 38, 3) := by decide +kernel
theorem dX8_writing_74 : decode cX8_writing 74 = .ok (.iconst 3, 1) := by decide +kernel
theorem dX8_writing_75 : decode cX8_writing 75 = .ok (.aload_n 0, 1) := by decide +kernel
theorem dX8_writing_76 : decode cX8_writing 76 = .ok (.getfield 147, 3) := by decide +kernel
theorem dX8_writing_79 : decode cX8_writing 79 = .ok (.imul, 1) := by decide +kernel
theorem dX8_writing_80 : decode cX8_writing 80 = .ok (.iconst 2, 1) := by decide +kernel
theorem dX8_writing_81 : decode cX8_writing 81 = .ok (.iadd, 1) := by decide +kernel
theorem dX8_writing_82 : decode cX8_writing 82 = .ok (.iload_n 3, 1) := by decide +kernel
theorem dX8_writing_83 : decode cX8_writing 83 = .ok (.iastore, 1) := by decide +kernel
theorem dX8_writing_84 : decode cX8_writing 84 = .ok (.aload_n 0, 1) := by decide +kernel
theorem dX8_writing_85 : decode cX8_writing 85 = .ok (.dup, 1) := by decide +kernel
theorem dX8_writing_86 : decode cX8_writing 86 = .ok (.getfield 147, 3) := by decide +kernel
theorem dX8_writing_89 : decode cX8_writing 89 = .ok (.iconst 1, 1) := by decide +kernel
theorem dX8_writing_90 : decode cX8_writing 90 = .ok (.iadd, 1) := by decide +kernel
theorem dX8_writing_91 : decode cX8_writing 91 = .ok (.putfield 147, 3) := by decide +kernel
theorem dX8_writing_94 : decode cX8_writing 94 = .ok (.aload_n 0, 1) := by decide +kernel
theorem dX8_writing_95 : decode cX8_writing 95 = .ok (.getfield 147, 3) := by decide +kernel
theorem dX8_writing_98 : decode cX8_writing 98 = .ok (.ireturn, 1) := by decide +kernel
end
section
theorem dX8_span_0 : decode cX8_span 0 = .ok (.aload_n 0, 1) := by decide +kernel
theorem dX8_span_1 : decode cX8_span 1 = .ok (.iconst 0, 1) := by decide +kernel
theorem dX8_span_2 : decode cX8_span 2 = .ok (.putfield 56, 3) := by decide +kernel
theorem dX8_span_5 : decode cX8_span 5 = .ok (.aload_n 0, 1) := by decide +kernel
theorem dX8_span_6 : decode cX8_span 6 = .ok (.iload_n 1, 1) := by decide +kernel
theorem dX8_span_7 : decode cX8_span 7 = .ok (.invokevirtual 156, 3) := by decide +kernel
theorem dX8_span_10 : decode cX8_span 10 = .ok (.ifCond .eq 12, 3) := by decide +kernel
theorem dX8_span_13 : decode cX8_span 13 = .ok (.iload_n 2, 1) := by decide +kernel
theorem dX8_span_14 : decode cX8_span 14 = .ok (.iconst 0, 1) := by decide +kernel
theorem dX8_span_15 : decode cX8_span 15 = .ok (.iconst 3, 1) := by decide +kernel
theorem dX8_span_16 : decode cX8_span 16 = .ok (.invokestatic 60, 3) := by decide +kernel
theorem dX8_span_19 : decode cX8_span 19 = .ok (.ifCond .ne 6, 3) := by decide +kernel
theorem dX8_span_22 : decode cX8_span 22 = .ok (.ldc 240, 2) := by decide +kernel
theorem dX8_span_24 : decode cX8_span 24 = .ok (.ireturn, 1) := by decide +kernel
theorem dX8_span_25 : decode cX8_span 25 = .ok (.iconst 0, 1) := by decide +kernel
theorem dX8_span_26 : decode cX8_span 26 = .ok (.istore_n 3, 1) := by decide +kernel
theorem dX8_span_27 : decode cX8_span 27 = .ok (.iconst 0, 1) := by decide +kernel
theorem dX8_span_28 : decode cX8_span 28 = .ok (.istore 4, 2) := by decide +kernel
theorem dX8_span_30 : decode cX8_span 30 = .ok (.iconst 0, 1) := by decide +kernel
theorem dX8_span_31 : decode cX8_span 31 = .ok (.istore 5, 2) := by decide +kernel
theorem dX8_span_33 : decode cX8_span 33 = .ok (.iconst 0, 1) := by decide +kernel
theorem dX8_span_34 : decode cX8_span 34 = .ok (.istore 6, 2) := by decide +kernel
theorem dX8_span_36 : decode cX8_span 36 = .ok (.iconst 0, 1) := by decide +kernel
theorem dX8_span_37 : decode cX8_span 37 = .ok (.istore 7, 2) := by decide +kernel
theorem dX8_span_39 : decode cX8_span 39 = .ok (.iload 7, 2) := by decide +kernel
theorem dX8_span_41 : decode cX8_span 41 = .ok (.aload_n 0, 1) := by decide +kernel
theorem dX8_span_42 : decode cX8_span 42 = .ok (.getfield 147, 3) := by decide +kernel
theorem dX8_span_45 : decode cX8_span 45 = .ok (.if_icmp .ge 100, 3) := by decide +kernel
theorem dX8_span_48 : decode cX8_span 48 = .ok (.aload_n 0, 1) := by decide +kernel
theorem dX8_span_49 : decode cX8_span 49 = .ok (.getfield 38, 3) := by decide +kernel
theorem dX8_span_52 : decode cX8_span 52 = .ok (.iconst 3, 1) := by decide +kernel
theorem dX8_span_53 : decode cX8_span 53 = .ok (.iload 7, 2) := by decide +kernel
theorem dX8_span_55 : decode cX8_span 55 = .ok (.imul, 1) := by decide +kernel
theorem dX8_span_56 : decode cX8_span 56 = .ok (.iconst 2, 1) := by decide +kernel
theorem dX8_span_57 : decode cX8_span 57 = .ok (.iadd, 1) := by decide +kernel
theorem dX8_span_58 : decode cX8_span 58 = .ok (.iaload, 1) := by decide +kernel
theorem dX8_span_59 : decode cX8_span 59 = .ok (.iload_n 1, 1) := by decide +kernel
theorem dX8_span_60 : decode cX8_span 60 = .ok (.if_icmp .ne 79, 3) := by decide +kernel
theorem dX8_span_63 : decode cX8_span 63 = .ok (.aload_n 0, 1) := by decide +kernel
theorem dX8_span_64 : decode cX8_span 64 = .ok (.getfield 38, 3) := by decide +kernel
theorem dX8_span_67 : decode cX8_span 67 = .ok (.iconst 3, 1) := by decide +kernel
theorem dX8_span_68 : decode cX8_span 68 = .ok (.iload 7, 2) := by decide +kernel
theorem dX8_span_70 : decode cX8_span 70 = .ok (.imul, 1) := by decide +kernel
theorem dX8_span_71 : decode cX8_span 71 = .ok (.iaload, 1) := by decide +kernel
theorem dX8_span_72 : decode cX8_span 72 = .ok (.aload_n 0, 1) := by decide +kernel
theorem dX8_span_73 : decode cX8_span 73 = .ok (.getfield 38, 3) := by decide +kernel
theorem dX8_span_76 : decode cX8_span 76 = .ok (.iconst 3, 1) := by decide +kernel
theorem dX8_span_77 : decode cX8_span 77 = .ok (.iload 7, 2) := by decide +kernel
theorem dX8_span_79 : decode cX8_span 79 = .ok (.imul, 1) := by decide +kernel
theorem dX8_span_80 : decode cX8_span 80 = .ok (.iconst 1, 1) := by decide +kernel
theorem dX8_span_81 : decode cX8_span 81 = .ok (.iadd, 1) := by decide +kernel
theorem dX8_span_82 : decode cX8_span 82 = .ok (.iaload, 1) := by decide +kernel
theorem dX8_span_83 : decode cX8_span 83 = .ok (.isub, 1) := by decide +kernel
theorem dX8_span_84 : decode cX8_span 84 = .ok (.bipush 16, 2) := by decide +kernel
theorem dX8_span_86 : decode cX8_span 86 = .ok (.iadd, 1) := by decide +kernel
theorem dX8_span_87 : decode cX8_span 87 = .ok (.istore 8, 2) := by decide +kernel
theorem dX8_span_89 : decode cX8_span 89 = .ok (.iload_n 3, 1) := by decide +kernel
theorem dX8_span_90 : decode cX8_span 90 = .ok (.ifCond .eq 10, 3) := by decide +kernel
theorem dX8_span_93 : decode cX8_span 93 = .ok (.iload 8, 2) := by decide +kernel
theorem dX8_span_95 : decode cX8_span 95 = .ok (.iload 5, 2) := by decide +kernel
theorem dX8_span_97 : decode cX8_span 97 = .ok (.if_icmp .ge 8, 3) := by decide +kernel
theorem dX8_span_100 : decode cX8_span 100 = .ok (.iload 8, 2) := by decide +kernel
theorem dX8_span_102 : decode cX8_span 102 = .ok (.goto 5, 3) := by decide +kernel
theorem dX8_span_105 : decode cX8_span 105 = .ok (.iload 5, 2) := by decide +kernel
theorem dX8_span_107 : decode cX8_span 107 = .ok (.istore 5, 2) := by decide +kernel
theorem dX8_span_109 : decode cX8_span 109 = .ok (.iload_n 3, 1) := by decide +kernel
theorem dX8_span_110 : decode cX8_span 110 = .ok (.ifCond .eq 10, 3) := by decide +kernel
theorem dX8_span_113 : decode cX8_span 113 = .ok (.iload 8, 2) := by decide +kernel
theorem dX8_span_115 : decode cX8_span 115 = .ok (.iload 6, 2) := by decide +kernel
theorem dX8_span_117 : decode cX8_span 117 = .ok (.if_icmp .le 8, 3) := by decide +kernel
theorem dX8_span_120 : decode cX8_span 120 = .ok (.iload 8, 2) := by decide +kernel
theorem dX8_span_122 : decode cX8_span 122 = .ok (.goto 5, 3) := by decide +kernel
theorem dX8_span_125 : decode cX8_span 125 = .ok (.iload 6, 2) := by decide +kernel
theorem dX8_span_127 : decode cX8_span 127 = .ok (.istore 6, 2) := by decide +kernel
theorem dX8_span_129 : decode cX8_span 129 = .ok (.iload 4, 2) := by decide +kernel
theorem dX8_span_131 : decode cX8_span 131 = .ok (.iload 8, 2) := by decide +kernel
theorem dX8_span_133 : decode cX8_span 133 = .ok (.iadd, 1) := by decide +kernel
theorem dX8_span_134 : decode cX8_span 134 = .ok (.istore 4, 2) := by decide +kernel
theorem dX8_span_136 : decode cX8_span 136 = .ok (.iinc 3 1, 3) := by decide +kernel
theorem dX8_span_139 : decode cX8_span 139 = .ok (.iinc 7 1, 3) := by decide +kernel
theorem dX8_span_142 : decode cX8_span 142 = .ok (.goto (-103), 3) := by decide +kernel
theorem dX8_span_145 : decode cX8_span 145 = .ok (.iload_n 3, 1) := by decide +kernel
theorem dX8_span_146 : decode cX8_span 146 = .ok (.ifCond .ne 8, 3) := by decide +kernel
theorem dX8_span_149 : decode cX8_span 149 = .ok (.ldc 240, 2) := by decide +kernel
theorem dX8_span_151 : decode cX8_span 151 = .ok (.goto 34, 3) := by decide +kernel
theorem dX8_span_154 : decode cX8_span 154 = .ok (.iload_n 2, 1) := by decide +kernel
theorem dX8_span_155 : decode cX8_span 155 = .ok (.ifCond .ne 8, 3) := by decide +kernel
theorem dX8_span_158 : decode cX8_span 158 = .ok (.iload 5, 2) := by decide +kernel
theorem dX8_span_160 : decode cX8_span 160 = .ok (.goto 25, 3) := by decide +kernel
theorem dX8_span_163 : decode cX8_span 163 = .ok (.iload_n 2, 1) := by decide +kernel
theorem dX8_span_164 : decode cX8_span 164 = .ok (.iconst 1, 1) := by decide +kernel
theorem dX8_span_165 : decode cX8_span 165 = .ok (.if_icmp .ne 8, 3) := by decide +kernel
theorem dX8_span_168 : decode cX8_span 168 = .ok (.iload 6, 2) := by decide +kernel
theorem dX8_span_170 : decode cX8_span 170 = .ok (.goto 15, 3) := by decide +kernel
theorem dX8_span_173 : decode cX8_span 173 = .ok (.iload 4, 2) := by decide +kernel
theorem dX8_span_175 : decode cX8_span 175 = .ok (.i2l, 1) := by decide +kernel
theorem dX8_span_176 : decode cX8_span 176 = .ok (.iload_n 3, 1) := by decide +kernel
theorem dX8_span_177 : decode cX8_span 177 = .ok (.i2l, 1) := by decide +kernel
theorem dX8_span_178 : decode cX8_span 178 = .ok (.iload_n 2, 1) := by decide +kernel
theorem dX8_span_179 : decode cX8_span 179 = .ok (.iconst 2, 1) := by decide +kernel
theorem dX8_span_180 : decode cX8_span 180 = .ok (.isub, 1) := by decide +kernel
theorem dX8_span_181 : decode cX8_span 181 = .ok (.invokestatic 223, 3) := by decide +kernel
theorem dX8_span_184 : decode cX8_span 184 = .ok (.l2i, 1) := by decide +kernel
theorem dX8_span_185 : decode cX8_span 185 = .ok (.ireturn, 1) := by decide +kernel
theorem dX8_wants_0 : decode cX8_wants 0 = .ok (.aload_n 0, 1) := by decide +kernel
theorem dX8_wants_1 : decode cX8_wants 1 = .ok (.iconst 0, 1) := by decide +kernel
theorem dX8_wants_2 : decode cX8_wants 2 = .ok (.putfield 56, 3) := by decide +kernel
theorem dX8_wants_5 : decode cX8_wants 5 = .ok (.iload_n 1, 1) := by decide +kernel
theorem dX8_wants_6 : decode cX8_wants 6 = .ok (.iconst 0, 1) := by decide +kernel
theorem dX8_wants_7 : decode cX8_wants 7 = .ok (.iconst 3, 1) := by decide +kernel
theorem dX8_wants_8 : decode cX8_wants 8 = .ok (.invokestatic 60, 3) := by decide +kernel
theorem dX8_wants_11 : decode cX8_wants 11 = .ok (.ifCond .ne 5, 3) := by decide +kernel
theorem dX8_wants_14 : decode cX8_wants 14 = .ok (.iconst (-1), 1) := by decide +kernel
theorem dX8_wants_15 : decode cX8_wants 15 = .ok (.ireturn, 1) := by decide +kernel
theorem dX8_wants_16 : decode cX8_wants 16 = .ok (.iconst 0, 1) := by decide +kernel
theorem dX8_wants_17 : decode cX8_wants 17 = .ok (.istore_n 2, 1) := by decide +kernel
theorem dX8_wants_18 : decode cX8_wants 18 = .ok (.iconst 0, 1) := by decide +kernel
theorem dX8_wants_19 : decode cX8_wants 19 = .ok (.istore_n 3, 1) := by decide +kernel
theorem dX8_wants_20 : decode cX8_wants 20 = .ok (.iload_n 3, 1) := by decide +kernel
theorem dX8_wants_21 : decode cX8_wants 21 = .ok (.aload_n 0, 1) := by decide +kernel
theorem dX8_wants_22 : decode cX8_wants 22 = .ok (.getfield 141, 3) := by decide +kernel
theorem dX8_wants_25 : decode cX8_wants 25 = .ok (.if_icmp .ge 41, 3) := by decide +kernel
theorem dX8_wants_28 : decode cX8_wants 28 = .ok (.iload_n 2, 1) := by decide +kernel
theorem dX8_wants_29 : decode cX8_wants 29 = .ok (.aload_n 0, 1) := by decide +kernel
theorem dX8_wants_30 : decode cX8_wants 30 = .ok (.getfield 32, 3) := by decide +kernel
theorem dX8_wants_33 : decode cX8_wants 33 = .ok (.iconst 4, 1) := by decide +kernel
theorem dX8_wants_34 : decode cX8_wants 34 = .ok (.iload_n 3, 1) := by decide +kernel
theorem dX8_wants_35 : decode cX8_wants 35 = .ok (.imul, 1) := by decide +kernel
theorem dX8_wants_36 : decode cX8_wants 36 = .ok (.iaload, 1) := by decide +kernel
theorem dX8_wants_37 : decode cX8_wants 37 = .ok (.iload_n 1, 1) := by decide +kernel
theorem dX8_wants_38 : decode cX8_wants 38 = .ok (.if_icmp .ne 19, 3) := by decide +kernel
theorem dX8_wants_41 : decode cX8_wants 41 = .ok (.aload_n 0, 1) := by decide +kernel
theorem dX8_wants_42 : decode cX8_wants 42 = .ok (.iload_n 3, 1) := by decide +kernel
theorem dX8_wants_43 : decode cX8_wants 43 = .ok (.iconst 0, 1) := by decide +kernel
theorem dX8_wants_44 : decode cX8_wants 44 = .ok (.invokevirtual 169, 3) := by decide +kernel
theorem dX8_wants_47 : decode cX8_wants 47 = .ok (.sipush 200, 3) := by decide +kernel
theorem dX8_wants_50 : decode cX8_wants 50 = .ok (.if_icmp .lt 7, 3) := by decide +kernel
theorem dX8_wants_53 : decode cX8_wants 53 = .ok (.iconst 1, 1) := by decide +kernel
theorem dX8_wants_54 : decode cX8_wants 54 = .ok (.goto 4, 3) := by decide +kernel
theorem dX8_wants_57 : decode cX8_wants 57 = .ok (.iconst 0, 1) := by decide +kernel
theorem dX8_wants_58 : decode cX8_wants 58 = .ok (.ior, 1) := by decide +kernel
theorem dX8_wants_59 : decode cX8_wants 59 = .ok (.istore_n 2, 1) := by decide +kernel
theorem dX8_wants_60 : decode cX8_wants 60 = .ok (.iinc 3 1, 3) := by decide +kernel
theorem dX8_wants_63 : decode cX8_wants 63 = .ok (.goto (-43), 3) := by decide +kernel
theorem dX8_wants_66 : decode cX8_wants 66 = .ok (.iload_n 2, 1) := by decide +kernel
theorem dX8_wants_67 : decode cX8_wants 67 = .ok (.ifCond .eq 7, 3) := by decide +kernel
theorem dX8_wants_70 : decode cX8_wants 70 = .ok (.iconst 0, 1) := by decide +kernel
theorem dX8_wants_71 : decode cX8_wants 71 = .ok (.goto 4, 3) := by decide +kernel
theorem dX8_wants_74 : decode cX8_wants 74 = .ok (.iconst 1, 1) := by decide +kernel
theorem dX8_wants_75 : decode cX8_wants 75 = .ok (.ireturn, 1) := by decide +kernel
theorem dX8_drawn_0 : decode cX8_drawn 0 = .ok (.aload_n 0, 1) := by decide +kernel
theorem dX8_drawn_1 : decode cX8_drawn 1 = .ok (.iconst 0, 1) := by decide +kernel
theorem dX8_drawn_2 : decode cX8_drawn 2 = .ok (.putfield 56, 3) := by decide +kernel
theorem dX8_drawn_5 : decode cX8_drawn 5 = .ok (.iload_n 1, 1) := by decide +kernel
theorem dX8_drawn_6 : decode cX8_drawn 6 = .ok (.invokestatic 190, 3) := by decide +kernel
theorem dX8_drawn_9 : decode cX8_drawn 9 = .ok (.ifCond .eq 11, 3) := by decide +kernel
theorem dX8_drawn_12 : decode cX8_drawn 12 = .ok (.aload_n 0, 1) := by decide +kernel
theorem dX8_drawn_13 : decode cX8_drawn 13 = .ok (.iload_n 2, 1) := by decide +kernel
theorem dX8_drawn_14 : decode cX8_drawn 14 = .ok (.invokevirtual 153, 3) := by decide +kernel
theorem dX8_drawn_17 : decode cX8_drawn 17 = .ok (.ifCond .ne 5, 3) := by decide +kernel
theorem dX8_drawn_20 : decode cX8_drawn 20 = .ok (.iconst (-1), 1) := by decide +kernel
theorem dX8_drawn_21 : decode cX8_drawn 21 = .ok (.ireturn, 1) := by decide +kernel
theorem dX8_drawn_22 : decode cX8_drawn 22 = .ok (.iconst 0, 1) := by decide +kernel
theorem dX8_drawn_23 : decode cX8_drawn 23 = .ok (.istore_n 3, 1) := by decide +kernel
theorem dX8_drawn_24 : decode cX8_drawn 24 = .ok (.iconst 0, 1) := by decide +kernel
theorem dX8_drawn_25 : decode cX8_drawn 25 = .ok (.istore 4, 2) := by decide +kernel
theorem dX8_drawn_27 : decode cX8_drawn 27 = .ok (.iload 4, 2) := by decide +kernel
theorem dX8_drawn_29 : decode cX8_drawn 29 = .ok (.aload_n 0, 1) := by decide +kernel
theorem dX8_drawn_30 : decode cX8_drawn 30 = .ok (.getfield 141, 3) := by decide +kernel
theorem dX8_drawn_33 : decode cX8_drawn 33 = .ok (.if_icmp .ge 70, 3) := by decide +kernel
theorem dX8_drawn_36 : decode cX8_drawn 36 = .ok (.aload_n 0, 1) := by decide +kernel
theorem dX8_drawn_37 : decode cX8_drawn 37 = .ok (.getfield 7, 3) := by decide +kernel
theorem dX8_drawn_40 : decode cX8_drawn 40 = .ok (.iconst 1, 1) := by decide +kernel
theorem dX8_drawn_41 : decode cX8_drawn 41 = .ok (.aload_n 0, 1) := by decide +kernel
theorem dX8_drawn_42 : decode cX8_drawn 42 = .ok (.getfield 7, 3) := by decide +kernel
theorem dX8_drawn_45 : decode cX8_drawn 45 = .ok (.iconst 1, 1) := by decide +kernel
theorem dX8_drawn_46 : decode cX8_drawn 46 = .ok (.iaload, 1) := by decide +kernel
theorem dX8_drawn_47 : decode cX8_drawn 47 = .ok (.ldc 241, 2) := by decide +kernel
theorem dX8_drawn_49 : decode cX8_drawn 49 = .ok (.imul, 1) := by decide +kernel
theorem dX8_drawn_50 : decode cX8_drawn 50 = .ok (.sipush 12345, 3) := by decide +kernel
theorem dX8_drawn_53 : decode cX8_drawn 53 = .ok (.iadd, 1) := by decide +kernel
theorem dX8_drawn_54 : decode cX8_drawn 54 = .ok (.iastore, 1) := by decide +kernel
theorem dX8_drawn_55 : decode cX8_drawn 55 = .ok (.iload_n 3, 1) := by decide +kernel
theorem dX8_drawn_56 : decode cX8_drawn 56 = .ok (.aload_n 0, 1) := by decide +kernel
theorem dX8_drawn_57 : decode cX8_drawn 57 = .ok (.getfield 7, 3) := by decide +kernel
theorem dX8_drawn_60 : decode cX8_drawn 60 = .ok (.iconst 1, 1) := by decide +kernel
theorem dX8_drawn_61 : decode cX8_drawn 61 = .ok (.iaload, 1) := by decide +kernel
theorem dX8_drawn_62 : decode cX8_drawn 62 = .ok (.bipush 16, 2) := by decide +kernel
theorem dX8_drawn_64 : decode cX8_drawn 64 = .ok (.ishr, 1) := by decide +kernel
theorem dX8_drawn_65 : decode cX8_drawn 65 = .ok (.ldc 242, 2) := by decide +kernel
theorem dX8_drawn_67 : decode cX8_drawn 67 = .ok (.iand, 1) := by decide +kernel
theorem dX8_drawn_68 : decode cX8_drawn 68 = .ok (.sipush 1000, 3) := by decide +kernel
theorem dX8_drawn_71 : decode cX8_drawn 71 = .ok (.irem, 1) := by decide +kernel
theorem dX8_drawn_72 : decode cX8_drawn 72 = .ok (.aload_n 0, 1) := by decide +kernel
theorem dX8_drawn_73 : decode cX8_drawn 73 = .ok (.getfield 7, 3) := by decide +kernel
theorem dX8_drawn_76 : decode cX8_drawn 76 = .ok (.iload 4, 2) := by decide +kernel
theorem dX8_drawn_78 : decode cX8_drawn 78 = .ok (.iload_n 2, 1) := by decide +kernel
theorem dX8_drawn_79 : decode cX8_drawn 79 = .ok (.iload_n 1, 1) := by decide +kernel
theorem dX8_drawn_80 : decode cX8_drawn 80 = .ok (.invokestatic 162, 3) := by decide +kernel
theorem dX8_drawn_83 : decode cX8_drawn 83 = .ok (.iaload, 1) := by decide +kernel
theorem dX8_drawn_84 : decode cX8_drawn 84 = .ok (.if_icmp .ge 10, 3) := by decide +kernel
theorem dX8_drawn_87 : decode cX8_drawn 87 = .ok (.iconst 1, 1) := by decide +kernel
theorem dX8_drawn_88 : decode cX8_drawn 88 = .ok (.iload 4, 2) := by decide +kernel
theorem dX8_drawn_90 : decode cX8_drawn 90 = .ok (.ishl, 1) := by decide +kernel
theorem dX8_drawn_91 : decode cX8_drawn 91 = .ok (.goto 4, 3) := by decide +kernel
theorem dX8_drawn_94 : decode cX8_drawn 94 = .ok (.iconst 0, 1) := by decide +kernel
theorem dX8_drawn_95 : decode cX8_drawn 95 = .ok (.ior, 1) := by decide +kernel
theorem dX8_drawn_96 : decode cX8_drawn 96 = .ok (.istore_n 3, 1) := by decide +kernel
theorem dX8_drawn_97 : decode cX8_drawn 97 = .ok (.iinc 4 1, 3) := by decide +kernel
theorem dX8_drawn_100 : decode cX8_drawn 100 = .ok (.goto (-73), 3) := by decide +kernel
theorem dX8_drawn_103 : decode cX8_drawn 103 = .ok (.iload_n 3, 1) := by decide +kernel
theorem dX8_drawn_104 : decode cX8_drawn 104 = .ok (.ireturn, 1) := by decide +kernel
theorem dX8_lot_0 : decode cX8_lot 0 = .ok (.aload_n 0, 1) := by decide +kernel
theorem dX8_lot_1 : decode cX8_lot 1 = .ok (.iconst 0, 1) := by decide +kernel
theorem dX8_lot_2 : decode cX8_lot 2 = .ok (.putfield 56, 3) := by decide +kernel
theorem dX8_lot_5 : decode cX8_lot 5 = .ok (.aload_n 0, 1) := by decide +kernel
theorem dX8_lot_6 : decode cX8_lot 6 = .ok (.getfield 7, 3) := by decide +kernel
theorem dX8_lot_9 : decode cX8_lot 9 = .ok (.iconst 1, 1) := by decide +kernel
theorem dX8_lot_10 : decode cX8_lot 10 = .ok (.iaload, 1) := by decide +kernel
theorem dX8_lot_11 : decode cX8_lot 11 = .ok (.istore_n 2, 1) := by decide +kernel
theorem dX8_lot_12 : decode cX8_lot 12 = .ok (.aload_n 0, 1) := by decide +kernel
theorem dX8_lot_13 : decode cX8_lot 13 = .ok (.getfield 7, 3) := by decide +kernel
theorem dX8_lot_16 : decode cX8_lot 16 = .ok (.iconst 1, 1) := by decide +kernel
theorem dX8_lot_17 : decode cX8_lot 17 = .ok (.iload_n 1, 1) := by decide +kernel
theorem dX8_lot_18 : decode cX8_lot 18 = .ok (.iastore, 1) := by decide +kernel
theorem dX8_lot_19 : decode cX8_lot 19 = .ok (.iload_n 2, 1) := by decide +kernel
theorem dX8_lot_20 : decode cX8_lot 20 = .ok (.ireturn, 1) := by decide +kernel
theorem dX8_rate_0 : decode cX8_rate 0 = .ok (.aload_n 0, 1) := by decide +kernel
theorem dX8_rate_1 : decode cX8_rate 1 = .ok (.iconst 0, 1) := by decide +kernel
theorem dX8_rate_2 : decode cX8_rate 2 = .ok (.putfield 56, 3) := by decide +kernel
theorem dX8_rate_5 : decode cX8_rate 5 = .ok (.iload_n 1, 1) := by decide +kernel
theorem dX8_rate_6 : decode cX8_rate 6 = .ok (.iconst 0, 1) := by decide +kernel
theorem dX8_rate_7 : decode cX8_rate 7 = .ok (.iconst 5, 1) := by decide +kernel
theorem dX8_rate_8 : decode cX8_rate 8 = .ok (.invokestatic 60, 3) := by decide +kernel
theorem dX8_rate_11 : decode cX8_rate 11 = .ok (.ifCond .eq 11, 3) := by decide +kernel
theorem dX8_rate_14 : decode cX8_rate 14 = .ok (.aload_n 0, 1) := by decide +kernel
theorem dX8_rate_15 : decode cX8_rate 15 = .ok (.iload_n 2, 1) := by decide +kernel
theorem dX8_rate_16 : decode cX8_rate 16 = .ok (.invokevirtual 156, 3) := by decide +kernel
theorem dX8_rate_19 : decode cX8_rate 19 = .ok (.ifCond .ne 6, 3) := by decide +kernel
theorem dX8_rate_22 : decode cX8_rate 22 = .ok (.ldc 240, 2) := by decide +kernel
theorem dX8_rate_24 : decode cX8_rate 24 = .ok (.ireturn, 1) := by decide +kernel
theorem dX8_rate_25 : decode cX8_rate 25 = .ok (.aload_n 0, 1) := by decide +kernel
theorem dX8_rate_26 : decode cX8_rate 26 = .ok (.getfield 32, 3) := by decide +kernel
theorem dX8_rate_29 : decode cX8_rate 29 = .ok (.iconst 4, 1) := by decide +kernel
theorem dX8_rate_30 : decode cX8_rate 30 = .ok (.iload_n 2, 1) := by decide +kernel
theorem dX8_rate_31 : decode cX8_rate 31 = .ok (.imul, 1) := by decide +kernel
theorem dX8_rate_32 : decode cX8_rate 32 = .ok (.iconst 1, 1) := by decide +kernel
theorem dX8_rate_33 : decode cX8_rate 33 = .ok (.iadd, 1) := by decide +kernel
theorem dX8_rate_34 : decode cX8_rate 34 = .ok (.iaload, 1) := by decide +kernel
theorem dX8_rate_35 : decode cX8_rate 35 = .ok (.istore_n 3, 1) := by decide +kernel
theorem dX8_rate_36 : decode cX8_rate 36 = .ok (.iload_n 3, 1) := by decide +kernel
theorem dX8_rate_37 : decode cX8_rate 37 = .ok (.aload_n 0, 1) := by decide +kernel
theorem dX8_rate_38 : decode cX8_rate 38 = .ok (.iload_n 2, 1) := by decide +kernel
theorem dX8_rate_39 : decode cX8_rate 39 = .ok (.iconst 2, 1) := by decide +kernel
theorem dX8_rate_40 : decode cX8_rate 40 = .ok (.invokevirtual 169, 3) := by decide +kernel
theorem dX8_rate_43 : decode cX8_rate 43 = .ok (.iadd, 1) := by decide +kernel
theorem dX8_rate_44 : decode cX8_rate 44 = .ok (.istore 4, 2) := by decide +kernel
theorem dX8_rate_46 : decode cX8_rate 46 = .ok (.iload 4, 2) := by decide +kernel
theorem dX8_rate_48 : decode cX8_rate 48 = .ok (.aload_n 0, 1) := by decide +kernel
theorem dX8_rate_49 : decode cX8_rate 49 = .ok (.iload_n 2, 1) := by decide +kernel
theorem dX8_rate_50 : decode cX8_rate 50 = .ok (.iconst 1, 1) := by decide +kernel
theorem dX8_rate_51 : decode cX8_rate 51 = .ok (.invokevirtual 169, 3) := by decide +kernel
theorem dX8_rate_54 : decode cX8_rate 54 = .ok (.isub, 1) := by decide +kernel
theorem dX8_rate_55 : decode cX8_rate 55 = .ok (.istore 5, 2) := by decide +kernel
theorem dX8_rate_57 : decode cX8_rate 57 = .ok (.aload_n 0, 1) := by decide +kernel
theorem dX8_rate_58 : decode cX8_rate 58 = .ok (.dup, 1) := by decide +kernel
theorem dX8_rate_59 : decode cX8_rate 59 = .ok (.getfield 243, 3) := by decide +kernel
theorem dX8_rate_62 : decode cX8_rate 62 = .ok (.iload_n 1, 1) := by decide +kernel
theorem dX8_rate_63 : decode cX8_rate 63 = .ok (.ifCond .ne 7, 3) := by decide +kernel
theorem dX8_rate_66 : decode cX8_rate 66 = .ok (.lconst 1, 1) := by decide +kernel
theorem dX8_rate_67 : decode cX8_rate 67 = .ok (.goto 50, 3) := by decide +kernel
theorem dX8_rate_70 : decode cX8_rate 70 = .ok (.iload_n 1, 1) := by decide +kernel
theorem dX8_rate_71 : decode cX8_rate 71 = .ok (.iconst 1, 1) := by decide +kernel
theorem dX8_rate_72 : decode cX8_rate 72 = .ok (.if_icmp .ne 9, 3) := by decide +kernel
theorem dX8_rate_75 : decode cX8_rate 75 = .ok (.ldc2_w 247, 3) := by decide +kernel
theorem dX8_rate_78 : decode cX8_rate 78 = .ok (.goto 39, 3) := by decide +kernel
theorem dX8_rate_81 : decode cX8_rate 81 = .ok (.iload_n 1, 1) := by decide +kernel
theorem dX8_rate_82 : decode cX8_rate 82 = .ok (.iconst 2, 1) := by decide +kernel
theorem dX8_rate_83 : decode cX8_rate 83 = .ok (.if_icmp .ne 9, 3) := by decide +kernel
theorem dX8_rate_86 : decode cX8_rate 86 = .ok (.ldc2_w 249, 3) := by decide +kernel
theorem dX8_rate_89 : decode cX8_rate 89 = .ok (.goto 28, 3) := by decide +kernel
theorem dX8_rate_92 : decode cX8_rate 92 = .ok (.iload_n 1, 1) := by decide +kernel
theorem dX8_rate_93 : decode cX8_rate 93 = .ok (.iconst 3, 1) := by decide +kernel
theorem dX8_rate_94 : decode cX8_rate 94 = .ok (.if_icmp .ne 9, 3) := by decide +kernel
theorem dX8_rate_97 : decode cX8_rate 97 = .ok (.ldc2_w 251, 3) := by decide +kernel
theorem dX8_rate_100 : decode cX8_rate 100 = .ok (.goto 17, 3) := by decide +kernel
theorem dX8_rate_103 : decode cX8_rate 103 = .ok (.iload_n 1, 1) := by decide +kernel
theorem dX8_rate_104 : decode cX8_rate 104 = .ok (.iconst 4, 1) := by decide +kernel
theorem dX8_rate_105 : decode cX8_rate 105 = .ok (.if_icmp .ne 9, 3) := by decide +kernel
theorem dX8_rate_108 : decode cX8_rate 108 = .ok (.ldc2_w 253, 3) := by decide +kernel
theorem dX8_rate_111 : decode cX8_rate 111 = .ok (.goto 6, 3) := by decide +kernel
theorem dX8_rate_114 : decode cX8_rate 114 = .ok (.ldc2_w 255, 3) := by decide +kernel
theorem dX8_rate_117 : decode cX8_rate 117 = .ok (.ladd, 1) := by decide +kernel
theorem dX8_rate_118 : decode cX8_rate 118 = .ok (.putfield 243, 3) := by decide +kernel
theorem dX8_rate_121 : decode cX8_rate 121 = .ok (.iload_n 1, 1) := by decide +kernel
theorem dX8_rate_122 : decode cX8_rate 122 = .ok (.ifCond .ne 7, 3) := by decide +kernel
theorem dX8_rate_125 : decode cX8_rate 125 = .ok (.iload_n 3, 1) := by decide +kernel
theorem dX8_rate_126 : decode cX8_rate 126 = .ok (.goto 61, 3) := by decide +kernel
theorem dX8_rate_129 : decode cX8_rate 129 = .ok (.iload_n 1, 1) := by decide +kernel
theorem dX8_rate_130 : decode cX8_rate 130 = .ok (.iconst 1, 1) := by decide +kernel
theorem dX8_rate_131 : decode cX8_rate 131 = .ok (.if_icmp .ne 14, 3) := by decide +kernel
theorem dX8_rate_134 : decode cX8_rate 134 = .ok (.iload_n 3, 1) := by decide +kernel
theorem dX8_rate_135 : decode cX8_rate 135 = .ok (.aload_n 0, 1) := by decide +kernel
theorem dX8_rate_136 : decode cX8_rate 136 = .ok (.iload_n 2, 1) := by decide +kernel
theorem dX8_rate_137 : decode cX8_rate 137 = .ok (.iconst 0, 1) := by decide +kernel
theorem dX8_rate_138 : decode cX8_rate 138 = .ok (.invokevirtual 169, 3) := by decide +kernel
theorem dX8_rate_141 : decode cX8_rate 141 = .ok (.iadd, 1) := by decide +kernel
theorem dX8_rate_142 : decode cX8_rate 142 = .ok (.goto 45, 3) := by decide +kernel
theorem dX8_rate_145 : decode cX8_rate 145 = .ok (.iload_n 1, 1) := by decide +kernel
theorem dX8_rate_146 : decode cX8_rate 146 = .ok (.iconst 2, 1) := by decide +kernel
theorem dX8_rate_147 : decode cX8_rate 147 = .ok (.if_icmp .ne 8, 3) := by decide +kernel
theorem dX8_rate_150 : decode cX8_rate 150 = .ok (.iload 4, 2) := by decide +kernel
theorem dX8_rate_152 : decode cX8_rate 152 = .ok (.goto 35, 3) := by decide +kernel
theorem dX8_rate_155 : decode cX8_rate 155 = .ok (.iload_n 1, 1) := by decide +kernel
theorem dX8_rate_156 : decode cX8_rate 156 = .ok (.iconst 3, 1) := by decide +kernel
theorem dX8_rate_157 : decode cX8_rate 157 = .ok (.if_icmp .ne 8, 3) := by decide +kernel
theorem dX8_rate_160 : decode cX8_rate 160 = .ok (.iload 5, 2) := by decide +kernel
theorem dX8_rate_162 : decode cX8_rate 162 = .ok (.goto 25, 3) := by decide +kernel
theorem dX8_rate_165 : decode cX8_rate 165 = .ok (.iload_n 1, 1) := by decide +kernel
theorem dX8_rate_166 : decode cX8_rate 166 = .ok (.iconst 4, 1) := by decide +kernel
theorem dX8_rate_167 : decode cX8_rate 167 = .ok (.if_icmp .ne 10, 3) := by decide +kernel
theorem dX8_rate_170 : decode cX8_rate 170 = .ok (.iconst 2, 1) := by decide +kernel
theorem dX8_rate_171 : decode cX8_rate 171 = .ok (.iload 5, 2) := by decide +kernel
theorem dX8_rate_173 : decode cX8_rate 173 = .ok (.imul, 1) := by decide +kernel
theorem dX8_rate_174 : decode cX8_rate 174 = .ok (.goto 13, 3) := by decide +kernel
theorem dX8_rate_177 : decode cX8_rate 177 = .ok (.iload_n 3, 1) := by decide +kernel
theorem dX8_rate_178 : decode cX8_rate 178 = .ok (.aload_n 0, 1) := by decide +kernel
theorem dX8_rate_179 : decode cX8_rate 179 = .ok (.getfield 32, 3) := by decide +kernel
theorem dX8_rate_182 : decode cX8_rate 182 = .ok (.iconst 4, 1) := by decide +kernel
theorem dX8_rate_183 : decode cX8_rate 183 = .ok (.iload_n 2, 1) := by decide +kernel
theorem dX8_rate_184 : decode cX8_rate 184 = .ok (.imul, 1) := by decide +kernel
theorem dX8_rate_185 : decode cX8_rate 185 = .ok (.iaload, 1) := by decide +kernel
theorem dX8_rate_186 : decode cX8_rate 186 = .ok (.iadd, 1) := by decide +kernel
theorem dX8_rate_187 : decode cX8_rate 187 = .ok (.ireturn, 1) := by decide +kernel
theorem dX8_keep_0 : decode cX8_keep 0 = .ok (.aload_n 0, 1) := by decide +kernel
theorem dX8_keep_1 : decode cX8_keep 1 = .ok (.iconst 0, 1) := by decide +kernel
theorem dX8_keep_2 : decode cX8_keep 2 = .ok (.putfield 56, 3) := by decide +kernel
theorem dX8_keep_5 : decode cX8_keep 5 = .ok (.iload_n 1, 1) := by decide +kernel
theorem dX8_keep_6 : decode cX8_keep 6 = .ok (.iconst 0, 1) := by decide +kernel
theorem dX8_keep_7 : decode cX8_keep 7 = .ok (.iconst 1, 1) := by decide +kernel
theorem dX8_keep_8 : decode cX8_keep 8 = .ok (.invokestatic 60, 3) := by decide +kernel
theorem dX8_keep_11 : decode cX8_keep 11 = .ok (.ifCond .ne 5, 3) := by decide +kernel
theorem dX8_keep_14 : decode cX8_keep 14 = .ok (.iconst (-1), 1) := by decide +kernel
theorem dX8_keep_15 : decode cX8_keep 15 = .ok (.ireturn, 1) := by decide +kernel
theorem dX8_keep_16 : decode cX8_keep 16 = .ok (.iconst 0, 1) := by decide +kernel
theorem dX8_keep_17 : decode cX8_keep 17 = .ok (.istore_n 2, 1) := by decide +kernel
theorem dX8_keep_18 : decode cX8_keep 18 = .ok (.iload_n 2, 1) := by decide +kernel
theorem dX8_keep_19 : decode cX8_keep 19 = .ok (.sipush 2950, 3) := by decide +kernel
theorem dX8_keep_22 : decode cX8_keep 22 = .ok (.if_icmp .ge 27, 3) := by decide +kernel
theorem dX8_keep_25 : decode cX8_keep 25 = .ok (.aload_n 0, 1) := by decide +kernel
theorem dX8_keep_26 : decode cX8_keep 26 = .ok (.getfield 16, 3) := by decide +kernel
theorem dX8_keep_29 : decode cX8_keep 29 = .ok (.sipush 2950, 3) := by decide +kernel
theorem dX8_keep_32 : decode cX8_keep 32 = .ok (.iload_n 1, 1) := by decide +kernel
theorem dX8_keep_33 : decode cX8_keep 33 = .ok (.imul, 1) := by decide +kernel
theorem dX8_keep_34 : decode cX8_keep 34 = .ok (.iload_n 2, 1) := by decide +kernel
theorem dX8_keep_35 : decode cX8_keep 35 = .ok (.iadd, 1) := by decide +kernel
theorem dX8_keep_36 : decode cX8_keep 36 = .ok (.aload_n 0, 1) := by decide +kernel
theorem dX8_keep_37 : decode cX8_keep 37 = .ok (.getfield 7, 3) := by decide +kernel
theorem dX8_keep_40 : decode cX8_keep 40 = .ok (.iload_n 2, 1) := by decide +kernel
theorem dX8_keep_41 : decode cX8_keep 41 = .ok (.iaload, 1) := by decide +kernel
theorem dX8_keep_42 : decode cX8_keep 42 = .ok (.iastore, 1) := by decide +kernel
theorem dX8_keep_43 : decode cX8_keep 43 = .ok (.iinc 2 1, 3) := by decide +kernel
theorem dX8_keep_46 : decode cX8_keep 46 = .ok (.goto (-28), 3) := by decide +kernel
theorem dX8_keep_49 : decode cX8_keep 49 = .ok (.aload_n 0, 1) := by decide +kernel
theorem dX8_keep_50 : decode cX8_keep 50 = .ok (.getfield 19, 3) := by decide +kernel
theorem dX8_keep_53 : decode cX8_keep 53 = .ok (.iload_n 1, 1) := by decide +kernel
theorem dX8_keep_54 : decode cX8_keep 54 = .ok (.iconst 1, 1) := by decide +kernel
theorem dX8_keep_55 : decode cX8_keep 55 = .ok (.bastore, 1) := by decide +kernel
theorem dX8_keep_56 : decode cX8_keep 56 = .ok (.aload_n 0, 1) := by decide +kernel
theorem dX8_keep_57 : decode cX8_keep 57 = .ok (.getfield 7, 3) := by decide +kernel
theorem dX8_keep_60 : decode cX8_keep 60 = .ok (.iconst 0, 1) := by decide +kernel
theorem dX8_keep_61 : decode cX8_keep 61 = .ok (.iaload, 1) := by decide +kernel
theorem dX8_keep_62 : decode cX8_keep 62 = .ok (.ireturn, 1) := by decide +kernel
theorem dX8_back_0 : decode cX8_back 0 = .ok (.aload_n 0, 1) := by decide +kernel
theorem dX8_back_1 : decode cX8_back 1 = .ok (.iconst 0, 1) := by decide +kernel
theorem dX8_back_2 : decode cX8_back 2 = .ok (.putfield 56, 3) := by decide +kernel
theorem dX8_back_5 : decode cX8_back 5 = .ok (.iload_n 1, 1) := by decide +kernel
theorem dX8_back_6 : decode cX8_back 6 = .ok (.iconst 0, 1) := by decide +kernel
theorem dX8_back_7 : decode cX8_back 7 = .ok (.iconst 1, 1) := by decide +kernel
theorem dX8_back_8 : decode cX8_back 8 = .ok (.invokestatic 60, 3) := by decide +kernel
theorem dX8_back_11 : decode cX8_back 11 = .ok (.ifCond .ne 5, 3) := by decide +kernel
theorem dX8_back_14 : decode cX8_back 14 = .ok (.iconst (-1), 1) := by decide +kernel
theorem dX8_back_15 : decode cX8_back 15 = .ok (.ireturn, 1) := by decide +kernel
theorem dX8_back_16 : decode cX8_back 16 = .ok (.aload_n 0, 1) := by decide +kernel
theorem dX8_back_17 : decode cX8_back 17 = .ok (.getfield 19, 3) := by decide +kernel
theorem dX8_back_20 : decode cX8_back 20 = .ok (.iload_n 1, 1) := by decide +kernel
theorem dX8_back_21 : decode cX8_back 21 = .ok (.baload, 1) := by decide +kernel
theorem dX8_back_22 : decode cX8_back 22 = .ok (.ifCond .ne 6, 3) := by decide +kernel
theorem dX8_back_25 : decode cX8_back 25 = .ok (.bipush (-2), 2) := by decide +kernel
theorem dX8_back_27 : decode cX8_back 27 = .ok (.ireturn, 1) := by decide +kernel
theorem dX8_back_28 : decode cX8_back 28 = .ok (.iconst 0, 1) := by decide +kernel
theorem dX8_back_29 : decode cX8_back 29 = .ok (.istore_n 2, 1) := by decide +kernel
theorem dX8_back_30 : decode cX8_back 30 = .ok (.iload_n 2, 1) := by decide +kernel
theorem dX8_back_31 : decode cX8_back 31 = .ok (.sipush 2950, 3) := by decide +kernel
theorem dX8_back_34 : decode cX8_back 34 = .ok (.if_icmp .ge 27, 3) := by decide +kernel
theorem dX8_back_37 : decode cX8_back 37 = .ok (.aload_n 0, 1) := by decide +kernel
theorem dX8_back_38 : decode cX8_back 38 = .ok (.getfield 7, 3) := by decide +kernel
theorem dX8_back_41 : decode cX8_back 41 = .ok (.iload_n 2, 1) := by decide +kernel
theorem dX8_back_42 : decode cX8_back 42 = .ok (.aload_n 0, 1) := by decide +kernel
theorem dX8_back_43 : decode cX8_back 43 = .ok (.getfield 16, 3) := by decide +kernel
theorem dX8_back_46 : decode cX8_back 46 = .ok (.sipush 2950, 3) := by decide +kernel
theorem dX8_back_49 : decode cX8_back 49 = .ok (.iload_n 1, 1) := by decide +kernel
theorem dX8_back_50 : decode cX8_back 50 = .ok (.imul, 1) := by decide +kernel
theorem dX8_back_51 : decode cX8_back 51 = .ok (.iload_n 2, 1) := by decide +kernel
theorem dX8_back_52 : decode cX8_back 52 = .ok (.iadd, 1) := by decide +kernel
theorem dX8_back_53 : decode cX8_back 53 = .ok (.iaload, 1) := by decide +kernel
theorem dX8_back_54 : decode cX8_back 54 = .ok (.iastore, 1) := by decide +kernel
theorem dX8_back_55 : decode cX8_back 55 = .ok (.iinc 2 1, 3) := by decide +kernel
theorem dX8_back_58 : decode cX8_back 58 = .ok (.goto (-28), 3) := by decide +kernel
theorem dX8_back_61 : decode cX8_back 61 = .ok (.aload_n 0, 1) := by decide +kernel
theorem dX8_back_62 : decode cX8_back 62 = .ok (.getfield 7, 3) := by decide +kernel
theorem dX8_back_65 : decode cX8_back 65 = .ok (.iconst 0, 1) := by decide +kernel
theorem dX8_back_66 : decode cX8_back 66 = .ok (.iaload, 1) := by decide +kernel
theorem dX8_back_67 : decode cX8_back 67 = .ok (.ireturn, 1) := by decide +kernel
theorem dX8_count_0 : decode cX8_count 0 = .ok (.aload_n 0, 1) := by decide +kernel
theorem dX8_count_1 : decode cX8_count 1 = .ok (.iconst 0, 1) := by decide +kernel
theorem dX8_count_2 : decode cX8_count 2 = .ok (.putfield 56, 3) := by decide +kernel
theorem dX8_count_5 : decode cX8_count 5 = .ok (.iload_n 1, 1) := by decide +kernel
theorem dX8_count_6 : decode cX8_count 6 = .ok (.ifCond .ne 10, 3) := by decide +kernel
theorem dX8_count_9 : decode cX8_count 9 = .ok (.aload_n 0, 1) := by decide +kernel
theorem dX8_count_10 : decode cX8_count 10 = .ok (.getfield 138, 3) := by decide +kernel
theorem dX8_count_13 : decode cX8_count 13 = .ok (.goto 68, 3) := by decide +kernel
theorem dX8_count_16 : decode cX8_count 16 = .ok (.iload_n 1, 1) := by decide +kernel
theorem dX8_count_17 : decode cX8_count 17 = .ok (.iconst 1, 1) := by decide +kernel
theorem dX8_count_18 : decode cX8_count 18 = .ok (.if_icmp .ne 10, 3) := by decide +kernel
theorem dX8_count_21 : decode cX8_count 21 = .ok (.aload_n 0, 1) := by decide +kernel
theorem dX8_count_22 : decode cX8_count 22 = .ok (.getfield 141, 3) := by decide +kernel
theorem dX8_count_25 : decode cX8_count 25 = .ok (.goto 56, 3) := by decide +kernel
theorem dX8_count_28 : decode cX8_count 28 = .ok (.iload_n 1, 1) := by decide +kernel
theorem dX8_count_29 : decode cX8_count 29 = .ok (.iconst 2, 1) := by decide +kernel
theorem dX8_count_30 : decode cX8_count 30 = .ok (.if_icmp .ne 12, 3) := by decide +kernel
theorem dX8_count_33 : decode cX8_count 33 = .ok (.aload_n 0, 1) := by decide +kernel
theorem dX8_count_34 : decode cX8_count 34 = .ok (.getfield 7, 3) := by decide +kernel
theorem dX8_count_37 : decode cX8_count 37 = .ok (.iconst 0, 1) := by decide +kernel
theorem dX8_count_38 : decode cX8_count 38 = .ok (.iaload, 1) := by decide +kernel
theorem dX8_count_39 : decode cX8_count 39 = .ok (.goto 42, 3) := by decide +kernel
theorem dX8_count_42 : decode cX8_count 42 = .ok (.iload_n 1, 1) := by decide +kernel
theorem dX8_count_43 : decode cX8_count 43 = .ok (.iconst 3, 1) := by decide +kernel
theorem dX8_count_44 : decode cX8_count 44 = .ok (.if_icmp .ne 12, 3) := by decide +kernel
theorem dX8_count_47 : decode cX8_count 47 = .ok (.aload_n 0, 1) := by decide +kernel
theorem dX8_count_48 : decode cX8_count 48 = .ok (.getfield 7, 3) := by decide +kernel
theorem dX8_count_51 : decode cX8_count 51 = .ok (.iconst 2, 1) := by decide +kernel
theorem dX8_count_52 : decode cX8_count 52 = .ok (.iaload, 1) := by decide +kernel
theorem dX8_count_53 : decode cX8_count 53 = .ok (.goto 28, 3) := by decide +kernel
theorem dX8_count_56 : decode cX8_count 56 = .ok (.iload_n 1, 1) := by decide +kernel
theorem dX8_count_57 : decode cX8_count 57 = .ok (.iconst 4, 1) := by decide +kernel
theorem dX8_count_58 : decode cX8_count 58 = .ok (.if_icmp .ne 10, 3) := by decide +kernel
theorem dX8_count_61 : decode cX8_count 61 = .ok (.aload_n 0, 1) := by decide +kernel
theorem dX8_count_62 : decode cX8_count 62 = .ok (.getfield 147, 3) := by decide +kernel
theorem dX8_count_65 : decode cX8_count 65 = .ok (.goto 16, 3) := by decide +kernel
theorem dX8_count_68 : decode cX8_count 68 = .ok (.iload_n 1, 1) := by decide +kernel
theorem dX8_count_69 : decode cX8_count 69 = .ok (.iconst 5, 1) := by decide +kernel
theorem dX8_count_70 : decode cX8_count 70 = .ok (.if_icmp .ne 10, 3) := by decide +kernel
theorem dX8_count_73 : decode cX8_count 73 = .ok (.aload_n 0, 1) := by decide +kernel
theorem dX8_count_74 : decode cX8_count 74 = .ok (.getfield 64, 3) := by decide +kernel
theorem dX8_count_77 : decode cX8_count 77 = .ok (.goto 4, 3) := by decide +kernel
theorem dX8_count_80 : decode cX8_count 80 = .ok (.iconst (-1), 1) := by decide +kernel
theorem dX8_count_81 : decode cX8_count 81 = .ok (.ireturn, 1) := by decide +kernel
theorem dX8_trace_0 : decode cX8_trace 0 = .ok (.aload_n 0, 1) := by decide +kernel
theorem dX8_trace_1 : decode cX8_trace 1 = .ok (.iconst 0, 1) := by decide +kernel
theorem dX8_trace_2 : decode cX8_trace 2 = .ok (.putfield 56, 3) := by decide +kernel
theorem dX8_trace_5 : decode cX8_trace 5 = .ok (.aload_n 0, 1) := by decide +kernel
theorem dX8_trace_6 : decode cX8_trace 6 = .ok (.getfield 243, 3) := by decide +kernel
theorem dX8_trace_9 : decode cX8_trace 9 = .ok (.lreturn, 1) := by decide +kernel
theorem dJ6_bitCount_0f7a4_0 : decode cJ6_bitCount_0f7a4 0 = .ok (.iload_n 0, 1) := by decide +kernel
theorem dJ6_bitCount_0f7a4_1 : decode cJ6_bitCount_0f7a4 1 = .ok (.iload_n 0, 1) := by decide +kernel
theorem dJ6_bitCount_0f7a4_2 : decode cJ6_bitCount_0f7a4 2 = .ok (.iconst 1, 1) := by decide +kernel
theorem dJ6_bitCount_0f7a4_3 : decode cJ6_bitCount_0f7a4 3 = .ok (.iushr, 1) := by decide +kernel
theorem dJ6_bitCount_0f7a4_4 : decode cJ6_bitCount_0f7a4 4 = .ok (.ldc_w 265, 3) := by decide +kernel
theorem dJ6_bitCount_0f7a4_7 : decode cJ6_bitCount_0f7a4 7 = .ok (.iand, 1) := by decide +kernel
theorem dJ6_bitCount_0f7a4_8 : decode cJ6_bitCount_0f7a4 8 = .ok (.isub, 1) := by decide +kernel
theorem dJ6_bitCount_0f7a4_9 : decode cJ6_bitCount_0f7a4 9 = .ok (.istore_n 0, 1) := by decide +kernel
theorem dJ6_bitCount_0f7a4_10 : decode cJ6_bitCount_0f7a4 10 = .ok (.iload_n 0, 1) := by decide +kernel
theorem dJ6_bitCount_0f7a4_11 : decode cJ6_bitCount_0f7a4 11 = .ok (.ldc_w 266, 3) := by decide +kernel
theorem dJ6_bitCount_0f7a4_14 : decode cJ6_bitCount_0f7a4 14 = .ok (.iand, 1) := by decide +kernel
theorem dJ6_bitCount_0f7a4_15 : decode cJ6_bitCount_0f7a4 15 = .ok (.iload_n 0, 1) := by decide +kernel
theorem dJ6_bitCount_0f7a4_16 : decode cJ6_bitCount_0f7a4 16 = .ok (.iconst 2, 1) := by decide +kernel
theorem dJ6_bitCount_0f7a4_17 : decode cJ6_bitCount_0f7a4 17 = .ok (.iushr, 1) := by decide +kernel
theorem dJ6_bitCount_0f7a4_18 : decode cJ6_bitCount_0f7a4 18 = .ok (.ldc_w 266, 3) := by decide +kernel
theorem dJ6_bitCount_0f7a4_21 : decode cJ6_bitCount_0f7a4 21 = .ok (.iand, 1) := by decide +kernel
theorem dJ6_bitCount_0f7a4_22 : decode cJ6_bitCount_0f7a4 22 = .ok (.iadd, 1) := by decide +kernel
theorem dJ6_bitCount_0f7a4_23 : decode cJ6_bitCount_0f7a4 23 = .ok (.istore_n 0, 1) := by decide +kernel
theorem dJ6_bitCount_0f7a4_24 : decode cJ6_bitCount_0f7a4 24 = .ok (.iload_n 0, 1) := by decide +kernel
theorem dJ6_bitCount_0f7a4_25 : decode cJ6_bitCount_0f7a4 25 = .ok (.iload_n 0, 1) := by decide +kernel
theorem dJ6_bitCount_0f7a4_26 : decode cJ6_bitCount_0f7a4 26 = .ok (.iconst 4, 1) := by decide +kernel
theorem dJ6_bitCount_0f7a4_27 : decode cJ6_bitCount_0f7a4 27 = .ok (.iushr, 1) := by decide +kernel
theorem dJ6_bitCount_0f7a4_28 : decode cJ6_bitCount_0f7a4 28 = .ok (.iadd, 1) := by decide +kernel
theorem dJ6_bitCount_0f7a4_29 : decode cJ6_bitCount_0f7a4 29 = .ok (.ldc_w 267, 3) := by decide +kernel
theorem dJ6_bitCount_0f7a4_32 : decode cJ6_bitCount_0f7a4 32 = .ok (.iand, 1) := by decide +kernel
theorem dJ6_bitCount_0f7a4_33 : decode cJ6_bitCount_0f7a4 33 = .ok (.istore_n 0, 1) := by decide +kernel
theorem dJ6_bitCount_0f7a4_34 : decode cJ6_bitCount_0f7a4 34 = .ok (.iload_n 0, 1) := by decide +kernel
theorem dJ6_bitCount_0f7a4_35 : decode cJ6_bitCount_0f7a4 35 = .ok (.iload_n 0, 1) := by decide +kernel
theorem dJ6_bitCount_0f7a4_36 : decode cJ6_bitCount_0f7a4 36 = .ok (.bipush 8, 2) := by decide +kernel
theorem dJ6_bitCount_0f7a4_38 : decode cJ6_bitCount_0f7a4 38 = .ok (.iushr, 1) := by decide +kernel
theorem dJ6_bitCount_0f7a4_39 : decode cJ6_bitCount_0f7a4 39 = .ok (.iadd, 1) := by decide +kernel
theorem dJ6_bitCount_0f7a4_40 : decode cJ6_bitCount_0f7a4 40 = .ok (.istore_n 0, 1) := by decide +kernel
theorem dJ6_bitCount_0f7a4_41 : decode cJ6_bitCount_0f7a4 41 = .ok (.iload_n 0, 1) := by decide +kernel
theorem dJ6_bitCount_0f7a4_42 : decode cJ6_bitCount_0f7a4 42 = .ok (.iload_n 0, 1) := by decide +kernel
theorem dJ6_bitCount_0f7a4_43 : decode cJ6_bitCount_0f7a4 43 = .ok (.bipush 16, 2) := by decide +kernel
theorem dJ6_bitCount_0f7a4_45 : decode cJ6_bitCount_0f7a4 45 = .ok (.iushr, 1) := by decide +kernel
theorem dJ6_bitCount_0f7a4_46 : decode cJ6_bitCount_0f7a4 46 = .ok (.iadd, 1) := by decide +kernel
theorem dJ6_bitCount_0f7a4_47 : decode cJ6_bitCount_0f7a4 47 = .ok (.istore_n 0, 1) := by decide +kernel
theorem dJ6_bitCount_0f7a4_48 : decode cJ6_bitCount_0f7a4 48 = .ok (.iload_n 0, 1) := by decide +kernel
theorem dJ6_bitCount_0f7a4_49 : decode cJ6_bitCount_0f7a4 49 = .ok (.bipush 63, 2) := by decide +kernel
theorem dJ6_bitCount_0f7a4_51 : decode cJ6_bitCount_0f7a4 51 = .ok (.iand, 1) := by decide +kernel
theorem dJ6_bitCount_0f7a4_52 : decode cJ6_bitCount_0f7a4 52 = .ok (.ireturn, 1) := by decide +kernel
theorem dJ9_abs_067f4_0 : decode cJ9_abs_067f4 0 = .ok (.lload_n 0, 1) := by decide +kernel
theorem dJ9_abs_067f4_1 : decode cJ9_abs_067f4 1 = .ok (.lconst 0, 1) := by decide +kernel
theorem dJ9_abs_067f4_2 : decode cJ9_abs_067f4 2 = .ok (.lcmp, 1) := by decide +kernel
theorem dJ9_abs_067f4_3 : decode cJ9_abs_067f4 3 = .ok (.ifCond .ge 8, 3) := by decide +kernel
theorem dJ9_abs_067f4_6 : decode cJ9_abs_067f4 6 = .ok (.lload_n 0, 1) := by decide +kernel
theorem dJ9_abs_067f4_7 : decode cJ9_abs_067f4 7 = .ok (.lneg, 1) := by decide +kernel
theorem dJ9_abs_067f4_8 : decode cJ9_abs_067f4 8 = .ok (.goto 4, 3) := by decide +kernel
theorem dJ9_abs_067f4_11 : decode cJ9_abs_067f4 11 = .ok (.lload_n 0, 1) := by decide +kernel
theorem dJ9_abs_067f4_12 : decode cJ9_abs_067f4 12 = .ok (.lreturn, 1) := by decide +kernel
theorem dJ9_max_7cf53_0 : decode cJ9_max_7cf53 0 = .ok (.iload_n 0, 1) := by decide +kernel
theorem dJ9_max_7cf53_1 : decode cJ9_max_7cf53 1 = .ok (.iload_n 1, 1) := by decide +kernel
theorem dJ9_max_7cf53_2 : decode cJ9_max_7cf53 2 = .ok (.if_icmp .lt 7, 3) := by decide +kernel
theorem dJ9_max_7cf53_5 : decode cJ9_max_7cf53 5 = .ok (.iload_n 0, 1) := by decide +kernel
theorem dJ9_max_7cf53_6 : decode cJ9_max_7cf53 6 = .ok (.goto 4, 3) := by decide +kernel
theorem dJ9_max_7cf53_9 : decode cJ9_max_7cf53 9 = .ok (.iload_n 1, 1) := by decide +kernel
theorem dJ9_max_7cf53_10 : decode cJ9_max_7cf53 10 = .ok (.ireturn, 1) := by decide +kernel
theorem dJ9_min_7cf53_0 : decode cJ9_min_7cf53 0 = .ok (.iload_n 0, 1) := by decide +kernel
theorem dJ9_min_7cf53_1 : decode cJ9_min_7cf53 1 = .ok (.iload_n 1, 1) := by decide +kernel
theorem dJ9_min_7cf53_2 : decode cJ9_min_7cf53 2 = .ok (.if_icmp .gt 7, 3) := by decide +kernel
theorem dJ9_min_7cf53_5 : decode cJ9_min_7cf53 5 = .ok (.iload_n 0, 1) := by decide +kernel
theorem dJ9_min_7cf53_6 : decode cJ9_min_7cf53 6 = .ok (.goto 4, 3) := by decide +kernel
theorem dJ9_min_7cf53_9 : decode cJ9_min_7cf53 9 = .ok (.iload_n 1, 1) := by decide +kernel
theorem dJ9_min_7cf53_10 : decode cJ9_min_7cf53 10 = .ok (.ireturn, 1) := by decide +kernel
theorem dJ0_length_8abf5_0 : decode cJ0_length_8abf5 0 = .ok (.aload_n 0, 1) := by decide +kernel
theorem dJ0_length_8abf5_1 : decode cJ0_length_8abf5 1 = .ok (.getfield 9, 3) := by decide +kernel
theorem dJ0_length_8abf5_4 : decode cJ0_length_8abf5 4 = .ok (.arraylength, 1) := by decide +kernel
theorem dJ0_length_8abf5_5 : decode cJ0_length_8abf5 5 = .ok (.aload_n 0, 1) := by decide +kernel
theorem dJ0_length_8abf5_6 : decode cJ0_length_8abf5 6 = .ok (.invokevirtual 335, 3) := by decide +kernel
theorem dJ0_length_8abf5_9 : decode cJ0_length_8abf5 9 = .ok (.ishr, 1) := by decide +kernel
theorem dJ0_length_8abf5_10 : decode cJ0_length_8abf5 10 = .ok (.ireturn, 1) := by decide +kernel
theorem dJ0_charAt_5068e_0 : decode cJ0_charAt_5068e 0 = .ok (.aload_n 0, 1) := by decide +kernel
theorem dJ0_charAt_5068e_1 : decode cJ0_charAt_5068e 1 = .ok (.invokevirtual 492, 3) := by decide +kernel
theorem dJ0_charAt_5068e_4 : decode cJ0_charAt_5068e 4 = .ok (.ifCond .eq 12, 3) := by decide +kernel
theorem dJ0_charAt_5068e_7 : decode cJ0_charAt_5068e 7 = .ok (.aload_n 0, 1) := by decide +kernel
theorem dJ0_charAt_5068e_8 : decode cJ0_charAt_5068e 8 = .ok (.getfield 9, 3) := by decide +kernel
theorem dJ0_charAt_5068e_11 : decode cJ0_charAt_5068e 11 = .ok (.iload_n 1, 1) := by decide +kernel
theorem dJ0_charAt_5068e_12 : decode cJ0_charAt_5068e 12 = .ok (.invokestatic 495, 3) := by decide +kernel
theorem dJ0_charAt_5068e_15 : decode cJ0_charAt_5068e 15 = .ok (.ireturn, 1) := by decide +kernel
theorem dJ0_charAt_5068e_16 : decode cJ0_charAt_5068e 16 = .ok (.aload_n 0, 1) := by decide +kernel
theorem dJ0_charAt_5068e_17 : decode cJ0_charAt_5068e 17 = .ok (.getfield 9, 3) := by decide +kernel
theorem dJ0_charAt_5068e_20 : decode cJ0_charAt_5068e 20 = .ok (.iload_n 1, 1) := by decide +kernel
theorem dJ0_charAt_5068e_21 : decode cJ0_charAt_5068e 21 = .ok (.invokestatic 498, 3) := by decide +kernel
theorem dJ0_charAt_5068e_24 : decode cJ0_charAt_5068e 24 = .ok (.ireturn, 1) := by decide +kernel
theorem dJ0_coder_7d493_0 : decode cJ0_coder_7d493 0 = .ok (.getstatic 38, 3) := by decide +kernel
theorem dJ0_coder_7d493_3 : decode cJ0_coder_7d493 3 = .ok (.ifCond .eq 10, 3) := by decide +kernel
theorem dJ0_coder_7d493_6 : decode cJ0_coder_7d493 6 = .ok (.aload_n 0, 1) := by decide +kernel
theorem dJ0_coder_7d493_7 : decode cJ0_coder_7d493 7 = .ok (.getfield 15, 3) := by decide +kernel
theorem dJ0_coder_7d493_10 : decode cJ0_coder_7d493 10 = .ok (.goto 4, 3) := by decide +kernel
theorem dJ0_coder_7d493_13 : decode cJ0_coder_7d493 13 = .ok (.iconst 1, 1) := by decide +kernel
theorem dJ0_coder_7d493_14 : decode cJ0_coder_7d493 14 = .ok (.ireturn, 1) := by decide +kernel
theorem dJ0_isLatin1_aae02_0 : decode cJ0_isLatin1_aae02 0 = .ok (.getstatic 38, 3) := by decide +kernel
theorem dJ0_isLatin1_aae02_3 : decode cJ0_isLatin1_aae02 3 = .ok (.ifCond .eq 14, 3) := by decide +kernel
theorem dJ0_isLatin1_aae02_6 : decode cJ0_isLatin1_aae02 6 = .ok (.aload_n 0, 1) := by decide +kernel
theorem dJ0_isLatin1_aae02_7 : decode cJ0_isLatin1_aae02 7 = .ok (.getfield 15, 3) := by decide +kernel
theorem dJ0_isLatin1_aae02_10 : decode cJ0_isLatin1_aae02 10 = .ok (.ifCond .ne 7, 3) := by decide +kernel
theorem dJ0_isLatin1_aae02_13 : decode cJ0_isLatin1_aae02 13 = .ok (.iconst 1, 1) := by decide +kernel
theorem dJ0_isLatin1_aae02_14 : decode cJ0_isLatin1_aae02 14 = .ok (.goto 4, 3) := by decide +kernel
theorem dJ0_isLatin1_aae02_17 : decode cJ0_isLatin1_aae02 17 = .ok (.iconst 0, 1) := by decide +kernel
theorem dJ0_isLatin1_aae02_18 : decode cJ0_isLatin1_aae02 18 = .ok (.ireturn, 1) := by decide +kernel
theorem dJ0_checkIndex_df160_0 : decode cJ0_checkIndex_df160 0 = .ok (.iload_n 0, 1) := by decide +kernel
theorem dJ0_checkIndex_df160_1 : decode cJ0_checkIndex_df160 1 = .ok (.iload_n 1, 1) := by decide +kernel
theorem dJ0_checkIndex_df160_2 : decode cJ0_checkIndex_df160 2 = .ok (.getstatic 1053, 3) := by decide +kernel
theorem dJ0_checkIndex_df160_5 : decode cJ0_checkIndex_df160 5 = .ok (.invokestatic 1059, 3) := by decide +kernel
theorem dJ0_checkIndex_df160_8 : decode cJ0_checkIndex_df160 8 = .ok (.pop, 1) := by decide +kernel
theorem dJ0_checkIndex_df160_9 : decode cJ0_checkIndex_df160 9 = .ok (.return_, 1) := by decide +kernel
theorem dJ1_charAt_3b067_0 : decode cJ1_charAt_3b067 0 = .ok (.iload_n 1, 1) := by decide +kernel
theorem dJ1_charAt_3b067_1 : decode cJ1_charAt_3b067 1 = .ok (.aload_n 0, 1) := by decide +kernel
theorem dJ1_charAt_3b067_2 : decode cJ1_charAt_3b067 2 = .ok (.arraylength, 1) := by decide +kernel
theorem dJ1_charAt_3b067_3 : decode cJ1_charAt_3b067 3 = .ok (.invokestatic 9, 3) := by decide +kernel
theorem dJ1_charAt_3b067_6 : decode cJ1_charAt_3b067 6 = .ok (.aload_n 0, 1) := by decide +kernel
theorem dJ1_charAt_3b067_7 : decode cJ1_charAt_3b067 7 = .ok (.iload_n 1, 1) := by decide +kernel
theorem dJ1_charAt_3b067_8 : decode cJ1_charAt_3b067 8 = .ok (.baload, 1) := by decide +kernel
theorem dJ1_charAt_3b067_9 : decode cJ1_charAt_3b067 9 = .ok (.sipush 255, 3) := by decide +kernel
theorem dJ1_charAt_3b067_12 : decode cJ1_charAt_3b067 12 = .ok (.iand, 1) := by decide +kernel
theorem dJ1_charAt_3b067_13 : decode cJ1_charAt_3b067 13 = .ok (.i2c, 1) := by decide +kernel
theorem dJ1_charAt_3b067_14 : decode cJ1_charAt_3b067 14 = .ok (.ireturn, 1) := by decide +kernel
theorem dJ2_getChar_3b067_0 : decode cJ2_getChar_3b067 0 = .ok (.getstatic 44, 3) := by decide +kernel
theorem dJ2_getChar_3b067_3 : decode cJ2_getChar_3b067 3 = .ok (.ifCond .ne 25, 3) := by decide +kernel
theorem dJ2_getChar_3b067_6 : decode cJ2_getChar_3b067 6 = .ok (.iload_n 1, 1) := by decide +kernel
theorem dJ2_getChar_3b067_7 : decode cJ2_getChar_3b067 7 = .ok (.ifCond .lt 11, 3) := by decide +kernel
theorem dJ2_getChar_3b067_10 : decode cJ2_getChar_3b067 10 = .ok (.iload_n 1, 1) := by decide +kernel
theorem dJ2_getChar_3b067_11 : decode cJ2_getChar_3b067 11 = .ok (.aload_n 0, 1) := by decide +kernel
theorem dJ2_getChar_3b067_12 : decode cJ2_getChar_3b067 12 = .ok (.invokestatic 48, 3) := by decide +kernel
theorem dJ2_getChar_3b067_15 : decode cJ2_getChar_3b067 15 = .ok (.if_icmp .lt 13, 3) := by decide +kernel
theorem dJ2_getChar_3b067_18 : decode cJ2_getChar_3b067 18 = .ok (.new 52, 3) := by decide +kernel
theorem dJ2_getChar_3b067_21 : decode cJ2_getChar_3b067 21 = .ok (.dup, 1) := by decide +kernel
theorem dJ2_getChar_3b067_22 : decode cJ2_getChar_3b067 22 = .ok (.ldc 54, 2) := by decide +kernel
theorem dJ2_getChar_3b067_24 : decode cJ2_getChar_3b067 24 = .ok (.invokespecial 56, 3) := by decide +kernel
theorem dJ2_getChar_3b067_27 : decode cJ2_getChar_3b067 27 = .ok (.athrow, 1) := by decide +kernel
theorem dJ2_getChar_3b067_28 : decode cJ2_getChar_3b067 28 = .ok (.iload_n 1, 1) := by decide +kernel
theorem dJ2_getChar_3b067_29 : decode cJ2_getChar_3b067 29 = .ok (.iconst 1, 1) := by decide +kernel
theorem dJ2_getChar_3b067_30 : decode cJ2_getChar_3b067 30 = .ok (.ishl, 1) := by decide +kernel
theorem dJ2_getChar_3b067_31 : decode cJ2_getChar_3b067 31 = .ok (.istore_n 1, 1) := by decide +kernel
theorem dJ2_getChar_3b067_32 : decode cJ2_getChar_3b067 32 = .ok (.aload_n 0, 1) := by decide +kernel
theorem dJ2_getChar_3b067_33 : decode cJ2_getChar_3b067 33 = .ok (.iload_n 1, 1) := by decide +kernel
theorem dJ2_getChar_3b067_34 : decode cJ2_getChar_3b067 34 = .ok (.iinc 1 1, 3) := by decide +kernel
theorem dJ2_getChar_3b067_37 : decode cJ2_getChar_3b067 37 = .ok (.baload, 1) := by decide +kernel
theorem dJ2_getChar_3b067_38 : decode cJ2_getChar_3b067 38 = .ok (.sipush 255, 3) := by decide +kernel
theorem dJ2_getChar_3b067_41 : decode cJ2_getChar_3b067 41 = .ok (.iand, 1) := by decide +kernel
theorem dJ2_getChar_3b067_42 : decode cJ2_getChar_3b067 42 = .ok (.getstatic 59, 3) := by decide +kernel
theorem dJ2_getChar_3b067_45 : decode cJ2_getChar_3b067 45 = .ok (.ishl, 1) := by decide +kernel
theorem dJ2_getChar_3b067_46 : decode cJ2_getChar_3b067 46 = .ok (.aload_n 0, 1) := by decide +kernel
theorem dJ2_getChar_3b067_47 : decode cJ2_getChar_3b067 47 = .ok (.iload_n 1, 1) := by decide +kernel
theorem dJ2_getChar_3b067_48 : decode cJ2_getChar_3b067 48 = .ok (.baload, 1) := by decide +kernel
theorem dJ2_getChar_3b067_49 : decode cJ2_getChar_3b067 49 = .ok (.sipush 255, 3) := by decide +kernel
theorem dJ2_getChar_3b067_52 : decode cJ2_getChar_3b067 52 = .ok (.iand, 1) := by decide +kernel
theorem dJ2_getChar_3b067_53 : decode cJ2_getChar_3b067 53 = .ok (.getstatic 63, 3) := by decide +kernel
theorem dJ2_getChar_3b067_56 : decode cJ2_getChar_3b067 56 = .ok (.ishl, 1) := by decide +kernel
theorem dJ2_getChar_3b067_57 : decode cJ2_getChar_3b067 57 = .ok (.ior, 1) := by decide +kernel
theorem dJ2_getChar_3b067_58 : decode cJ2_getChar_3b067 58 = .ok (.i2c, 1) := by decide +kernel
theorem dJ2_getChar_3b067_59 : decode cJ2_getChar_3b067 59 = .ok (.ireturn, 1) := by decide +kernel
theorem dJ2_length_9d52b_0 : decode cJ2_length_9d52b 0 = .ok (.aload_n 0, 1) := by decide +kernel
theorem dJ2_length_9d52b_1 : decode cJ2_length_9d52b 1 = .ok (.arraylength, 1) := by decide +kernel
theorem dJ2_length_9d52b_2 : decode cJ2_length_9d52b 2 = .ok (.iconst 1, 1) := by decide +kernel
theorem dJ2_length_9d52b_3 : decode cJ2_length_9d52b 3 = .ok (.ishr, 1) := by decide +kernel
theorem dJ2_length_9d52b_4 : decode cJ2_length_9d52b 4 = .ok (.ireturn, 1) := by decide +kernel
theorem dJ2_charAt_3b067_0 : decode cJ2_charAt_3b067 0 = .ok (.iload_n 1, 1) := by decide +kernel
theorem dJ2_charAt_3b067_1 : decode cJ2_charAt_3b067 1 = .ok (.aload_n 0, 1) := by decide +kernel
theorem dJ2_charAt_3b067_2 : decode cJ2_charAt_3b067 2 = .ok (.invokestatic 67, 3) := by decide +kernel
theorem dJ2_charAt_3b067_5 : decode cJ2_charAt_3b067 5 = .ok (.aload_n 0, 1) := by decide +kernel
theorem dJ2_charAt_3b067_6 : decode cJ2_charAt_3b067 6 = .ok (.iload_n 1, 1) := by decide +kernel
theorem dJ2_charAt_3b067_7 : decode cJ2_charAt_3b067 7 = .ok (.invokestatic 71, 3) := by decide +kernel
theorem dJ2_charAt_3b067_10 : decode cJ2_charAt_3b067 10 = .ok (.ireturn, 1) := by decide +kernel
theorem dJ2_checkIndex_2214a_0 : decode cJ2_checkIndex_2214a 0 = .ok (.iload_n 0, 1) := by decide +kernel
theorem dJ2_checkIndex_2214a_1 : decode cJ2_checkIndex_2214a 1 = .ok (.aload_n 1, 1) := by decide +kernel
theorem dJ2_checkIndex_2214a_2 : decode cJ2_checkIndex_2214a 2 = .ok (.invokestatic 48, 3) := by decide +kernel
theorem dJ2_checkIndex_2214a_5 : decode cJ2_checkIndex_2214a 5 = .ok (.invokestatic 414, 3) := by decide +kernel
theorem dJ2_checkIndex_2214a_8 : decode cJ2_checkIndex_2214a 8 = .ok (.return_, 1) := by decide +kernel
theorem dJ7_fill_53178_0 : decode cJ7_fill_53178 0 = .ok (.iconst 0, 1) := by decide +kernel
theorem dJ7_fill_53178_1 : decode cJ7_fill_53178 1 = .ok (.istore_n 2, 1) := by decide +kernel
theorem dJ7_fill_53178_2 : decode cJ7_fill_53178 2 = .ok (.aload_n 0, 1) := by decide +kernel
theorem dJ7_fill_53178_3 : decode cJ7_fill_53178 3 = .ok (.arraylength, 1) := by decide +kernel
theorem dJ7_fill_53178_4 : decode cJ7_fill_53178 4 = .ok (.istore_n 3, 1) := by decide +kernel
theorem dJ7_fill_53178_5 : decode cJ7_fill_53178 5 = .ok (.iload_n 2, 1) := by decide +kernel
theorem dJ7_fill_53178_6 : decode cJ7_fill_53178 6 = .ok (.iload_n 3, 1) := by decide +kernel
theorem dJ7_fill_53178_7 : decode cJ7_fill_53178 7 = .ok (.if_icmp .ge 13, 3) := by decide +kernel
theorem dJ7_fill_53178_10 : decode cJ7_fill_53178 10 = .ok (.aload_n 0, 1) := by decide +kernel
theorem dJ7_fill_53178_11 : decode cJ7_fill_53178 11 = .ok (.iload_n 2, 1) := by decide +kernel
theorem dJ7_fill_53178_12 : decode cJ7_fill_53178 12 = .ok (.iload_n 1, 1) := by decide +kernel
theorem dJ7_fill_53178_13 : decode cJ7_fill_53178 13 = .ok (.iastore, 1) := by decide +kernel
theorem dJ7_fill_53178_14 : decode cJ7_fill_53178 14 = .ok (.iinc 2 1, 3) := by decide +kernel
theorem dJ7_fill_53178_17 : decode cJ7_fill_53178 17 = .ok (.goto (-12), 3) := by decide +kernel
theorem dJ7_fill_53178_20 : decode cJ7_fill_53178 20 = .ok (.return_, 1) := by decide +kernel
theorem dJ3_checkIndex_8e157_0 : decode cJ3_checkIndex_8e157 0 = .ok (.iload_n 0, 1) := by decide +kernel
theorem dJ3_checkIndex_8e157_1 : decode cJ3_checkIndex_8e157 1 = .ok (.ifCond .lt 8, 3) := by decide +kernel
theorem dJ3_checkIndex_8e157_4 : decode cJ3_checkIndex_8e157 4 = .ok (.iload_n 0, 1) := by decide +kernel
theorem dJ3_checkIndex_8e157_5 : decode cJ3_checkIndex_8e157 5 = .ok (.iload_n 1, 1) := by decide +kernel
theorem dJ3_checkIndex_8e157_6 : decode cJ3_checkIndex_8e157 6 = .ok (.if_icmp .lt 10, 3) := by decide +kernel
theorem dJ3_checkIndex_8e157_9 : decode cJ3_checkIndex_8e157 9 = .ok (.aload_n 2, 1) := by decide +kernel
theorem dJ3_checkIndex_8e157_10 : decode cJ3_checkIndex_8e157 10 = .ok (.iload_n 0, 1) := by decide +kernel
theorem dJ3_checkIndex_8e157_11 : decode cJ3_checkIndex_8e157 11 = .ok (.iload_n 1, 1) := by decide +kernel
theorem dJ3_checkIndex_8e157_12 : decode cJ3_checkIndex_8e157 12 = .ok (.invokestatic 95, 3) := by decide +kernel
theorem dJ3_checkIndex_8e157_15 : decode cJ3_checkIndex_8e157 15 = .ok (.athrow, 1) := by decide +kernel
theorem dJ3_checkIndex_8e157_16 : decode cJ3_checkIndex_8e157 16 = .ok (.iload_n 0, 1) := by decide +kernel
theorem dJ3_checkIndex_8e157_17 : decode cJ3_checkIndex_8e157 17 = .ok (.ireturn, 1) := by decide +kernel
theorem dL_law_0 : decode cL_law 0 = .ok (.new 7, 3) := by decide +kernel
theorem dL_law_3 : decode cL_law 3 = .ok (.dup, 1) := by decide +kernel
theorem dL_law_4 : decode cL_law 4 = .ok (.invokespecial 9, 3) := by decide +kernel
theorem dL_law_7 : decode cL_law 7 = .ok (.astore_n 1, 1) := by decide +kernel
theorem dL_law_8 : decode cL_law 8 = .ok (.new 10, 3) := by decide +kernel
theorem dL_law_11 : decode cL_law 11 = .ok (.dup, 1) := by decide +kernel
theorem dL_law_12 : decode cL_law 12 = .ok (.invokespecial 12, 3) := by decide +kernel
theorem dL_law_15 : decode cL_law 15 = .ok (.astore_n 2, 1) := by decide +kernel
theorem dL_law_16 : decode cL_law 16 = .ok (.iconst 0, 1) := by decide +kernel
theorem dL_law_17 : decode cL_law 17 = .ok (.istore_n 3, 1) := by decide +kernel
theorem dL_law_18 : decode cL_law 18 = .ok (.iload_n 3, 1) := by decide +kernel
theorem dL_law_19 : decode cL_law 19 = .ok (.aload_n 0, 1) := by decide +kernel
theorem dL_law_20 : decode cL_law 20 = .ok (.arraylength, 1) := by decide +kernel
theorem dL_law_21 : decode cL_law 21 = .ok (.bipush 6, 2) := by decide +kernel
theorem dL_law_23 : decode cL_law 23 = .ok (.isub, 1) := by decide +kernel
theorem dL_law_24 : decode cL_law 24 = .ok (.if_icmp .gt 1130, 3) := by decide +kernel
theorem dL_law_27 : decode cL_law 27 = .ok (.aload_n 0, 1) := by decide +kernel
theorem dL_law_28 : decode cL_law 28 = .ok (.iload_n 3, 1) := by decide +kernel
theorem dL_law_29 : decode cL_law 29 = .ok (.iaload, 1) := by decide +kernel
theorem dL_law_30 : decode cL_law 30 = .ok (.bipush 31, 2) := by decide +kernel
theorem dL_law_32 : decode cL_law 32 = .ok (.iand, 1) := by decide +kernel
theorem dL_law_33 : decode cL_law 33 = .ok (.tableswitch 1115 0 30 #[139, 202, 215, 228, 251, 274, 307, 340, 363, 376, 419, 462, 505, 538, 571, 635, 678, 731, 744, 798, 821, 844, 887, 920, 943, 976, 999, 1032, 1055, 1078, 1101], 139) := by decide +kernel
theorem dL_law_172 : decode cL_law 172 = .ok (.aload_n 1, 1) := by decide +kernel
theorem dL_law_173 : decode cL_law 173 = .ok (.aload_n 0, 1) := by decide +kernel
theorem dL_law_174 : decode cL_law 174 = .ok (.iload_n 3, 1) := by decide +kernel
theorem dL_law_175 : decode cL_law 175 = .ok (.iconst 1, 1) := by decide +kernel
theorem dL_law_176 : decode cL_law 176 = .ok (.iadd, 1) := by decide +kernel
theorem dL_law_177 : decode cL_law 177 = .ok (.iaload, 1) := by decide +kernel
theorem dL_law_178 : decode cL_law 178 = .ok (.i2l, 1) := by decide +kernel
theorem dL_law_179 : decode cL_law 179 = .ok (.bipush 32, 2) := by decide +kernel
theorem dL_law_181 : decode cL_law 181 = .ok (.lshl, 1) := by decide +kernel
theorem dL_law_182 : decode cL_law 182 = .ok (.aload_n 0, 1) := by decide +kernel
theorem dL_law_183 : decode cL_law 183 = .ok (.iload_n 3, 1) := by decide +kernel
theorem dL_law_184 : decode cL_law 184 = .ok (.iconst 2, 1) := by decide +kernel
theorem dL_law_185 : decode cL_law 185 = .ok (.iadd, 1) := by decide +kernel
theorem dL_law_186 : decode cL_law 186 = .ok (.iaload, 1) := by decide +kernel
theorem dL_law_187 : decode cL_law 187 = .ok (.i2l, 1) := by decide +kernel
theorem dL_law_188 : decode cL_law 188 = .ok (.ldc2_w 13, 3) := by decide +kernel
theorem dL_law_191 : decode cL_law 191 = .ok (.land, 1) := by decide +kernel
theorem dL_law_192 : decode cL_law 192 = .ok (.lor, 1) := by decide +kernel
theorem dL_law_193 : decode cL_law 193 = .ok (.aload_n 0, 1) := by decide +kernel
theorem dL_law_194 : decode cL_law 194 = .ok (.iload_n 3, 1) := by decide +kernel
theorem dL_law_195 : decode cL_law 195 = .ok (.iconst 3, 1) := by decide +kernel
theorem dL_law_196 : decode cL_law 196 = .ok (.iadd, 1) := by decide +kernel
theorem dL_law_197 : decode cL_law 197 = .ok (.iaload, 1) := by decide +kernel
theorem dL_law_198 : decode cL_law 198 = .ok (.invokevirtual 15, 3) := by decide +kernel
theorem dL_law_201 : decode cL_law 201 = .ok (.aload_n 2, 1) := by decide +kernel
theorem dL_law_202 : decode cL_law 202 = .ok (.aload_n 0, 1) := by decide +kernel
theorem dL_law_203 : decode cL_law 203 = .ok (.iload_n 3, 1) := by decide +kernel
theorem dL_law_204 : decode cL_law 204 = .ok (.iconst 1, 1) := by decide +kernel
theorem dL_law_205 : decode cL_law 205 = .ok (.iadd, 1) := by decide +kernel
theorem dL_law_206 : decode cL_law 206 = .ok (.iaload, 1) := by decide +kernel
theorem dL_law_207 : decode cL_law 207 = .ok (.i2l, 1) := by decide +kernel
theorem dL_law_208 : decode cL_law 208 = .ok (.bipush 32, 2) := by decide +kernel
theorem dL_law_210 : decode cL_law 210 = .ok (.lshl, 1) := by decide +kernel
theorem dL_law_211 : decode cL_law 211 = .ok (.aload_n 0, 1) := by decide +kernel
theorem dL_law_212 : decode cL_law 212 = .ok (.iload_n 3, 1) := by decide +kernel
theorem dL_law_213 : decode cL_law 213 = .ok (.iconst 2, 1) := by decide +kernel
theorem dL_law_214 : decode cL_law 214 = .ok (.iadd, 1) := by decide +kernel
theorem dL_law_215 : decode cL_law 215 = .ok (.iaload, 1) := by decide +kernel
theorem dL_law_216 : decode cL_law 216 = .ok (.i2l, 1) := by decide +kernel
theorem dL_law_217 : decode cL_law 217 = .ok (.ldc2_w 13, 3) := by decide +kernel
theorem dL_law_220 : decode cL_law 220 = .ok (.land, 1) := by decide +kernel
theorem dL_law_221 : decode cL_law 221 = .ok (.lor, 1) := by decide +kernel
theorem dL_law_222 : decode cL_law 222 = .ok (.aload_n 0, 1) := by decide +kernel
theorem dL_law_223 : decode cL_law 223 = .ok (.iload_n 3, 1) := by decide +kernel
theorem dL_law_224 : decode cL_law 224 = .ok (.iconst 3, 1) := by decide +kernel
theorem dL_law_225 : decode cL_law 225 = .ok (.iadd, 1) := by decide +kernel
theorem dL_law_226 : decode cL_law 226 = .ok (.iaload, 1) := by decide +kernel
theorem dL_law_227 : decode cL_law 227 = .ok (.invokevirtual 19, 3) := by decide +kernel
theorem dL_law_230 : decode cL_law 230 = .ok (.if_icmp .eq 918, 3) := by decide +kernel
theorem dL_law_233 : decode cL_law 233 = .ok (.iconst 0, 1) := by decide +kernel
theorem dL_law_234 : decode cL_law 234 = .ok (.ireturn, 1) := by decide +kernel
theorem dL_law_235 : decode cL_law 235 = .ok (.aload_n 1, 1) := by decide +kernel
theorem dL_law_236 : decode cL_law 236 = .ok (.invokevirtual 20, 3) := by decide +kernel
theorem dL_law_239 : decode cL_law 239 = .ok (.aload_n 2, 1) := by decide +kernel
theorem dL_law_240 : decode cL_law 240 = .ok (.invokevirtual 24, 3) := by decide +kernel
theorem dL_law_243 : decode cL_law 243 = .ok (.if_icmp .eq 905, 3) := by decide +kernel
theorem dL_law_246 : decode cL_law 246 = .ok (.iconst 0, 1) := by decide +kernel
theorem dL_law_247 : decode cL_law 247 = .ok (.ireturn, 1) := by decide +kernel
theorem dL_law_248 : decode cL_law 248 = .ok (.aload_n 1, 1) := by decide +kernel
theorem dL_law_249 : decode cL_law 249 = .ok (.invokevirtual 25, 3) := by decide +kernel
theorem dL_law_252 : decode cL_law 252 = .ok (.aload_n 2, 1) := by decide +kernel
theorem dL_law_253 : decode cL_law 253 = .ok (.invokevirtual 28, 3) := by decide +kernel
theorem dL_law_256 : decode cL_law 256 = .ok (.if_icmp .eq 892, 3) := by decide +kernel
theorem dL_law_259 : decode cL_law 259 = .ok (.iconst 0, 1) := by decide +kernel
theorem dL_law_260 : decode cL_law 260 = .ok (.ireturn, 1) := by decide +kernel
theorem dL_law_261 : decode cL_law 261 = .ok (.aload_n 1, 1) := by decide +kernel
theorem dL_law_262 : decode cL_law 262 = .ok (.aload_n 0, 1) := by decide +kernel
theorem dL_law_263 : decode cL_law 263 = .ok (.iload_n 3, 1) := by decide +kernel
theorem dL_law_264 : decode cL_law 264 = .ok (.iconst 1, 1) := by decide +kernel
theorem dL_law_265 : decode cL_law 265 = .ok (.iadd, 1) := by decide +kernel
theorem dL_law_266 : decode cL_law 266 = .ok (.iaload, 1) := by decide +kernel
theorem dL_law_267 : decode cL_law 267 = .ok (.invokevirtual 29, 3) := by decide +kernel
theorem dL_law_270 : decode cL_law 270 = .ok (.aload_n 2, 1) := by decide +kernel
theorem dL_law_271 : decode cL_law 271 = .ok (.aload_n 0, 1) := by decide +kernel
theorem dL_law_272 : decode cL_law 272 = .ok (.iload_n 3, 1) := by decide +kernel
theorem dL_law_273 : decode cL_law 273 = .ok (.iconst 1, 1) := by decide +kernel
theorem dL_law_274 : decode cL_law 274 = .ok (.iadd, 1) := by decide +kernel
theorem dL_law_275 : decode cL_law 275 = .ok (.iaload, 1) := by decide +kernel
theorem dL_law_276 : decode cL_law 276 = .ok (.invokevirtual 33, 3) := by decide +kernel
theorem dL_law_279 : decode cL_law 279 = .ok (.if_icmp .eq 869, 3) := by decide +kernel
theorem dL_law_282 : decode cL_law 282 = .ok (.iconst 0, 1) := by decide +kernel
theorem dL_law_283 : decode cL_law 283 = .ok (.ireturn, 1) := by decide +kernel
theorem dL_law_284 : decode cL_law 284 = .ok (.aload_n 1, 1) := by decide +kernel
theorem dL_law_285 : decode cL_law 285 = .ok (.aload_n 0, 1) := by decide +kernel
theorem dL_law_286 : decode cL_law 286 = .ok (.iload_n 3, 1) := by decide +kernel
theorem dL_law_287 : decode cL_law 287 = .ok (.iconst 1, 1) := by decide +kernel
theorem dL_law_288 : decode cL_law 288 = .ok (.iadd, 1) := by decide +kernel
theorem dL_law_289 : decode cL_law 289 = .ok (.iaload, 1) := by decide +kernel
theorem dL_law_290 : decode cL_law 290 = .ok (.invokevirtual 34, 3) := by decide +kernel
theorem dL_law_293 : decode cL_law 293 = .ok (.aload_n 2, 1) := by decide +kernel
theorem dL_law_294 : decode cL_law 294 = .ok (.aload_n 0, 1) := by decide +kernel
theorem dL_law_295 : decode cL_law 295 = .ok (.iload_n 3, 1) := by decide +kernel
theorem dL_law_296 : decode cL_law 296 = .ok (.iconst 1, 1) := by decide +kernel
theorem dL_law_297 : decode cL_law 297 = .ok (.iadd, 1) := by decide +kernel
theorem dL_law_298 : decode cL_law 298 = .ok (.iaload, 1) := by decide +kernel
theorem dL_law_299 : decode cL_law 299 = .ok (.invokevirtual 37, 3) := by decide +kernel
theorem dL_law_302 : decode cL_law 302 = .ok (.if_icmp .eq 846, 3) := by decide +kernel
theorem dL_law_305 : decode cL_law 305 = .ok (.iconst 0, 1) := by decide +kernel
theorem dL_law_306 : decode cL_law 306 = .ok (.ireturn, 1) := by decide +kernel
theorem dL_law_307 : decode cL_law 307 = .ok (.aload_n 1, 1) := by decide +kernel
theorem dL_law_308 : decode cL_law 308 = .ok (.aload_n 0, 1) := by decide +kernel
theorem dL_law_309 : decode cL_law 309 = .ok (.iload_n 3, 1) := by decide +kernel
theorem dL_law_310 : decode cL_law 310 = .ok (.iconst 1, 1) := by decide +kernel
theorem dL_law_311 : decode cL_law 311 = .ok (.iadd, 1) := by decide +kernel
theorem dL_law_312 : decode cL_law 312 = .ok (.iaload, 1) := by decide +kernel
theorem dL_law_313 : decode cL_law 313 = .ok (.aload_n 0, 1) := by decide +kernel
theorem dL_law_314 : decode cL_law 314 = .ok (.iload_n 3, 1) := by decide +kernel
theorem dL_law_315 : decode cL_law 315 = .ok (.iconst 2, 1) := by decide +kernel
theorem dL_law_316 : decode cL_law 316 = .ok (.iadd, 1) := by decide +kernel
theorem dL_law_317 : decode cL_law 317 = .ok (.iaload, 1) := by decide +kernel
theorem dL_law_318 : decode cL_law 318 = .ok (.invokevirtual 38, 3) := by decide +kernel
theorem dL_law_321 : decode cL_law 321 = .ok (.aload_n 2, 1) := by decide +kernel
theorem dL_law_322 : decode cL_law 322 = .ok (.aload_n 0, 1) := by decide +kernel
theorem dL_law_323 : decode cL_law 323 = .ok (.iload_n 3, 1) := by decide +kernel
theorem dL_law_324 : decode cL_law 324 = .ok (.iconst 1, 1) := by decide +kernel
theorem dL_law_325 : decode cL_law 325 = .ok (.iadd, 1) := by decide +kernel
theorem dL_law_326 : decode cL_law 326 = .ok (.iaload, 1) := by decide +kernel
theorem dL_law_327 : decode cL_law 327 = .ok (.aload_n 0, 1) := by decide +kernel
theorem dL_law_328 : decode cL_law 328 = .ok (.iload_n 3, 1) := by decide +kernel
theorem dL_law_329 : decode cL_law 329 = .ok (.iconst 2, 1) := by decide +kernel
theorem dL_law_330 : decode cL_law 330 = .ok (.iadd, 1) := by decide +kernel
theorem dL_law_331 : decode cL_law 331 = .ok (.iaload, 1) := by decide +kernel
theorem dL_law_332 : decode cL_law 332 = .ok (.invokevirtual 42, 3) := by decide +kernel
theorem dL_law_335 : decode cL_law 335 = .ok (.if_icmp .eq 813, 3) := by decide +kernel
theorem dL_law_338 : decode cL_law 338 = .ok (.iconst 0, 1) := by decide +kernel
theorem dL_law_339 : decode cL_law 339 = .ok (.ireturn, 1) := by decide +kernel
theorem dL_law_340 : decode cL_law 340 = .ok (.aload_n 1, 1) := by decide +kernel
theorem dL_law_341 : decode cL_law 341 = .ok (.aload_n 0, 1) := by decide +kernel
theorem dL_law_342 : decode cL_law 342 = .ok (.iload_n 3, 1) := by decide +kernel
theorem dL_law_343 : decode cL_law 343 = .ok (.iconst 1, 1) := by decide +kernel
theorem dL_law_344 : decode cL_law 344 = .ok (.iadd, 1) := by decide +kernel
theorem dL_law_345 : decode cL_law 345 = .ok (.iaload, 1) := by decide +kernel
theorem dL_law_346 : decode cL_law 346 = .ok (.aload_n 0, 1) := by decide +kernel
theorem dL_law_347 : decode cL_law 347 = .ok (.iload_n 3, 1) := by decide +kernel
theorem dL_law_348 : decode cL_law 348 = .ok (.iconst 2, 1) := by decide +kernel
theorem dL_law_349 : decode cL_law 349 = .ok (.iadd, 1) := by decide +kernel
theorem dL_law_350 : decode cL_law 350 = .ok (.iaload, 1) := by decide +kernel
theorem dL_law_351 : decode cL_law 351 = .ok (.invokevirtual 43, 3) := by decide +kernel
theorem dL_law_354 : decode cL_law 354 = .ok (.aload_n 2, 1) := by decide +kernel
theorem dL_law_355 : decode cL_law 355 = .ok (.aload_n 0, 1) := by decide +kernel
theorem dL_law_356 : decode cL_law 356 = .ok (.iload_n 3, 1) := by decide +kernel
theorem dL_law_357 : decode cL_law 357 = .ok (.iconst 1, 1) := by decide +kernel
theorem dL_law_358 : decode cL_law 358 = .ok (.iadd, 1) := by decide +kernel
theorem dL_law_359 : decode cL_law 359 = .ok (.iaload, 1) := by decide +kernel
theorem dL_law_360 : decode cL_law 360 = .ok (.aload_n 0, 1) := by decide +kernel
theorem dL_law_361 : decode cL_law 361 = .ok (.iload_n 3, 1) := by decide +kernel
theorem dL_law_362 : decode cL_law 362 = .ok (.iconst 2, 1) := by decide +kernel
theorem dL_law_363 : decode cL_law 363 = .ok (.iadd, 1) := by decide +kernel
theorem dL_law_364 : decode cL_law 364 = .ok (.iaload, 1) := by decide +kernel
theorem dL_law_365 : decode cL_law 365 = .ok (.invokevirtual 46, 3) := by decide +kernel
theorem dL_law_368 : decode cL_law 368 = .ok (.if_icmp .eq 780, 3) := by decide +kernel
theorem dL_law_371 : decode cL_law 371 = .ok (.iconst 0, 1) := by decide +kernel
theorem dL_law_372 : decode cL_law 372 = .ok (.ireturn, 1) := by decide +kernel
theorem dL_law_373 : decode cL_law 373 = .ok (.aload_n 1, 1) := by decide +kernel
theorem dL_law_374 : decode cL_law 374 = .ok (.aload_n 0, 1) := by decide +kernel
theorem dL_law_375 : decode cL_law 375 = .ok (.iload_n 3, 1) := by decide +kernel
theorem dL_law_376 : decode cL_law 376 = .ok (.iconst 1, 1) := by decide +kernel
theorem dL_law_377 : decode cL_law 377 = .ok (.iadd, 1) := by decide +kernel
theorem dL_law_378 : decode cL_law 378 = .ok (.iaload, 1) := by decide +kernel
theorem dL_law_379 : decode cL_law 379 = .ok (.invokevirtual 47, 3) := by decide +kernel
theorem dL_law_382 : decode cL_law 382 = .ok (.aload_n 2, 1) := by decide +kernel
theorem dL_law_383 : decode cL_law 383 = .ok (.aload_n 0, 1) := by decide +kernel
theorem dL_law_384 : decode cL_law 384 = .ok (.iload_n 3, 1) := by decide +kernel
theorem dL_law_385 : decode cL_law 385 = .ok (.iconst 1, 1) := by decide +kernel
theorem dL_law_386 : decode cL_law 386 = .ok (.iadd, 1) := by decide +kernel
theorem dL_law_387 : decode cL_law 387 = .ok (.iaload, 1) := by decide +kernel
theorem dL_law_388 : decode cL_law 388 = .ok (.invokevirtual 50, 3) := by decide +kernel
theorem dL_law_391 : decode cL_law 391 = .ok (.if_icmp .eq 757, 3) := by decide +kernel
theorem dL_law_394 : decode cL_law 394 = .ok (.iconst 0, 1) := by decide +kernel
theorem dL_law_395 : decode cL_law 395 = .ok (.ireturn, 1) := by decide +kernel
theorem dL_law_396 : decode cL_law 396 = .ok (.aload_n 1, 1) := by decide +kernel
theorem dL_law_397 : decode cL_law 397 = .ok (.invokevirtual 51, 3) := by decide +kernel
theorem dL_law_400 : decode cL_law 400 = .ok (.aload_n 2, 1) := by decide +kernel
theorem dL_law_401 : decode cL_law 401 = .ok (.invokevirtual 54, 3) := by decide +kernel
theorem dL_law_404 : decode cL_law 404 = .ok (.if_icmp .eq 744, 3) := by decide +kernel
theorem dL_law_407 : decode cL_law 407 = .ok (.iconst 0, 1) := by decide +kernel
theorem dL_law_408 : decode cL_law 408 = .ok (.ireturn, 1) := by decide +kernel
theorem dL_law_409 : decode cL_law 409 = .ok (.aload_n 1, 1) := by decide +kernel
theorem dL_law_410 : decode cL_law 410 = .ok (.aload_n 0, 1) := by decide +kernel
theorem dL_law_411 : decode cL_law 411 = .ok (.iload_n 3, 1) := by decide +kernel
theorem dL_law_412 : decode cL_law 412 = .ok (.iconst 1, 1) := by decide +kernel
theorem dL_law_413 : decode cL_law 413 = .ok (.iadd, 1) := by decide +kernel
theorem dL_law_414 : decode cL_law 414 = .ok (.iaload, 1) := by decide +kernel
theorem dL_law_415 : decode cL_law 415 = .ok (.aload_n 0, 1) := by decide +kernel
theorem dL_law_416 : decode cL_law 416 = .ok (.iload_n 3, 1) := by decide +kernel
theorem dL_law_417 : decode cL_law 417 = .ok (.iconst 2, 1) := by decide +kernel
theorem dL_law_418 : decode cL_law 418 = .ok (.iadd, 1) := by decide +kernel
theorem dL_law_419 : decode cL_law 419 = .ok (.iaload, 1) := by decide +kernel
theorem dL_law_420 : decode cL_law 420 = .ok (.aload_n 0, 1) := by decide +kernel
theorem dL_law_421 : decode cL_law 421 = .ok (.iload_n 3, 1) := by decide +kernel
theorem dL_law_422 : decode cL_law 422 = .ok (.iconst 3, 1) := by decide +kernel
theorem dL_law_423 : decode cL_law 423 = .ok (.iadd, 1) := by decide +kernel
theorem dL_law_424 : decode cL_law 424 = .ok (.iaload, 1) := by decide +kernel
theorem dL_law_425 : decode cL_law 425 = .ok (.invokevirtual 55, 3) := by decide +kernel
theorem dL_law_428 : decode cL_law 428 = .ok (.aload_n 2, 1) := by decide +kernel
theorem dL_law_429 : decode cL_law 429 = .ok (.aload_n 0, 1) := by decide +kernel
theorem dL_law_430 : decode cL_law 430 = .ok (.iload_n 3, 1) := by decide +kernel
theorem dL_law_431 : decode cL_law 431 = .ok (.iconst 1, 1) := by decide +kernel
theorem dL_law_432 : decode cL_law 432 = .ok (.iadd, 1) := by decide +kernel
theorem dL_law_433 : decode cL_law 433 = .ok (.iaload, 1) := by decide +kernel
theorem dL_law_434 : decode cL_law 434 = .ok (.aload_n 0, 1) := by decide +kernel
theorem dL_law_435 : decode cL_law 435 = .ok (.iload_n 3, 1) := by decide +kernel
theorem dL_law_436 : decode cL_law 436 = .ok (.iconst 2, 1) := by decide +kernel
theorem dL_law_437 : decode cL_law 437 = .ok (.iadd, 1) := by decide +kernel
theorem dL_law_438 : decode cL_law 438 = .ok (.iaload, 1) := by decide +kernel
theorem dL_law_439 : decode cL_law 439 = .ok (.aload_n 0, 1) := by decide +kernel
theorem dL_law_440 : decode cL_law 440 = .ok (.iload_n 3, 1) := by decide +kernel
theorem dL_law_441 : decode cL_law 441 = .ok (.iconst 3, 1) := by decide +kernel
theorem dL_law_442 : decode cL_law 442 = .ok (.iadd, 1) := by decide +kernel
theorem dL_law_443 : decode cL_law 443 = .ok (.iaload, 1) := by decide +kernel
theorem dL_law_444 : decode cL_law 444 = .ok (.invokevirtual 59, 3) := by decide +kernel
theorem dL_law_447 : decode cL_law 447 = .ok (.if_icmp .eq 701, 3) := by decide +kernel
theorem dL_law_450 : decode cL_law 450 = .ok (.iconst 0, 1) := by decide +kernel
theorem dL_law_451 : decode cL_law 451 = .ok (.ireturn, 1) := by decide +kernel
theorem dL_law_452 : decode cL_law 452 = .ok (.aload_n 1, 1) := by decide +kernel
theorem dL_law_453 : decode cL_law 453 = .ok (.aload_n 0, 1) := by decide +kernel
theorem dL_law_454 : decode cL_law 454 = .ok (.iload_n 3, 1) := by decide +kernel
theorem dL_law_455 : decode cL_law 455 = .ok (.iconst 1, 1) := by decide +kernel
theorem dL_law_456 : decode cL_law 456 = .ok (.iadd, 1) := by decide +kernel
theorem dL_law_457 : decode cL_law 457 = .ok (.iaload, 1) := by decide +kernel
theorem dL_law_458 : decode cL_law 458 = .ok (.aload_n 0, 1) := by decide +kernel
theorem dL_law_459 : decode cL_law 459 = .ok (.iload_n 3, 1) := by decide +kernel
theorem dL_law_460 : decode cL_law 460 = .ok (.iconst 2, 1) := by decide +kernel
theorem dL_law_461 : decode cL_law 461 = .ok (.iadd, 1) := by decide +kernel
theorem dL_law_462 : decode cL_law 462 = .ok (.iaload, 1) := by decide +kernel
theorem dL_law_463 : decode cL_law 463 = .ok (.aload_n 0, 1) := by decide +kernel
theorem dL_law_464 : decode cL_law 464 = .ok (.iload_n 3, 1) := by decide +kernel
theorem dL_law_465 : decode cL_law 465 = .ok (.iconst 3, 1) := by decide +kernel
theorem dL_law_466 : decode cL_law 466 = .ok (.iadd, 1) := by decide +kernel
theorem dL_law_467 : decode cL_law 467 = .ok (.iaload, 1) := by decide +kernel
theorem dL_law_468 : decode cL_law 468 = .ok (.invokevirtual 60, 3) := by decide +kernel
theorem dL_law_471 : decode cL_law 471 = .ok (.aload_n 2, 1) := by decide +kernel
theorem dL_law_472 : decode cL_law 472 = .ok (.aload_n 0, 1) := by decide +kernel
theorem dL_law_473 : decode cL_law 473 = .ok (.iload_n 3, 1) := by decide +kernel
theorem dL_law_474 : decode cL_law 474 = .ok (.iconst 1, 1) := by decide +kernel
theorem dL_law_475 : decode cL_law 475 = .ok (.iadd, 1) := by decide +kernel
theorem dL_law_476 : decode cL_law 476 = .ok (.iaload, 1) := by decide +kernel
theorem dL_law_477 : decode cL_law 477 = .ok (.aload_n 0, 1) := by decide +kernel
theorem dL_law_478 : decode cL_law 478 = .ok (.iload_n 3, 1) := by decide +kernel
theorem dL_law_479 : decode cL_law 479 = .ok (.iconst 2, 1) := by decide +kernel
theorem dL_law_480 : decode cL_law 480 = .ok (.iadd, 1) := by decide +kernel
theorem dL_law_481 : decode cL_law 481 = .ok (.iaload, 1) := by decide +kernel
theorem dL_law_482 : decode cL_law 482 = .ok (.aload_n 0, 1) := by decide +kernel
theorem dL_law_483 : decode cL_law 483 = .ok (.iload_n 3, 1) := by decide +kernel
theorem dL_law_484 : decode cL_law 484 = .ok (.iconst 3, 1) := by decide +kernel
theorem dL_law_485 : decode cL_law 485 = .ok (.iadd, 1) := by decide +kernel
theorem dL_law_486 : decode cL_law 486 = .ok (.iaload, 1) := by decide +kernel
theorem dL_law_487 : decode cL_law 487 = .ok (.invokevirtual 63, 3) := by decide +kernel
theorem dL_law_490 : decode cL_law 490 = .ok (.if_icmp .eq 658, 3) := by decide +kernel
theorem dL_law_493 : decode cL_law 493 = .ok (.iconst 0, 1) := by decide +kernel
theorem dL_law_494 : decode cL_law 494 = .ok (.ireturn, 1) := by decide +kernel
theorem dL_law_495 : decode cL_law 495 = .ok (.aload_n 1, 1) := by decide +kernel
theorem dL_law_496 : decode cL_law 496 = .ok (.aload_n 0, 1) := by decide +kernel
theorem dL_law_497 : decode cL_law 497 = .ok (.iload_n 3, 1) := by decide +kernel
theorem dL_law_498 : decode cL_law 498 = .ok (.iconst 1, 1) := by decide +kernel
theorem dL_law_499 : decode cL_law 499 = .ok (.iadd, 1) := by decide +kernel
theorem dL_law_500 : decode cL_law 500 = .ok (.iaload, 1) := by decide +kernel
theorem dL_law_501 : decode cL_law 501 = .ok (.aload_n 0, 1) := by decide +kernel
theorem dL_law_502 : decode cL_law 502 = .ok (.iload_n 3, 1) := by decide +kernel
theorem dL_law_503 : decode cL_law 503 = .ok (.iconst 2, 1) := by decide +kernel
theorem dL_law_504 : decode cL_law 504 = .ok (.iadd, 1) := by decide +kernel
theorem dL_law_505 : decode cL_law 505 = .ok (.iaload, 1) := by decide +kernel
theorem dL_law_506 : decode cL_law 506 = .ok (.aload_n 0, 1) := by decide +kernel
theorem dL_law_507 : decode cL_law 507 = .ok (.iload_n 3, 1) := by decide +kernel
theorem dL_law_508 : decode cL_law 508 = .ok (.iconst 3, 1) := by decide +kernel
theorem dL_law_509 : decode cL_law 509 = .ok (.iadd, 1) := by decide +kernel
theorem dL_law_510 : decode cL_law 510 = .ok (.iaload, 1) := by decide +kernel
theorem dL_law_511 : decode cL_law 511 = .ok (.invokevirtual 64, 3) := by decide +kernel
theorem dL_law_514 : decode cL_law 514 = .ok (.aload_n 2, 1) := by decide +kernel
theorem dL_law_515 : decode cL_law 515 = .ok (.aload_n 0, 1) := by decide +kernel
theorem dL_law_516 : decode cL_law 516 = .ok (.iload_n 3, 1) := by decide +kernel
theorem dL_law_517 : decode cL_law 517 = .ok (.iconst 1, 1) := by decide +kernel
theorem dL_law_518 : decode cL_law 518 = .ok (.iadd, 1) := by decide +kernel
theorem dL_law_519 : decode cL_law 519 = .ok (.iaload, 1) := by decide +kernel
theorem dL_law_520 : decode cL_law 520 = .ok (.aload_n 0, 1) := by decide +kernel
theorem dL_law_521 : decode cL_law 521 = .ok (.iload_n 3, 1) := by decide +kernel
theorem dL_law_522 : decode cL_law 522 = .ok (.iconst 2, 1) := by decide +kernel
theorem dL_law_523 : decode cL_law 523 = .ok (.iadd, 1) := by decide +kernel
theorem dL_law_524 : decode cL_law 524 = .ok (.iaload, 1) := by decide +kernel
theorem dL_law_525 : decode cL_law 525 = .ok (.aload_n 0, 1) := by decide +kernel
theorem dL_law_526 : decode cL_law 526 = .ok (.iload_n 3, 1) := by decide +kernel
theorem dL_law_527 : decode cL_law 527 = .ok (.iconst 3, 1) := by decide +kernel
theorem dL_law_528 : decode cL_law 528 = .ok (.iadd, 1) := by decide +kernel
theorem dL_law_529 : decode cL_law 529 = .ok (.iaload, 1) := by decide +kernel
theorem dL_law_530 : decode cL_law 530 = .ok (.invokevirtual 67, 3) := by decide +kernel
theorem dL_law_533 : decode cL_law 533 = .ok (.if_icmp .eq 615, 3) := by decide +kernel
theorem dL_law_536 : decode cL_law 536 = .ok (.iconst 0, 1) := by decide +kernel
theorem dL_law_537 : decode cL_law 537 = .ok (.ireturn, 1) := by decide +kernel
theorem dL_law_538 : decode cL_law 538 = .ok (.aload_n 1, 1) := by decide +kernel
theorem dL_law_539 : decode cL_law 539 = .ok (.aload_n 0, 1) := by decide +kernel
theorem dL_law_540 : decode cL_law 540 = .ok (.iload_n 3, 1) := by decide +kernel
theorem dL_law_541 : decode cL_law 541 = .ok (.iconst 1, 1) := by decide +kernel
theorem dL_law_542 : decode cL_law 542 = .ok (.iadd, 1) := by decide +kernel
theorem dL_law_543 : decode cL_law 543 = .ok (.iaload, 1) := by decide +kernel
theorem dL_law_544 : decode cL_law 544 = .ok (.aload_n 0, 1) := by decide +kernel
theorem dL_law_545 : decode cL_law 545 = .ok (.iload_n 3, 1) := by decide +kernel
theorem dL_law_546 : decode cL_law 546 = .ok (.iconst 2, 1) := by decide +kernel
theorem dL_law_547 : decode cL_law 547 = .ok (.iadd, 1) := by decide +kernel
theorem dL_law_548 : decode cL_law 548 = .ok (.iaload, 1) := by decide +kernel
theorem dL_law_549 : decode cL_law 549 = .ok (.invokevirtual 68, 3) := by decide +kernel
theorem dL_law_552 : decode cL_law 552 = .ok (.aload_n 2, 1) := by decide +kernel
theorem dL_law_553 : decode cL_law 553 = .ok (.aload_n 0, 1) := by decide +kernel
theorem dL_law_554 : decode cL_law 554 = .ok (.iload_n 3, 1) := by decide +kernel
theorem dL_law_555 : decode cL_law 555 = .ok (.iconst 1, 1) := by decide +kernel
theorem dL_law_556 : decode cL_law 556 = .ok (.iadd, 1) := by decide +kernel
theorem dL_law_557 : decode cL_law 557 = .ok (.iaload, 1) := by decide +kernel
theorem dL_law_558 : decode cL_law 558 = .ok (.aload_n 0, 1) := by decide +kernel
theorem dL_law_559 : decode cL_law 559 = .ok (.iload_n 3, 1) := by decide +kernel
theorem dL_law_560 : decode cL_law 560 = .ok (.iconst 2, 1) := by decide +kernel
theorem dL_law_561 : decode cL_law 561 = .ok (.iadd, 1) := by decide +kernel
theorem dL_law_562 : decode cL_law 562 = .ok (.iaload, 1) := by decide +kernel
theorem dL_law_563 : decode cL_law 563 = .ok (.invokevirtual 71, 3) := by decide +kernel
theorem dL_law_566 : decode cL_law 566 = .ok (.if_icmp .eq 582, 3) := by decide +kernel
theorem dL_law_569 : decode cL_law 569 = .ok (.iconst 0, 1) := by decide +kernel
theorem dL_law_570 : decode cL_law 570 = .ok (.ireturn, 1) := by decide +kernel
theorem dL_law_571 : decode cL_law 571 = .ok (.aload_n 1, 1) := by decide +kernel
theorem dL_law_572 : decode cL_law 572 = .ok (.aload_n 0, 1) := by decide +kernel
theorem dL_law_573 : decode cL_law 573 = .ok (.iload_n 3, 1) := by decide +kernel
theorem dL_law_574 : decode cL_law 574 = .ok (.iconst 1, 1) := by decide +kernel
theorem dL_law_575 : decode cL_law 575 = .ok (.iadd, 1) := by decide +kernel
theorem dL_law_576 : decode cL_law 576 = .ok (.iaload, 1) := by decide +kernel
theorem dL_law_577 : decode cL_law 577 = .ok (.aload_n 0, 1) := by decide +kernel
theorem dL_law_578 : decode cL_law 578 = .ok (.iload_n 3, 1) := by decide +kernel
theorem dL_law_579 : decode cL_law 579 = .ok (.iconst 2, 1) := by decide +kernel
theorem dL_law_580 : decode cL_law 580 = .ok (.iadd, 1) := by decide +kernel
theorem dL_law_581 : decode cL_law 581 = .ok (.iaload, 1) := by decide +kernel
theorem dL_law_582 : decode cL_law 582 = .ok (.invokevirtual 72, 3) := by decide +kernel
theorem dL_law_585 : decode cL_law 585 = .ok (.aload_n 2, 1) := by decide +kernel
theorem dL_law_586 : decode cL_law 586 = .ok (.aload_n 0, 1) := by decide +kernel
theorem dL_law_587 : decode cL_law 587 = .ok (.iload_n 3, 1) := by decide +kernel
theorem dL_law_588 : decode cL_law 588 = .ok (.iconst 1, 1) := by decide +kernel
theorem dL_law_589 : decode cL_law 589 = .ok (.iadd, 1) := by decide +kernel
theorem dL_law_590 : decode cL_law 590 = .ok (.iaload, 1) := by decide +kernel
theorem dL_law_591 : decode cL_law 591 = .ok (.aload_n 0, 1) := by decide +kernel
theorem dL_law_592 : decode cL_law 592 = .ok (.iload_n 3, 1) := by decide +kernel
theorem dL_law_593 : decode cL_law 593 = .ok (.iconst 2, 1) := by decide +kernel
theorem dL_law_594 : decode cL_law 594 = .ok (.iadd, 1) := by decide +kernel
theorem dL_law_595 : decode cL_law 595 = .ok (.iaload, 1) := by decide +kernel
theorem dL_law_596 : decode cL_law 596 = .ok (.invokevirtual 75, 3) := by decide +kernel
theorem dL_law_599 : decode cL_law 599 = .ok (.if_icmp .eq 549, 3) := by decide +kernel
theorem dL_law_602 : decode cL_law 602 = .ok (.iconst 0, 1) := by decide +kernel
theorem dL_law_603 : decode cL_law 603 = .ok (.ireturn, 1) := by decide +kernel
theorem dL_law_604 : decode cL_law 604 = .ok (.aload_n 1, 1) := by decide +kernel
theorem dL_law_605 : decode cL_law 605 = .ok (.aload_n 0, 1) := by decide +kernel
theorem dL_law_606 : decode cL_law 606 = .ok (.iload_n 3, 1) := by decide +kernel
theorem dL_law_607 : decode cL_law 607 = .ok (.iconst 1, 1) := by decide +kernel
theorem dL_law_608 : decode cL_law 608 = .ok (.iadd, 1) := by decide +kernel
theorem dL_law_609 : decode cL_law 609 = .ok (.iaload, 1) := by decide +kernel
theorem dL_law_610 : decode cL_law 610 = .ok (.aload_n 0, 1) := by decide +kernel
theorem dL_law_611 : decode cL_law 611 = .ok (.iload_n 3, 1) := by decide +kernel
theorem dL_law_612 : decode cL_law 612 = .ok (.iconst 2, 1) := by decide +kernel
theorem dL_law_613 : decode cL_law 613 = .ok (.iadd, 1) := by decide +kernel
theorem dL_law_614 : decode cL_law 614 = .ok (.iaload, 1) := by decide +kernel
theorem dL_law_615 : decode cL_law 615 = .ok (.aload_n 0, 1) := by decide +kernel
theorem dL_law_616 : decode cL_law 616 = .ok (.iload_n 3, 1) := by decide +kernel
theorem dL_law_617 : decode cL_law 617 = .ok (.iconst 3, 1) := by decide +kernel
theorem dL_law_618 : decode cL_law 618 = .ok (.iadd, 1) := by decide +kernel
theorem dL_law_619 : decode cL_law 619 = .ok (.iaload, 1) := by decide +kernel
theorem dL_law_620 : decode cL_law 620 = .ok (.aload_n 0, 1) := by decide +kernel
theorem dL_law_621 : decode cL_law 621 = .ok (.iload_n 3, 1) := by decide +kernel
theorem dL_law_622 : decode cL_law 622 = .ok (.iconst 4, 1) := by decide +kernel
theorem dL_law_623 : decode cL_law 623 = .ok (.iadd, 1) := by decide +kernel
theorem dL_law_624 : decode cL_law 624 = .ok (.iaload, 1) := by decide +kernel
theorem dL_law_625 : decode cL_law 625 = .ok (.aload_n 0, 1) := by decide +kernel
theorem dL_law_626 : decode cL_law 626 = .ok (.iload_n 3, 1) := by decide +kernel
theorem dL_law_627 : decode cL_law 627 = .ok (.iconst 5, 1) := by decide +kernel
theorem dL_law_628 : decode cL_law 628 = .ok (.iadd, 1) := by decide +kernel
theorem dL_law_629 : decode cL_law 629 = .ok (.iaload, 1) := by decide +kernel
theorem dL_law_630 : decode cL_law 630 = .ok (.invokevirtual 76, 3) := by decide +kernel
theorem dL_law_633 : decode cL_law 633 = .ok (.aload_n 2, 1) := by decide +kernel
theorem dL_law_634 : decode cL_law 634 = .ok (.aload_n 0, 1) := by decide +kernel
theorem dL_law_635 : decode cL_law 635 = .ok (.iload_n 3, 1) := by decide +kernel
theorem dL_law_636 : decode cL_law 636 = .ok (.iconst 1, 1) := by decide +kernel
theorem dL_law_637 : decode cL_law 637 = .ok (.iadd, 1) := by decide +kernel
theorem dL_law_638 : decode cL_law 638 = .ok (.iaload, 1) := by decide +kernel
theorem dL_law_639 : decode cL_law 639 = .ok (.aload_n 0, 1) := by decide +kernel
theorem dL_law_640 : decode cL_law 640 = .ok (.iload_n 3, 1) := by decide +kernel
theorem dL_law_641 : decode cL_law 641 = .ok (.iconst 2, 1) := by decide +kernel
theorem dL_law_642 : decode cL_law 642 = .ok (.iadd, 1) := by decide +kernel
theorem dL_law_643 : decode cL_law 643 = .ok (.iaload, 1) := by decide +kernel
theorem dL_law_644 : decode cL_law 644 = .ok (.aload_n 0, 1) := by decide +kernel
theorem dL_law_645 : decode cL_law 645 = .ok (.iload_n 3, 1) := by decide +kernel
theorem dL_law_646 : decode cL_law 646 = .ok (.iconst 3, 1) := by decide +kernel
theorem dL_law_647 : decode cL_law 647 = .ok (.iadd, 1) := by decide +kernel
theorem dL_law_648 : decode cL_law 648 = .ok (.iaload, 1) := by decide +kernel
theorem dL_law_649 : decode cL_law 649 = .ok (.aload_n 0, 1) := by decide +kernel
theorem dL_law_650 : decode cL_law 650 = .ok (.iload_n 3, 1) := by decide +kernel
theorem dL_law_651 : decode cL_law 651 = .ok (.iconst 4, 1) := by decide +kernel
theorem dL_law_652 : decode cL_law 652 = .ok (.iadd, 1) := by decide +kernel
theorem dL_law_653 : decode cL_law 653 = .ok (.iaload, 1) := by decide +kernel
theorem dL_law_654 : decode cL_law 654 = .ok (.aload_n 0, 1) := by decide +kernel
theorem dL_law_655 : decode cL_law 655 = .ok (.iload_n 3, 1) := by decide +kernel
theorem dL_law_656 : decode cL_law 656 = .ok (.iconst 5, 1) := by decide +kernel
theorem dL_law_657 : decode cL_law 657 = .ok (.iadd, 1) := by decide +kernel
theorem dL_law_658 : decode cL_law 658 = .ok (.iaload, 1) := by decide +kernel
theorem dL_law_659 : decode cL_law 659 = .ok (.invokevirtual 80, 3) := by decide +kernel
theorem dL_law_662 : decode cL_law 662 = .ok (.lcmp, 1) := by decide +kernel
theorem dL_law_663 : decode cL_law 663 = .ok (.ifCond .eq 485, 3) := by decide +kernel
theorem dL_law_666 : decode cL_law 666 = .ok (.iconst 0, 1) := by decide +kernel
theorem dL_law_667 : decode cL_law 667 = .ok (.ireturn, 1) := by decide +kernel
theorem dL_law_668 : decode cL_law 668 = .ok (.aload_n 1, 1) := by decide +kernel
theorem dL_law_669 : decode cL_law 669 = .ok (.aload_n 0, 1) := by decide +kernel
theorem dL_law_670 : decode cL_law 670 = .ok (.iload_n 3, 1) := by decide +kernel
theorem dL_law_671 : decode cL_law 671 = .ok (.iconst 1, 1) := by decide +kernel
theorem dL_law_672 : decode cL_law 672 = .ok (.iadd, 1) := by decide +kernel
theorem dL_law_673 : decode cL_law 673 = .ok (.iaload, 1) := by decide +kernel
theorem dL_law_674 : decode cL_law 674 = .ok (.aload_n 0, 1) := by decide +kernel
theorem dL_law_675 : decode cL_law 675 = .ok (.iload_n 3, 1) := by decide +kernel
theorem dL_law_676 : decode cL_law 676 = .ok (.iconst 2, 1) := by decide +kernel
theorem dL_law_677 : decode cL_law 677 = .ok (.iadd, 1) := by decide +kernel
theorem dL_law_678 : decode cL_law 678 = .ok (.iaload, 1) := by decide +kernel
theorem dL_law_679 : decode cL_law 679 = .ok (.aload_n 0, 1) := by decide +kernel
theorem dL_law_680 : decode cL_law 680 = .ok (.iload_n 3, 1) := by decide +kernel
theorem dL_law_681 : decode cL_law 681 = .ok (.iconst 3, 1) := by decide +kernel
theorem dL_law_682 : decode cL_law 682 = .ok (.iadd, 1) := by decide +kernel
theorem dL_law_683 : decode cL_law 683 = .ok (.iaload, 1) := by decide +kernel
theorem dL_law_684 : decode cL_law 684 = .ok (.invokevirtual 81, 3) := by decide +kernel
theorem dL_law_687 : decode cL_law 687 = .ok (.aload_n 2, 1) := by decide +kernel
theorem dL_law_688 : decode cL_law 688 = .ok (.aload_n 0, 1) := by decide +kernel
theorem dL_law_689 : decode cL_law 689 = .ok (.iload_n 3, 1) := by decide +kernel
theorem dL_law_690 : decode cL_law 690 = .ok (.iconst 1, 1) := by decide +kernel
theorem dL_law_691 : decode cL_law 691 = .ok (.iadd, 1) := by decide +kernel
theorem dL_law_692 : decode cL_law 692 = .ok (.iaload, 1) := by decide +kernel
theorem dL_law_693 : decode cL_law 693 = .ok (.aload_n 0, 1) := by decide +kernel
theorem dL_law_694 : decode cL_law 694 = .ok (.iload_n 3, 1) := by decide +kernel
theorem dL_law_695 : decode cL_law 695 = .ok (.iconst 2, 1) := by decide +kernel
theorem dL_law_696 : decode cL_law 696 = .ok (.iadd, 1) := by decide +kernel
theorem dL_law_697 : decode cL_law 697 = .ok (.iaload, 1) := by decide +kernel
theorem dL_law_698 : decode cL_law 698 = .ok (.aload_n 0, 1) := by decide +kernel
theorem dL_law_699 : decode cL_law 699 = .ok (.iload_n 3, 1) := by decide +kernel
theorem dL_law_700 : decode cL_law 700 = .ok (.iconst 3, 1) := by decide +kernel
theorem dL_law_701 : decode cL_law 701 = .ok (.iadd, 1) := by decide +kernel
theorem dL_law_702 : decode cL_law 702 = .ok (.iaload, 1) := by decide +kernel
theorem dL_law_703 : decode cL_law 703 = .ok (.invokevirtual 84, 3) := by decide +kernel
theorem dL_law_706 : decode cL_law 706 = .ok (.if_icmp .eq 442, 3) := by decide +kernel
theorem dL_law_709 : decode cL_law 709 = .ok (.iconst 0, 1) := by decide +kernel
theorem dL_law_710 : decode cL_law 710 = .ok (.ireturn, 1) := by decide +kernel
theorem dL_law_711 : decode cL_law 711 = .ok (.aload_n 1, 1) := by decide +kernel
theorem dL_law_712 : decode cL_law 712 = .ok (.aload_n 0, 1) := by decide +kernel
theorem dL_law_713 : decode cL_law 713 = .ok (.iload_n 3, 1) := by decide +kernel
theorem dL_law_714 : decode cL_law 714 = .ok (.iconst 1, 1) := by decide +kernel
theorem dL_law_715 : decode cL_law 715 = .ok (.iadd, 1) := by decide +kernel
theorem dL_law_716 : decode cL_law 716 = .ok (.iaload, 1) := by decide +kernel
theorem dL_law_717 : decode cL_law 717 = .ok (.aload_n 0, 1) := by decide +kernel
theorem dL_law_718 : decode cL_law 718 = .ok (.iload_n 3, 1) := by decide +kernel
theorem dL_law_719 : decode cL_law 719 = .ok (.iconst 2, 1) := by decide +kernel
theorem dL_law_720 : decode cL_law 720 = .ok (.iadd, 1) := by decide +kernel
theorem dL_law_721 : decode cL_law 721 = .ok (.iaload, 1) := by decide +kernel
theorem dL_law_722 : decode cL_law 722 = .ok (.aload_n 0, 1) := by decide +kernel
theorem dL_law_723 : decode cL_law 723 = .ok (.iload_n 3, 1) := by decide +kernel
theorem dL_law_724 : decode cL_law 724 = .ok (.iconst 3, 1) := by decide +kernel
theorem dL_law_725 : decode cL_law 725 = .ok (.iadd, 1) := by decide +kernel
theorem dL_law_726 : decode cL_law 726 = .ok (.iaload, 1) := by decide +kernel
theorem dL_law_727 : decode cL_law 727 = .ok (.aload_n 0, 1) := by decide +kernel
theorem dL_law_728 : decode cL_law 728 = .ok (.iload_n 3, 1) := by decide +kernel
theorem dL_law_729 : decode cL_law 729 = .ok (.iconst 4, 1) := by decide +kernel
theorem dL_law_730 : decode cL_law 730 = .ok (.iadd, 1) := by decide +kernel
theorem dL_law_731 : decode cL_law 731 = .ok (.iaload, 1) := by decide +kernel
theorem dL_law_732 : decode cL_law 732 = .ok (.invokevirtual 85, 3) := by decide +kernel
theorem dL_law_735 : decode cL_law 735 = .ok (.aload_n 2, 1) := by decide +kernel
theorem dL_law_736 : decode cL_law 736 = .ok (.aload_n 0, 1) := by decide +kernel
theorem dL_law_737 : decode cL_law 737 = .ok (.iload_n 3, 1) := by decide +kernel
theorem dL_law_738 : decode cL_law 738 = .ok (.iconst 1, 1) := by decide +kernel
theorem dL_law_739 : decode cL_law 739 = .ok (.iadd, 1) := by decide +kernel
theorem dL_law_740 : decode cL_law 740 = .ok (.iaload, 1) := by decide +kernel
theorem dL_law_741 : decode cL_law 741 = .ok (.aload_n 0, 1) := by decide +kernel
theorem dL_law_742 : decode cL_law 742 = .ok (.iload_n 3, 1) := by decide +kernel
theorem dL_law_743 : decode cL_law 743 = .ok (.iconst 2, 1) := by decide +kernel
theorem dL_law_744 : decode cL_law 744 = .ok (.iadd, 1) := by decide +kernel
theorem dL_law_745 : decode cL_law 745 = .ok (.iaload, 1) := by decide +kernel
theorem dL_law_746 : decode cL_law 746 = .ok (.aload_n 0, 1) := by decide +kernel
theorem dL_law_747 : decode cL_law 747 = .ok (.iload_n 3, 1) := by decide +kernel
theorem dL_law_748 : decode cL_law 748 = .ok (.iconst 3, 1) := by decide +kernel
theorem dL_law_749 : decode cL_law 749 = .ok (.iadd, 1) := by decide +kernel
theorem dL_law_750 : decode cL_law 750 = .ok (.iaload, 1) := by decide +kernel
theorem dL_law_751 : decode cL_law 751 = .ok (.aload_n 0, 1) := by decide +kernel
theorem dL_law_752 : decode cL_law 752 = .ok (.iload_n 3, 1) := by decide +kernel
theorem dL_law_753 : decode cL_law 753 = .ok (.iconst 4, 1) := by decide +kernel
theorem dL_law_754 : decode cL_law 754 = .ok (.iadd, 1) := by decide +kernel
theorem dL_law_755 : decode cL_law 755 = .ok (.iaload, 1) := by decide +kernel
theorem dL_law_756 : decode cL_law 756 = .ok (.invokevirtual 89, 3) := by decide +kernel
theorem dL_law_759 : decode cL_law 759 = .ok (.if_icmp .eq 389, 3) := by decide +kernel
theorem dL_law_762 : decode cL_law 762 = .ok (.iconst 0, 1) := by decide +kernel
theorem dL_law_763 : decode cL_law 763 = .ok (.ireturn, 1) := by decide +kernel
theorem dL_law_764 : decode cL_law 764 = .ok (.aload_n 1, 1) := by decide +kernel
theorem dL_law_765 : decode cL_law 765 = .ok (.invokevirtual 90, 3) := by decide +kernel
theorem dL_law_768 : decode cL_law 768 = .ok (.aload_n 2, 1) := by decide +kernel
theorem dL_law_769 : decode cL_law 769 = .ok (.invokevirtual 93, 3) := by decide +kernel
theorem dL_law_772 : decode cL_law 772 = .ok (.if_icmp .eq 376, 3) := by decide +kernel
theorem dL_law_775 : decode cL_law 775 = .ok (.iconst 0, 1) := by decide +kernel
theorem dL_law_776 : decode cL_law 776 = .ok (.ireturn, 1) := by decide +kernel
theorem dL_law_777 : decode cL_law 777 = .ok (.aload_n 1, 1) := by decide +kernel
theorem dL_law_778 : decode cL_law 778 = .ok (.aload_n 0, 1) := by decide +kernel
theorem dL_law_779 : decode cL_law 779 = .ok (.iload_n 3, 1) := by decide +kernel
theorem dL_law_780 : decode cL_law 780 = .ok (.iconst 1, 1) := by decide +kernel
theorem dL_law_781 : decode cL_law 781 = .ok (.iadd, 1) := by decide +kernel
theorem dL_law_782 : decode cL_law 782 = .ok (.iaload, 1) := by decide +kernel
theorem dL_law_783 : decode cL_law 783 = .ok (.aload_n 0, 1) := by decide +kernel
theorem dL_law_784 : decode cL_law 784 = .ok (.iload_n 3, 1) := by decide +kernel
theorem dL_law_785 : decode cL_law 785 = .ok (.iconst 2, 1) := by decide +kernel
theorem dL_law_786 : decode cL_law 786 = .ok (.iadd, 1) := by decide +kernel
theorem dL_law_787 : decode cL_law 787 = .ok (.iaload, 1) := by decide +kernel
theorem dL_law_788 : decode cL_law 788 = .ok (.aload_n 0, 1) := by decide +kernel
theorem dL_law_789 : decode cL_law 789 = .ok (.iload_n 3, 1) := by decide +kernel
theorem dL_law_790 : decode cL_law 790 = .ok (.iconst 3, 1) := by decide +kernel
theorem dL_law_791 : decode cL_law 791 = .ok (.iadd, 1) := by decide +kernel
theorem dL_law_792 : decode cL_law 792 = .ok (.iaload, 1) := by decide +kernel
theorem dL_law_793 : decode cL_law 793 = .ok (.aload_n 0, 1) := by decide +kernel
theorem dL_law_794 : decode cL_law 794 = .ok (.iload_n 3, 1) := by decide +kernel
theorem dL_law_795 : decode cL_law 795 = .ok (.iconst 4, 1) := by decide +kernel
theorem dL_law_796 : decode cL_law 796 = .ok (.iadd, 1) := by decide +kernel
theorem dL_law_797 : decode cL_law 797 = .ok (.iaload, 1) := by decide +kernel
theorem dL_law_798 : decode cL_law 798 = .ok (.invokevirtual 94, 3) := by decide +kernel
theorem dL_law_801 : decode cL_law 801 = .ok (.aload_n 2, 1) := by decide +kernel
theorem dL_law_802 : decode cL_law 802 = .ok (.aload_n 0, 1) := by decide +kernel
theorem dL_law_803 : decode cL_law 803 = .ok (.iload_n 3, 1) := by decide +kernel
theorem dL_law_804 : decode cL_law 804 = .ok (.iconst 1, 1) := by decide +kernel
theorem dL_law_805 : decode cL_law 805 = .ok (.iadd, 1) := by decide +kernel
theorem dL_law_806 : decode cL_law 806 = .ok (.iaload, 1) := by decide +kernel
theorem dL_law_807 : decode cL_law 807 = .ok (.aload_n 0, 1) := by decide +kernel
theorem dL_law_808 : decode cL_law 808 = .ok (.iload_n 3, 1) := by decide +kernel
theorem dL_law_809 : decode cL_law 809 = .ok (.iconst 2, 1) := by decide +kernel
theorem dL_law_810 : decode cL_law 810 = .ok (.iadd, 1) := by decide +kernel
theorem dL_law_811 : decode cL_law 811 = .ok (.iaload, 1) := by decide +kernel
theorem dL_law_812 : decode cL_law 812 = .ok (.aload_n 0, 1) := by decide +kernel
theorem dL_law_813 : decode cL_law 813 = .ok (.iload_n 3, 1) := by decide +kernel
theorem dL_law_814 : decode cL_law 814 = .ok (.iconst 3, 1) := by decide +kernel
theorem dL_law_815 : decode cL_law 815 = .ok (.iadd, 1) := by decide +kernel
theorem dL_law_816 : decode cL_law 816 = .ok (.iaload, 1) := by decide +kernel
theorem dL_law_817 : decode cL_law 817 = .ok (.aload_n 0, 1) := by decide +kernel
theorem dL_law_818 : decode cL_law 818 = .ok (.iload_n 3, 1) := by decide +kernel
theorem dL_law_819 : decode cL_law 819 = .ok (.iconst 4, 1) := by decide +kernel
theorem dL_law_820 : decode cL_law 820 = .ok (.iadd, 1) := by decide +kernel
theorem dL_law_821 : decode cL_law 821 = .ok (.iaload, 1) := by decide +kernel
theorem dL_law_822 : decode cL_law 822 = .ok (.invokevirtual 98, 3) := by decide +kernel
theorem dL_law_825 : decode cL_law 825 = .ok (.lcmp, 1) := by decide +kernel
theorem dL_law_826 : decode cL_law 826 = .ok (.ifCond .eq 322, 3) := by decide +kernel
theorem dL_law_829 : decode cL_law 829 = .ok (.iconst 0, 1) := by decide +kernel
theorem dL_law_830 : decode cL_law 830 = .ok (.ireturn, 1) := by decide +kernel
theorem dL_law_831 : decode cL_law 831 = .ok (.aload_n 1, 1) := by decide +kernel
theorem dL_law_832 : decode cL_law 832 = .ok (.aload_n 0, 1) := by decide +kernel
theorem dL_law_833 : decode cL_law 833 = .ok (.iload_n 3, 1) := by decide +kernel
theorem dL_law_834 : decode cL_law 834 = .ok (.iconst 1, 1) := by decide +kernel
theorem dL_law_835 : decode cL_law 835 = .ok (.iadd, 1) := by decide +kernel
theorem dL_law_836 : decode cL_law 836 = .ok (.iaload, 1) := by decide +kernel
theorem dL_law_837 : decode cL_law 837 = .ok (.invokevirtual 99, 3) := by decide +kernel
theorem dL_law_840 : decode cL_law 840 = .ok (.aload_n 2, 1) := by decide +kernel
theorem dL_law_841 : decode cL_law 841 = .ok (.aload_n 0, 1) := by decide +kernel
theorem dL_law_842 : decode cL_law 842 = .ok (.iload_n 3, 1) := by decide +kernel
theorem dL_law_843 : decode cL_law 843 = .ok (.iconst 1, 1) := by decide +kernel
theorem dL_law_844 : decode cL_law 844 = .ok (.iadd, 1) := by decide +kernel
theorem dL_law_845 : decode cL_law 845 = .ok (.iaload, 1) := by decide +kernel
theorem dL_law_846 : decode cL_law 846 = .ok (.invokevirtual 102, 3) := by decide +kernel
theorem dL_law_849 : decode cL_law 849 = .ok (.if_icmp .eq 299, 3) := by decide +kernel
theorem dL_law_852 : decode cL_law 852 = .ok (.iconst 0, 1) := by decide +kernel
theorem dL_law_853 : decode cL_law 853 = .ok (.ireturn, 1) := by decide +kernel
theorem dL_law_854 : decode cL_law 854 = .ok (.aload_n 1, 1) := by decide +kernel
theorem dL_law_855 : decode cL_law 855 = .ok (.aload_n 0, 1) := by decide +kernel
theorem dL_law_856 : decode cL_law 856 = .ok (.iload_n 3, 1) := by decide +kernel
theorem dL_law_857 : decode cL_law 857 = .ok (.iconst 1, 1) := by decide +kernel
theorem dL_law_858 : decode cL_law 858 = .ok (.iadd, 1) := by decide +kernel
theorem dL_law_859 : decode cL_law 859 = .ok (.iaload, 1) := by decide +kernel
theorem dL_law_860 : decode cL_law 860 = .ok (.invokevirtual 103, 3) := by decide +kernel
theorem dL_law_863 : decode cL_law 863 = .ok (.aload_n 2, 1) := by decide +kernel
theorem dL_law_864 : decode cL_law 864 = .ok (.aload_n 0, 1) := by decide +kernel
theorem dL_law_865 : decode cL_law 865 = .ok (.iload_n 3, 1) := by decide +kernel
theorem dL_law_866 : decode cL_law 866 = .ok (.iconst 1, 1) := by decide +kernel
theorem dL_law_867 : decode cL_law 867 = .ok (.iadd, 1) := by decide +kernel
theorem dL_law_868 : decode cL_law 868 = .ok (.iaload, 1) := by decide +kernel
theorem dL_law_869 : decode cL_law 869 = .ok (.invokevirtual 106, 3) := by decide +kernel
theorem dL_law_872 : decode cL_law 872 = .ok (.if_icmp .eq 276, 3) := by decide +kernel
theorem dL_law_875 : decode cL_law 875 = .ok (.iconst 0, 1) := by decide +kernel
theorem dL_law_876 : decode cL_law 876 = .ok (.ireturn, 1) := by decide +kernel
theorem dL_law_877 : decode cL_law 877 = .ok (.aload_n 1, 1) := by decide +kernel
theorem dL_law_878 : decode cL_law 878 = .ok (.aload_n 0, 1) := by decide +kernel
theorem dL_law_879 : decode cL_law 879 = .ok (.iload_n 3, 1) := by decide +kernel
theorem dL_law_880 : decode cL_law 880 = .ok (.iconst 1, 1) := by decide +kernel
theorem dL_law_881 : decode cL_law 881 = .ok (.iadd, 1) := by decide +kernel
theorem dL_law_882 : decode cL_law 882 = .ok (.iaload, 1) := by decide +kernel
theorem dL_law_883 : decode cL_law 883 = .ok (.aload_n 0, 1) := by decide +kernel
theorem dL_law_884 : decode cL_law 884 = .ok (.iload_n 3, 1) := by decide +kernel
theorem dL_law_885 : decode cL_law 885 = .ok (.iconst 2, 1) := by decide +kernel
theorem dL_law_886 : decode cL_law 886 = .ok (.iadd, 1) := by decide +kernel
theorem dL_law_887 : decode cL_law 887 = .ok (.iaload, 1) := by decide +kernel
theorem dL_law_888 : decode cL_law 888 = .ok (.aload_n 0, 1) := by decide +kernel
theorem dL_law_889 : decode cL_law 889 = .ok (.iload_n 3, 1) := by decide +kernel
theorem dL_law_890 : decode cL_law 890 = .ok (.iconst 3, 1) := by decide +kernel
theorem dL_law_891 : decode cL_law 891 = .ok (.iadd, 1) := by decide +kernel
theorem dL_law_892 : decode cL_law 892 = .ok (.iaload, 1) := by decide +kernel
theorem dL_law_893 : decode cL_law 893 = .ok (.invokevirtual 107, 3) := by decide +kernel
theorem dL_law_896 : decode cL_law 896 = .ok (.aload_n 2, 1) := by decide +kernel
theorem dL_law_897 : decode cL_law 897 = .ok (.aload_n 0, 1) := by decide +kernel
theorem dL_law_898 : decode cL_law 898 = .ok (.iload_n 3, 1) := by decide +kernel
theorem dL_law_899 : decode cL_law 899 = .ok (.iconst 1, 1) := by decide +kernel
theorem dL_law_900 : decode cL_law 900 = .ok (.iadd, 1) := by decide +kernel
theorem dL_law_901 : decode cL_law 901 = .ok (.iaload, 1) := by decide +kernel
theorem dL_law_902 : decode cL_law 902 = .ok (.aload_n 0, 1) := by decide +kernel
theorem dL_law_903 : decode cL_law 903 = .ok (.iload_n 3, 1) := by decide +kernel
theorem dL_law_904 : decode cL_law 904 = .ok (.iconst 2, 1) := by decide +kernel
theorem dL_law_905 : decode cL_law 905 = .ok (.iadd, 1) := by decide +kernel
theorem dL_law_906 : decode cL_law 906 = .ok (.iaload, 1) := by decide +kernel
theorem dL_law_907 : decode cL_law 907 = .ok (.aload_n 0, 1) := by decide +kernel
theorem dL_law_908 : decode cL_law 908 = .ok (.iload_n 3, 1) := by decide +kernel
theorem dL_law_909 : decode cL_law 909 = .ok (.iconst 3, 1) := by decide +kernel
theorem dL_law_910 : decode cL_law 910 = .ok (.iadd, 1) := by decide +kernel
theorem dL_law_911 : decode cL_law 911 = .ok (.iaload, 1) := by decide +kernel
theorem dL_law_912 : decode cL_law 912 = .ok (.invokevirtual 110, 3) := by decide +kernel
theorem dL_law_915 : decode cL_law 915 = .ok (.if_icmp .eq 233, 3) := by decide +kernel
theorem dL_law_918 : decode cL_law 918 = .ok (.iconst 0, 1) := by decide +kernel
theorem dL_law_919 : decode cL_law 919 = .ok (.ireturn, 1) := by decide +kernel
theorem dL_law_920 : decode cL_law 920 = .ok (.aload_n 1, 1) := by decide +kernel
theorem dL_law_921 : decode cL_law 921 = .ok (.aload_n 0, 1) := by decide +kernel
theorem dL_law_922 : decode cL_law 922 = .ok (.iload_n 3, 1) := by decide +kernel
theorem dL_law_923 : decode cL_law 923 = .ok (.iconst 1, 1) := by decide +kernel
theorem dL_law_924 : decode cL_law 924 = .ok (.iadd, 1) := by decide +kernel
theorem dL_law_925 : decode cL_law 925 = .ok (.iaload, 1) := by decide +kernel
theorem dL_law_926 : decode cL_law 926 = .ok (.aload_n 0, 1) := by decide +kernel
theorem dL_law_927 : decode cL_law 927 = .ok (.iload_n 3, 1) := by decide +kernel
theorem dL_law_928 : decode cL_law 928 = .ok (.iconst 2, 1) := by decide +kernel
theorem dL_law_929 : decode cL_law 929 = .ok (.iadd, 1) := by decide +kernel
theorem dL_law_930 : decode cL_law 930 = .ok (.iaload, 1) := by decide +kernel
theorem dL_law_931 : decode cL_law 931 = .ok (.invokevirtual 111, 3) := by decide +kernel
theorem dL_law_934 : decode cL_law 934 = .ok (.aload_n 2, 1) := by decide +kernel
theorem dL_law_935 : decode cL_law 935 = .ok (.aload_n 0, 1) := by decide +kernel
theorem dL_law_936 : decode cL_law 936 = .ok (.iload_n 3, 1) := by decide +kernel
theorem dL_law_937 : decode cL_law 937 = .ok (.iconst 1, 1) := by decide +kernel
theorem dL_law_938 : decode cL_law 938 = .ok (.iadd, 1) := by decide +kernel
theorem dL_law_939 : decode cL_law 939 = .ok (.iaload, 1) := by decide +kernel
theorem dL_law_940 : decode cL_law 940 = .ok (.aload_n 0, 1) := by decide +kernel
theorem dL_law_941 : decode cL_law 941 = .ok (.iload_n 3, 1) := by decide +kernel
theorem dL_law_942 : decode cL_law 942 = .ok (.iconst 2, 1) := by decide +kernel
theorem dL_law_943 : decode cL_law 943 = .ok (.iadd, 1) := by decide +kernel
theorem dL_law_944 : decode cL_law 944 = .ok (.iaload, 1) := by decide +kernel
theorem dL_law_945 : decode cL_law 945 = .ok (.invokevirtual 114, 3) := by decide +kernel
theorem dL_law_948 : decode cL_law 948 = .ok (.if_icmp .eq 200, 3) := by decide +kernel
theorem dL_law_951 : decode cL_law 951 = .ok (.iconst 0, 1) := by decide +kernel
theorem dL_law_952 : decode cL_law 952 = .ok (.ireturn, 1) := by decide +kernel
theorem dL_law_953 : decode cL_law 953 = .ok (.aload_n 1, 1) := by decide +kernel
theorem dL_law_954 : decode cL_law 954 = .ok (.aload_n 0, 1) := by decide +kernel
theorem dL_law_955 : decode cL_law 955 = .ok (.iload_n 3, 1) := by decide +kernel
theorem dL_law_956 : decode cL_law 956 = .ok (.iconst 1, 1) := by decide +kernel
theorem dL_law_957 : decode cL_law 957 = .ok (.iadd, 1) := by decide +kernel
theorem dL_law_958 : decode cL_law 958 = .ok (.iaload, 1) := by decide +kernel
theorem dL_law_959 : decode cL_law 959 = .ok (.invokevirtual 115, 3) := by decide +kernel
theorem dL_law_962 : decode cL_law 962 = .ok (.aload_n 2, 1) := by decide +kernel
theorem dL_law_963 : decode cL_law 963 = .ok (.aload_n 0, 1) := by decide +kernel
theorem dL_law_964 : decode cL_law 964 = .ok (.iload_n 3, 1) := by decide +kernel
theorem dL_law_965 : decode cL_law 965 = .ok (.iconst 1, 1) := by decide +kernel
theorem dL_law_966 : decode cL_law 966 = .ok (.iadd, 1) := by decide +kernel
theorem dL_law_967 : decode cL_law 967 = .ok (.iaload, 1) := by decide +kernel
theorem dL_law_968 : decode cL_law 968 = .ok (.invokevirtual 118, 3) := by decide +kernel
theorem dL_law_971 : decode cL_law 971 = .ok (.if_icmp .eq 177, 3) := by decide +kernel
theorem dL_law_974 : decode cL_law 974 = .ok (.iconst 0, 1) := by decide +kernel
theorem dL_law_975 : decode cL_law 975 = .ok (.ireturn, 1) := by decide +kernel
theorem dL_law_976 : decode cL_law 976 = .ok (.aload_n 1, 1) := by decide +kernel
theorem dL_law_977 : decode cL_law 977 = .ok (.aload_n 0, 1) := by decide +kernel
theorem dL_law_978 : decode cL_law 978 = .ok (.iload_n 3, 1) := by decide +kernel
theorem dL_law_979 : decode cL_law 979 = .ok (.iconst 1, 1) := by decide +kernel
theorem dL_law_980 : decode cL_law 980 = .ok (.iadd, 1) := by decide +kernel
theorem dL_law_981 : decode cL_law 981 = .ok (.iaload, 1) := by decide +kernel
theorem dL_law_982 : decode cL_law 982 = .ok (.aload_n 0, 1) := by decide +kernel
theorem dL_law_983 : decode cL_law 983 = .ok (.iload_n 3, 1) := by decide +kernel
theorem dL_law_984 : decode cL_law 984 = .ok (.iconst 2, 1) := by decide +kernel
theorem dL_law_985 : decode cL_law 985 = .ok (.iadd, 1) := by decide +kernel
theorem dL_law_986 : decode cL_law 986 = .ok (.iaload, 1) := by decide +kernel
theorem dL_law_987 : decode cL_law 987 = .ok (.invokevirtual 119, 3) := by decide +kernel
theorem dL_law_990 : decode cL_law 990 = .ok (.aload_n 2, 1) := by decide +kernel
theorem dL_law_991 : decode cL_law 991 = .ok (.aload_n 0, 1) := by decide +kernel
theorem dL_law_992 : decode cL_law 992 = .ok (.iload_n 3, 1) := by decide +kernel
theorem dL_law_993 : decode cL_law 993 = .ok (.iconst 1, 1) := by decide +kernel
theorem dL_law_994 : decode cL_law 994 = .ok (.iadd, 1) := by decide +kernel
theorem dL_law_995 : decode cL_law 995 = .ok (.iaload, 1) := by decide +kernel
theorem dL_law_996 : decode cL_law 996 = .ok (.aload_n 0, 1) := by decide +kernel
theorem dL_law_997 : decode cL_law 997 = .ok (.iload_n 3, 1) := by decide +kernel
theorem dL_law_998 : decode cL_law 998 = .ok (.iconst 2, 1) := by decide +kernel
theorem dL_law_999 : decode cL_law 999 = .ok (.iadd, 1) := by decide +kernel
theorem dL_law_1000 : decode cL_law 1000 = .ok (.iaload, 1) := by decide +kernel
theorem dL_law_1001 : decode cL_law 1001 = .ok (.invokevirtual 122, 3) := by decide +kernel
theorem dL_law_1004 : decode cL_law 1004 = .ok (.if_icmp .eq 144, 3) := by decide +kernel
theorem dL_law_1007 : decode cL_law 1007 = .ok (.iconst 0, 1) := by decide +kernel
theorem dL_law_1008 : decode cL_law 1008 = .ok (.ireturn, 1) := by decide +kernel
theorem dL_law_1009 : decode cL_law 1009 = .ok (.aload_n 1, 1) := by decide +kernel
theorem dL_law_1010 : decode cL_law 1010 = .ok (.aload_n 0, 1) := by decide +kernel
theorem dL_law_1011 : decode cL_law 1011 = .ok (.iload_n 3, 1) := by decide +kernel
theorem dL_law_1012 : decode cL_law 1012 = .ok (.iconst 1, 1) := by decide +kernel
theorem dL_law_1013 : decode cL_law 1013 = .ok (.iadd, 1) := by decide +kernel
theorem dL_law_1014 : decode cL_law 1014 = .ok (.iaload, 1) := by decide +kernel
theorem dL_law_1015 : decode cL_law 1015 = .ok (.invokevirtual 123, 3) := by decide +kernel
theorem dL_law_1018 : decode cL_law 1018 = .ok (.aload_n 2, 1) := by decide +kernel
theorem dL_law_1019 : decode cL_law 1019 = .ok (.aload_n 0, 1) := by decide +kernel
theorem dL_law_1020 : decode cL_law 1020 = .ok (.iload_n 3, 1) := by decide +kernel
theorem dL_law_1021 : decode cL_law 1021 = .ok (.iconst 1, 1) := by decide +kernel
theorem dL_law_1022 : decode cL_law 1022 = .ok (.iadd, 1) := by decide +kernel
theorem dL_law_1023 : decode cL_law 1023 = .ok (.iaload, 1) := by decide +kernel
theorem dL_law_1024 : decode cL_law 1024 = .ok (.invokevirtual 126, 3) := by decide +kernel
theorem dL_law_1027 : decode cL_law 1027 = .ok (.if_icmp .eq 121, 3) := by decide +kernel
theorem dL_law_1030 : decode cL_law 1030 = .ok (.iconst 0, 1) := by decide +kernel
theorem dL_law_1031 : decode cL_law 1031 = .ok (.ireturn, 1) := by decide +kernel
theorem dL_law_1032 : decode cL_law 1032 = .ok (.aload_n 1, 1) := by decide +kernel
theorem dL_law_1033 : decode cL_law 1033 = .ok (.aload_n 0, 1) := by decide +kernel
theorem dL_law_1034 : decode cL_law 1034 = .ok (.iload_n 3, 1) := by decide +kernel
theorem dL_law_1035 : decode cL_law 1035 = .ok (.iconst 1, 1) := by decide +kernel
theorem dL_law_1036 : decode cL_law 1036 = .ok (.iadd, 1) := by decide +kernel
theorem dL_law_1037 : decode cL_law 1037 = .ok (.iaload, 1) := by decide +kernel
theorem dL_law_1038 : decode cL_law 1038 = .ok (.aload_n 0, 1) := by decide +kernel
theorem dL_law_1039 : decode cL_law 1039 = .ok (.iload_n 3, 1) := by decide +kernel
theorem dL_law_1040 : decode cL_law 1040 = .ok (.iconst 2, 1) := by decide +kernel
theorem dL_law_1041 : decode cL_law 1041 = .ok (.iadd, 1) := by decide +kernel
theorem dL_law_1042 : decode cL_law 1042 = .ok (.iaload, 1) := by decide +kernel
theorem dL_law_1043 : decode cL_law 1043 = .ok (.invokevirtual 127, 3) := by decide +kernel
theorem dL_law_1046 : decode cL_law 1046 = .ok (.aload_n 2, 1) := by decide +kernel
theorem dL_law_1047 : decode cL_law 1047 = .ok (.aload_n 0, 1) := by decide +kernel
theorem dL_law_1048 : decode cL_law 1048 = .ok (.iload_n 3, 1) := by decide +kernel
theorem dL_law_1049 : decode cL_law 1049 = .ok (.iconst 1, 1) := by decide +kernel
theorem dL_law_1050 : decode cL_law 1050 = .ok (.iadd, 1) := by decide +kernel
theorem dL_law_1051 : decode cL_law 1051 = .ok (.iaload, 1) := by decide +kernel
theorem dL_law_1052 : decode cL_law 1052 = .ok (.aload_n 0, 1) := by decide +kernel
theorem dL_law_1053 : decode cL_law 1053 = .ok (.iload_n 3, 1) := by decide +kernel
theorem dL_law_1054 : decode cL_law 1054 = .ok (.iconst 2, 1) := by decide +kernel
theorem dL_law_1055 : decode cL_law 1055 = .ok (.iadd, 1) := by decide +kernel
theorem dL_law_1056 : decode cL_law 1056 = .ok (.iaload, 1) := by decide +kernel
theorem dL_law_1057 : decode cL_law 1057 = .ok (.invokevirtual 130, 3) := by decide +kernel
theorem dL_law_1060 : decode cL_law 1060 = .ok (.if_icmp .eq 88, 3) := by decide +kernel
theorem dL_law_1063 : decode cL_law 1063 = .ok (.iconst 0, 1) := by decide +kernel
theorem dL_law_1064 : decode cL_law 1064 = .ok (.ireturn, 1) := by decide +kernel
theorem dL_law_1065 : decode cL_law 1065 = .ok (.aload_n 1, 1) := by decide +kernel
theorem dL_law_1066 : decode cL_law 1066 = .ok (.aload_n 0, 1) := by decide +kernel
theorem dL_law_1067 : decode cL_law 1067 = .ok (.iload_n 3, 1) := by decide +kernel
theorem dL_law_1068 : decode cL_law 1068 = .ok (.iconst 1, 1) := by decide +kernel
theorem dL_law_1069 : decode cL_law 1069 = .ok (.iadd, 1) := by decide +kernel
theorem dL_law_1070 : decode cL_law 1070 = .ok (.iaload, 1) := by decide +kernel
theorem dL_law_1071 : decode cL_law 1071 = .ok (.invokevirtual 131, 3) := by decide +kernel
theorem dL_law_1074 : decode cL_law 1074 = .ok (.aload_n 2, 1) := by decide +kernel
theorem dL_law_1075 : decode cL_law 1075 = .ok (.aload_n 0, 1) := by decide +kernel
theorem dL_law_1076 : decode cL_law 1076 = .ok (.iload_n 3, 1) := by decide +kernel
theorem dL_law_1077 : decode cL_law 1077 = .ok (.iconst 1, 1) := by decide +kernel
theorem dL_law_1078 : decode cL_law 1078 = .ok (.iadd, 1) := by decide +kernel
theorem dL_law_1079 : decode cL_law 1079 = .ok (.iaload, 1) := by decide +kernel
theorem dL_law_1080 : decode cL_law 1080 = .ok (.invokevirtual 134, 3) := by decide +kernel
theorem dL_law_1083 : decode cL_law 1083 = .ok (.if_icmp .eq 65, 3) := by decide +kernel
theorem dL_law_1086 : decode cL_law 1086 = .ok (.iconst 0, 1) := by decide +kernel
theorem dL_law_1087 : decode cL_law 1087 = .ok (.ireturn, 1) := by decide +kernel
theorem dL_law_1088 : decode cL_law 1088 = .ok (.aload_n 1, 1) := by decide +kernel
theorem dL_law_1089 : decode cL_law 1089 = .ok (.aload_n 0, 1) := by decide +kernel
theorem dL_law_1090 : decode cL_law 1090 = .ok (.iload_n 3, 1) := by decide +kernel
theorem dL_law_1091 : decode cL_law 1091 = .ok (.iconst 1, 1) := by decide +kernel
theorem dL_law_1092 : decode cL_law 1092 = .ok (.iadd, 1) := by decide +kernel
theorem dL_law_1093 : decode cL_law 1093 = .ok (.iaload, 1) := by decide +kernel
theorem dL_law_1094 : decode cL_law 1094 = .ok (.invokevirtual 135, 3) := by decide +kernel
theorem dL_law_1097 : decode cL_law 1097 = .ok (.aload_n 2, 1) := by decide +kernel
theorem dL_law_1098 : decode cL_law 1098 = .ok (.aload_n 0, 1) := by decide +kernel
theorem dL_law_1099 : decode cL_law 1099 = .ok (.iload_n 3, 1) := by decide +kernel
theorem dL_law_1100 : decode cL_law 1100 = .ok (.iconst 1, 1) := by decide +kernel
theorem dL_law_1101 : decode cL_law 1101 = .ok (.iadd, 1) := by decide +kernel
theorem dL_law_1102 : decode cL_law 1102 = .ok (.iaload, 1) := by decide +kernel
theorem dL_law_1103 : decode cL_law 1103 = .ok (.invokevirtual 138, 3) := by decide +kernel
theorem dL_law_1106 : decode cL_law 1106 = .ok (.if_icmp .eq 42, 3) := by decide +kernel
theorem dL_law_1109 : decode cL_law 1109 = .ok (.iconst 0, 1) := by decide +kernel
theorem dL_law_1110 : decode cL_law 1110 = .ok (.ireturn, 1) := by decide +kernel
theorem dL_law_1111 : decode cL_law 1111 = .ok (.aload_n 1, 1) := by decide +kernel
theorem dL_law_1112 : decode cL_law 1112 = .ok (.aload_n 0, 1) := by decide +kernel
theorem dL_law_1113 : decode cL_law 1113 = .ok (.iload_n 3, 1) := by decide +kernel
theorem dL_law_1114 : decode cL_law 1114 = .ok (.iconst 1, 1) := by decide +kernel
theorem dL_law_1115 : decode cL_law 1115 = .ok (.iadd, 1) := by decide +kernel
theorem dL_law_1116 : decode cL_law 1116 = .ok (.iaload, 1) := by decide +kernel
theorem dL_law_1117 : decode cL_law 1117 = .ok (.invokevirtual 139, 3) := by decide +kernel
theorem dL_law_1120 : decode cL_law 1120 = .ok (.aload_n 2, 1) := by decide +kernel
theorem dL_law_1121 : decode cL_law 1121 = .ok (.aload_n 0, 1) := by decide +kernel
theorem dL_law_1122 : decode cL_law 1122 = .ok (.iload_n 3, 1) := by decide +kernel
theorem dL_law_1123 : decode cL_law 1123 = .ok (.iconst 1, 1) := by decide +kernel
theorem dL_law_1124 : decode cL_law 1124 = .ok (.iadd, 1) := by decide +kernel
theorem dL_law_1125 : decode cL_law 1125 = .ok (.iaload, 1) := by decide +kernel
theorem dL_law_1126 : decode cL_law 1126 = .ok (.invokevirtual 142, 3) := by decide +kernel
theorem dL_law_1129 : decode cL_law 1129 = .ok (.if_icmp .eq 19, 3) := by decide +kernel
theorem dL_law_1132 : decode cL_law 1132 = .ok (.iconst 0, 1) := by decide +kernel
theorem dL_law_1133 : decode cL_law 1133 = .ok (.ireturn, 1) := by decide +kernel
theorem dL_law_1134 : decode cL_law 1134 = .ok (.aload_n 1, 1) := by decide +kernel
theorem dL_law_1135 : decode cL_law 1135 = .ok (.invokevirtual 143, 3) := by decide +kernel
theorem dL_law_1138 : decode cL_law 1138 = .ok (.aload_n 2, 1) := by decide +kernel
theorem dL_law_1139 : decode cL_law 1139 = .ok (.invokevirtual 147, 3) := by decide +kernel
theorem dL_law_1142 : decode cL_law 1142 = .ok (.lcmp, 1) := by decide +kernel
theorem dL_law_1143 : decode cL_law 1143 = .ok (.ifCond .eq 5, 3) := by decide +kernel
theorem dL_law_1146 : decode cL_law 1146 = .ok (.iconst 0, 1) := by decide +kernel
theorem dL_law_1147 : decode cL_law 1147 = .ok (.ireturn, 1) := by decide +kernel
theorem dL_law_1148 : decode cL_law 1148 = .ok (.iinc 3 6, 3) := by decide +kernel
theorem dL_law_1151 : decode cL_law 1151 = .ok (.goto (-1133), 3) := by decide +kernel
theorem dL_law_1154 : decode cL_law 1154 = .ok (.iconst 1, 1) := by decide +kernel
theorem dL_law_1155 : decode cL_law 1155 = .ok (.ireturn, 1) := by decide +kernel
end
section
/-! THE PURE PICTURE: every cell has a number r (the order of its making); what it holds are three functions of (cell, place): ints, longs, references. -/
abbrev zFi : Type := Nat → Nat → Int32
abbrev zFl : Type := Nat → Nat → Int64
abbrev zFr : Type := Nat → Nat → Option Nat
/-- one place of a function anew -/
def zu {α : Type} (f : Nat → α) (k : Nat) (v : α) : Nat → α := fun j => if j = k then v else f j
theorem zu_s {α : Type} (f : Nat → α) (k : Nat) (v : α) : zu f k v k = v := if_pos rfl
theorem zu_n {α : Type} (f : Nat → α) {k j : Nat} (v : α) (h : j ≠ k) : zu f k v j = f j := if_neg h
theorem zu_zu {α : Type} (f : Nat → α) (k : Nat) (v w : α) : zu (zu f k v) k w = zu f k w := by
  funext j
  by_cases h : j = k <;> simp [zu, h]
theorem zu_id {α : Type} (f : Nat → α) (k : Nat) : zu f k (f k) = f := by
  funext j
  by_cases h : j = k <;> simp [zu, h]
/-- place (r, k) anew -/
def zp {α : Type} (f : Nat → Nat → α) (r k : Nat) (v : α) : Nat → Nat → α := zu f r (zu (f r) k v)
theorem zp_s {α : Type} (f : Nat → Nat → α) (r k : Nat) (v : α) : zp f r k v r k = v := by simp [zp, zu]
theorem zp_r {α : Type} (f : Nat → Nat → α) {r r' : Nat} (k : Nat) (v : α) (h : r' ≠ r) : zp f r k v r' = f r' := by simp [zp, zu, h]
theorem zp_row {α : Type} (f : Nat → Nat → α) (r k : Nat) (v : α) : zp f r k v r = zu (f r) k v := by simp [zp, zu]
theorem zp_k {α : Type} (f : Nat → Nat → α) {r k r' k' : Nat} (v : α) (h : k' ≠ k) : zp f r k v r' k' = f r' k' := by
  by_cases hr : r' = r
  · subst hr; simp [zp, zu, h]
  · simp [zp, zu, hr]
/-! THE LAYOUT: kinds (0..8: the class's place in vwCl; 16 int[], 17 char[], 18 boolean[], 19 Life[], 20 Moment[], 21 int[][]) and lengths of the cells by their numbers -/
def zLifeK (j : Nat) : Nat := if j = 0 then 2 else if j = 1 then 21 else if j = 5 then 21 else 16
def zLifeN (j : Nat) : Nat := if j = 0 then 0 else if j = 1 then 3 else if j < 5 then 70 else if j = 5 then 3 else 100
def zMomK (j : Nat) : Nat := if j = 0 then 3 else if j = 1 then 5 else if j < 6 then 16 else if j = 6 then 19 else zLifeK ((j - 7) % 11)
def zMomN (j : Nat) : Nat := if j < 2 then 0 else if j < 6 then 10 else if j = 6 then 5 else zLifeN ((j - 7) % 11)
def zLandK (j : Nat) : Nat := if j = 0 then 0 else if j < 5 then 16 else 18
def zLandN (j : Nat) : Nat := if j = 0 then 0 else if j = 1 then 9 else 5
def zKD (r : Nat) : Nat :=
  if r < 3 then (if r = 0 then 7 else if r = 1 then 4 else 17) else
  if r < 65 then zMomK (r - 3) else
  if r < 77 then (if r = 65 then 20 else if r = 66 then 18 else if r = 67 then 1 else if r = 68 then 16 else if r = 69 then 6 else if r < 72 then 16 else if r = 72 then 5 else 16) else
  if r < 88 then zLifeK (r - 77) else
  if r < 94 then zLandK (r - 88) else
  if r < 100 then zLandK (r - 94) else
  if r < 162 then zMomK (r - 100) else
  if r < 224 then zMomK (r - 162) else
  if r = 224 then 8 else if r = 228 then 18 else if r < 238 then 16 else 99
def zMdN (j : Nat) : Nat := if j < 2 then 2950 else if j = 2 then 5900 else if j = 3 then 2 else if j = 4 then 300 else if j = 5 then 10 else if j = 6 then 18 else if j = 7 then 40 else if j = 8 then 4 else if j = 9 then 120 else 3
def zLN (r : Nat) : Nat :=
  if r < 3 then (if r = 2 then 300 else 0) else
  if r < 65 then zMomN (r - 3) else
  if r < 77 then (if r = 65 then 2 else if r = 66 then 2 else if r = 67 then 0 else if r = 68 then 5 else if r = 69 then 0 else if r < 72 then 40 else if r = 72 then 0 else 10) else
  if r < 88 then zLifeN (r - 77) else
  if r < 94 then zLandN (r - 88) else
  if r < 100 then zLandN (r - 94) else
  if r < 162 then zMomN (r - 100) else
  if r < 224 then zMomN (r - 162) else
  if r = 224 then 0 else zMdN (r - 225)
/-- how many fields a class has; what a field holds: 0 an int, 1 a long, 2 a reference -/
def zNf (c : Nat) : Nat := if c = 0 then 11 else if c = 1 then 6 else if c = 2 then 4 else if c = 3 then 4 else if c = 4 then 8 else if c = 5 then 5 else if c = 6 then 3 else if c = 7 then 12 else 31
def zTyc : FieldType → Nat
  | .long => 1
  | .object _ => 2
  | .array _ => 2
  | _ => 0
def zTy (c : Nat) : Nat → FieldType := if c = 0 then tyX0 else if c = 1 then tyX1 else if c = 2 then tyX2 else if c = 3 then tyX3 else if c = 4 then tyX4 else if c = 5 then tyX5 else if c = 6 then tyX6 else if c = 7 then tyX7 else tyX8
/-- slots of a cell; of all cells below n -/
def zSz (r : Nat) : Nat := if zKD r < 16 then zNf (zKD r) else zLN r
def zSl : Nat → Nat
  | 0 => 0
  | n + 1 => zSl n + zSz n
theorem zSl_le {a b : Nat} (h : a ≤ b) : zSl a ≤ zSl b := by
  induction b with
  | zero => rw [Nat.le_zero.mp h]; exact Nat.le_refl _
  | succ b ih =>
    rcases Nat.lt_or_ge a (b + 1) with q | q
    · exact Nat.le_trans (ih (Nat.le_of_lt_succ q)) (Nat.le_add_right _ _)
    · rw [Nat.le_antisymm h q]; exact Nat.le_refl _
/-! THE FIXED THINGS of a run: the launch, the classes' numbers, the array classes' numbers, the cells' addresses, the first own address, the script (cell, length, ints) -/
abbrev zG : Type := Launch × va_G × (Nat → ClassId) × (Nat → Nat) × Nat × Nat × Nat × (Nat → Int32)
abbrev zad (G : zG) : Nat → Nat := G.2.2.2.1
def zA (G : zG) : Nat → Prop := fun q => G.2.2.2.2.1 ≤ q
def zTv (ad : Nat → Nat) : Value → Value
  | .ref r => .ref (ad r)
  | v => v
theorem zTv_cat (ad : Nat → Nat) (v : Value) : (zTv ad v).category = v.category := by cases v <;> rfl
theorem zTv_cats (ad : Nat → Nat) (l : List Value) : ((l.map (zTv ad)).map fun v => v.category) = l.map fun v => v.category := by
  rw [List.map_map]
  exact List.map_congr_left fun v _ => zTv_cat ad v
def zFv (ad : Nat → Nat) (t : Nat) (a : Int32) (b : Int64) (c : Option Nat) : Value := if t = 0 then .int a else if t = 1 then .long b else va_rf (c.map ad)
def zFs (ad : Nat → Nat) (c : Nat) (fi : Nat → Int32) (fl : Nat → Int64) (fr : Nat → Option Nat) : List Value := (List.range (zNf c)).map fun k => zFv ad (zTyc (zTy c k)) (fi k) (fl k) (fr k)
def zEnt (G : zG) (r : Nat) (fi : Nat → Int32) (fl : Nat → Int64) (fr : Nat → Option Nat) : va_E :=
  if zKD r < 16 then .inr (zKD r, zFs (zad G) (zKD r) fi fl fr)
  else .inl (G.2.2.1 (zKD r - 16), zLN r, if zKD r < 19 then .inl fi else .inr (.inr (.inr (.inr (fun j => (fr j).map (zad G))))))
def zWs (G : zG) (n : Nat) (mi : zFi) (ml : zFl) (mr : zFr) : va_W := (List.range n).map fun r => (zad G r, zEnt G r (mi r) (ml r) (mr r))
def zTys (G : zG) : List (ClassId × FieldType) := [(G.2.2.1 0, .int), (G.2.2.1 1, .char), (G.2.2.1 2, .boolean), (G.2.2.1 3, .object RX2), (G.2.2.1 4, .object RX3), (G.2.2.1 5, .array .int)]
theorem zWs_get (G : zG) {n r : Nat} (mi : zFi) (ml : zFl) (mr : zFr) (h : r < n) : (zWs G n mi ml mr)[r]? = some (zad G r, zEnt G r (mi r) (ml r) (mr r)) := by
  unfold zWs
  rw [List.getElem?_map, List.getElem?_range h]
  rfl
theorem zWs_len (G : zG) (n : Nat) (mi : zFi) (ml : zFl) (mr : zFr) : (zWs G n mi ml mr).length = n := by simp [zWs]
/-- one cell anew -/
theorem zWs_set (G : zG) {n r : Nat} {mi mi' : zFi} {ml ml' : zFl} {mr mr' : zFr} {e : va_E} (he : zEnt G r (mi' r) (ml' r) (mr' r) = e) (ho : ∀ q, q ≠ r → mi' q = mi q ∧ ml' q = ml q ∧ mr' q = mr q) :
    (zWs G n mi ml mr).set r (zad G r, e) = zWs G n mi' ml' mr' := by
  apply List.ext_getElem?
  intro i
  by_cases hi : i < n
  · rw [zWs_get G mi' ml' mr' hi]
    by_cases hr : i = r
    · subst hr
      rw [List.getElem?_set_self (by rw [zWs_len]; exact hi), he]
    · obtain ⟨h1, h2, h3⟩ := ho i hr
      rw [List.getElem?_set_ne (fun q => hr q.symm), zWs_get G mi ml mr hi, h1, h2, h3]
  · rw [List.getElem?_eq_none (by rw [List.length_set, zWs_len]; omega), List.getElem?_eq_none (by rw [zWs_len]; omega)]
/-- one cell more -/
theorem zWs_push (G : zG) (n : Nat) (mi : zFi) (ml : zFl) (mr : zFr) : zWs G (n + 1) mi ml mr = zWs G n mi ml mr ++ [(zad G n, zEnt G n (mi n) (ml n) (mr n))] := by
  unfold zWs
  rw [List.range_succ, List.map_append]
  rfl
/-- what is not made yet holds nothing -/
def zFresh (n : Nat) (mi : zFi) (ml : zFl) (mr : zFr) : Prop := ∀ r, n ≤ r → (∀ k, mi r k = 0) ∧ (∀ k, ml r k = 0) ∧ ∀ k, mr r k = none
/-! locals -/
def zok : Value → Bool
  | .retAddr _ => false
  | _ => true
/-- an empty place -/
abbrev zx : Value := .retAddr 0
def zLs (ad : Nat → Nat) (ls : Array Slot) (nL : Nat) (L : List Value) : Prop := ls.size = nL ∧ lv_wf ls ∧ ∀ (i : Nat) (v : Value), L[i]? = some v → zok v = true → ls[i]? = some (.val (zTv ad v))
def zLv (ad : Nat → Nat) (L : List Value) : List (Nat × Value) := (List.range L.length).filterMap fun i => match L[i]? with
  | some v => if zok v = true then some (i, zTv ad v) else none
  | none => none
theorem zLv_mem {ad : Nat → Nat} {L : List Value} {q : Nat × Value} : q ∈ zLv ad L ↔ ∃ v, L[q.1]? = some v ∧ zok v = true ∧ q.2 = zTv ad v := by
  unfold zLv
  rw [List.mem_filterMap]
  constructor
  · rintro ⟨i, hi, h⟩
    cases hv : L[i]? with
    | none => rw [hv] at h; cases h
    | some v =>
      rw [hv] at h
      dsimp only at h
      by_cases hz : zok v = true
      · rw [if_pos hz] at h
        cases h
        exact ⟨v, hv, hz, rfl⟩
      · rw [if_neg hz] at h
        cases h
  · rintro ⟨v, h1, h2, h3⟩
    refine ⟨q.1, List.mem_range.mpr (List.getElem?_eq_some_iff.mp h1).1, ?_⟩
    rw [h1]
    dsimp only
    rw [if_pos h2, ← h3]
theorem zLs_has {ad : Nat → Nat} {ls : Array Slot} {nL : Nat} {L : List Value} : zLs ad ls nL L ↔ lv_has ls nL (zLv ad L) := by
  constructor
  · rintro ⟨h1, h2, h3⟩
    refine ⟨h1, h2, fun q hq => ?_⟩
    obtain ⟨v, a, b, c⟩ := zLv_mem.mp hq
    rw [c]
    exact h3 q.1 v a b
  · rintro ⟨h1, h2, h3⟩
    refine ⟨h1, h2, fun i v hv hz => ?_⟩
    exact h3 (i, zTv ad v) (zLv_mem.mpr ⟨v, hv, hz, rfl⟩)
/-- what holds of the locals behind a store: L' says nothing but the new value and what was there, longs that reach into the place apart -/
theorem zLs_st1 {ad : Nat → Nat} {ls : Array Slot} {nL i : Nat} {L L' : List Value} {v : Value} (h : lv_has ls nL ((i, zTv ad v) :: (zLv ad L).filter (fun q => !(q.1 == i) && !(q.1 + 1 == i && q.2.category == 2))))
    (hL : ∀ (j : Nat) (w : Value), L'[j]? = some w → zok w = true → (j = i ∧ w = v) ∨ (j ≠ i ∧ L[j]? = some w ∧ (j + 1 = i → w.category = 1))) : zLs ad ls nL L' := by
  refine ⟨h.1, h.2.1, fun j w hj hz => ?_⟩
  rcases hL j w hj hz with ⟨rfl, rfl⟩ | ⟨hne, hl, hc⟩
  · exact h.2.2 (j, zTv ad w) List.mem_cons_self
  · refine h.2.2 (j, zTv ad w) (List.mem_cons_of_mem _ (List.mem_filter.mpr ⟨zLv_mem.mpr ⟨w, hl, hz, rfl⟩, ?_⟩))
    have h1 : (j == i) = false := by simp [hne]
    by_cases h2 : j + 1 = i
    · have h3 := hc h2
      simp [h1, zTv_cat, h3]
    · simp [h1, h2]
theorem zLs_st2 {ad : Nat → Nat} {ls : Array Slot} {nL i : Nat} {L L' : List Value} {v : Value} (h : lv_has ls nL ((i, zTv ad v) :: (zLv ad L).filter (fun q => !(q.1 == i) && (!(q.1 == i + 1) && !(q.1 + 1 == i && q.2.category == 2)))))
    (hL : ∀ (j : Nat) (w : Value), L'[j]? = some w → zok w = true → (j = i ∧ w = v) ∨ (j ≠ i ∧ j ≠ i + 1 ∧ L[j]? = some w ∧ (j + 1 = i → w.category = 1))) : zLs ad ls nL L' := by
  refine ⟨h.1, h.2.1, fun j w hj hz => ?_⟩
  rcases hL j w hj hz with ⟨rfl, rfl⟩ | ⟨hne, hne2, hl, hc⟩
  · exact h.2.2 (j, zTv ad w) List.mem_cons_self
  · refine h.2.2 (j, zTv ad w) (List.mem_cons_of_mem _ (List.mem_filter.mpr ⟨zLv_mem.mpr ⟨w, hl, hz, rfl⟩, ?_⟩))
    have h1 : (j == i) = false := by simp [hne]
    have h4 : (j == i + 1) = false := by simp [hne2]
    by_cases h2 : j + 1 = i
    · have h3 := hc h2
      simp [h1, h4, zTv_cat, h3]
    · simp [h1, h4, h2]
/-- stores into the list: place i, its forerunner emptied if it is a long -/
def zst1 : List Value → Nat → Value → List Value
  | [], _, _ => []
  | _ :: t, 0, v => v :: t
  | a :: t, 1, v => (match a with | .long _ => zx | .double _ => zx | b => b) :: zst1 t 0 v
  | a :: t, i + 2, v => a :: zst1 t (i + 1) v
def zst2 (L : List Value) (i : Nat) (v : Value) : List Value := (zst1 L i v).set (i + 1) zx
theorem zst1_at (v : Value) : ∀ (L : List Value) (i j : Nat) (w : Value), (zst1 L i v)[j]? = some w → zok w = true → (j = i ∧ w = v) ∨ (j ≠ i ∧ L[j]? = some w ∧ (j + 1 = i → w.category = 1))
  | [], i, j, w, h, _ => by
    cases i <;> simp [zst1] at h
  | a :: t, 0, j, w, h, _ => by
    cases j with
    | zero => simp [zst1] at h; exact Or.inl ⟨rfl, h.symm⟩
    | succ j => simp [zst1] at h; exact Or.inr ⟨by omega, by simpa using h, by omega⟩
  | a :: t, 1, j, w, h, hz => by
    cases j with
    | zero =>
      refine Or.inr ⟨by omega, ?_⟩
      cases a <;> simp [zst1] at h <;> subst h <;> first | (simp [zok] at hz; done) | simp [Value.category]
    | succ j =>
      have h' : (zst1 t 0 v)[j]? = some w := by
        simpa [zst1] using h
      rcases zst1_at v t 0 j w h' hz with ⟨e1, e2⟩ | ⟨e1, e2, e3⟩
      · exact Or.inl ⟨by omega, e2⟩
      · exact Or.inr ⟨by omega, by simpa using e2, fun q => by omega⟩
  | a :: t, i + 2, j, w, h, hz => by
    cases j with
    | zero => simp [zst1] at h; exact Or.inr ⟨by omega, by simpa using h, by omega⟩
    | succ j =>
      have h' : (zst1 t (i + 1) v)[j]? = some w := by simpa [zst1] using h
      rcases zst1_at v t (i + 1) j w h' hz with ⟨e1, e2⟩ | ⟨e1, e2, e3⟩
      · exact Or.inl ⟨by omega, e2⟩
      · exact Or.inr ⟨by omega, by simpa using e2, fun q => e3 (by omega)⟩
theorem zst2_at (v : Value) (L : List Value) (i j : Nat) (w : Value) (h : (zst2 L i v)[j]? = some w) (hz : zok w = true) : (j = i ∧ w = v) ∨ (j ≠ i ∧ j ≠ i + 1 ∧ L[j]? = some w ∧ (j + 1 = i → w.category = 1)) := by
  unfold zst2 at h
  by_cases hj : j = i + 1
  · subst hj
    by_cases hl : i + 1 < (zst1 L i v).length
    · rw [List.getElem?_set_self hl] at h
      cases h
      simp [zok] at hz
    · rw [List.getElem?_eq_none (by rw [List.length_set]; omega)] at h
      cases h
  · rw [List.getElem?_set_ne (fun q => hj q.symm)] at h
    rcases zst1_at v L i j w h hz with ⟨e1, e2⟩ | ⟨e1, e2, e3⟩
    · exact Or.inl ⟨e1, e2⟩
    · exact Or.inr ⟨e1, hj, e2, e3⟩
/-! the words: those of lw_tbl that last -/
def zT : List Cond := lw_tbl.filter goodWord
theorem zT_in (i : Nat) {w : Cond} (h : lw_tbl[i]? = some w) (hg : goodWord w = true) : w ∈ zT := List.mem_filter.mpr ⟨List.mem_of_getElem? h, hg⟩
theorem zT_good {y : MethodName} {cc : ByteArray} {nL : Nat} {ret : Option FieldType} (h : Cond.code y cc nL ret ∈ zT) : GoodIn zT (.code y cc nL ret :: zT) := by
  intro w hw
  have h1 : w ∈ zT := by
    rcases List.mem_cons.mp hw with rfl | q
    · exact h
    · exact q
  exact ⟨h1, good_of_word (List.mem_filter.mp h1).2⟩
/-! what lies outside: the script, the String constants, two statics of the JDK -/
def zStrN : Nat := 6
def zLenS : List Nat := [5, 4, 3, 5, 4, 5]
def zBytS : List (List Int32) := [[112, 108, 97, 99, 101], [110, 101, 97, 114], [108, 97, 119], [115, 116, 97, 114, 116], [119, 111, 114, 100], [112, 108, 97, 105, 110]]
def zOut (G : zG) (U : State) (H : Heap) : Prop :=
  va_X G.2.2.2.2.2.1 G.2.2.2.2.2.2.1 G.2.2.2.2.2.2.2 U H ∧ ¬ zA G G.2.2.2.2.2.1 ∧ G.2.2.2.2.2.1 < H.size ∧
  vk_S zStrN zLenS zBytS (fun k => zad G (1000 + k)) (fun k => zad G (2000 + k)) (zA G) U H ∧
  va_Z "java/lang/String" "COMPACT_STRINGS" "Z" (.int 1) (zA G) U H ∧
  va_Zq "jdk/internal/util/Preconditions" "SIOOBE_FORMATTER" "Ljava/util/function/BiFunction;" (zA G) U H
theorem zOut.moved {G : zG} {u U : State} {H : Heap} (hvm : u.vm.Alike U.vm) (h : zOut G u H) : zOut G U H := by
  obtain ⟨h1, h2, h3, h4, h5, h6⟩ := h
  exact ⟨h1.moved hvm, h2, h3, h4.moved hvm, h5.moved hvm, h6.moved hvm⟩
theorem zOut.kept {G : zG} {U : State} {H H1 : Heap} (h : zOut G U H) (hz : H.size ≤ H1.size) (hq : ∀ a : Nat, a < H.size → ¬ zA G a → H1[a]? = H[a]?) : zOut G U H1 := by
  obtain ⟨h1, h2, h3, h4, h5, h6⟩ := h
  exact ⟨h1.kept (hq _ h3 h2), h2, Nat.lt_of_lt_of_le h3 hz, h4.kept hq, h5.kept hq, h6.kept hq⟩
/-! THE JUDGEMENT: from the configuration (pc, locals L, operands st, cells n, contents mi ml mr) of the method (own class, name, code, locals' words, answer's type) the machine comes to QQ -/
def zCx (G : zG) (own mn : String) (cc : ByteArray) (nL : Nat) (ret : Option FieldType) (n0 : Nat) (p : Program) (s : State) (m : MethodId) (args : Array Value) (meth : Method) (c : Code) : Prop :=
  p.tables.exec = Jvm.exec ∧ c.code = cc ∧ meth.sig.returnType = ret ∧ c.maxLocals = nL ∧ s.vm.findClass own = some m.cls ∧ (∀ w ∈ zT, w.before args s = true) ∧ meth.locks = false ∧ meth.name = mn ∧ s.heap.size = G.2.2.2.2.1 + n0 ∧ (∀ r, r < 1000 → zad G r = G.2.2.2.2.1 + r) ∧ zOut G s s.heap
def zRl (G : zG) (n : Nat) (mi : zFi) (ml : zFl) (mr : zFr) (s : State) (H : Heap) (locs : List Loc) : Prop :=
  va_S (zA G) s.heap H locs ∧ va_P G.2.1 vwCl (zWs G n mi ml mr) H ∧ va_D (zA G) (zWs G n mi ml mr) ∧ va_K G.2.1 vwCl (zTys G) s ∧ zFresh n mi ml mr
abbrev zQQ : Type := List Frame → Array Value → State → State → Prop
def zE (G : zG) (R : Room) (QQ : zQQ) (own mn : String) (cc : ByteArray) (nL : Nat) (ret : Option FieldType) (n0 pc : Nat) (L st : List Value) (n : Nat) (mi : zFi) (ml : zFl) (mr : zFr) : Prop :=
  ∀ (p : Program) (e : Env) (s : State) (m : MethodId) (args : Array Value) (below : List Frame) (meth : Method) (c : Code) (H : Heap) (locs : List Loc) (ls : Array Slot),
    zCx G own mn cc nL ret n0 p s m args meth c → zRl G n mi ml mr s H locs → zLs (zad G) ls nL L → n0 ≤ n →
    W p G.1 e R s m args below meth c H locs (n - n0) (zSl n - zSl n0) (QQ below args s) (F0 m pc ls (st.map (zTv (zad G))))
end
section
section ZROWS
variable {G : zG} {R : Room} {QQ : zQQ} {own mn : String} {cc : ByteArray} {nL : Nat} {ret : Option FieldType} {n0 pc : Nat} {L st : List Value} {n : Nat} {mi : zFi} {ml : zFl} {mr : zFr}
theorem e_iadd (pc' : Nat) {x y : Int32} (hd : decode cc pc = .ok (.iadd, 1)) (hp : pc + 1 = pc') (k : zE G R QQ own mn cc nL ret n0 pc' L (.int (x + y) :: st) n mi ml mr) : zE G R QQ own mn cc nL ret n0 pc L (.int y :: .int x :: st) n mi ml mr := by
  intro p e s m args below meth c H locs ls hC hR hL hn
  subst hp
  exact lv_iadd hC.1 hC.2.1 hd (k p e s m args below meth c H locs ls hC hR hL hn)
theorem e_isub (pc' : Nat) {x y : Int32} (hd : decode cc pc = .ok (.isub, 1)) (hp : pc + 1 = pc') (k : zE G R QQ own mn cc nL ret n0 pc' L (.int (x - y) :: st) n mi ml mr) : zE G R QQ own mn cc nL ret n0 pc L (.int y :: .int x :: st) n mi ml mr := by
  intro p e s m args below meth c H locs ls hC hR hL hn
  subst hp
  exact lv_isub hC.1 hC.2.1 hd (k p e s m args below meth c H locs ls hC hR hL hn)
theorem e_imul (pc' : Nat) {x y : Int32} (hd : decode cc pc = .ok (.imul, 1)) (hp : pc + 1 = pc') (k : zE G R QQ own mn cc nL ret n0 pc' L (.int (x * y) :: st) n mi ml mr) : zE G R QQ own mn cc nL ret n0 pc L (.int y :: .int x :: st) n mi ml mr := by
  intro p e s m args below meth c H locs ls hC hR hL hn
  subst hp
  exact lv_imul hC.1 hC.2.1 hd (k p e s m args below meth c H locs ls hC hR hL hn)
theorem e_iand (pc' : Nat) {x y : Int32} (hd : decode cc pc = .ok (.iand, 1)) (hp : pc + 1 = pc') (k : zE G R QQ own mn cc nL ret n0 pc' L (.int (x &&& y) :: st) n mi ml mr) : zE G R QQ own mn cc nL ret n0 pc L (.int y :: .int x :: st) n mi ml mr := by
  intro p e s m args below meth c H locs ls hC hR hL hn
  subst hp
  exact lv_iand hC.1 hC.2.1 hd (k p e s m args below meth c H locs ls hC hR hL hn)
theorem e_ior (pc' : Nat) {x y : Int32} (hd : decode cc pc = .ok (.ior, 1)) (hp : pc + 1 = pc') (k : zE G R QQ own mn cc nL ret n0 pc' L (.int (x ||| y) :: st) n mi ml mr) : zE G R QQ own mn cc nL ret n0 pc L (.int y :: .int x :: st) n mi ml mr := by
  intro p e s m args below meth c H locs ls hC hR hL hn
  subst hp
  exact lv_ior hC.1 hC.2.1 hd (k p e s m args below meth c H locs ls hC hR hL hn)
theorem e_idiv (pc' : Nat) {x y : Int32} (hd : decode cc pc = .ok (.idiv, 1)) (hp : pc + 1 = pc') (hne : ¬ y = 0) (k : zE G R QQ own mn cc nL ret n0 pc' L (.int (x / y) :: st) n mi ml mr) : zE G R QQ own mn cc nL ret n0 pc L (.int y :: .int x :: st) n mi ml mr := by
  intro p e s m args below meth c H locs ls hC hR hL hn
  subst hp
  exact lv_idiv hC.1 hC.2.1 hd hne (k p e s m args below meth c H locs ls hC hR hL hn)
theorem e_irem (pc' : Nat) {x y : Int32} (hd : decode cc pc = .ok (.irem, 1)) (hp : pc + 1 = pc') (hne : ¬ y = 0) (k : zE G R QQ own mn cc nL ret n0 pc' L (.int (x - x / y * y) :: st) n mi ml mr) : zE G R QQ own mn cc nL ret n0 pc L (.int y :: .int x :: st) n mi ml mr := by
  intro p e s m args below meth c H locs ls hC hR hL hn
  subst hp
  exact lv_irem hC.1 hC.2.1 hd hne (k p e s m args below meth c H locs ls hC hR hL hn)
theorem e_ishl (pc' : Nat) {x y : Int32} (hd : decode cc pc = .ok (.ishl, 1)) (hp : pc + 1 = pc') (k : zE G R QQ own mn cc nL ret n0 pc' L (.int (x <<< (y &&& 31)) :: st) n mi ml mr) : zE G R QQ own mn cc nL ret n0 pc L (.int y :: .int x :: st) n mi ml mr := by
  intro p e s m args below meth c H locs ls hC hR hL hn
  subst hp
  exact lv_ishl hC.1 hC.2.1 hd (k p e s m args below meth c H locs ls hC hR hL hn)
theorem e_ishr (pc' : Nat) {x y : Int32} (hd : decode cc pc = .ok (.ishr, 1)) (hp : pc + 1 = pc') (k : zE G R QQ own mn cc nL ret n0 pc' L (.int (x >>> (y &&& 31)) :: st) n mi ml mr) : zE G R QQ own mn cc nL ret n0 pc L (.int y :: .int x :: st) n mi ml mr := by
  intro p e s m args below meth c H locs ls hC hR hL hn
  subst hp
  exact lv_ishr hC.1 hC.2.1 hd (k p e s m args below meth c H locs ls hC hR hL hn)
theorem e_iushr (pc' : Nat) {x y : Int32} (hd : decode cc pc = .ok (.iushr, 1)) (hp : pc + 1 = pc') (k : zE G R QQ own mn cc nL ret n0 pc' L (.int ((x.toUInt32 >>> (y.toUInt32 &&& Int32.toUInt32 31)).toInt32) :: st) n mi ml mr) : zE G R QQ own mn cc nL ret n0 pc L (.int y :: .int x :: st) n mi ml mr := by
  intro p e s m args below meth c H locs ls hC hR hL hn
  subst hp
  exact lv_iushr hC.1 hC.2.1 hd rfl (k p e s m args below meth c H locs ls hC hR hL hn)
theorem e_ladd (pc' : Nat) {x y : Int64} (hd : decode cc pc = .ok (.ladd, 1)) (hp : pc + 1 = pc') (k : zE G R QQ own mn cc nL ret n0 pc' L (.long (x + y) :: st) n mi ml mr) : zE G R QQ own mn cc nL ret n0 pc L (.long y :: .long x :: st) n mi ml mr := by
  intro p e s m args below meth c H locs ls hC hR hL hn
  subst hp
  exact lv_ladd hC.1 hC.2.1 hd (k p e s m args below meth c H locs ls hC hR hL hn)
theorem e_lmul (pc' : Nat) {x y : Int64} (hd : decode cc pc = .ok (.lmul, 1)) (hp : pc + 1 = pc') (k : zE G R QQ own mn cc nL ret n0 pc' L (.long (x * y) :: st) n mi ml mr) : zE G R QQ own mn cc nL ret n0 pc L (.long y :: .long x :: st) n mi ml mr := by
  intro p e s m args below meth c H locs ls hC hR hL hn
  subst hp
  exact lv_lmul hC.1 hC.2.1 hd (k p e s m args below meth c H locs ls hC hR hL hn)
theorem e_land (pc' : Nat) {x y : Int64} (hd : decode cc pc = .ok (.land, 1)) (hp : pc + 1 = pc') (k : zE G R QQ own mn cc nL ret n0 pc' L (.long (x &&& y) :: st) n mi ml mr) : zE G R QQ own mn cc nL ret n0 pc L (.long y :: .long x :: st) n mi ml mr := by
  intro p e s m args below meth c H locs ls hC hR hL hn
  subst hp
  exact lv_land hC.1 hC.2.1 hd (k p e s m args below meth c H locs ls hC hR hL hn)
theorem e_lor (pc' : Nat) {x y : Int64} (hd : decode cc pc = .ok (.lor, 1)) (hp : pc + 1 = pc') (k : zE G R QQ own mn cc nL ret n0 pc' L (.long (x ||| y) :: st) n mi ml mr) : zE G R QQ own mn cc nL ret n0 pc L (.long y :: .long x :: st) n mi ml mr := by
  intro p e s m args below meth c H locs ls hC hR hL hn
  subst hp
  exact lv_lor hC.1 hC.2.1 hd (k p e s m args below meth c H locs ls hC hR hL hn)
theorem e_ldiv (pc' : Nat) {x y : Int64} (hd : decode cc pc = .ok (.ldiv, 1)) (hp : pc + 1 = pc') (hne : ¬ y = 0) (k : zE G R QQ own mn cc nL ret n0 pc' L (.long (x / y) :: st) n mi ml mr) : zE G R QQ own mn cc nL ret n0 pc L (.long y :: .long x :: st) n mi ml mr := by
  intro p e s m args below meth c H locs ls hC hR hL hn
  subst hp
  exact lv_ldiv hC.1 hC.2.1 hd hne (k p e s m args below meth c H locs ls hC hR hL hn)
theorem e_lrem (pc' : Nat) {x y : Int64} (hd : decode cc pc = .ok (.lrem, 1)) (hp : pc + 1 = pc') (hne : ¬ y = 0) (k : zE G R QQ own mn cc nL ret n0 pc' L (.long (x - x / y * y) :: st) n mi ml mr) : zE G R QQ own mn cc nL ret n0 pc L (.long y :: .long x :: st) n mi ml mr := by
  intro p e s m args below meth c H locs ls hC hR hL hn
  subst hp
  exact lv_lrem hC.1 hC.2.1 hd hne (k p e s m args below meth c H locs ls hC hR hL hn)
theorem e_lneg (pc' : Nat) {x : Int64} (hd : decode cc pc = .ok (.lneg, 1)) (hp : pc + 1 = pc') (k : zE G R QQ own mn cc nL ret n0 pc' L (.long (-x) :: st) n mi ml mr) : zE G R QQ own mn cc nL ret n0 pc L (.long x :: st) n mi ml mr := by
  intro p e s m args below meth c H locs ls hC hR hL hn
  subst hp
  exact lv_lneg hC.1 hC.2.1 hd (k p e s m args below meth c H locs ls hC hR hL hn)
theorem e_lcmp (pc' : Nat) {x y : Int64} (hd : decode cc pc = .ok (.lcmp, 1)) (hp : pc + 1 = pc') (k : zE G R QQ own mn cc nL ret n0 pc' L (.int (lg_cmp x y) :: st) n mi ml mr) : zE G R QQ own mn cc nL ret n0 pc L (.long y :: .long x :: st) n mi ml mr := by
  intro p e s m args below meth c H locs ls hC hR hL hn
  subst hp
  exact W.lcmp hC.1 hC.2.1 hd (k p e s m args below meth c H locs ls hC hR hL hn)
theorem e_lshl (pc' : Nat) {x : Int64} {y : Int32} (hd : decode cc pc = .ok (.lshl, 1)) (hp : pc + 1 = pc') (k : zE G R QQ own mn cc nL ret n0 pc' L (.long (x <<< (y.toInt64 &&& 63)) :: st) n mi ml mr) : zE G R QQ own mn cc nL ret n0 pc L (.int y :: .long x :: st) n mi ml mr := by
  intro p e s m args below meth c H locs ls hC hR hL hn
  subst hp
  exact lv_lshl hC.1 hC.2.1 hd rfl (k p e s m args below meth c H locs ls hC hR hL hn)
theorem e_lshr (pc' : Nat) {x : Int64} {y : Int32} (hd : decode cc pc = .ok (.lshr, 1)) (hp : pc + 1 = pc') (k : zE G R QQ own mn cc nL ret n0 pc' L (.long (x >>> (y.toInt64 &&& 63)) :: st) n mi ml mr) : zE G R QQ own mn cc nL ret n0 pc L (.int y :: .long x :: st) n mi ml mr := by
  intro p e s m args below meth c H locs ls hC hR hL hn
  subst hp
  exact lv_lshr hC.1 hC.2.1 hd rfl (k p e s m args below meth c H locs ls hC hR hL hn)
theorem e_lushr (pc' : Nat) {x : Int64} {y : Int32} (hd : decode cc pc = .ok (.lushr, 1)) (hp : pc + 1 = pc') (k : zE G R QQ own mn cc nL ret n0 pc' L (.long ((x.toUInt64 >>> (y.toInt64.toUInt64 &&& Int64.toUInt64 63)).toInt64) :: st) n mi ml mr) : zE G R QQ own mn cc nL ret n0 pc L (.int y :: .long x :: st) n mi ml mr := by
  intro p e s m args below meth c H locs ls hC hR hL hn
  subst hp
  exact lv_lushr hC.1 hC.2.1 hd rfl (k p e s m args below meth c H locs ls hC hR hL hn)
theorem e_i2l (pc' : Nat) {x : Int32} (hd : decode cc pc = .ok (.i2l, 1)) (hp : pc + 1 = pc') (k : zE G R QQ own mn cc nL ret n0 pc' L (.long x.toInt64 :: st) n mi ml mr) : zE G R QQ own mn cc nL ret n0 pc L (.int x :: st) n mi ml mr := by
  intro p e s m args below meth c H locs ls hC hR hL hn
  subst hp
  exact lv_i2l hC.1 hC.2.1 hd rfl (k p e s m args below meth c H locs ls hC hR hL hn)
theorem e_l2i (pc' : Nat) {x : Int64} (hd : decode cc pc = .ok (.l2i, 1)) (hp : pc + 1 = pc') (k : zE G R QQ own mn cc nL ret n0 pc' L (.int x.toInt32 :: st) n mi ml mr) : zE G R QQ own mn cc nL ret n0 pc L (.long x :: st) n mi ml mr := by
  intro p e s m args below meth c H locs ls hC hR hL hn
  subst hp
  exact lv_l2i hC.1 hC.2.1 hd rfl (k p e s m args below meth c H locs ls hC hR hL hn)
theorem e_i2c (pc' : Nat) {x : Int32} (hd : decode cc pc = .ok (.i2c, 1)) (hp : pc + 1 = pc') (k : zE G R QQ own mn cc nL ret n0 pc' L (.int ((x.toUInt32 % 65536).toInt32) :: st) n mi ml mr) : zE G R QQ own mn cc nL ret n0 pc L (.int x :: st) n mi ml mr := by
  intro p e s m args below meth c H locs ls hC hR hL hn
  subst hp
  exact lv_i2c hC.1 hC.2.1 hd rfl (k p e s m args below meth c H locs ls hC hR hL hn)
theorem e_iconst (pc' : Nat) {q : Int} {v : Int32} (hv : Int32.ofInt q = v) (hd : decode cc pc = .ok (.iconst q, 1)) (hp : pc + 1 = pc') (k : zE G R QQ own mn cc nL ret n0 pc' L (.int v :: st) n mi ml mr) : zE G R QQ own mn cc nL ret n0 pc L st n mi ml mr := by
  intro p e s m args below meth c H locs ls hC hR hL hn
  subst hp
  exact lv_iconst hC.1 hC.2.1 hd hv (k p e s m args below meth c H locs ls hC hR hL hn)
theorem e_bipush (pc' : Nat) {q : Int} {v : Int32} (hv : (Int8.ofInt q).toInt32 = v) (hd : decode cc pc = .ok (.bipush q, 2)) (hp : pc + 2 = pc') (k : zE G R QQ own mn cc nL ret n0 pc' L (.int v :: st) n mi ml mr) : zE G R QQ own mn cc nL ret n0 pc L st n mi ml mr := by
  intro p e s m args below meth c H locs ls hC hR hL hn
  subst hp
  exact lv_bipush hC.1 hC.2.1 hd hv (k p e s m args below meth c H locs ls hC hR hL hn)
theorem e_sipush (pc' : Nat) {q : Int} {v : Int32} (hv : (Int16.ofInt q).toInt32 = v) (hd : decode cc pc = .ok (.sipush q, 3)) (hp : pc + 3 = pc') (k : zE G R QQ own mn cc nL ret n0 pc' L (.int v :: st) n mi ml mr) : zE G R QQ own mn cc nL ret n0 pc L st n mi ml mr := by
  intro p e s m args below meth c H locs ls hC hR hL hn
  subst hp
  exact lv_sipush hC.1 hC.2.1 hd hv (k p e s m args below meth c H locs ls hC hR hL hn)
theorem e_lconst (pc' : Nat) {q : Fin 2} {v : Int64} (hv : Int64.ofNat (q : Nat) = v) (hd : decode cc pc = .ok (.lconst q, 1)) (hp : pc + 1 = pc') (k : zE G R QQ own mn cc nL ret n0 pc' L (.long v :: st) n mi ml mr) : zE G R QQ own mn cc nL ret n0 pc L st n mi ml mr := by
  intro p e s m args below meth c H locs ls hC hR hL hn
  subst hp
  exact lv_lconst hC.1 hC.2.1 hd hv (k p e s m args below meth c H locs ls hC hR hL hn)
theorem e_ldc (pc' : Nat) {idx : Nat} {v : Int32} (hw : Jvm.Cond.constant own idx v ∈ zT) (hd : decode cc pc = .ok (.ldc idx, 2)) (hp : pc + 2 = pc') (k : zE G R QQ own mn cc nL ret n0 pc' L (.int v :: st) n mi ml mr) : zE G R QQ own mn cc nL ret n0 pc L st n mi ml mr := by
  intro p e s m args below meth c H locs ls hC hR hL hn
  subst hp
  exact lv_ldc hC.1 hC.2.1 hC.2.2.2.2.1 (hC.2.2.2.2.2.1 _ hw) hd (k p e s m args below meth c H locs ls hC hR hL hn)
theorem e_ldc_w (pc' : Nat) {idx : Nat} {v : Int32} (hw : Jvm.Cond.constant own idx v ∈ zT) (hd : decode cc pc = .ok (.ldc_w idx, 3)) (hp : pc + 3 = pc') (k : zE G R QQ own mn cc nL ret n0 pc' L (.int v :: st) n mi ml mr) : zE G R QQ own mn cc nL ret n0 pc L st n mi ml mr := by
  intro p e s m args below meth c H locs ls hC hR hL hn
  subst hp
  exact lv_ldcw hC.1 hC.2.1 hC.2.2.2.2.1 (hC.2.2.2.2.2.1 _ hw) hd (k p e s m args below meth c H locs ls hC hR hL hn)
theorem e_ldc2_w (pc' : Nat) {idx : Nat} {v : Int64} (hw : Jvm.Cond.constantLong own idx v ∈ zT) (hd : decode cc pc = .ok (.ldc2_w idx, 3)) (hp : pc + 3 = pc') (k : zE G R QQ own mn cc nL ret n0 pc' L (.long v :: st) n mi ml mr) : zE G R QQ own mn cc nL ret n0 pc L st n mi ml mr := by
  intro p e s m args below meth c H locs ls hC hR hL hn
  subst hp
  exact lv_ldc2 hC.1 hC.2.1 hC.2.2.2.2.1 (hC.2.2.2.2.2.1 _ hw) hd (k p e s m args below meth c H locs ls hC hR hL hn)
theorem e_dup (pc' : Nat) {v : Value} (hd : decode cc pc = .ok (.dup, 1)) (hp : pc + 1 = pc') (hv : v.category = 1) (k : zE G R QQ own mn cc nL ret n0 pc' L (v :: v :: st) n mi ml mr) : zE G R QQ own mn cc nL ret n0 pc L (v :: st) n mi ml mr := by
  intro p e s m args below meth c H locs ls hC hR hL hn
  subst hp
  exact lv_dup hC.1 hC.2.1 hd (by rw [zTv_cat]; exact hv) (k p e s m args below meth c H locs ls hC hR hL hn)
theorem e_pop (pc' : Nat) {v : Value} (hd : decode cc pc = .ok (.pop, 1)) (hp : pc + 1 = pc') (hv : v.category = 1) (k : zE G R QQ own mn cc nL ret n0 pc' L st n mi ml mr) : zE G R QQ own mn cc nL ret n0 pc L (v :: st) n mi ml mr := by
  intro p e s m args below meth c H locs ls hC hR hL hn
  subst hp
  exact lv_pop hC.1 hC.2.1 hd (by rw [zTv_cat]; exact hv) (k p e s m args below meth c H locs ls hC hR hL hn)
theorem e_dup2 (pc' : Nat) {v w : Value} (hd : decode cc pc = .ok (.dup2, 1)) (hp : pc + 1 = pc') (hv : v.category = 1) (hw : w.category = 1) (k : zE G R QQ own mn cc nL ret n0 pc' L (v :: w :: v :: w :: st) n mi ml mr) : zE G R QQ own mn cc nL ret n0 pc L (v :: w :: st) n mi ml mr := by
  intro p e s m args below meth c H locs ls hC hR hL hn
  subst hp
  exact lv_dup2_11 hC.1 hC.2.1 hd (by rw [zTv_cat]; exact hv) (by rw [zTv_cat]; exact hw) (k p e s m args below meth c H locs ls hC hR hL hn)
theorem e_iload (pc' : Nat) {i : Nat} {x : Int32} (hd : decode cc pc = .ok (.iload i, 2)) (hp : pc + 2 = pc') (hx : L[i]? = some (.int x)) (k : zE G R QQ own mn cc nL ret n0 pc' L (.int x :: st) n mi ml mr) : zE G R QQ own mn cc nL ret n0 pc L st n mi ml mr := by
  intro p e s m args below meth c H locs ls hC hR hL hn
  subst hp
  exact lv_iload hC.1 hC.2.1 hd (hL.2.2 i _ hx rfl) (k p e s m args below meth c H locs ls hC hR hL hn)
theorem e_iload_n (pc' : Nat) {i : Fin 4} {x : Int32} (hd : decode cc pc = .ok (.iload_n i, 1)) (hp : pc + 1 = pc') (hx : L[(i : Nat)]? = some (.int x)) (k : zE G R QQ own mn cc nL ret n0 pc' L (.int x :: st) n mi ml mr) : zE G R QQ own mn cc nL ret n0 pc L st n mi ml mr := by
  intro p e s m args below meth c H locs ls hC hR hL hn
  subst hp
  exact lv_iload_n hC.1 hC.2.1 hd rfl (hL.2.2 (i : Nat) _ hx rfl) (k p e s m args below meth c H locs ls hC hR hL hn)
theorem e_lload (pc' : Nat) {i : Nat} {x : Int64} (hd : decode cc pc = .ok (.lload i, 2)) (hp : pc + 2 = pc') (hx : L[i]? = some (.long x)) (k : zE G R QQ own mn cc nL ret n0 pc' L (.long x :: st) n mi ml mr) : zE G R QQ own mn cc nL ret n0 pc L st n mi ml mr := by
  intro p e s m args below meth c H locs ls hC hR hL hn
  subst hp
  exact lv_lload hC.1 hC.2.1 hd (hL.2.2 i _ hx rfl) (k p e s m args below meth c H locs ls hC hR hL hn)
theorem e_lload_n (pc' : Nat) {i : Fin 4} {x : Int64} (hd : decode cc pc = .ok (.lload_n i, 1)) (hp : pc + 1 = pc') (hx : L[(i : Nat)]? = some (.long x)) (k : zE G R QQ own mn cc nL ret n0 pc' L (.long x :: st) n mi ml mr) : zE G R QQ own mn cc nL ret n0 pc L st n mi ml mr := by
  intro p e s m args below meth c H locs ls hC hR hL hn
  subst hp
  exact lv_lload_n hC.1 hC.2.1 hd rfl (hL.2.2 (i : Nat) _ hx rfl) (k p e s m args below meth c H locs ls hC hR hL hn)
theorem e_aload (pc' : Nat) {i : Nat} {x : Nat} (hd : decode cc pc = .ok (.aload i, 2)) (hp : pc + 2 = pc') (hx : L[i]? = some (.ref x)) (k : zE G R QQ own mn cc nL ret n0 pc' L (.ref x :: st) n mi ml mr) : zE G R QQ own mn cc nL ret n0 pc L st n mi ml mr := by
  intro p e s m args below meth c H locs ls hC hR hL hn
  subst hp
  exact lv_aload hC.1 hC.2.1 hd (hL.2.2 i _ hx rfl) (k p e s m args below meth c H locs ls hC hR hL hn)
theorem e_aload_n (pc' : Nat) {i : Fin 4} {x : Nat} (hd : decode cc pc = .ok (.aload_n i, 1)) (hp : pc + 1 = pc') (hx : L[(i : Nat)]? = some (.ref x)) (k : zE G R QQ own mn cc nL ret n0 pc' L (.ref x :: st) n mi ml mr) : zE G R QQ own mn cc nL ret n0 pc L st n mi ml mr := by
  intro p e s m args below meth c H locs ls hC hR hL hn
  subst hp
  exact lv_aload_n hC.1 hC.2.1 hd rfl (hL.2.2 (i : Nat) _ hx rfl) (k p e s m args below meth c H locs ls hC hR hL hn)
theorem e_istore (pc' : Nat) {i : Nat} {x : Int32} {L' : List Value} (hd : decode cc pc = .ok (.istore i, 2)) (hp : pc + 2 = pc') (hn : i < nL) (hx : zst1 L i (.int x) = L') (k : zE G R QQ own mn cc nL ret n0 pc' L' st n mi ml mr) : zE G R QQ own mn cc nL ret n0 pc L (.int x :: st) n mi ml mr := by
  intro p e s m args below meth c H locs ls hC hR hL hn0
  subst hp
  subst hx
  exact lv_istore hC.1 hC.2.1 hd (zLs_has.mp hL) hn rfl (fun ls' hl' => k p e s m args below meth c H locs ls' hC hR (zLs_st1 (v := .int x) hl' (fun j w a b => zst1_at _ L _ j w a b)) hn0)
theorem e_istore_n (pc' : Nat) {i : Fin 4} {x : Int32} {L' : List Value} (hd : decode cc pc = .ok (.istore_n i, 1)) (hp : pc + 1 = pc') (hn : (i : Nat) < nL) (hx : zst1 L (i : Nat) (.int x) = L') (k : zE G R QQ own mn cc nL ret n0 pc' L' st n mi ml mr) : zE G R QQ own mn cc nL ret n0 pc L (.int x :: st) n mi ml mr := by
  intro p e s m args below meth c H locs ls hC hR hL hn0
  subst hp
  subst hx
  exact lv_istore_n hC.1 hC.2.1 hd rfl (zLs_has.mp hL) hn rfl (fun ls' hl' => k p e s m args below meth c H locs ls' hC hR (zLs_st1 (v := .int x) hl' (fun j w a b => zst1_at _ L _ j w a b)) hn0)
theorem e_astore (pc' : Nat) {i : Nat} {x : Nat} {L' : List Value} (hd : decode cc pc = .ok (.astore i, 2)) (hp : pc + 2 = pc') (hn : i < nL) (hx : zst1 L i (.ref x) = L') (k : zE G R QQ own mn cc nL ret n0 pc' L' st n mi ml mr) : zE G R QQ own mn cc nL ret n0 pc L (.ref x :: st) n mi ml mr := by
  intro p e s m args below meth c H locs ls hC hR hL hn0
  subst hp
  subst hx
  exact lv_astore hC.1 hC.2.1 hd (zLs_has.mp hL) hn rfl (fun ls' hl' => k p e s m args below meth c H locs ls' hC hR (zLs_st1 (v := .ref x) hl' (fun j w a b => zst1_at _ L _ j w a b)) hn0)
theorem e_astore_n (pc' : Nat) {i : Fin 4} {x : Nat} {L' : List Value} (hd : decode cc pc = .ok (.astore_n i, 1)) (hp : pc + 1 = pc') (hn : (i : Nat) < nL) (hx : zst1 L (i : Nat) (.ref x) = L') (k : zE G R QQ own mn cc nL ret n0 pc' L' st n mi ml mr) : zE G R QQ own mn cc nL ret n0 pc L (.ref x :: st) n mi ml mr := by
  intro p e s m args below meth c H locs ls hC hR hL hn0
  subst hp
  subst hx
  exact lv_astore_n hC.1 hC.2.1 hd rfl (zLs_has.mp hL) hn rfl (fun ls' hl' => k p e s m args below meth c H locs ls' hC hR (zLs_st1 (v := .ref x) hl' (fun j w a b => zst1_at _ L _ j w a b)) hn0)
theorem e_lstore (pc' : Nat) {i : Nat} {x : Int64} {L' : List Value} (hd : decode cc pc = .ok (.lstore i, 2)) (hp : pc + 2 = pc') (hn : i + 1 < nL) (hx : zst2 L i (.long x) = L') (k : zE G R QQ own mn cc nL ret n0 pc' L' st n mi ml mr) : zE G R QQ own mn cc nL ret n0 pc L (.long x :: st) n mi ml mr := by
  intro p e s m args below meth c H locs ls hC hR hL hn0
  subst hp
  subst hx
  exact lv_lstore hC.1 hC.2.1 hd (zLs_has.mp hL) hn rfl (fun ls' hl' => k p e s m args below meth c H locs ls' hC hR (zLs_st2 (v := .long x) hl' (fun j w a b => zst2_at _ L _ j w a b)) hn0)
theorem e_lstore_n (pc' : Nat) {i : Fin 4} {x : Int64} {L' : List Value} (hd : decode cc pc = .ok (.lstore_n i, 1)) (hp : pc + 1 = pc') (hn : (i : Nat) + 1 < nL) (hx : zst2 L (i : Nat) (.long x) = L') (k : zE G R QQ own mn cc nL ret n0 pc' L' st n mi ml mr) : zE G R QQ own mn cc nL ret n0 pc L (.long x :: st) n mi ml mr := by
  intro p e s m args below meth c H locs ls hC hR hL hn0
  subst hp
  subst hx
  exact lv_lstore_n hC.1 hC.2.1 hd rfl (zLs_has.mp hL) hn rfl (fun ls' hl' => k p e s m args below meth c H locs ls' hC hR (zLs_st2 (v := .long x) hl' (fun j w a b => zst2_at _ L _ j w a b)) hn0)
theorem e_iinc (pc' : Nat) {i : Nat} {q : Int} {x v : Int32} {L' : List Value} (hd : decode cc pc = .ok (.iinc i q, 3)) (hp : pc + 3 = pc') (hn : i < nL) (hx : L[i]? = some (.int x)) (hv : x + Int32.ofInt q = v) (hx' : zst1 L i (.int v) = L') (k : zE G R QQ own mn cc nL ret n0 pc' L' st n mi ml mr) : zE G R QQ own mn cc nL ret n0 pc L st n mi ml mr := by
  intro p e s m args below meth c H locs ls hC hR hL hn0
  subst hp
  subst hx'
  obtain ⟨kk, hkk⟩ := List.getElem?_of_mem (zLv_mem.mpr ⟨_, hx, rfl, rfl⟩ : (i, zTv (zad G) (.int x)) ∈ zLv (zad G) L)
  exact lv_iinc hC.1 hC.2.1 hd (zLs_has.mp hL) (k := kk) hkk hv hn rfl (fun ls' hl' => k p e s m args below meth c H locs ls' hC hR (zLs_st1 (v := .int v) hl' (fun j w a b => zst1_at _ L _ j w a b)) hn0)
theorem e_if_eq (tgt pc' : Nat) {x : Int32} {off : Int} (hd : decode cc pc = .ok (.ifCond .eq off, 3)) (ht : (pc : Int) + off = (tgt : Int)) (hp : pc + 3 = pc') (kt : x = 0 → zE G R QQ own mn cc nL ret n0 tgt L st n mi ml mr) (kf : ¬ x = 0 → zE G R QQ own mn cc nL ret n0 pc' L st n mi ml mr) : zE G R QQ own mn cc nL ret n0 pc L (.int x :: st) n mi ml mr := by
  intro p e s m args below meth c H locs ls hC hR hL hn
  subst hp
  exact lv_if_eq hC.1 hC.2.1 hd ht (fun q => kt q p e s m args below meth c H locs ls hC hR hL hn) (fun q => kf q p e s m args below meth c H locs ls hC hR hL hn)
theorem e_icmp_eq (tgt pc' : Nat) {x y : Int32} {off : Int} (hd : decode cc pc = .ok (.if_icmp .eq off, 3)) (ht : (pc : Int) + off = (tgt : Int)) (hp : pc + 3 = pc') (kt : x = y → zE G R QQ own mn cc nL ret n0 tgt L st n mi ml mr) (kf : ¬ x = y → zE G R QQ own mn cc nL ret n0 pc' L st n mi ml mr) : zE G R QQ own mn cc nL ret n0 pc L (.int y :: .int x :: st) n mi ml mr := by
  intro p e s m args below meth c H locs ls hC hR hL hn
  subst hp
  exact lv_icmp_eq hC.1 hC.2.1 hd ht (fun q => kt q p e s m args below meth c H locs ls hC hR hL hn) (fun q => kf q p e s m args below meth c H locs ls hC hR hL hn)
theorem e_if_ne (tgt pc' : Nat) {x : Int32} {off : Int} (hd : decode cc pc = .ok (.ifCond .ne off, 3)) (ht : (pc : Int) + off = (tgt : Int)) (hp : pc + 3 = pc') (kt : ¬ x = 0 → zE G R QQ own mn cc nL ret n0 tgt L st n mi ml mr) (kf : x = 0 → zE G R QQ own mn cc nL ret n0 pc' L st n mi ml mr) : zE G R QQ own mn cc nL ret n0 pc L (.int x :: st) n mi ml mr := by
  intro p e s m args below meth c H locs ls hC hR hL hn
  subst hp
  exact lv_if_ne hC.1 hC.2.1 hd ht (fun q => kt q p e s m args below meth c H locs ls hC hR hL hn) (fun q => kf q p e s m args below meth c H locs ls hC hR hL hn)
theorem e_icmp_ne (tgt pc' : Nat) {x y : Int32} {off : Int} (hd : decode cc pc = .ok (.if_icmp .ne off, 3)) (ht : (pc : Int) + off = (tgt : Int)) (hp : pc + 3 = pc') (kt : ¬ x = y → zE G R QQ own mn cc nL ret n0 tgt L st n mi ml mr) (kf : x = y → zE G R QQ own mn cc nL ret n0 pc' L st n mi ml mr) : zE G R QQ own mn cc nL ret n0 pc L (.int y :: .int x :: st) n mi ml mr := by
  intro p e s m args below meth c H locs ls hC hR hL hn
  subst hp
  exact lv_icmp_ne hC.1 hC.2.1 hd ht (fun q => kt q p e s m args below meth c H locs ls hC hR hL hn) (fun q => kf q p e s m args below meth c H locs ls hC hR hL hn)
theorem e_if_lt (tgt pc' : Nat) {x : Int32} {off : Int} (hd : decode cc pc = .ok (.ifCond .lt off, 3)) (ht : (pc : Int) + off = (tgt : Int)) (hp : pc + 3 = pc') (kt : x < 0 → zE G R QQ own mn cc nL ret n0 tgt L st n mi ml mr) (kf : ¬ x < 0 → zE G R QQ own mn cc nL ret n0 pc' L st n mi ml mr) : zE G R QQ own mn cc nL ret n0 pc L (.int x :: st) n mi ml mr := by
  intro p e s m args below meth c H locs ls hC hR hL hn
  subst hp
  exact lv_if_lt hC.1 hC.2.1 hd ht (fun q => kt q p e s m args below meth c H locs ls hC hR hL hn) (fun q => kf q p e s m args below meth c H locs ls hC hR hL hn)
theorem e_icmp_lt (tgt pc' : Nat) {x y : Int32} {off : Int} (hd : decode cc pc = .ok (.if_icmp .lt off, 3)) (ht : (pc : Int) + off = (tgt : Int)) (hp : pc + 3 = pc') (kt : x < y → zE G R QQ own mn cc nL ret n0 tgt L st n mi ml mr) (kf : ¬ x < y → zE G R QQ own mn cc nL ret n0 pc' L st n mi ml mr) : zE G R QQ own mn cc nL ret n0 pc L (.int y :: .int x :: st) n mi ml mr := by
  intro p e s m args below meth c H locs ls hC hR hL hn
  subst hp
  exact lv_icmp_lt hC.1 hC.2.1 hd ht (fun q => kt q p e s m args below meth c H locs ls hC hR hL hn) (fun q => kf q p e s m args below meth c H locs ls hC hR hL hn)
theorem e_if_ge (tgt pc' : Nat) {x : Int32} {off : Int} (hd : decode cc pc = .ok (.ifCond .ge off, 3)) (ht : (pc : Int) + off = (tgt : Int)) (hp : pc + 3 = pc') (kt : 0 ≤ x → zE G R QQ own mn cc nL ret n0 tgt L st n mi ml mr) (kf : ¬ 0 ≤ x → zE G R QQ own mn cc nL ret n0 pc' L st n mi ml mr) : zE G R QQ own mn cc nL ret n0 pc L (.int x :: st) n mi ml mr := by
  intro p e s m args below meth c H locs ls hC hR hL hn
  subst hp
  exact lv_if_ge hC.1 hC.2.1 hd ht (fun q => kt q p e s m args below meth c H locs ls hC hR hL hn) (fun q => kf q p e s m args below meth c H locs ls hC hR hL hn)
theorem e_icmp_ge (tgt pc' : Nat) {x y : Int32} {off : Int} (hd : decode cc pc = .ok (.if_icmp .ge off, 3)) (ht : (pc : Int) + off = (tgt : Int)) (hp : pc + 3 = pc') (kt : y ≤ x → zE G R QQ own mn cc nL ret n0 tgt L st n mi ml mr) (kf : ¬ y ≤ x → zE G R QQ own mn cc nL ret n0 pc' L st n mi ml mr) : zE G R QQ own mn cc nL ret n0 pc L (.int y :: .int x :: st) n mi ml mr := by
  intro p e s m args below meth c H locs ls hC hR hL hn
  subst hp
  exact lv_icmp_ge hC.1 hC.2.1 hd ht (fun q => kt q p e s m args below meth c H locs ls hC hR hL hn) (fun q => kf q p e s m args below meth c H locs ls hC hR hL hn)
theorem e_if_gt (tgt pc' : Nat) {x : Int32} {off : Int} (hd : decode cc pc = .ok (.ifCond .gt off, 3)) (ht : (pc : Int) + off = (tgt : Int)) (hp : pc + 3 = pc') (kt : 0 < x → zE G R QQ own mn cc nL ret n0 tgt L st n mi ml mr) (kf : ¬ 0 < x → zE G R QQ own mn cc nL ret n0 pc' L st n mi ml mr) : zE G R QQ own mn cc nL ret n0 pc L (.int x :: st) n mi ml mr := by
  intro p e s m args below meth c H locs ls hC hR hL hn
  subst hp
  exact lv_if_gt hC.1 hC.2.1 hd ht (fun q => kt q p e s m args below meth c H locs ls hC hR hL hn) (fun q => kf q p e s m args below meth c H locs ls hC hR hL hn)
theorem e_icmp_gt (tgt pc' : Nat) {x y : Int32} {off : Int} (hd : decode cc pc = .ok (.if_icmp .gt off, 3)) (ht : (pc : Int) + off = (tgt : Int)) (hp : pc + 3 = pc') (kt : y < x → zE G R QQ own mn cc nL ret n0 tgt L st n mi ml mr) (kf : ¬ y < x → zE G R QQ own mn cc nL ret n0 pc' L st n mi ml mr) : zE G R QQ own mn cc nL ret n0 pc L (.int y :: .int x :: st) n mi ml mr := by
  intro p e s m args below meth c H locs ls hC hR hL hn
  subst hp
  exact lv_icmp_gt hC.1 hC.2.1 hd ht (fun q => kt q p e s m args below meth c H locs ls hC hR hL hn) (fun q => kf q p e s m args below meth c H locs ls hC hR hL hn)
theorem e_if_le (tgt pc' : Nat) {x : Int32} {off : Int} (hd : decode cc pc = .ok (.ifCond .le off, 3)) (ht : (pc : Int) + off = (tgt : Int)) (hp : pc + 3 = pc') (kt : x ≤ 0 → zE G R QQ own mn cc nL ret n0 tgt L st n mi ml mr) (kf : ¬ x ≤ 0 → zE G R QQ own mn cc nL ret n0 pc' L st n mi ml mr) : zE G R QQ own mn cc nL ret n0 pc L (.int x :: st) n mi ml mr := by
  intro p e s m args below meth c H locs ls hC hR hL hn
  subst hp
  exact lv_if_le hC.1 hC.2.1 hd ht (fun q => kt q p e s m args below meth c H locs ls hC hR hL hn) (fun q => kf q p e s m args below meth c H locs ls hC hR hL hn)
theorem e_icmp_le (tgt pc' : Nat) {x y : Int32} {off : Int} (hd : decode cc pc = .ok (.if_icmp .le off, 3)) (ht : (pc : Int) + off = (tgt : Int)) (hp : pc + 3 = pc') (kt : x ≤ y → zE G R QQ own mn cc nL ret n0 tgt L st n mi ml mr) (kf : ¬ x ≤ y → zE G R QQ own mn cc nL ret n0 pc' L st n mi ml mr) : zE G R QQ own mn cc nL ret n0 pc L (.int y :: .int x :: st) n mi ml mr := by
  intro p e s m args below meth c H locs ls hC hR hL hn
  subst hp
  exact lv_icmp_le hC.1 hC.2.1 hd ht (fun q => kt q p e s m args below meth c H locs ls hC hR hL hn) (fun q => kf q p e s m args below meth c H locs ls hC hR hL hn)
theorem e_goto (tgt : Nat) {off : Int} (hd : decode cc pc = .ok (.goto off, 3)) (ht : (pc : Int) + off = (tgt : Int)) (k : zE G R QQ own mn cc nL ret n0 tgt L st n mi ml mr) : zE G R QQ own mn cc nL ret n0 pc L st n mi ml mr := by
  intro p e s m args below meth c H locs ls hC hR hL hn
  exact lv_goto hC.1 hC.2.1 hd ht (k p e s m args below meth c H locs ls hC hR hL hn)
theorem e_tableOut (tgt : Nat) {dflt lo hi : Int} {offs : Array Int} {len : Nat} {x : Int32} (hd : decode cc pc = .ok (.tableswitch dflt lo hi offs, len)) (h : x.toInt < lo ∨ hi < x.toInt) (ht : (pc : Int) + dflt = (tgt : Int)) (k : zE G R QQ own mn cc nL ret n0 tgt L st n mi ml mr) : zE G R QQ own mn cc nL ret n0 pc L (.int x :: st) n mi ml mr := by
  intro p e s m args below meth c H locs ls hC hR hL hn
  exact lv_tableOut hC.1 hC.2.1 hd h ht (k p e s m args below meth c H locs ls hC hR hL hn)
theorem e_tableIn (tgt : Nat) {dflt lo hi : Int} {offs : Array Int} {len : Nat} {x : Int32} {off : Int} (hd : decode cc pc = .ok (.tableswitch dflt lo hi offs, len)) (h1 : ¬ x.toInt < lo) (h2 : ¬ hi < x.toInt) (ho : offs[(x.toInt - lo).toNat]? = some off) (ht : (pc : Int) + off = (tgt : Int)) (k : zE G R QQ own mn cc nL ret n0 tgt L st n mi ml mr) : zE G R QQ own mn cc nL ret n0 pc L (.int x :: st) n mi ml mr := by
  intro p e s m args below meth c H locs ls hC hR hL hn
  exact lv_tableIn hC.1 hC.2.1 hd h1 h2 ho ht (k p e s m args below meth c H locs ls hC hR hL hn)
theorem e_lookup (tgt : Nat) {dflt : Int} {ps : Array (Int × Int)} {len : Nat} {x : Int32} {off : Int} (hd : decode cc pc = .ok (.lookupswitch dflt ps, len)) (hq : (ps.toList.zip (ps.toList.drop 1)).all (fun (a, next) => a.1 < next.1) = true) (ho : Op.lookupswitch.offset ps.toList dflt x.toInt = off) (ht : (pc : Int) + off = (tgt : Int)) (k : zE G R QQ own mn cc nL ret n0 tgt L st n mi ml mr) : zE G R QQ own mn cc nL ret n0 pc L (.int x :: st) n mi ml mr := by
  intro p e s m args below meth c H locs ls hC hR hL hn
  exact lv_lookup hC.1 hC.2.1 hd hq ho ht (k p e s m args below meth c H locs ls hC hR hL hn)
end ZROWS
def zl2 : Value → Bool
  | .long _ => true
  | .double _ => true
  | _ => false
theorem zl2_m {a : Value} (h : zl2 a = false) : (match a with | .long _ => zx | .double _ => zx | b => b) = a := by cases a <;> first | rfl | (simp [zl2] at h)
theorem zst1_0 {a0 v : Value} {t : List Value} : zst1 (a0 :: t) 0 v = v :: t := rfl
theorem zst2_0 {a0 a1 v : Value} {t : List Value} : zst2 (a0 :: a1 :: t) 0 v = v :: zx :: t := rfl
theorem zst1_1 {a0 a1 v : Value} {t : List Value} (h : zl2 a0 = false) : zst1 (a0 :: a1 :: t) 1 v = a0 :: v :: t := by
  cases a0 <;> first | rfl | (simp [zl2] at h)
theorem zst2_1 {a0 a1 a2 v : Value} {t : List Value} (h : zl2 a0 = false) : zst2 (a0 :: a1 :: a2 :: t) 1 v = a0 :: v :: zx :: t := by
  cases a0 <;> first | rfl | (simp [zl2] at h)
theorem zst1_2 {a0 a1 a2 v : Value} {t : List Value} (h : zl2 a1 = false) : zst1 (a0 :: a1 :: a2 :: t) 2 v = a0 :: a1 :: v :: t := by
  cases a1 <;> first | rfl | (simp [zl2] at h)
theorem zst2_2 {a0 a1 a2 a3 v : Value} {t : List Value} (h : zl2 a1 = false) : zst2 (a0 :: a1 :: a2 :: a3 :: t) 2 v = a0 :: a1 :: v :: zx :: t := by
  cases a1 <;> first | rfl | (simp [zl2] at h)
theorem zst1_3 {a0 a1 a2 a3 v : Value} {t : List Value} (h : zl2 a2 = false) : zst1 (a0 :: a1 :: a2 :: a3 :: t) 3 v = a0 :: a1 :: a2 :: v :: t := by
  cases a2 <;> first | rfl | (simp [zl2] at h)
theorem zst2_3 {a0 a1 a2 a3 a4 v : Value} {t : List Value} (h : zl2 a2 = false) : zst2 (a0 :: a1 :: a2 :: a3 :: a4 :: t) 3 v = a0 :: a1 :: a2 :: v :: zx :: t := by
  cases a2 <;> first | rfl | (simp [zl2] at h)
theorem zst1_4 {a0 a1 a2 a3 a4 v : Value} {t : List Value} (h : zl2 a3 = false) : zst1 (a0 :: a1 :: a2 :: a3 :: a4 :: t) 4 v = a0 :: a1 :: a2 :: a3 :: v :: t := by
  cases a3 <;> first | rfl | (simp [zl2] at h)
theorem zst2_4 {a0 a1 a2 a3 a4 a5 v : Value} {t : List Value} (h : zl2 a3 = false) : zst2 (a0 :: a1 :: a2 :: a3 :: a4 :: a5 :: t) 4 v = a0 :: a1 :: a2 :: a3 :: v :: zx :: t := by
  cases a3 <;> first | rfl | (simp [zl2] at h)
theorem zst1_5 {a0 a1 a2 a3 a4 a5 v : Value} {t : List Value} (h : zl2 a4 = false) : zst1 (a0 :: a1 :: a2 :: a3 :: a4 :: a5 :: t) 5 v = a0 :: a1 :: a2 :: a3 :: a4 :: v :: t := by
  cases a4 <;> first | rfl | (simp [zl2] at h)
theorem zst2_5 {a0 a1 a2 a3 a4 a5 a6 v : Value} {t : List Value} (h : zl2 a4 = false) : zst2 (a0 :: a1 :: a2 :: a3 :: a4 :: a5 :: a6 :: t) 5 v = a0 :: a1 :: a2 :: a3 :: a4 :: v :: zx :: t := by
  cases a4 <;> first | rfl | (simp [zl2] at h)
theorem zst1_6 {a0 a1 a2 a3 a4 a5 a6 v : Value} {t : List Value} (h : zl2 a5 = false) : zst1 (a0 :: a1 :: a2 :: a3 :: a4 :: a5 :: a6 :: t) 6 v = a0 :: a1 :: a2 :: a3 :: a4 :: a5 :: v :: t := by
  cases a5 <;> first | rfl | (simp [zl2] at h)
theorem zst2_6 {a0 a1 a2 a3 a4 a5 a6 a7 v : Value} {t : List Value} (h : zl2 a5 = false) : zst2 (a0 :: a1 :: a2 :: a3 :: a4 :: a5 :: a6 :: a7 :: t) 6 v = a0 :: a1 :: a2 :: a3 :: a4 :: a5 :: v :: zx :: t := by
  cases a5 <;> first | rfl | (simp [zl2] at h)
theorem zst1_7 {a0 a1 a2 a3 a4 a5 a6 a7 v : Value} {t : List Value} (h : zl2 a6 = false) : zst1 (a0 :: a1 :: a2 :: a3 :: a4 :: a5 :: a6 :: a7 :: t) 7 v = a0 :: a1 :: a2 :: a3 :: a4 :: a5 :: a6 :: v :: t := by
  cases a6 <;> first | rfl | (simp [zl2] at h)
theorem zst2_7 {a0 a1 a2 a3 a4 a5 a6 a7 a8 v : Value} {t : List Value} (h : zl2 a6 = false) : zst2 (a0 :: a1 :: a2 :: a3 :: a4 :: a5 :: a6 :: a7 :: a8 :: t) 7 v = a0 :: a1 :: a2 :: a3 :: a4 :: a5 :: a6 :: v :: zx :: t := by
  cases a6 <;> first | rfl | (simp [zl2] at h)
theorem zst1_8 {a0 a1 a2 a3 a4 a5 a6 a7 a8 v : Value} {t : List Value} (h : zl2 a7 = false) : zst1 (a0 :: a1 :: a2 :: a3 :: a4 :: a5 :: a6 :: a7 :: a8 :: t) 8 v = a0 :: a1 :: a2 :: a3 :: a4 :: a5 :: a6 :: a7 :: v :: t := by
  cases a7 <;> first | rfl | (simp [zl2] at h)
theorem zst2_8 {a0 a1 a2 a3 a4 a5 a6 a7 a8 a9 v : Value} {t : List Value} (h : zl2 a7 = false) : zst2 (a0 :: a1 :: a2 :: a3 :: a4 :: a5 :: a6 :: a7 :: a8 :: a9 :: t) 8 v = a0 :: a1 :: a2 :: a3 :: a4 :: a5 :: a6 :: a7 :: v :: zx :: t := by
  cases a7 <;> first | rfl | (simp [zl2] at h)
theorem zst1_9 {a0 a1 a2 a3 a4 a5 a6 a7 a8 a9 v : Value} {t : List Value} (h : zl2 a8 = false) : zst1 (a0 :: a1 :: a2 :: a3 :: a4 :: a5 :: a6 :: a7 :: a8 :: a9 :: t) 9 v = a0 :: a1 :: a2 :: a3 :: a4 :: a5 :: a6 :: a7 :: a8 :: v :: t := by
  cases a8 <;> first | rfl | (simp [zl2] at h)
theorem zst2_9 {a0 a1 a2 a3 a4 a5 a6 a7 a8 a9 a10 v : Value} {t : List Value} (h : zl2 a8 = false) : zst2 (a0 :: a1 :: a2 :: a3 :: a4 :: a5 :: a6 :: a7 :: a8 :: a9 :: a10 :: t) 9 v = a0 :: a1 :: a2 :: a3 :: a4 :: a5 :: a6 :: a7 :: a8 :: v :: zx :: t := by
  cases a8 <;> first | rfl | (simp [zl2] at h)
theorem zst1_10 {a0 a1 a2 a3 a4 a5 a6 a7 a8 a9 a10 v : Value} {t : List Value} (h : zl2 a9 = false) : zst1 (a0 :: a1 :: a2 :: a3 :: a4 :: a5 :: a6 :: a7 :: a8 :: a9 :: a10 :: t) 10 v = a0 :: a1 :: a2 :: a3 :: a4 :: a5 :: a6 :: a7 :: a8 :: a9 :: v :: t := by
  cases a9 <;> first | rfl | (simp [zl2] at h)
theorem zst2_10 {a0 a1 a2 a3 a4 a5 a6 a7 a8 a9 a10 a11 v : Value} {t : List Value} (h : zl2 a9 = false) : zst2 (a0 :: a1 :: a2 :: a3 :: a4 :: a5 :: a6 :: a7 :: a8 :: a9 :: a10 :: a11 :: t) 10 v = a0 :: a1 :: a2 :: a3 :: a4 :: a5 :: a6 :: a7 :: a8 :: a9 :: v :: zx :: t := by
  cases a9 <;> first | rfl | (simp [zl2] at h)
theorem zst1_11 {a0 a1 a2 a3 a4 a5 a6 a7 a8 a9 a10 a11 v : Value} {t : List Value} (h : zl2 a10 = false) : zst1 (a0 :: a1 :: a2 :: a3 :: a4 :: a5 :: a6 :: a7 :: a8 :: a9 :: a10 :: a11 :: t) 11 v = a0 :: a1 :: a2 :: a3 :: a4 :: a5 :: a6 :: a7 :: a8 :: a9 :: a10 :: v :: t := by
  cases a10 <;> first | rfl | (simp [zl2] at h)
theorem zst2_11 {a0 a1 a2 a3 a4 a5 a6 a7 a8 a9 a10 a11 a12 v : Value} {t : List Value} (h : zl2 a10 = false) : zst2 (a0 :: a1 :: a2 :: a3 :: a4 :: a5 :: a6 :: a7 :: a8 :: a9 :: a10 :: a11 :: a12 :: t) 11 v = a0 :: a1 :: a2 :: a3 :: a4 :: a5 :: a6 :: a7 :: a8 :: a9 :: a10 :: v :: zx :: t := by
  cases a10 <;> first | rfl | (simp [zl2] at h)
theorem zst1_12 {a0 a1 a2 a3 a4 a5 a6 a7 a8 a9 a10 a11 a12 v : Value} {t : List Value} (h : zl2 a11 = false) : zst1 (a0 :: a1 :: a2 :: a3 :: a4 :: a5 :: a6 :: a7 :: a8 :: a9 :: a10 :: a11 :: a12 :: t) 12 v = a0 :: a1 :: a2 :: a3 :: a4 :: a5 :: a6 :: a7 :: a8 :: a9 :: a10 :: a11 :: v :: t := by
  cases a11 <;> first | rfl | (simp [zl2] at h)
theorem zst2_12 {a0 a1 a2 a3 a4 a5 a6 a7 a8 a9 a10 a11 a12 a13 v : Value} {t : List Value} (h : zl2 a11 = false) : zst2 (a0 :: a1 :: a2 :: a3 :: a4 :: a5 :: a6 :: a7 :: a8 :: a9 :: a10 :: a11 :: a12 :: a13 :: t) 12 v = a0 :: a1 :: a2 :: a3 :: a4 :: a5 :: a6 :: a7 :: a8 :: a9 :: a10 :: a11 :: v :: zx :: t := by
  cases a11 <;> first | rfl | (simp [zl2] at h)
theorem zst1_13 {a0 a1 a2 a3 a4 a5 a6 a7 a8 a9 a10 a11 a12 a13 v : Value} {t : List Value} (h : zl2 a12 = false) : zst1 (a0 :: a1 :: a2 :: a3 :: a4 :: a5 :: a6 :: a7 :: a8 :: a9 :: a10 :: a11 :: a12 :: a13 :: t) 13 v = a0 :: a1 :: a2 :: a3 :: a4 :: a5 :: a6 :: a7 :: a8 :: a9 :: a10 :: a11 :: a12 :: v :: t := by
  cases a12 <;> first | rfl | (simp [zl2] at h)
theorem zst2_13 {a0 a1 a2 a3 a4 a5 a6 a7 a8 a9 a10 a11 a12 a13 a14 v : Value} {t : List Value} (h : zl2 a12 = false) : zst2 (a0 :: a1 :: a2 :: a3 :: a4 :: a5 :: a6 :: a7 :: a8 :: a9 :: a10 :: a11 :: a12 :: a13 :: a14 :: t) 13 v = a0 :: a1 :: a2 :: a3 :: a4 :: a5 :: a6 :: a7 :: a8 :: a9 :: a10 :: a11 :: a12 :: v :: zx :: t := by
  cases a12 <;> first | rfl | (simp [zl2] at h)
theorem zst1_14 {a0 a1 a2 a3 a4 a5 a6 a7 a8 a9 a10 a11 a12 a13 a14 v : Value} {t : List Value} (h : zl2 a13 = false) : zst1 (a0 :: a1 :: a2 :: a3 :: a4 :: a5 :: a6 :: a7 :: a8 :: a9 :: a10 :: a11 :: a12 :: a13 :: a14 :: t) 14 v = a0 :: a1 :: a2 :: a3 :: a4 :: a5 :: a6 :: a7 :: a8 :: a9 :: a10 :: a11 :: a12 :: a13 :: v :: t := by
  cases a13 <;> first | rfl | (simp [zl2] at h)
theorem zst2_14 {a0 a1 a2 a3 a4 a5 a6 a7 a8 a9 a10 a11 a12 a13 a14 a15 v : Value} {t : List Value} (h : zl2 a13 = false) : zst2 (a0 :: a1 :: a2 :: a3 :: a4 :: a5 :: a6 :: a7 :: a8 :: a9 :: a10 :: a11 :: a12 :: a13 :: a14 :: a15 :: t) 14 v = a0 :: a1 :: a2 :: a3 :: a4 :: a5 :: a6 :: a7 :: a8 :: a9 :: a10 :: a11 :: a12 :: a13 :: v :: zx :: t := by
  cases a13 <;> first | rfl | (simp [zl2] at h)
end
section
/-! THE ROWS THAT TOUCH CELLS -/
theorem zLifeN_le (r : Nat) : zLifeN r ≤ 5900 := by
  unfold zLifeN
  repeat' split
  all_goals omega
theorem zMomN_le (r : Nat) : zMomN r ≤ 5900 := by
  unfold zMomN
  repeat' split
  all_goals first | omega | exact zLifeN_le _
theorem zLandN_le (r : Nat) : zLandN r ≤ 5900 := by
  unfold zLandN
  repeat' split
  all_goals omega
theorem zMdN_le (r : Nat) : zMdN r ≤ 5900 := by
  unfold zMdN
  repeat' split
  all_goals omega
set_option maxRecDepth 20000 in
theorem zLN_le (r : Nat) : zLN r ≤ 5900 := by
  unfold zLN
  repeat' split
  all_goals first | omega | exact zLifeN_le _ | exact zMomN_le _ | exact zLandN_le _ | exact zMdN_le _
/-- a class of ours: its place among vwCl, its fields -/
def zCls (ci : Nat) (C : String) (T : u_T) (N : Nat) : Prop := vwCl[ci]? = some (C, T, N) ∧ N = zNf ci ∧ (∀ w ∈ u_ws C T N, w ∈ zT) ∧ (∀ k, k < N → parseFieldDescriptor (T k).2.2.1 = some (zTy ci k)) ∧ (∀ a, a < N → ∀ b, b < N → a ≠ b → (T a).2.1 ≠ (T b).2.1) ∧ (∀ k, k < N → (T k).1 = C) ∧ ∀ k, k < N → defaultValue (zTy ci k) = zFv (fun a => a) (zTyc (zTy ci k)) 0 0 none
/-- entry idx of own's pool names field k of class ci -/
def zFL (own : String) (idx ci k : Nat) (fin : Bool) : Prop := ∃ (C : String) (T : u_T) (N : Nat), zCls ci C T N ∧ k < N ∧ (Cond.fieldLink own idx C (T k).2.1 (T k).2.2.1 ∈ zT ∨ ∃ h : String, Cond.fieldLinkNest own idx C (T k).2.1 (T k).2.2.1 h ∈ zT) ∧ (T k).2.2.2 = fin
/-- the same, a final field of own itself, by its own constructor -/
def zFLd (own : String) (idx ci k : Nat) : Prop := ∃ (T : u_T) (N : Nat), zCls ci own T N ∧ k < N ∧ Cond.fieldLink own idx own (T k).2.1 (T k).2.2.1 ∈ zT ∧ (T k).2.2.2 = true
theorem zCls.lt {ci : Nat} {C : String} {T : u_T} {N : Nat} (h : zCls ci C T N) : ci < 16 := by
  have := (List.getElem?_eq_some_iff.mp h.1).1
  have e : vwCl.length = 9 := rfl
  omega
theorem zEnt_obj {G : zG} {r ci : Nat} {fi : Nat → Int32} {fl : Nat → Int64} {fr : Nat → Option Nat} (h : zKD r = ci) (hc : ci < 16) : zEnt G r fi fl fr = .inr (ci, zFs (zad G) ci fi fl fr) := by
  subst h
  unfold zEnt
  rw [if_pos hc]
theorem zEnt_int {G : zG} {r kd : Nat} {fi : Nat → Int32} {fl : Nat → Int64} {fr : Nat → Option Nat} (h : zKD r = kd) (h1 : 16 ≤ kd) (h2 : kd < 19) : zEnt G r fi fl fr = .inl (G.2.2.1 (kd - 16), zLN r, .inl fi) := by
  subst h
  unfold zEnt
  rw [if_neg (by omega), if_pos h2]
theorem zEnt_ref {G : zG} {r kd : Nat} {fi : Nat → Int32} {fl : Nat → Int64} {fr : Nat → Option Nat} (h : zKD r = kd) (h1 : 19 ≤ kd) : zEnt G r fi fl fr = .inl (G.2.2.1 (kd - 16), zLN r, .inr (.inr (.inr (.inr (fun j => (fr j).map (zad G)))))) := by
  subst h
  unfold zEnt
  rw [if_neg (by omega), if_neg (by omega)]
theorem zFs_len (ad : Nat → Nat) (c : Nat) (fi : Nat → Int32) (fl : Nat → Int64) (fr : Nat → Option Nat) : (zFs ad c fi fl fr).length = zNf c := by simp [zFs]
theorem zFs_get {ad : Nat → Nat} {c k : Nat} {fi : Nat → Int32} {fl : Nat → Int64} {fr : Nat → Option Nat} (h : k < zNf c) : (zFs ad c fi fl fr)[k]? = some (zFv ad (zTyc (zTy c k)) (fi k) (fl k) (fr k)) := by
  unfold zFs
  rw [List.getElem?_map, List.getElem?_range h]
  rfl
theorem zFs_set {ad : Nat → Nat} {c k : Nat} {fi fi' : Nat → Int32} {fl fl' : Nat → Int64} {fr fr' : Nat → Option Nat} {v : Value} (hv : zFv ad (zTyc (zTy c k)) (fi' k) (fl' k) (fr' k) = v) (ho : ∀ j, j ≠ k → fi' j = fi j ∧ fl' j = fl j ∧ fr' j = fr j) : zFs ad c fi' fl' fr' = (zFs ad c fi fl fr).set k v := by
  apply List.ext_getElem?
  intro i
  by_cases hi : i < zNf c
  · rw [zFs_get hi]
    by_cases hk : i = k
    · subst hk
      rw [List.getElem?_set_self (by rw [zFs_len]; exact hi), hv]
    · obtain ⟨h1, h2, h3⟩ := ho i hk
      rw [List.getElem?_set_ne (fun q => hk q.symm), zFs_get hi, h1, h2, h3]
  · rw [List.getElem?_eq_none (by rw [zFs_len]; omega), List.getElem?_eq_none (by rw [List.length_set, zFs_len]; omega)]
theorem zFresh_up {n : Nat} {mi mi' : zFi} {ml ml' : zFl} {mr mr' : zFr} {r : Nat} (h : zFresh n mi ml mr) (hr : r < n) (ho : ∀ q, q ≠ r → mi' q = mi q ∧ ml' q = ml q ∧ mr' q = mr q) : zFresh n mi' ml' mr' := by
  intro q hq
  obtain ⟨h1, h2, h3⟩ := ho q (by omega)
  obtain ⟨g1, g2, g3⟩ := h q hq
  exact ⟨fun k => by rw [h1]; exact g1 k, fun k => by rw [h2]; exact g2 k, fun k => by rw [h3]; exact g3 k⟩
/-- behind a store into cell r -/
theorem zRl_set {G : zG} {n r : Nat} {mi mi' : zFi} {ml ml' : zFl} {mr mr' : zFr} {s : State} {H H1 : Heap} {locs locs1 : List Loc} {e : va_E} (hR : zRl G n mi ml mr s H locs) (hr : r < n) (he : zEnt G r (mi' r) (ml' r) (mr' r) = e) (ho : ∀ q, q ≠ r → mi' q = mi q ∧ ml' q = ml q ∧ mr' q = mr q)
    (hP : va_P G.2.1 vwCl ((zWs G n mi ml mr).set r (zad G r, e)) H1) (hD : va_D (zA G) ((zWs G n mi ml mr).set r (zad G r, e))) (hS : va_S (zA G) s.heap H1 locs1) : zRl G n mi' ml' mr' s H1 locs1 := by
  rw [zWs_set G he ho] at hP hD
  exact ⟨hS, hP, hD, hR.2.2.2.1, zFresh_up hR.2.2.2.2 hr ho⟩
theorem zp_o {α : Type} (f : Nat → Nat → α) (r k : Nat) (v : α) : ∀ q, q ≠ r → zp f r k v q = f q := fun _ h => zp_r f k v h
theorem zT_hin {C : String} {T : u_T} {N : Nat} (h : ∀ w ∈ u_ws C T N, w ∈ zT) : ∀ w ∈ u_ws C T N, w ∈ zT := h
section ZHEAP
variable {G : zG} {R : Room} {QQ : zQQ} {own mn : String} {cc : ByteArray} {nL : Nat} {ret : Option FieldType} {n0 pc : Nat} {L st : List Value} {n : Nat} {mi : zFi} {ml : zFl} {mr : zFr}
/-- getfield, whatever the field holds -/
theorem e_getg (pc' : Nat) {idx ci k r : Nat} {fin : Bool} {v : Value} (hd : decode cc pc = .ok (.getfield idx, 3)) (hl : zFL own idx ci k fin) (hp : pc + 3 = pc') (hk : zKD r = ci) (hr : r < n) (hv : zFv (zad G) (zTyc (zTy ci k)) (mi r k) (ml r k) (mr r k) = zTv (zad G) v) (kk : zE G R QQ own mn cc nL ret n0 pc' L (v :: st) n mi ml mr) : zE G R QQ own mn cc nL ret n0 pc L (.ref r :: st) n mi ml mr := by
  intro p e s m args below meth c H locs ls hC hR hL hn
  subst hp
  obtain ⟨C, T, N, hcls, hkN, hlink, -⟩ := hl
  have hlt := hcls.lt
  obtain ⟨c1, c2, c3, c4, c5, c6, c7⟩ := hcls
  subst c2
  have he := zWs_get G mi ml mr hr
  rw [zEnt_obj hk hlt] at he
  have hg := zFs_get (ad := zad G) (c := ci) (k := k) (fi := mi r) (fl := ml r) (fr := mr r) hkN
  rw [hv] at hg
  have K := kk p e s m args below meth c H locs ls hC hR hL hn
  obtain ⟨hx, hb, hrt, hml, hown, hts, hlk, hmn, hsz, had, hout⟩ := hC
  rcases hlink with hw | ⟨h, hw⟩
  · exact va_get (D := G.2.1) (cl := vwCl) (tys := zTys G) (ci := ci) hx hb hts c3 hown hR.2.2.2.1 hR.2.1 r he c1 k hkN (hts _ hw) (fun x h9 => by rw [c6 k hkN] at h9; exact h9) hg hd K
  · exact va_getN (D := G.2.1) (cl := vwCl) (tys := zTys G) (ci := ci) hx hb hts c3 hown hR.2.2.2.1 hR.2.1 r he c1 k hkN (hts _ hw) (fun x h9 => by rw [c6 k hkN] at h9; exact h9) hg hd K
theorem e_geti (pc' : Nat) {idx ci k r : Nat} {fin : Bool} {v : Int32} (hd : decode cc pc = .ok (.getfield idx, 3)) (hl : zFL own idx ci k fin) (ht : zTyc (zTy ci k) = 0) (hp : pc + 3 = pc') (hk : zKD r = ci) (hr : r < n) (hv : mi r k = v) (kk : zE G R QQ own mn cc nL ret n0 pc' L (.int v :: st) n mi ml mr) : zE G R QQ own mn cc nL ret n0 pc L (.ref r :: st) n mi ml mr :=
  e_getg pc' hd hl hp hk hr (by rw [ht, hv]; rfl) kk
theorem e_getl (pc' : Nat) {idx ci k r : Nat} {fin : Bool} {v : Int64} (hd : decode cc pc = .ok (.getfield idx, 3)) (hl : zFL own idx ci k fin) (ht : zTyc (zTy ci k) = 1) (hp : pc + 3 = pc') (hk : zKD r = ci) (hr : r < n) (hv : ml r k = v) (kk : zE G R QQ own mn cc nL ret n0 pc' L (.long v :: st) n mi ml mr) : zE G R QQ own mn cc nL ret n0 pc L (.ref r :: st) n mi ml mr :=
  e_getg pc' hd hl hp hk hr (by rw [ht, hv]; rfl) kk
theorem e_getr (pc' : Nat) {idx ci k r v : Nat} {fin : Bool} (hd : decode cc pc = .ok (.getfield idx, 3)) (hl : zFL own idx ci k fin) (ht : zTyc (zTy ci k) = 2) (hp : pc + 3 = pc') (hk : zKD r = ci) (hr : r < n) (hv : mr r k = some v) (kk : zE G R QQ own mn cc nL ret n0 pc' L (.ref v :: st) n mi ml mr) : zE G R QQ own mn cc nL ret n0 pc L (.ref r :: st) n mi ml mr :=
  e_getg pc' hd hl hp hk hr (by rw [ht, hv]; rfl) kk
/-- putfield, whatever the field holds -/
theorem e_putg (pc' : Nat) {idx ci k r : Nat} {v : Value} {mi' : zFi} {ml' : zFl} {mr' : zFr} (hd : decode cc pc = .ok (.putfield idx, 3)) (hl : zFL own idx ci k false) (hn1 : narrow (zTy ci k) (zTv (zad G) v) = zTv (zad G) v) (hf : fits (zTy ci k) (zTv (zad G) v) = true) (hp : pc + 3 = pc') (hk : zKD r = ci) (hr : r < n)
    (ho : ∀ q, q ≠ r → mi' q = mi q ∧ ml' q = ml q ∧ mr' q = mr q) (hok : ∀ j, j ≠ k → mi' r j = mi r j ∧ ml' r j = ml r j ∧ mr' r j = mr r j) (hv : zFv (zad G) (zTyc (zTy ci k)) (mi' r k) (ml' r k) (mr' r k) = zTv (zad G) v) (kk : zE G R QQ own mn cc nL ret n0 pc' L st n mi' ml' mr') : zE G R QQ own mn cc nL ret n0 pc L (v :: .ref r :: st) n mi ml mr := by
  intro p e s m args below meth c H locs ls hC hR hL hn
  subst hp
  obtain ⟨C, T, N, hcls, hkN, hlink, hfi⟩ := hl
  have hlt := hcls.lt
  obtain ⟨c1, c2, c3, c4, c5, c6, c7⟩ := hcls
  subst c2
  have he := zWs_get G mi ml mr hr
  rw [zEnt_obj hk hlt] at he
  have hC0 := hC
  obtain ⟨hx, hb, hrt, hml, hown, hts, hlk, hmn, hsz, had, hout⟩ := hC
  have fin1 : ∀ (H1 : Heap) (locs1 : List Loc), va_P G.2.1 vwCl ((zWs G n mi ml mr).set r (zad G r, .inr (ci, (zFs (zad G) ci (mi r) (ml r) (mr r)).set k (zTv (zad G) v)))) H1 → va_D (zA G) ((zWs G n mi ml mr).set r (zad G r, .inr (ci, (zFs (zad G) ci (mi r) (ml r) (mr r)).set k (zTv (zad G) v)))) → va_S (zA G) s.heap H1 locs1 →
      W p G.1 e R s m args below meth c H1 locs1 (n - n0) (zSl n - zSl n0) (QQ below args s) (F0 m (pc + 3) ls (st.map (zTv (zad G)))) := fun H1 locs1 hP hD hS =>
    kk p e s m args below meth c H1 locs1 ls hC0 (zRl_set hR hr (by rw [zEnt_obj hk hlt, zFs_set hv hok]) ho hP hD hS) hL hn
  rcases hlink with hw | ⟨h, hw⟩
  · exact va_put (D := G.2.1) (cl := vwCl) (tys := zTys G) (ci := ci) hx hb hts c3 (zTy ci) c4 c5 hown hR.2.2.2.1 hR.2.1 hR.2.2.1 hR.1 r he c1 k hkN (hts _ hw) (fun x h9 => by rw [c6 k hkN] at h9; exact h9) hfi (c4 k hkN) hn1 hf (by rw [zFs_len]; exact hkN) hd fin1
  · exact va_putN (D := G.2.1) (cl := vwCl) (tys := zTys G) (ci := ci) hx hb hts c3 (zTy ci) c4 c5 hown hR.2.2.2.1 hR.2.1 hR.2.2.1 hR.1 r he c1 k hkN (hts _ hw) (fun x h9 => by rw [c6 k hkN] at h9; exact h9) hfi (c4 k hkN) hn1 hf (by rw [zFs_len]; exact hkN) hd fin1
theorem e_putgF (pc' : Nat) {idx ci k r : Nat} {v : Value} {mi' : zFi} {ml' : zFl} {mr' : zFr} (hd : decode cc pc = .ok (.putfield idx, 3)) (hl : zFLd own idx ci k) (hin : mn = "<init>") (hn1 : narrow (zTy ci k) (zTv (zad G) v) = zTv (zad G) v) (hf : fits (zTy ci k) (zTv (zad G) v) = true) (hp : pc + 3 = pc') (hk : zKD r = ci) (hr : r < n)
    (ho : ∀ q, q ≠ r → mi' q = mi q ∧ ml' q = ml q ∧ mr' q = mr q) (hok : ∀ j, j ≠ k → mi' r j = mi r j ∧ ml' r j = ml r j ∧ mr' r j = mr r j) (hv : zFv (zad G) (zTyc (zTy ci k)) (mi' r k) (ml' r k) (mr' r k) = zTv (zad G) v) (kk : zE G R QQ own mn cc nL ret n0 pc' L st n mi' ml' mr') : zE G R QQ own mn cc nL ret n0 pc L (v :: .ref r :: st) n mi ml mr := by
  intro p e s m args below meth c H locs ls hC hR hL hn
  subst hp
  obtain ⟨T, N, hcls, hkN, hw, hfi⟩ := hl
  have hlt := hcls.lt
  obtain ⟨c1, c2, c3, c4, c5, c6, c7⟩ := hcls
  subst c2
  have he := zWs_get G mi ml mr hr
  rw [zEnt_obj hk hlt] at he
  have hC0 := hC
  obtain ⟨hx, hb, hrt, hml, hown, hts, hlk, hmn, hsz, had, hout⟩ := hC
  have fin1 : ∀ (H1 : Heap) (locs1 : List Loc), va_P G.2.1 vwCl ((zWs G n mi ml mr).set r (zad G r, .inr (ci, (zFs (zad G) ci (mi r) (ml r) (mr r)).set k (zTv (zad G) v)))) H1 → va_D (zA G) ((zWs G n mi ml mr).set r (zad G r, .inr (ci, (zFs (zad G) ci (mi r) (ml r) (mr r)).set k (zTv (zad G) v)))) → va_S (zA G) s.heap H1 locs1 →
      W p G.1 e R s m args below meth c H1 locs1 (n - n0) (zSl n - zSl n0) (QQ below args s) (F0 m (pc + 3) ls (st.map (zTv (zad G)))) := fun H1 locs1 hP hD hS =>
    kk p e s m args below meth c H1 locs1 ls hC0 (zRl_set hR hr (by rw [zEnt_obj hk hlt, zFs_set hv hok]) ho hP hD hS) hL hn
  exact va_putF (D := G.2.1) (cl := vwCl) (tys := zTys G) (ci := ci) hx hb hts c3 (zTy ci) c4 c5 hown hR.2.2.2.1 hR.2.1 hR.2.2.1 hR.1 r he c1 k hkN (hts _ hw) (fun x h9 => by rw [c6 k hkN] at h9; exact h9) hfi (hmn.trans hin) (c6 k hkN) (c4 k hkN) hn1 hf (by rw [zFs_len]; exact hkN) hd fin1
theorem e_puti (pc' : Nat) {idx ci k r : Nat} {x : Int32} (hd : decode cc pc = .ok (.putfield idx, 3)) (hl : zFL own idx ci k false) (ht : zTyc (zTy ci k) = 0) (hn1 : narrow (zTy ci k) (.int x) = .int x) (hf : fits (zTy ci k) (.int x) = true) (hp : pc + 3 = pc') (hk : zKD r = ci) (hr : r < n)
    (kk : zE G R QQ own mn cc nL ret n0 pc' L st n (zp mi r k x) ml mr) : zE G R QQ own mn cc nL ret n0 pc L (.int x :: .ref r :: st) n mi ml mr :=
  e_putg pc' hd hl hn1 hf hp hk hr (fun q h => ⟨zp_r _ _ _ h, rfl, rfl⟩) (fun j h => ⟨zp_k _ _ h, rfl, rfl⟩) (by rw [ht, zp_s]; rfl) kk
theorem e_putl (pc' : Nat) {idx ci k r : Nat} {x : Int64} (hd : decode cc pc = .ok (.putfield idx, 3)) (hl : zFL own idx ci k false) (ht : zTyc (zTy ci k) = 1) (hn1 : narrow (zTy ci k) (.long x) = .long x) (hf : fits (zTy ci k) (.long x) = true) (hp : pc + 3 = pc') (hk : zKD r = ci) (hr : r < n)
    (kk : zE G R QQ own mn cc nL ret n0 pc' L st n mi (zp ml r k x) mr) : zE G R QQ own mn cc nL ret n0 pc L (.long x :: .ref r :: st) n mi ml mr :=
  e_putg pc' hd hl hn1 hf hp hk hr (fun q h => ⟨rfl, zp_r _ _ _ h, rfl⟩) (fun j h => ⟨rfl, zp_k _ _ h, rfl⟩) (by rw [ht, zp_s]; rfl) kk
theorem e_putr (pc' : Nat) {idx ci k r x : Nat} (hd : decode cc pc = .ok (.putfield idx, 3)) (hl : zFL own idx ci k false) (ht : zTyc (zTy ci k) = 2) (hn1 : ∀ a, narrow (zTy ci k) (.ref a) = .ref a) (hf : ∀ a, fits (zTy ci k) (.ref a) = true) (hp : pc + 3 = pc') (hk : zKD r = ci) (hr : r < n)
    (kk : zE G R QQ own mn cc nL ret n0 pc' L st n mi ml (zp mr r k (some x))) : zE G R QQ own mn cc nL ret n0 pc L (.ref x :: .ref r :: st) n mi ml mr :=
  e_putg pc' hd hl (hn1 _) (hf _) hp hk hr (fun q h => ⟨rfl, rfl, zp_r _ _ _ h⟩) (fun j h => ⟨rfl, rfl, zp_k _ _ h⟩) (by rw [ht, zp_s]; rfl) kk
theorem e_putrF (pc' : Nat) {idx ci k r x : Nat} (hd : decode cc pc = .ok (.putfield idx, 3)) (hl : zFLd own idx ci k) (hin : mn = "<init>") (ht : zTyc (zTy ci k) = 2) (hn1 : ∀ a, narrow (zTy ci k) (.ref a) = .ref a) (hf : ∀ a, fits (zTy ci k) (.ref a) = true) (hp : pc + 3 = pc') (hk : zKD r = ci) (hr : r < n)
    (kk : zE G R QQ own mn cc nL ret n0 pc' L st n mi ml (zp mr r k (some x))) : zE G R QQ own mn cc nL ret n0 pc L (.ref x :: .ref r :: st) n mi ml mr :=
  e_putgF pc' hd hl hin (hn1 _) (hf _) hp hk hr (fun q h => ⟨rfl, rfl, zp_r _ _ _ h⟩) (fun j h => ⟨rfl, rfl, zp_k _ _ h⟩) (by rw [ht, zp_s]; rfl) kk
/-! arrays -/
theorem e_ald (pc' : Nat) (kd : Nat) {r j : Nat} {i v : Int32} (hk1 : 16 ≤ kd) (hk2 : kd < 19) (hk : zKD r = kd) (hr : r < n) (hi : i = nI j) (hj : j < zLN r) (hv : mi r j = v)
    (row : ∀ (p : Program) (e : Env) (s : State) (m : MethodId) (args : Array Value) (below : List Frame) (meth : Method) (c : Code) (H : Heap) (locs : List Loc) (ls : Array Slot) (ws : va_W) (q0 : Nat) (cA : ClassId) (a nn : Nat) (f : Nat → Int32) (Q : State → Prop) (k1 k2 : Nat), p.tables.exec = Jvm.exec → c.code = cc → va_K G.2.1 vwCl (zTys G) s → va_P G.2.1 vwCl ws H → ws[q0]? = some (a, .inl (cA, nn, .inl f)) → G.2.2.1 (kd - 16) = cA → vp_in i nn →
      W p G.1 e R s m args below meth c H locs k1 k2 Q (F0 m pc' ls (.int (f i.toNatClampNeg) :: st.map (zTv (zad G)))) → W p G.1 e R s m args below meth c H locs k1 k2 Q (F0 m pc ls (.int i :: .ref a :: st.map (zTv (zad G)))))
    (kk : zE G R QQ own mn cc nL ret n0 pc' L (.int v :: st) n mi ml mr) : zE G R QQ own mn cc nL ret n0 pc L (.int i :: .ref r :: st) n mi ml mr := by
  intro p e s m args below meth c H locs ls hC hR hL hn
  subst hi
  subst hv
  have he := zWs_get G mi ml mr hr
  rw [zEnt_int hk hk1 hk2] at he
  have hb9 := zLN_le r
  have K := kk p e s m args below meth c H locs ls hC hR hL hn
  refine row p e s m args below meth c H locs ls _ r _ _ _ _ _ _ _ hC.1 hC.2.1 hR.2.2.2.1 hR.2.1 he rfl (vp_in_nI hj (by omega)) ?_
  rw [nI_clamp (by omega)]
  exact K
theorem e_iald (pc' : Nat) {r j : Nat} {i v : Int32} (hd : decode cc pc = .ok (.iaload, 1)) (hp : pc + 1 = pc') (hk : zKD r = 16) (hr : r < n) (hi : i = nI j) (hj : j < zLN r) (hv : mi r j = v) (kk : zE G R QQ own mn cc nL ret n0 pc' L (.int v :: st) n mi ml mr) : zE G R QQ own mn cc nL ret n0 pc L (.int i :: .ref r :: st) n mi ml mr := by
  subst hp
  exact e_ald (pc + 1) 16 (by decide) (by decide) hk hr hi hj hv (fun p e s m args below meth c H locs ls ws q0 cA a nn f Q k1 k2 hx hb hK hP he hc hin K => va_iald hx hb hK hP q0 0 he (by rw [← hc]; rfl) hin hd K) kk
theorem e_cald (pc' : Nat) {r j : Nat} {i v : Int32} (hd : decode cc pc = .ok (.caload, 1)) (hp : pc + 1 = pc') (hk : zKD r = 17) (hr : r < n) (hi : i = nI j) (hj : j < zLN r) (hv : mi r j = v) (kk : zE G R QQ own mn cc nL ret n0 pc' L (.int v :: st) n mi ml mr) : zE G R QQ own mn cc nL ret n0 pc L (.int i :: .ref r :: st) n mi ml mr := by
  subst hp
  exact e_ald (pc + 1) 17 (by decide) (by decide) hk hr hi hj hv (fun p e s m args below meth c H locs ls ws q0 cA a nn f Q k1 k2 hx hb hK hP he hc hin K => va_cald hx hb hK hP q0 1 he (by rw [← hc]; rfl) hin hd K) kk
theorem e_zald (pc' : Nat) {r j : Nat} {i v : Int32} (hd : decode cc pc = .ok (.baload, 1)) (hp : pc + 1 = pc') (hk : zKD r = 18) (hr : r < n) (hi : i = nI j) (hj : j < zLN r) (hv : mi r j = v) (kk : zE G R QQ own mn cc nL ret n0 pc' L (.int v :: st) n mi ml mr) : zE G R QQ own mn cc nL ret n0 pc L (.int i :: .ref r :: st) n mi ml mr := by
  subst hp
  exact e_ald (pc + 1) 18 (by decide) (by decide) hk hr hi hj hv (fun p e s m args below meth c H locs ls ws q0 cA a nn f Q k1 k2 hx hb hK hP he hc hin K => va_zald hx hb hK hP q0 2 he (by rw [← hc]; rfl) hin hd K) kk
theorem upd_zu (f : Nat → Int32) (k : Nat) (x : Int32) : upd f k x = zu f k x := by
  funext j
  rfl
theorem e_ast (pc' : Nat) (kd : Nat) {r j : Nat} {i x x' : Int32} (hk1 : 16 ≤ kd) (hk2 : kd < 19) (hk : zKD r = kd) (hr : r < n) (hi : i = nI j) (hj : j < zLN r)
    (row : ∀ (p : Program) (e : Env) (s : State) (m : MethodId) (args : Array Value) (below : List Frame) (meth : Method) (c : Code) (H : Heap) (locs : List Loc) (ls : Array Slot) (ws : va_W) (q0 : Nat) (cA : ClassId) (a nn : Nat) (f : Nat → Int32) (Q : State → Prop) (k1 k2 : Nat), p.tables.exec = Jvm.exec → c.code = cc → va_K G.2.1 vwCl (zTys G) s → va_P G.2.1 vwCl ws H → va_D (zA G) ws → va_S (zA G) s.heap H locs → ws[q0]? = some (a, .inl (cA, nn, .inl f)) → G.2.2.1 (kd - 16) = cA → vp_in i nn →
      (∀ (H1 : Heap) (locs1 : List Loc), va_P G.2.1 vwCl (ws.set q0 (a, .inl (cA, nn, .inl (upd f i.toNatClampNeg x')))) H1 → va_D (zA G) (ws.set q0 (a, .inl (cA, nn, .inl (upd f i.toNatClampNeg x')))) → va_S (zA G) s.heap H1 locs1 → W p G.1 e R s m args below meth c H1 locs1 k1 k2 Q (F0 m pc' ls (st.map (zTv (zad G))))) → W p G.1 e R s m args below meth c H locs k1 k2 Q (F0 m pc ls (.int x :: .int i :: .ref a :: st.map (zTv (zad G)))))
    (kk : zE G R QQ own mn cc nL ret n0 pc' L st n (zp mi r j x') ml mr) : zE G R QQ own mn cc nL ret n0 pc L (.int x :: .int i :: .ref r :: st) n mi ml mr := by
  intro p e s m args below meth c H locs ls hC hR hL hn
  subst hi
  have he := zWs_get G mi ml mr hr
  rw [zEnt_int hk hk1 hk2] at he
  have hb9 := zLN_le r
  refine row p e s m args below meth c H locs ls _ r _ _ _ _ _ _ _ hC.1 hC.2.1 hR.2.2.2.1 hR.2.1 hR.2.2.1 hR.1 he rfl (vp_in_nI hj (by omega)) ?_
  rw [nI_clamp (by omega)]
  intro H1 locs1 hP hD hS
  exact kk p e s m args below meth c H1 locs1 ls hC (zRl_set hR hr (by rw [zEnt_int hk hk1 hk2, zp_row, upd_zu]) (fun q h => ⟨zp_r _ _ _ h, rfl, rfl⟩) hP hD hS) hL hn
theorem e_iast (pc' : Nat) {r j : Nat} {i x : Int32} (hd : decode cc pc = .ok (.iastore, 1)) (hp : pc + 1 = pc') (hk : zKD r = 16) (hr : r < n) (hi : i = nI j) (hj : j < zLN r) (kk : zE G R QQ own mn cc nL ret n0 pc' L st n (zp mi r j x) ml mr) : zE G R QQ own mn cc nL ret n0 pc L (.int x :: .int i :: .ref r :: st) n mi ml mr := by
  subst hp
  exact e_ast (pc + 1) 16 (by decide) (by decide) hk hr hi hj (fun p e s m args below meth c H locs ls ws q0 cA a nn f Q k1 k2 hx hb hK hP hD hS he hc hin K => va_iast hx hb hK hP hD hS q0 0 he (by rw [← hc]; rfl) hin hd K) kk
theorem e_cast (pc' : Nat) {r j : Nat} {i x x' : Int32} (hd : decode cc pc = .ok (.castore, 1)) (hp : pc + 1 = pc') (hk : zKD r = 17) (hr : r < n) (hi : i = nI j) (hj : j < zLN r) (hx' : vp_nar .char x = x') (kk : zE G R QQ own mn cc nL ret n0 pc' L st n (zp mi r j x') ml mr) : zE G R QQ own mn cc nL ret n0 pc L (.int x :: .int i :: .ref r :: st) n mi ml mr := by
  subst hp
  subst hx'
  exact e_ast (pc + 1) 17 (by decide) (by decide) hk hr hi hj (fun p e s m args below meth c H locs ls ws q0 cA a nn f Q k1 k2 hx hb hK hP hD hS he hc hin K => va_cast hx hb hK hP hD hS q0 1 he (by rw [← hc]; rfl) hin hd K) kk
theorem e_zast (pc' : Nat) {r j : Nat} {i x x' : Int32} (hd : decode cc pc = .ok (.bastore, 1)) (hp : pc + 1 = pc') (hk : zKD r = 18) (hr : r < n) (hi : i = nI j) (hj : j < zLN r) (hx' : vp_nar .boolean x = x') (kk : zE G R QQ own mn cc nL ret n0 pc' L st n (zp mi r j x') ml mr) : zE G R QQ own mn cc nL ret n0 pc L (.int x :: .int i :: .ref r :: st) n mi ml mr := by
  subst hp
  subst hx'
  exact e_ast (pc + 1) 18 (by decide) (by decide) hk hr hi hj (fun p e s m args below meth c H locs ls ws q0 cA a nn f Q k1 k2 hx hb hK hP hD hS he hc hin K => va_zast hx hb hK hP hD hS q0 2 he (by rw [← hc]; rfl) hin hd K) kk
theorem e_aald (pc' : Nat) {r j v : Nat} {i : Int32} (hd : decode cc pc = .ok (.aaload, 1)) (hp : pc + 1 = pc') (hk : zKD r = 19 ∨ zKD r = 20 ∨ zKD r = 21) (hr : r < n) (hi : i = nI j) (hj : j < zLN r) (hv : mr r j = some v) (kk : zE G R QQ own mn cc nL ret n0 pc' L (.ref v :: st) n mi ml mr) : zE G R QQ own mn cc nL ret n0 pc L (.int i :: .ref r :: st) n mi ml mr := by
  intro p e s m args below meth c H locs ls hC hR hL hn
  subst hp
  subst hi
  have hb9 := zLN_le r
  have he := zWs_get G mi ml mr hr
  have K := kk p e s m args below meth c H locs ls hC hR hL hn
  have hin : vp_in (nI j) (zLN r) := vp_in_nI hj (by omega)
  have hcl : (nI j).toNatClampNeg = j := nI_clamp (by omega)
  have hval : va_rf ((mr r (nI j).toNatClampNeg).map (zad G)) = .ref (zad G v) := by rw [hcl, hv]; rfl
  rcases hk with h | h | h
  · rw [zEnt_ref h (by decide)] at he
    refine va_aldq (C := RX2) hC.1 hC.2.1 hR.2.2.2.1 hR.2.1 r 3 he rfl hin hd ?_
    rw [hval]
    exact K
  · rw [zEnt_ref h (by decide)] at he
    refine va_aldq (C := RX3) hC.1 hC.2.1 hR.2.2.2.1 hR.2.1 r 4 he rfl hin hd ?_
    rw [hval]
    exact K
  · rw [zEnt_ref h (by decide)] at he
    have hP := hR.2.1 r _ he
    refine W.aald (v := .ref (zad G v)) (ty := .array .int) hC.1 hC.2.1 hP ((hR.2.2.2.1.2 5 _ rfl).1 (zLN r) (fun q => va_rf ((mr r q).map (zad G)))) rfl (fun q => by cases q) (by show ¬ (nI j < 0 ∨ (arrV _ _ _).slots.size ≤ _); rw [arrV_size]; exact hin) (by show (arrV _ _ _).slots[_]? = _; rw [arrV_read _ _ (by rw [hcl]; exact hj), hval]) rfl rfl hd K
theorem e_alen (pc' : Nat) {r : Nat} (kd : Nat) (hd : decode cc pc = .ok (.arraylength, 1)) (hp : pc + 1 = pc') (hk1 : 16 ≤ kd) (hk2 : kd < 19) (hk : zKD r = kd) (hr : r < n) (kk : zE G R QQ own mn cc nL ret n0 pc' L (.int (nI (zLN r)) :: st) n mi ml mr) : zE G R QQ own mn cc nL ret n0 pc L (.ref r :: st) n mi ml mr := by
  intro p e s m args below meth c H locs ls hC hR hL hn
  subst hp
  have he := zWs_get G mi ml mr hr
  rw [zEnt_int hk hk1 hk2] at he
  have K := kk p e s m args below meth c H locs ls hC hR hL hn
  have h3 : kd = 16 ∨ kd = 17 ∨ kd = 18 := by omega
  rcases h3 with rfl | rfl | rfl
  · exact va_alen hC.1 hC.2.1 hR.2.2.2.1 hR.2.1 r 0 he rfl rfl hd K
  · exact va_alen hC.1 hC.2.1 hR.2.2.2.1 hR.2.1 r 1 he rfl rfl hd K
  · exact va_alen hC.1 hC.2.1 hR.2.2.2.1 hR.2.1 r 2 he rfl rfl hd K
end ZHEAP
end
section
/-! ===== BEGIN new T[n][m]: the outer array a place, the inner ones among the pooled ===== -/
/-- f, but v at every address of l -/
def vr_up {α : Type} (f : Nat → α) (l : List Nat) (v : α) : Nat → α := fun a => if a ∈ l then v else f a
theorem vr_up_in {α : Type} {f : Nat → α} {l : List Nat} {v : α} {a : Nat} (h : a ∈ l) : vr_up f l v a = v := if_pos h
theorem vr_up_ne {α : Type} {f : Nat → α} {l : List Nat} {v : α} {a : Nat} (h : a ∉ l) : vr_up f l v a = f a := if_neg h
theorem vr_rows {L l : List Nat} {f : Nat → va_E} {e : va_E} (h : ∀ a, a ∈ l → a ∉ L) : va_pl L f ++ l.map (fun a => (a, e)) = va_pl (L ++ l) (vr_up f l e) := by
  unfold va_pl
  rw [List.map_append]
  congr 1
  · apply List.map_congr_left
    intro a ha
    rw [vr_up_ne (fun q => h a q ha)]
  · apply List.map_congr_left
    intro a ha
    rw [vr_up_in ha]
theorem vr_lay {X rows : va_W} {x : Nat × va_E} {pl : va_W} {D : va_G} {cl : List vw_C} {H : Heap} (hP : va_P D cl (((X ++ pl) ++ [x]) ++ rows) H) : va_P D cl ((X ++ [x]) ++ (pl ++ rows)) H := by
  rw [List.append_assoc (X ++ pl)] at hP
  have h := va_P.swap hP
  rw [← List.append_assoc X] at h
  have h2 := va_P.swap h
  rw [List.append_assoc (X ++ [x])] at h2
  exact h2
theorem vr_layD {X rows : va_W} {x : Nat × va_E} {pl : va_W} {A : Nat → Prop} (hD : va_D A (((X ++ pl) ++ [x]) ++ rows)) : va_D A ((X ++ [x]) ++ (pl ++ rows)) := by
  rw [List.append_assoc (X ++ pl)] at hD
  have h := va_D.swap hD
  rw [← List.append_assoc X] at h
  have h2 := va_D.swap h
  rw [List.append_assoc (X ++ [x])] at h2
  exact h2
theorem vr_outer (c : ClassId) (N h0 : Nat) : ∀ i : Nat, Jvm.Free.Multi.outerC c N h0 i = arrV c N (fun j => va_rf (if j < i then some (h0 + 1 + j) else none))
  | 0 => by
    show ({ cls := c, slots := Array.replicate N .null, vm := .none } : Cell) = _
    rw [arrV_new]
    refine congrArg (arrV c N) (funext fun j => ?_)
    simp [va_rf]
  | i + 1 => by
    show (Jvm.Free.Multi.outerC c N h0 i).setSlot i (.ref (h0 + 1 + i)) = _
    rw [vr_outer c N h0 i, arrV_store]
    refine congrArg (arrV c N) (funext fun j => ?_)
    by_cases e : j = i
    · subst e
      simp [updV, va_rf]
    · by_cases h : j < i
      · simp [updV, e, h, Nat.lt_succ_of_lt h]
      · simp [updV, e, h, show ¬ j < i + 1 by omega]
section VGM
variable {p : Program} {l : Launch} {e : Env} {R : Room} {s : State} {m : MethodId} {args : Array Value} {below : List Frame} {meth : Method} {c : Code} {H : Heap} {locs : List Loc} {cells slots : Nat} {Q : State → Prop}
variable {cc : ByteArray} {pc : Nat} {ls : Array Slot} {rest : List Value} {D : va_G} {cl : List vw_C} {A : Nat → Prop} {a : Nat} {tys : List (ClassId × FieldType)} {ws : va_W} {H0 : Heap}
theorem va_mna2 {X : va_W} {L : List Nat} {f : Nat → va_E} {cc : ByteArray} (hexec : p.tables.exec = Jvm.exec) (hb : c.code = cc) {own : String} {index : Nat} {ty : FieldType} {cy : ClassId} (hown : s.vm.findClass own = some m.cls) (hclink : (Cond.classLink own index ("[" ++ (FieldType.array ty).toString)).before args s = true) (hover : (Cond.arrayOver (.array ty)).before args s = true) (harr : (Cond.arrayClass ty).before args s = true) (hcy : s.vm.findClass (FieldType.array ty).toString = some cy)
    (hK : va_K D cl tys s) (hP : va_P D cl (X ++ va_pl L f) H) (hD : va_D A (X ++ va_pl L f)) (hS : va_S A H0 H locs) (hA : ∀ q, H0.size ≤ q → A q) {n k : Int32} {N' K' : Nat} {z : vp_A} (hn : ¬ n < 0) (hk : ¬ k < 0) (hN : n.toNatClampNeg = N') (hM : k.toNatClampNeg = K')
    (hb1 : N' * 4 ≤ 536870912) (hb2 : K' * componentBytes ty ≤ 536870912) (hb3 : K' ≤ 536870912) (hdf : fits ty (defaultValue ty) = true) (hdd : (defaultValue ty).isDefault = true) (hcells : cells + (1 + N') ≤ R.cells) (hslots : slots + (N' + N' * K') ≤ R.slots) (hz : ∀ c : ClassId, Jvm.Free.Multi.innerC c K' (defaultValue ty) = vp_cell c z) (hdg : decode cc pc = .ok (.multianewarray index 2, 4))
    (kk : ∀ (q : Nat) (r : Nat → Nat) (cA : ClassId) (H1 : Heap), q = H.size → (∀ i : Nat, r i = H.size + 1 + i) → (∀ i j : Nat, i < N' → j < N' → r i = r j → i = j) → (∀ i : Nat, i < N' → r i ∉ L) → va_K D cl (tys ++ [(cA, .array ty)]) s →
      va_P D cl ((X ++ [(q, .inl (cA, N', .inr (.inr (.inr (.inr (fun i => if i < N' then some (r i) else none))))))]) ++ va_pl (L ++ (List.range N').map r) (vr_up f ((List.range N').map r) (.inl (cy, z)))) H1 → va_D A ((X ++ [(q, .inl (cA, N', .inr (.inr (.inr (.inr (fun i => if i < N' then some (r i) else none))))))]) ++ va_pl (L ++ (List.range N').map r) (vr_up f ((List.range N').map r) (.inl (cy, z)))) → va_S A H0 H1 locs →
      W p l e R s m args below meth c H1 locs (cells + 1 + N') (slots + N' + N' * K') Q (F0 m (pc + 4) ls (.ref q :: rest))) : W p l e R s m args below meth c H locs cells slots Q (F0 m pc ls (.int k :: .int n :: rest)) := by
  subst hN
  subst hM
  intro T hT Xs
  obtain ⟨vm₁, cA, comp, -, fA, fC, hO, -, X', step⟩ := Xs.multianewarray2F hexec hown hclink hover harr (g := F0 m pc ls (.int k :: .int n :: rest)) rfl (by rw [hb]; exact hdg) rfl hn hk hb1 hb2 hb3 hdf hdd hcells hslots
  have ec : some cy = some comp := hcy.symm.trans fC
  cases ec
  generalize hF : Jvm.Free.Multi.fill (T.setVm vm₁) cA cy n.toNatClampNeg k.toNatClampNeg (defaultValue ty) n.toNatClampNeg = F at X' step
  have hTh : (T.setVm vm₁).heap = H := hT
  obtain ⟨f1, f2, -, -⟩ := Jvm.Free.Multi.fill_facts (T.setVm vm₁) cA cy n.toNatClampNeg k.toNatClampNeg (defaultValue ty) n.toNatClampNeg
  rw [hF, hTh] at f1 f2
  have hold : ∀ x : Nat, x < H.size → F.heap[x]? = H[x]? := fun x hx => by
    have := Jvm.Free.Multi.fill_old (T.setVm vm₁) cA cy n.toNatClampNeg k.toNatClampNeg (defaultValue ty) (a := x) (by rw [hTh]; exact hx) n.toNatClampNeg
    rw [hF, hTh] at this
    exact this
  have hrow : ∀ j : Nat, j < n.toNatClampNeg → F.heap[H.size + 1 + j]? = some (vp_cell cy z) := fun j hj => by
    have := Jvm.Free.Multi.fill_inner (T.setVm vm₁) cA cy n.toNatClampNeg k.toNatClampNeg (defaultValue ty) n.toNatClampNeg j hj
    rw [hF, hTh, hz] at this
    exact this
  have hout : Jvm.Free.Multi.outerC cA n.toNatClampNeg H.size n.toNatClampNeg = vp_cell cA (n.toNatClampNeg, .inr (.inr (.inr (.inr (fun i => if i < n.toNatClampNeg then some (H.size + 1 + i) else none))))) := by
    rw [vp_cell_q]
    exact vr_outer cA n.toNatClampNeg H.size n.toNatClampNeg
  rw [hout] at f2
  have hlt : ∀ a, a ∈ L → a < H.size := fun a ha => by
    obtain ⟨k9, hk9⟩ := va_pl_get (X := X) (f := f) ha
    exact (hP k9 _ hk9).lt
  have hnl : ∀ i : Nat, i < n.toNatClampNeg → H.size + 1 + i ∉ L := fun i _ h => by
    have := hlt _ h
    omega
  have hnm : ∀ a, a ∈ (List.range n.toNatClampNeg).map (fun i => H.size + 1 + i) → a ∉ L := fun a ha h => by
    obtain ⟨i, -, rfl⟩ := List.mem_map.mp ha
    have := hlt _ h
    omega
  have hP0 : va_P D cl (X ++ va_pl L f) F.heap := hP.kept (fun k9 x hx => hold x.1 ((hP k9 x hx).lt))
  have hP1 : va_P D cl ((X ++ va_pl L f) ++ [(H.size, .inl (cA, n.toNatClampNeg, .inr (.inr (.inr (.inr (fun i => if i < n.toNatClampNeg then some (H.size + 1 + i) else none))))))]) F.heap := hP0.app (fun k9 x hx => by
    have h0 : k9 < 1 := (List.getElem?_eq_some_iff.mp hx).1
    rw [show k9 = 0 by omega] at hx
    cases hx
    exact f2)
  have hP2 : va_P D cl (((X ++ va_pl L f) ++ [(H.size, .inl (cA, n.toNatClampNeg, .inr (.inr (.inr (.inr (fun i => if i < n.toNatClampNeg then some (H.size + 1 + i) else none))))))]) ++ ((List.range n.toNatClampNeg).map (fun i => H.size + 1 + i)).map (fun a => (a, .inl (cy, z)))) F.heap := hP1.app (fun k9 x hx => by
    obtain ⟨a, ha, rfl⟩ := List.mem_map.mp (List.mem_of_getElem? hx)
    obtain ⟨i, hi, rfl⟩ := List.mem_map.mp ha
    exact hrow i (List.mem_range.mp hi))
  have hD2 : va_D A (((X ++ va_pl L f) ++ [(H.size, .inl (cA, n.toNatClampNeg, .inr (.inr (.inr (.inr (fun i => if i < n.toNatClampNeg then some (H.size + 1 + i) else none))))))]) ++ ((List.range n.toNatClampNeg).map (fun i => H.size + 1 + i)).map (fun a => (a, .inl (cy, z)))) := by
    have hD1 := hD.push (e := .inl (cA, n.toNatClampNeg, .inr (.inr (.inr (.inr (fun i => if i < n.toNatClampNeg then some (H.size + 1 + i) else none)))))) hP rfl (hA _ hS.1)
    generalize hW1 : (X ++ va_pl L f) ++ [(H.size, .inl (cA, n.toNatClampNeg, .inr (.inr (.inr (.inr (fun i => if i < n.toNatClampNeg then some (H.size + 1 + i) else none))))))] = W1 at hD1 hP1 ⊢
    have hle : ∀ (k9 : Nat) (x : Nat × va_E), W1[k9]? = some x → x.1 ≤ H.size := fun k9 x hx => by
      rw [← hW1] at hx
      by_cases hl : k9 < (X ++ va_pl L f).length
      · rw [List.getElem?_append_left hl] at hx
        exact Nat.le_of_lt ((hP k9 x hx).lt)
      · rw [List.getElem?_append_right (by omega)] at hx
        have h0 : k9 - (X ++ va_pl L f).length < 1 := (List.getElem?_eq_some_iff.mp hx).1
        rw [show k9 - (X ++ va_pl L f).length = 0 by omega] at hx
        cases hx
        exact Nat.le_refl _
    have hr : ∀ (k9 : Nat) (x : Nat × va_E), (((List.range n.toNatClampNeg).map (fun i => H.size + 1 + i)).map (fun a => ((a, .inl (cy, z)) : Nat × va_E)))[k9]? = some x → x.1 = H.size + 1 + k9 := fun k9 x hx => by
      rw [List.getElem?_map, List.getElem?_map] at hx
      by_cases h9 : k9 < n.toNatClampNeg
      · rw [List.getElem?_range h9] at hx
        cases hx
        rfl
      · have hn0 : (List.range n.toNatClampNeg)[k9]? = none := List.getElem?_eq_none (by rw [List.length_range]; omega)
        rw [hn0] at hx
        cases hx
    refine ⟨fun i j x y hi hj hxy => ?_, fun k9 x hx => ?_⟩
    · by_cases h1 : i < W1.length <;> by_cases h2 : j < W1.length
      · rw [List.getElem?_append_left h1] at hi
        rw [List.getElem?_append_left h2] at hj
        exact hD1.1 i j x y hi hj hxy
      · rw [List.getElem?_append_left h1] at hi
        rw [List.getElem?_append_right (by omega)] at hj
        have := hle _ _ hi
        have := hr _ _ hj
        omega
      · rw [List.getElem?_append_right (by omega)] at hi
        rw [List.getElem?_append_left h2] at hj
        have := hle _ _ hj
        have := hr _ _ hi
        omega
      · rw [List.getElem?_append_right (by omega)] at hi hj
        have := hr _ _ hi
        have := hr _ _ hj
        omega
    · by_cases h1 : k9 < W1.length
      · rw [List.getElem?_append_left h1] at hx
        exact hD1.2 k9 x hx
      · rw [List.getElem?_append_right (by omega)] at hx
        have := hr _ _ hx
        exact hA _ (by have := hS.1; omega)
  have hAr : ArrOfT s cA (.array ty) := fun N9 z9 => by
    obtain ⟨-, k9, hk9, cm9, hkk9⟩ := (hO 0 0 0).1
    exact ⟨(fun q hq => by cases hq), k9, hk9, cm9, hkk9⟩
  have hK2 : va_K D cl (tys ++ [(cA, .array ty)]) s := ⟨hK.1, fun k9 x hx => by
    by_cases hl : k9 < tys.length
    · rw [List.getElem?_append_left hl] at hx
      exact hK.2 k9 x hx
    · rw [List.getElem?_append_right (by omega)] at hx
      have h0 : k9 - tys.length < 1 := (List.getElem?_eq_some_iff.mp hx).1
      rw [show k9 - tys.length = 0 by omega] at hx
      cases hx
      exact ⟨hAr, fA⟩⟩
  obtain ⟨t, a1, b1⟩ := kk H.size (fun i => H.size + 1 + i) cA F.heap rfl (fun _ => rfl) (fun i j _ _ h => by have h9 : H.size + 1 + i = H.size + 1 + j := h; omega) hnl hK2 (by rw [← vr_rows hnm]; exact vr_lay hP2) (by rw [← vr_rows hnm]; exact vr_layD hD2) ⟨by rw [f1]; have := hS.1; omega, fun x h1 h2 => (hold x (Nat.lt_of_lt_of_le h1 hS.1)).trans (hS.2.1 x h1 h2), hS.2.2⟩ F rfl X'
  refine ⟨t, step t ?_, b1⟩
  have e : T.heap.size = H.size := by rw [hT]
  rw [e]
  exact a1
end VGM
/-! ===== END ===== -/
/-! MAKING CELLS -/
theorem zRA_inj {U : State} {cA cB : ClassId} {ty : FieldType} (h1 : va_RA U cA ty) (h2 : va_RA U cB ty) : cA = cB := by
  cases ty with
  | object C =>
    obtain ⟨_, _, _, _, _, h1⟩ := h1
    obtain ⟨_, _, _, _, _, h2⟩ := h2
    exact Option.some.inj (h1.symm.trans h2)
  | _ => exact Option.some.inj (h1.symm.trans h2)
theorem zCy {D : va_G} {cl : List vw_C} {tys : List (ClassId × FieldType)} {U : State} {k : Nat} {c cA : ClassId} {ty : FieldType} (h : va_K D cl (tys ++ [(cA, ty)]) U) (hk : tys[k]? = some (c, ty)) : cA = c := by
  have h1 := (h.2 tys.length (cA, ty) (by rw [List.getElem?_append_right (Nat.le_refl _), Nat.sub_self]; rfl)).2
  have hl := (List.getElem?_eq_some_iff.mp hk).1
  have h2 := (h.2 k (c, ty) (by rw [List.getElem?_append_left hl]; exact hk)).2
  exact zRA_inj h1 h2
/-- how large the heap is -/
theorem zSize {G : zG} {n0 n : Nat} {mi : zFi} {ml : zFl} {mr : zFr} {own mn : String} {cc : ByteArray} {nL : Nat} {ret : Option FieldType} {p : Program} {e : Env} {R : Room} {s : State} {m : MethodId} {args : Array Value} {below : List Frame} {meth : Method} {c : Code} {H : Heap} {locs : List Loc} {T : State} {cells slots : Nat}
    (hC : zCx G own mn cc nL ret n0 p s m args meth c) (hR : zRl G n mi ml mr s H locs) (hn : n0 ≤ n) (hn1 : n ≤ 1000) (hT : T.heap = H) (hc : cells = n - n0) (X : Stand p G.1 e R s m args below meth c T locs cells slots) : H.size = G.2.2.2.2.1 + n := by
  obtain ⟨-, -, -, -, -, -, -, -, hsz, had, -⟩ := hC
  have h1 := X.heapSize
  rw [hT, hsz, hc] at h1
  have h2 := hR.1.1
  rw [hsz] at h2
  rcases Nat.eq_zero_or_pos n with h0 | h0
  · omega
  · have h3 := (hR.2.1 (n - 1) _ (zWs_get G mi ml mr (show n - 1 < n by omega))).lt
    have h4 := had (n - 1) (by omega)
    dsimp only at h3
    omega
theorem zFv_fresh {n : Nat} {mi : zFi} {ml : zFl} {mr : zFr} (h : zFresh n mi ml mr) (ad : Nat → Nat) {c k : Nat} {ty : FieldType} (hd : defaultValue ty = zFv (fun a => a) (zTyc ty) 0 0 none) (hk : k < zNf c) (hty : zTy c k = ty) : defaultValue ty = vp_V (zFs ad c (mi n) (ml n) (mr n)) k := by
  obtain ⟨h1, h2, h3⟩ := h n (Nat.le_refl n)
  rw [hd]
  unfold vp_V
  rw [List.getD_eq_getElem?_getD, zFs_get hk, h1, h2, h3, hty]
  rfl
theorem zFresh_next {n k : Nat} {mi : zFi} {ml : zFl} {mr : zFr} (h : zFresh n mi ml mr) : zFresh (n + k) mi ml mr := fun r hr => h r (by omega)
section ZMAKE
variable {G : zG} {R : Room} {QQ : zQQ} {own mn : String} {cc : ByteArray} {nL : Nat} {ret : Option FieldType} {n0 pc : Nat} {L st : List Value} {n : Nat} {mi : zFi} {ml : zFl} {mr : zFr}
/-- the new cell's address -/
theorem zNewAd {p : Program} {e : Env} {s : State} {m : MethodId} {args : Array Value} {below : List Frame} {meth : Method} {c : Code} {H1 : Heap} {locs : List Loc} {T : State} {cells slots q : Nat} {x : va_E} (hC : zCx G own mn cc nL ret n0 p s m args meth c) (hn : n0 ≤ n) (hn1 : n < 1000)
    (hP : va_P G.2.1 vwCl (zWs G n mi ml mr ++ [(q, x)]) H1) (hD : va_D (zA G) (zWs G n mi ml mr ++ [(q, x)])) (hT : T.heap = H1) (hc : cells = n + 1 - n0) (X : Stand p G.1 e R s m args below meth c T locs cells slots) : q = zad G n := by
  obtain ⟨-, -, -, -, -, -, -, -, hsz, had, -⟩ := hC
  have hlen := zWs_len G n mi ml mr
  have hq : (zWs G n mi ml mr ++ [(q, x)])[n]? = some (q, x) := by rw [List.getElem?_append_right (by omega), hlen, Nat.sub_self]; rfl
  have h1 := X.heapSize
  rw [hT, hsz, hc] at h1
  have h2 := (hP n _ hq).lt
  have h3 : G.2.2.2.2.1 ≤ q := hD.2 n _ hq
  dsimp only at h2
  rw [had n hn1]
  by_cases hlt : q < G.2.2.2.2.1 + n
  · have hi : q - G.2.2.2.2.1 < n := by omega
    have hg : (zWs G n mi ml mr ++ [(q, x)])[q - G.2.2.2.2.1]? = some (zad G (q - G.2.2.2.2.1), zEnt G (q - G.2.2.2.2.1) (mi (q - G.2.2.2.2.1)) (ml (q - G.2.2.2.2.1)) (mr (q - G.2.2.2.2.1))) := by
      rw [List.getElem?_append_left (by omega)]
      exact zWs_get G mi ml mr hi
    have := hD.1 n (q - G.2.2.2.2.1) _ _ hq hg (by dsimp only; rw [had _ (by omega)]; omega)
    omega
  · omega
theorem e_new (pc' : Nat) {idx ci : Nat} {C : String} {T : u_T} {N : Nat} (hd : decode cc pc = .ok (.new idx, 3)) (hcls : zCls ci C T N) (hw1 : Cond.classLink own idx C ∈ zT) (hw2 : Cond.instantiable C N ∈ zT) (hw3 : Cond.initialized C ∈ zT) (hp : pc + 3 = pc') (hk : zKD n = ci) (hn1 : n < 1000) (hc : n + 1 - n0 ≤ R.cells) (hs : zSl (n + 1) - zSl n0 ≤ R.slots)
    (kk : zE G R QQ own mn cc nL ret n0 pc' L (.ref n :: st) (n + 1) mi ml mr) : zE G R QQ own mn cc nL ret n0 pc L st n mi ml mr := by
  intro p e s m args below meth c H locs ls hC hR hL hn
  subst hp
  have hlt := hcls.lt
  obtain ⟨c1, c2, c3, c4, c5, c6, c7⟩ := hcls
  subst c2
  have hC0 := hC
  obtain ⟨hx, hb, hrt, hml, hown, hts, hlk, hmn, hsz, had, hout⟩ := hC
  have hsl : zSl (n + 1) = zSl n + zNf ci := by show zSl n + zSz n = _; unfold zSz; rw [hk, if_pos hlt]
  have hle := zSl_le hn
  have e1 : n - n0 + 1 = n + 1 - n0 := by omega
  have e2 : zSl n - zSl n0 + zNf ci = zSl (n + 1) - zSl n0 := by omega
  refine va_new (D := G.2.1) (cl := vwCl) (tys := zTys G) (ci := ci) (fs := zFs (zad G) ci (mi n) (ml n) (mr n)) hx hb hts c3 (zTy ci) c4 hown (hts _ hw1) (hts _ hw2) (hts _ hw3) hR.2.2.2.1 hR.2.1 hR.2.2.1 hR.1 (fun q hq => by show _ ≤ q; omega) c1 (fun j hj => zFv_fresh hR.2.2.2.2 _ (c7 j hj) hj rfl) (by omega) (by omega) hd (fun q H1 hP hD hS => ?_)
  rw [e1, e2]
  intro T0 hT0 X
  have hq := zNewAd hC0 hn hn1 hP hD hT0 rfl X
  subst hq
  rw [← zEnt_obj (G := G) hk hlt, ← zWs_push] at hP hD
  exact kk p e s m args below meth c H1 locs ls hC0 ⟨hS, hP, hD, hR.2.2.2.1, zFresh_next hR.2.2.2.2⟩ hL (by omega) T0 hT0 X
theorem e_newarr (pc' : Nat) (kd : Nat) (ty : FieldType) {atype : ArrayType} {i : Int32} (hd : decode cc pc = .ok (.newarray atype, 2)) (hat : newarray.typeOf atype = ty) (htys : ∀ G : zG, (zTys G)[kd - 16]? = some (G.2.2.1 (kd - 16), ty)) (hdef : defaultValue ty = .int 0) (hbt : componentBytes ty ≤ 4) (hw : Cond.arrayClass ty ∈ zT) (hp : pc + 2 = pc') (hk1 : 16 ≤ kd) (hk2 : kd < 19) (hk : zKD n = kd) (hi : i = nI (zLN n)) (hn1 : n < 1000) (hc : n + 1 - n0 ≤ R.cells) (hs : zSl (n + 1) - zSl n0 ≤ R.slots)
    (kk : zE G R QQ own mn cc nL ret n0 pc' L (.ref n :: st) (n + 1) mi ml mr) : zE G R QQ own mn cc nL ret n0 pc L (.int i :: st) n mi ml mr := by
  intro p e s m args below meth c H locs ls hC hR hL hn
  subst hp
  subst hi
  have hb9 := zLN_le n
  have hC0 := hC
  obtain ⟨hx, hb, hrt, hml, hown, hts, hlk, hmn, hsz, had, hout⟩ := hC
  have hsl : zSl (n + 1) = zSl n + zLN n := by show zSl n + zSz n = _; unfold zSz; rw [hk, if_neg (by omega)]
  have hle := zSl_le hn
  have e1 : n - n0 + 1 = n + 1 - n0 := by omega
  have e2 : zSl n - zSl n0 + zLN n = zSl (n + 1) - zSl n0 := by omega
  have hfr := hR.2.2.2.2 n (Nat.le_refl n)
  have hz : mi n = fun _ => 0 := funext hfr.1
  refine va_newa (D := G.2.1) (cl := vwCl) (tys := zTys G) (a0 := (zLN n, .inl (mi n))) (N' := zLN n) hx hb (by rw [hat]; exact hts _ hw) hat hR.2.2.2.1 hR.2.1 hR.2.2.1 hR.1 (fun q hq => by show _ ≤ q; omega) (fun cA => by rw [hz, hdef]; rfl) (nI_pos (by omega)) (nI_clamp (by omega)) (by have := Nat.mul_le_mul hb9 hbt; omega) (by omega) (by omega) hd (fun q cA H1 hK hP hD hS => ?_)
  have hcy := zCy hK (htys G)
  subst hcy
  rw [e1, e2]
  intro T0 hT0 X
  have hq := zNewAd hC0 hn hn1 hP hD hT0 rfl X
  subst hq
  rw [← zEnt_int (G := G) (fl := ml n) (fr := mr n) hk hk1 hk2, ← zWs_push] at hP hD
  exact kk p e s m args below meth c H1 locs ls hC0 ⟨hS, hP, hD, hR.2.2.2.1, zFresh_next hR.2.2.2.2⟩ hL (by omega) T0 hT0 X
theorem e_newq (pc' : Nat) (kd : Nat) (C : String) {idx : Nat} {i : Int32} (hd : decode cc pc = .ok (.anewarray idx, 3)) (htys : ∀ G : zG, (zTys G)[kd - 16]? = some (G.2.2.1 (kd - 16), .object C)) (hw : Cond.classLink own idx C ∈ zT) (hw2 : Cond.arrayOver (.object C) ∈ zT) (hp : pc + 3 = pc') (hk1 : 19 ≤ kd) (hk : zKD n = kd) (hi : i = nI (zLN n)) (hn1 : n < 1000) (hc : n + 1 - n0 ≤ R.cells) (hs : zSl (n + 1) - zSl n0 ≤ R.slots)
    (kk : zE G R QQ own mn cc nL ret n0 pc' L (.ref n :: st) (n + 1) mi ml mr) : zE G R QQ own mn cc nL ret n0 pc L (.int i :: st) n mi ml mr := by
  intro p e s m args below meth c H locs ls hC hR hL hn
  subst hp
  subst hi
  have hb9 := zLN_le n
  have hC0 := hC
  obtain ⟨hx, hb, hrt, hml, hown, hts, hlk, hmn, hsz, had, hout⟩ := hC
  have hsl : zSl (n + 1) = zSl n + zLN n := by show zSl n + zSz n = _; unfold zSz; rw [hk, if_neg (by omega)]
  have hle := zSl_le hn
  have e1 : n - n0 + 1 = n + 1 - n0 := by omega
  have e2 : zSl n - zSl n0 + zLN n = zSl (n + 1) - zSl n0 := by omega
  have hfr := hR.2.2.2.2 n (Nat.le_refl n)
  have hz : (fun j => (mr n j).map (zad G)) = fun _ => none := funext fun j => by rw [hfr.2.2 j]; rfl
  refine va_newq (D := G.2.1) (cl := vwCl) (tys := zTys G) (N' := zLN n) hx hb hown (hts _ hw) (va_AO.of (hts _ hw2)) hR.2.2.2.1 hR.2.1 hR.2.2.1 hR.1 (fun q hq => by show _ ≤ q; omega) (nI_pos (by omega)) (nI_clamp (by omega)) (by omega) (by omega) (by omega) hd (fun q cA H1 hK hP hD hS => ?_)
  have hcy := zCy hK (htys G)
  subst hcy
  rw [e1, e2]
  intro T0 hT0 X
  have hq := zNewAd hC0 hn hn1 hP hD hT0 rfl X
  subst hq
  rw [← hz, ← zEnt_ref (G := G) (fi := mi n) (fl := ml n) hk hk1, ← zWs_push] at hP hD
  exact kk p e s m args below meth c H1 locs ls hC0 ⟨hS, hP, hD, hR.2.2.2.1, zFresh_next hR.2.2.2.2⟩ hL (by omega) T0 hT0 X
/-- new int[N][K]: the outer array, then its N rows -/
theorem e_multi (pc' : Nat) (N K : Nat) {idx : Nat} {i j : Int32} (hd : decode cc pc = .ok (.multianewarray idx 2, 4)) (hw1 : Cond.classLink own idx ("[" ++ (FieldType.array .int).toString) ∈ zT) (hw2 : Cond.arrayOver (.array .int) ∈ zT) (hw3 : Cond.arrayClass .int ∈ zT) (hp : pc + 4 = pc') (hk : zKD n = 21) (hN : zLN n = N) (hi : i = nI K) (hj : j = nI N) (hN2 : N ≤ 1000) (hK2 : K ≤ 5900) (hrow : ∀ q, q < N → zKD (n + 1 + q) = 16 ∧ zLN (n + 1 + q) = K) (hn1 : n + 1 + N ≤ 1000) (hc : n + 1 + N - n0 ≤ R.cells) (hs : zSl (n + 1 + N) - zSl n0 ≤ R.slots)
    (kk : zE G R QQ own mn cc nL ret n0 pc' L (.ref n :: st) (n + 1 + N) mi ml (zu mr n (fun q => if q < N then some (n + 1 + q) else none))) : zE G R QQ own mn cc nL ret n0 pc L (.int i :: .int j :: st) n mi ml mr := by
  intro p e s m args below meth c H locs ls hC hR hL hn
  subst hp
  subst hi
  subst hj
  have hC0 := hC
  obtain ⟨hx, hb, hrt, hml, hown, hts, hlk, hmn, hsz, had, hout⟩ := hC
  have hsl : ∀ q, q ≤ N → zSl (n + 1 + q) = zSl n + N + q * K := by
    intro q
    induction q with
    | zero =>
      intro _
      show zSl n + zSz n = _
      unfold zSz
      rw [hk, if_neg (by omega), hN]
      omega
    | succ q ih =>
      intro hq
      show zSl (n + 1 + q) + zSz (n + 1 + q) = _
      rw [ih (by omega)]
      unfold zSz
      rw [(hrow q (by omega)).1, if_neg (by omega), (hrow q (by omega)).2, Nat.succ_mul]
      omega
  have hsl2 := hsl N (Nat.le_refl N)
  have hle := zSl_le hn
  have e1 : n - n0 + 1 + N = n + 1 + N - n0 := by omega
  have e2 : zSl n - zSl n0 + N + N * K = zSl (n + 1 + N) - zSl n0 := by omega
  have hK9 := hR.2.2.2.1
  have hcy : s.vm.findClass (FieldType.array .int).toString = some (G.2.2.1 0) := (hK9.2 0 _ rfl).2
  have hz0 : ∀ q, n ≤ q → mi q = (fun _ => 0) ∧ ml q = (fun _ => 0) ∧ mr q = fun _ => none := fun q hq => ⟨funext (hR.2.2.2.2 q hq).1, funext (hR.2.2.2.2 q hq).2.1, funext (hR.2.2.2.2 q hq).2.2⟩
  intro T0 hT0 X
  have hH : H.size = G.2.2.2.2.1 + n := zSize hC0 hR hn (by omega) hT0 rfl X
  refine va_mna2 (X := zWs G n mi ml mr) (L := []) (f := fun _ => .inr (0, [])) (D := G.2.1) (cl := vwCl) (tys := zTys G) (ty := .int) (cy := G.2.2.1 0) (N' := N) (K' := K) (z := (K, .inl (fun _ => 0))) hx hb hown (hts _ hw1) (hts _ hw2) (hts _ hw3) hcy hK9 (by rw [show va_pl [] (fun _ => (.inr (0, []) : va_E)) = [] from rfl, List.append_nil]; exact hR.2.1) (by rw [show va_pl [] (fun _ => (.inr (0, []) : va_E)) = [] from rfl, List.append_nil]; exact hR.2.2.1) hR.1 (fun q hq => by show _ ≤ q; omega) (nI_pos (by omega)) (nI_pos (by omega)) (nI_clamp (by omega)) (nI_clamp (by omega)) (by omega) (by show K * 4 ≤ _; omega) (by omega) rfl rfl (by omega) (by omega) (fun c => by show ({ cls := c, slots := Array.replicate K (.int 0), vm := .none } : Cell) = _; rw [arrV_new]; rfl) hd (fun q r cA H1 hq hr hinj hnl hK hP hD hS => ?_) T0 hT0 X
  have hcyA := zCy (k := 5) hK rfl
  subst hcyA
  rw [e1, e2]
  have hworld : (zWs G n mi ml mr ++ [(q, .inl (G.2.2.1 5, N, .inr (.inr (.inr (.inr (fun i => if i < N then some (r i) else none))))))]) ++ va_pl ([] ++ (List.range N).map r) (vr_up (fun _ => (.inr (0, []) : va_E)) ((List.range N).map r) (.inl (G.2.2.1 0, (K, .inl (fun _ => 0))))) = zWs G (n + 1 + N) mi ml (zu mr n (fun q => if q < N then some (n + 1 + q) else none)) := by
    apply List.ext_getElem?
    intro x
    have hlen := zWs_len G n mi ml mr
    by_cases h1 : x < n
    · rw [List.getElem?_append_left (by simp; omega), List.getElem?_append_left (by omega), zWs_get G mi ml mr h1, zWs_get G _ _ _ (by omega), zu_n _ _ (by omega)]
    · by_cases h2 : x = n
      · subst h2
        rw [List.getElem?_append_left (by simp; omega), List.getElem?_append_right (by omega), hlen, Nat.sub_self, zWs_get G _ _ _ (by omega), zEnt_ref hk (by decide), zu_s, hN, hq, hH, ← had x (by omega)]
        show some _ = some _
        congr 1
        congr 1
        congr 1
        congr 1
        congr 1
        congr 1
        congr 1
        congr 1
        congr 1
        funext y
        by_cases hy : y < N
        · rw [if_pos hy, if_pos hy, hr y, hH]
          show some _ = some _
          rw [had _ (by omega)]
          congr 1
          omega
        · rw [if_neg hy, if_neg hy]
          rfl
      · by_cases h3 : x < n + 1 + N
        · have hlen2 : (zWs G n mi ml mr ++ [(q, (.inl (G.2.2.1 5, N, .inr (.inr (.inr (.inr (fun i => if i < N then some (r i) else none))))) : va_E))]).length = n + 1 := by simp [hlen]
          rw [List.getElem?_append_right (by omega), hlen2]
          obtain ⟨y, hy⟩ : ∃ y, x = n + 1 + y := ⟨x - (n + 1), by omega⟩
          subst hy
          rw [show n + 1 + y - (n + 1) = y by omega]
          have hyN : y < N := by omega
          unfold va_pl
          rw [List.getElem?_map, List.nil_append, List.getElem?_map, List.getElem?_range hyN, zWs_get G _ _ _ h3, zEnt_int (hrow y hyN).1 (by decide) (by decide), (hrow y hyN).2]
          show some (r y, vr_up _ _ _ (r y)) = _
          rw [vr_up_in (List.mem_map.mpr ⟨y, List.mem_range.mpr hyN, rfl⟩), (hz0 (n + 1 + y) (by omega)).1, hr y, hH, had _ (by omega)]
          have e9 : G.2.2.2.2.1 + n + 1 + y = G.2.2.2.2.1 + (n + 1 + y) := by omega
          rw [e9]
        · rw [List.getElem?_eq_none (by simp [va_pl, hlen]; omega), List.getElem?_eq_none (by rw [zWs_len]; omega)]
  rw [hworld] at hP hD
  have hqa : q = zad G n := by rw [hq, hH, had n (by omega)]
  rw [hqa]
  refine kk p e s m args below meth c H1 locs ls hC0 ⟨hS, hP, hD, hK9, fun q hq => ?_⟩ hL (by omega)
  obtain ⟨g1, g2, g3⟩ := hR.2.2.2.2 q (by omega)
  exact ⟨g1, g2, fun k => by rw [zu_n _ _ (by omega)]; exact g3 k⟩
end ZMAKE
end
section
/-! CONTRACTS AND CALLS -/
abbrev zQ : Type := Option Value → zFi → zFl → zFr → Prop
def zPre (G : zG) (n : Nat) (mi : zFi) (ml : zFl) (mr : zFr) (U : State) : Prop :=
  U.heap.size = G.2.2.2.2.1 + n ∧ va_P G.2.1 vwCl (zWs G n mi ml mr) U.heap ∧ va_D (zA G) (zWs G n mi ml mr) ∧ va_K G.2.1 vwCl (zTys G) U ∧ zFresh n mi ml mr ∧ zOut G U U.heap ∧ ∀ r, r < 1000 → zad G r = G.2.2.2.2.1 + r
def zPost (G : zG) (n' : Nat) (Q : zQ) : Array Value → State → Outcome → State → Prop := fun _ st oc t =>
  (∃ (r : Option Value) (mi : zFi) (ml : zFl) (mr : zFr), oc = .returned (r.map (zTv (zad G))) ∧ Q r mi ml mr ∧ va_P G.2.1 vwCl (zWs G n' mi ml mr) t.heap ∧ va_D (zA G) (zWs G n' mi ml mr) ∧ zFresh n' mi ml mr) ∧ va_F (zA G) st t
def zRm (d n n' : Nat) : Room := { frames := d, cells := n' - n, slots := zSl n' - zSl n, locals := 40 * d }
/-- the contract of method y (code cc, nL words of locals, answer ret) at depth d: from the arguments As and the cells as told it returns, and Q holds of the answer and of the cells behind it -/
def zMet (G : zG) (d : Nat) (y : MethodName) (cc : ByteArray) (nL : Nat) (ret : Option FieldType) (As : List Value) (n : Nat) (mi : zFi) (ml : zFl) (mr : zFr) (n' : Nat) (Q : zQ) : Prop :=
  Met G.1 y (.code y cc nL ret :: zT) (zRm d n n') (va_Pc (As.map (zTv (zad G))) (zPre G n mi ml mr)) (zPost G n' Q) (n' - n) (zSl n' - zSl n) (zA G)
def zQm (G : zG) (n0 n' : Nat) (Q : zQ) : zQQ := fun below args s => MQ below (zPost G n' Q) args s (n' - n0) (zSl n' - zSl n0) (zA G)
/-- the locals at the entry -/
def zEn : List Value → List Value
  | [] => []
  | .long x :: t => .long x :: zx :: zEn t
  | .double x :: t => .double x :: zx :: zEn t
  | v :: t => v :: zEn t
theorem zEn_args (ad : Nat → Nat) : ∀ (As : List Value) (o i : Nat) (v : Value), (zEn As)[i]? = some v → zok v = true → (o + i, zTv ad v) ∈ lv_args o (As.map (zTv ad))
  | [], o, i, v, h, _ => by simp [zEn] at h
  | a :: t, o, i, v, h, hz => by
    have key : ∀ (b : Value) (z : List Value), zEn (a :: t) = b :: z → b = a → (z = zEn t ∧ a.category = 1 ∨ z = zx :: zEn t ∧ a.category = 2) → (o + i, zTv ad v) ∈ lv_args o ((a :: t).map (zTv ad)) := by
      intro b z hb hba hzz
      subst hba
      rw [hb] at h
      show _ ∈ lv_args o (zTv ad b :: t.map (zTv ad))
      unfold lv_args
      rw [zTv_cat]
      cases i with
      | zero =>
        simp at h
        subst h
        exact List.mem_cons_self
      | succ i =>
        simp at h
        rcases hzz with ⟨rfl, hc⟩ | ⟨rfl, hc⟩
        · rw [if_neg (by omega)]
          have := zEn_args ad t (o + 1) i v h hz
          rw [show o + 1 + i = o + (i + 1) by omega] at this
          exact List.mem_cons_of_mem _ this
        · rw [if_pos hc]
          cases i with
          | zero =>
            simp at h
            subst h
            simp [zok] at hz
          | succ i =>
            simp at h
            have := zEn_args ad t (o + 2) i v h hz
            rw [show o + 2 + i = o + (i + 1 + 1) by omega] at this
            exact List.mem_cons_of_mem _ this
    cases a <;> first | exact key _ _ rfl rfl (Or.inl ⟨rfl, rfl⟩) | exact key _ _ rfl rfl (Or.inr ⟨rfl, rfl⟩)
theorem zEn_pad (ad : Nat → Nat) (As : List Value) (k i : Nat) (v : Value) (h : (zEn As ++ List.replicate k zx)[i]? = some v) (hz : zok v = true) : (0 + i, zTv ad v) ∈ lv_args 0 (As.map (zTv ad)) := by
  by_cases hi : i < (zEn As).length
  · rw [List.getElem?_append_left hi] at h
    exact zEn_args ad As 0 i v h hz
  · rw [List.getElem?_append_right (by omega)] at h
    have := List.mem_of_getElem? h
    rw [List.mem_replicate] at this
    rw [this.2] at hz
    simp [zok] at hz
theorem z_sl (ad : Nat → Nat) : ∀ As : List Value, (lg_sl (As.map (zTv ad))).length = (zEn As).length
  | [] => rfl
  | a :: t => by
    show (lg_sl (zTv ad a :: t.map (zTv ad))).length = _
    rw [show lg_sl (zTv ad a :: t.map (zTv ad)) = (if (zTv ad a).category = 2 then [.val (zTv ad a), .second] else [.val (zTv ad a)]) ++ lg_sl (t.map (zTv ad)) from rfl, List.length_append, z_sl ad t]
    cases a <;> simp [zEn, zTv, Value.category] <;> omega
/-- a contract out of a walk from the entry -/
theorem z_intro {G : zG} {d : Nat} {y : MethodName} {cc : ByteArray} {nL : Nat} {ret : Option FieldType} {As : List Value} {n : Nat} {mi : zFi} {ml : zFl} {mr : zFr} {n' : Nat} {Q : zQ} (L : List Value) (hy : plainName y.cls = true) (hL : zEn As ++ List.replicate (nL - (zEn As).length) zx = L) (hlen : (zEn As).length ≤ nL)
    (k : zE G (zRm d n n') (zQm G n n' Q) y.cls y.name cc nL ret n 0 L [] n mi ml mr) : zMet G d y cc nL ret As n mi ml mr n' Q := by
  refine Met.ofW (cc := cc) (maxL := nL) (ret := ret) hy rfl ?_
  intro p e s m args below meth c s₁ B hml hv
  obtain ⟨rfl, hsz, hP, hD, hK, hF, hO, had⟩ := hv
  have hts := atoms_spec (ws := .code y cc nL ret :: zT) B.pre
  have hl := lv_entry (As.map (zTv (zad G))) (n := nL) (by rw [z_sl]; exact hlen)
  rw [lg_entry_eq]
  subst hL
  have K := k p e s m (As.map (zTv (zad G))).toArray below meth c s.heap [] _ ⟨B.exec, B.bytes, B.returns, hml, findClass_of_methodNamed B.named, fun w hw => hts w (List.mem_cons_of_mem _ hw), B.notSynchronized, (name_of_methodNamed B.named B.method).1, hsz, had, hO⟩
    ⟨va_S.rf, hP, hD, hK, hF⟩ ⟨hl.1, hl.2.1, fun i v hi hz => by
      have h1 := zEn_pad (zad G) As _ i v hi hz
      rw [Nat.zero_add] at h1
      exact hl.2.2 _ h1⟩ (Nat.le_refl n)
  rw [Nat.sub_self, Nat.sub_self] at K
  exact K
section ZRET
variable {G : zG} {R : Room} {own mn : String} {cc : ByteArray} {nL : Nat} {ret : Option FieldType} {n0 pc : Nat} {L : List Value} {n : Nat} {mi : zFi} {ml : zFl} {mr : zFr} {Q : zQ}
theorem e_ireturn {x : Int32} (ty : FieldType) (hd : decode cc pc = .ok (.ireturn, 1)) (hret : ret = some ty) (hnr : narrow ty (.int x) = .int x) (hQ : Q (some (.int x)) mi ml mr) : zE G R (zQm G n0 n Q) own mn cc nL ret n0 pc L [.int x] n mi ml mr := by
  intro p e s m args below meth c H locs ls hC hR hL hn
  exact W.zret (ty := ty) hC.1 hC.2.1 (hC.2.2.1.trans hret) hnr (fun t ht hW => ⟨⟨some (.int x), mi, ml, mr, rfl, hQ, by rw [ht]; exact hR.2.1, hR.2.2.1, hR.2.2.2.2⟩, hR.1.F ht⟩) hR.1.2.2 hd hC.2.2.2.2.2.2.1
theorem e_lreturn {x : Int64} (hd : decode cc pc = .ok (.lreturn, 1)) (hret : ret = some .long) (hQ : Q (some (.long x)) mi ml mr) : zE G R (zQm G n0 n Q) own mn cc nL ret n0 pc L [.long x] n mi ml mr := by
  intro p e s m args below meth c H locs ls hC hR hL hn
  exact W.lret hC.1 hC.2.1 (hC.2.2.1.trans hret) (fun t ht hW => ⟨⟨some (.long x), mi, ml, mr, rfl, hQ, by rw [ht]; exact hR.2.1, hR.2.2.1, hR.2.2.2.2⟩, hR.1.F ht⟩) hR.1.2.2 hd hC.2.2.2.2.2.2.1
theorem e_vreturn (hd : decode cc pc = .ok (.return_, 1)) (hret : ret = none) (hQ : Q none mi ml mr) : zE G R (zQm G n0 n Q) own mn cc nL ret n0 pc L [] n mi ml mr := by
  intro p e s m args below meth c H locs ls hC hR hL hn
  exact W.vret hC.1 hC.2.1 (hC.2.2.1.trans hret) (fun t ht hW => ⟨⟨none, mi, ml, mr, rfl, hQ, by rw [ht]; exact hR.2.1, hR.2.2.1, hR.2.2.2.2⟩, hR.1.F ht⟩) hR.1.2.2 hd hC.2.2.2.2.2.2.1
end ZRET
/-- entry idx of own's pool names method y, and the tables say all that a call of it asks -/
def zML (own : String) (idx : Nat) (y : MethodName) (cc : ByteArray) (nL : Nat) (ret : Option FieldType) (np : Nat) : Prop :=
  (Cond.methodLink own idx y ∈ zT ∨ ∃ h : String, Cond.methodLinkNest own idx y h ∈ zT) ∧ Cond.code y cc nL ret ∈ zT ∧ Cond.initialized y.cls ∈ zT ∧ (y.cls ≠ "java/lang/invoke/MethodHandle" ∧ y.cls ≠ "java/lang/invoke/VarHandle") ∧ (parseMethodDescriptor y.desc).map (fun d => d.parameters.length) = some np
theorem zPre_blind {G : zG} {As : List Value} {n : Nat} {mi : zFi} {ml : zFl} {mr : zFr} : FrameBlind (va_Pc As (zPre G n mi ml mr)) := by
  intro a U g mk q
  obtain ⟨q0, q1, q2, q3, q4, q5, q6, q7⟩ := q
  exact ⟨q0, q1, q2, q3, va_K.moved (u := U) (U := U.calling g mk a) (Vm.Alike.refl U.vm) q4, q5, zOut.moved (u := U) (U := U.calling g mk a) (Vm.Alike.refl U.vm) q6, q7⟩
/-- what a callee finds -/
theorem zPre_of {G : zG} {own mn : String} {cc : ByteArray} {nL : Nat} {ret : Option FieldType} {n0 n : Nat} {mi : zFi} {ml : zFl} {mr : zFr} {p : Program} {s : State} {m : MethodId} {args : Array Value} {meth : Method} {c : Code} {H : Heap} {locs : List Loc} (hC : zCx G own mn cc nL ret n0 p s m args meth c) (hR : zRl G n mi ml mr s H locs) (hH : H.size = G.2.2.2.2.1 + n) :
    ∀ U : State, U.heap = H → s.WarmedH U.vm → zPre G n mi ml mr U := by
  intro U hU hW
  obtain ⟨hx, hb, hrt, hml, hown, hts, hlk, hmn, hsz, had, hout⟩ := hC
  obtain ⟨hS, hP, hD, hK, hF⟩ := hR
  refine ⟨by rw [hU]; exact hH, by rw [hU]; exact hP, hD, hK.moved hW.alike, hF, ?_, had⟩
  rw [hU]
  exact (hout.kept hS.1 (fun a h1 h2 => hS.2.1 a h1 h2)).moved hW.alike
section ZCALL
variable {G : zG} {R : Room} {QQ : zQQ} {own mn : String} {cc : ByteArray} {nL : Nat} {ret : Option FieldType} {n0 pc : Nat} {L st : List Value} {n : Nat} {mi : zFi} {ml : zFl} {mr : zFr}
variable {d np idx nL' n' : Nat} {y : MethodName} {cc' : ByteArray} {ret' : Option FieldType} {As rest : List Value} {Q : zQ}
/-- behind a call -/
theorem z_after {p : Program} {e : Env} {s : State} {m : MethodId} {args : Array Value} {below : List Frame} {meth : Method} {c : Code} {H : Heap} {locs : List Loc} {ls : Array Slot} {st0 : List Value} {a : Array Value} {T : State}
    (hC : zCx G own mn cc nL ret n0 p s m args meth c) (hR : zRl G n mi ml mr s H locs) (hL : zLs (zad G) ls nL L) (hn : n0 ≤ n) (hnn : n ≤ n')
    (hr : va_Run p G.1 e R s m args below meth c H locs (n - n0) (zSl n - zSl n0) (n' - n) (zSl n' - zSl n) (F0 m pc ls st0) (rest.map (zTv (zad G))) (zPost G n' Q a) (zA G)) (hT : T.heap = H) (X : Stand p G.1 e R s m args below meth c T locs (n - n0) (zSl n - zSl n0))
    (k : ∀ r mi' ml' mr', Q r mi' ml' mr' → zE G R QQ own mn cc nL ret n0 (pc + 3) L (r.toList ++ rest) n' mi' ml' mr') : ∃ t, Steps p.tables e below (T.setTop (F0 m pc ls st0)) t ∧ QQ below args s t := by
  obtain ⟨v, st₀, t, T', Lc, h0, X', hLc, e1, e2, ⟨⟨r, mi', ml', mr', hv, hq, hP', hD', hF'⟩, hz, hk⟩, step⟩ := hr T hT X
  injection hv with hv
  subst hv
  rw [h0] at hz hk
  have hle1 := zSl_le hn
  have hle2 := zSl_le hnn
  have c1 : n - n0 + (n' - n) = n' - n0 := by omega
  have c2 : zSl n - zSl n0 + (zSl n' - zSl n) = zSl n' - zSl n0 := by omega
  rw [c1, c2] at X'
  have hS' : va_S (zA G) s.heap T'.heap (locs ++ Lc) := ⟨Nat.le_trans hR.1.1 (by rw [e1]; exact hz), fun q h1 h2 => by rw [e1, hk q (Nat.lt_of_lt_of_le h1 hR.1.1) h2]; exact hR.1.2.1 q h1 h2, fun q hq => by
    rcases List.mem_append.mp hq with h | h
    · exact hR.1.2.2 q h
    · exact hLc q h⟩
  obtain ⟨t2, a1, b1⟩ := k r mi' ml' mr' hq p e s m args below meth c T'.heap (locs ++ Lc) ls hC ⟨hS', by rw [e1]; exact hP', hD', hR.2.2.2.1, hF'⟩ hL (by omega) T' rfl X'
  refine ⟨t2, step t2 ?_, b1⟩
  have e9 : (r.toList ++ rest).map (zTv (zad G)) = (r.map (zTv (zad G))).toList ++ rest.map (zTv (zad G)) := by
    cases r <;> simp
  rw [← e9]
  exact a1
theorem e_callS (hd : decode cc pc = .ok (.invokestatic idx, 3)) (hM : zMet G d y cc' nL' ret' As n mi ml mr n' Q) (hl : zML own idx y cc' nL' ret' np) (hst : Cond.static y ∈ zT) (hn9 : As.length = np) (hstk : st = As.reverse ++ rest) (hW : (rest.map fun v => v.category).sum ≤ 8) (hR1 : d + 1 ≤ R.frames) (hR2 : 8 + (nL' + 11) + 40 * d ≤ R.locals) (hnn : n ≤ n') (hn1 : n ≤ 1000) (hc : n' - n0 ≤ R.cells) (hs : zSl n' - zSl n0 ≤ R.slots)
    (k : ∀ r mi' ml' mr', Q r mi' ml' mr' → zE G R QQ own mn cc nL ret n0 (pc + 3) L (r.toList ++ rest) n' mi' ml' mr') : zE G R QQ own mn cc nL ret n0 pc L st n mi ml mr := by
  intro p e s m args below meth c H locs ls hC hR hL hn T hT X
  have hH := zSize hC hR hn hn1 hT rfl X
  have hC0 := hC
  obtain ⟨hx, hb, hrt, hml, hown, hts, hlk, hmn, hsz, had, hout⟩ := hC
  obtain ⟨l1, l2, l3, l4, l5⟩ := hl
  have hgood := zT_good l2
  have hpay := pay_in hts hgood
  have hle1 := zSl_le hn
  have hle2 := zSl_le hnn
  have hpre : PreS s H (va_Pc (As.map (zTv (zad G))) (zPre G n mi ml mr)) (As.map (zTv (zad G))) := ⟨zPre_blind, fun U hU hW => ⟨rfl, zPre_of hC0 hR hH U hU hW⟩⟩
  have hstk2 : (F0 m pc ls (st.map (zTv (zad G)))).stack = (As.map (zTv (zad G))).reverse ++ rest.map (zTv (zad G)) := by rw [hstk, List.map_append, List.map_reverse]
  have hlen : ∀ sig, parseMethodDescriptor y.desc = some sig → np = sig.parameters.length := fun sig h => by
    rw [h] at l5
    exact (Option.some.inj l5).symm
  have hW2 : 2 * (F0 m pc ls (st.map (zTv (zad G)))).monitorRoom + ((rest.map (zTv (zad G))).map fun v => v.category).sum ≤ 8 := lv_room (by rw [zTv_cats]; exact hW)
  refine z_after (a := (As.map (zTv (zad G))).toArray) hC0 hR hL hn hnn ?_ hT X k
  rcases l1 with hw | ⟨h, hw⟩
  · exact va_runS (Ts := zT) ⟨hx, hb, hml, hown, hts⟩ hM ⟨⟨rfl, rfl, hR1, hR2, hpay, List.mem_cons_self, hts _ l2, hts _ l3, l4, hlen, hts _ hw⟩, hts _ hst⟩ hpre rfl (by rw [List.length_map]; exact hn9) hL.1 hstk2 hW2 hd ⟨by omega, by omega⟩
  · exact va_runSN (Ts := zT) ⟨hx, hb, hml, hown, hts⟩ hM ⟨⟨⟨rfl, rfl, hR1, hR2, hpay, List.mem_cons_self⟩, hts _ l2, hts _ l3, l4, hlen, hts _ hw⟩, hts _ hst, trivial⟩ hpre rfl (by rw [List.length_map]; exact hn9) hL.1 hstk2 hW2 hd ⟨by omega, by omega⟩
theorem e_callV {r0 ci : Nat} {T0 : u_T} {N0 : Nat} (hd : decode cc pc = .ok (.invokevirtual idx, 3)) (hM : zMet G d y cc' nL' ret' (.ref r0 :: As) n mi ml mr n' Q) (hl : zML own idx y cc' nL' ret' np) (hin : Cond.instanceMethod y ∈ zT) (hse : Cond.selects y.cls y y ∈ zT) (hcl : vwCl[ci]? = some (y.cls, T0, N0)) (hk : zKD r0 = ci) (hr0 : r0 < n) (hn9 : As.length = np) (hstk : st = As.reverse ++ .ref r0 :: rest) (hW : (rest.map fun v => v.category).sum ≤ 8) (hR1 : d + 1 ≤ R.frames) (hR2 : 8 + (nL' + 11) + 40 * d ≤ R.locals) (hnn : n ≤ n') (hn1 : n ≤ 1000) (hc : n' - n0 ≤ R.cells) (hs : zSl n' - zSl n0 ≤ R.slots)
    (k : ∀ r mi' ml' mr', Q r mi' ml' mr' → zE G R QQ own mn cc nL ret n0 (pc + 3) L (r.toList ++ rest) n' mi' ml' mr') : zE G R QQ own mn cc nL ret n0 pc L st n mi ml mr := by
  intro p e s m args below meth c H locs ls hC hR hL hn T hT X
  have hH := zSize hC hR hn hn1 hT rfl X
  have hC0 := hC
  obtain ⟨hx, hb, hrt, hml, hown, hts, hlk, hmn, hsz, had, hout⟩ := hC
  obtain ⟨l1, l2, l3, l4, l5⟩ := hl
  have hgood := zT_good l2
  have hpay := pay_in hts hgood
  have hle1 := zSl_le hn
  have hle2 := zSl_le hnn
  have hlt : ci < 16 := by
    have := (List.getElem?_eq_some_iff.mp hcl).1
    have e : vwCl.length = 9 := rfl
    omega
  have he := zWs_get G mi ml mr hr0
  rw [zEnt_obj hk hlt] at he
  have hrecv := va_recv hR.2.2.2.1 hR.2.1 hcl he
  have hpre : PreV s H y.cls (zad G r0) (va_Pc ((Value.ref r0 :: As).map (zTv (zad G))) (zPre G n mi ml mr)) (As.map (zTv (zad G))) := ⟨zPre_blind, hrecv, fun U hU hW => ⟨rfl, zPre_of hC0 hR hH U hU hW⟩⟩
  have hstk2 : (F0 m pc ls (st.map (zTv (zad G)))).stack = (As.map (zTv (zad G))).reverse ++ .ref (zad G r0) :: rest.map (zTv (zad G)) := by rw [hstk, List.map_append, List.map_reverse]; rfl
  have hlen : ∀ sig, parseMethodDescriptor y.desc = some sig → np = sig.parameters.length := fun sig h => by
    rw [h] at l5
    exact (Option.some.inj l5).symm
  have hW2 : 2 * (F0 m pc ls (st.map (zTv (zad G)))).monitorRoom + ((rest.map (zTv (zad G))).map fun v => v.category).sum ≤ 8 := lv_room (by rw [zTv_cats]; exact hW)
  refine z_after (a := (Value.ref (zad G r0) :: As.map (zTv (zad G))).toArray) hC0 hR hL hn hnn ?_ hT X k
  rcases l1 with hw | ⟨h, hw⟩
  · exact va_runV (Ts := zT) ⟨hx, hb, hml, hown, hts⟩ hM ⟨⟨rfl, rfl, hR1, hR2, hpay, List.mem_cons_self, hts _ l2, hts _ l3, l4, hlen, hts _ hw⟩, hts _ hin, hts _ hse⟩ hpre rfl (by rw [List.length_map]; exact hn9) hL.1 hstk2 hW2 hd ⟨by omega, by omega⟩
  · exact va_runVN (Ts := zT) ⟨hx, hb, hml, hown, hts⟩ hM ⟨⟨⟨rfl, rfl, hR1, hR2, hpay, List.mem_cons_self⟩, hts _ l2, hts _ l3, l4, hlen, hts _ hw⟩, hts _ hin, hts _ hse⟩ hpre rfl (by rw [List.length_map]; exact hn9) hL.1 hstk2 hW2 hd ⟨by omega, by omega⟩
theorem e_callI {r0 : Nat} (hd : decode cc pc = .ok (.invokespecial idx, 3)) (hM : zMet G d y cc' nL' none (.ref r0 :: As) n mi ml mr n' Q) (hl : zML own idx y cc' nL' none np) (hin : Cond.instanceMethod y ∈ zT) (hy : y.name = "<init>") (hn9 : As.length = np) (hstk : st = As.reverse ++ .ref r0 :: rest) (hW : (rest.map fun v => v.category).sum ≤ 8) (hR1 : d + 1 ≤ R.frames) (hR2 : 8 + (nL' + 11) + 40 * d ≤ R.locals) (hnn : n ≤ n') (hn1 : n ≤ 1000) (hc : n' - n0 ≤ R.cells) (hs : zSl n' - zSl n0 ≤ R.slots)
    (k : ∀ r mi' ml' mr', Q r mi' ml' mr' → zE G R QQ own mn cc nL ret n0 (pc + 3) L (r.toList ++ rest) n' mi' ml' mr') : zE G R QQ own mn cc nL ret n0 pc L st n mi ml mr := by
  intro p e s m args below meth c H locs ls hC hR hL hn T hT X
  have hH := zSize hC hR hn hn1 hT rfl X
  have hC0 := hC
  obtain ⟨hx, hb, hrt, hml, hown, hts, hlk, hmn, hsz, had, hout⟩ := hC
  obtain ⟨l1, l2, l3, l4, l5⟩ := hl
  have hgood := zT_good l2
  have hpay := pay_in hts hgood
  have hle1 := zSl_le hn
  have hle2 := zSl_le hnn
  have hpre : PreS s H (va_Pc ((Value.ref r0 :: As).map (zTv (zad G))) (zPre G n mi ml mr)) (.ref (zad G r0) :: As.map (zTv (zad G))) := ⟨zPre_blind, fun U hU hW => ⟨rfl, zPre_of hC0 hR hH U hU hW⟩⟩
  have hstk2 : (F0 m pc ls (st.map (zTv (zad G)))).stack = (As.map (zTv (zad G))).reverse ++ .ref (zad G r0) :: rest.map (zTv (zad G)) := by rw [hstk, List.map_append, List.map_reverse]; rfl
  have hlen : ∀ sig, parseMethodDescriptor y.desc = some sig → np = sig.parameters.length := fun sig h => by
    rw [h] at l5
    exact (Option.some.inj l5).symm
  have hW2 : 2 * (F0 m pc ls (st.map (zTv (zad G)))).monitorRoom + ((rest.map (zTv (zad G))).map fun v => v.category).sum ≤ 8 := lv_room (by rw [zTv_cats]; exact hW)
  refine z_after (a := (Value.ref (zad G r0) :: As.map (zTv (zad G))).toArray) hC0 hR hL hn hnn ?_ hT X k
  rcases l1 with hw | ⟨h, hw⟩
  · exact va_runI (Ts := zT) ⟨hx, hb, hml, hown, hts⟩ hM ⟨⟨rfl, rfl, hR1, hR2, hpay, List.mem_cons_self, hts _ l2, hts _ l3, l4, hlen, hts _ hw⟩, hy, hts _ hin⟩ hpre rfl (by rw [List.length_map]; exact hn9) hL.1 hstk2 hW2 hd ⟨by omega, by omega⟩
  · exact va_runIN (Ts := zT) ⟨hx, hb, hml, hown, hts⟩ hM ⟨⟨⟨rfl, rfl, hR1, hR2, hpay, List.mem_cons_self⟩, hts _ l2, hts _ l3, l4, hlen, hts _ hw⟩, hy, hts _ hin⟩ hpre rfl (by rw [List.length_map]; exact hn9) hL.1 hstk2 hW2 hd ⟨by omega, by omega⟩
/-- Object.<init> -/
theorem e_objInit (pc' : Nat) {r0 : Nat} (hd : decode cc pc = .ok (.invokespecial idx, 3)) (hw1 : Cond.methodLink own idx Lib.objectInit ∈ zT) (hw2 : Cond.instanceMethod Lib.objectInit ∈ zT) (hw3 : Cond.code Lib.objectInit ⟨#[0xb1]⟩ 1 none ∈ zT) (hp : pc + 3 = pc') (hR1 : 1 ≤ R.frames) (hW : (rest.map fun v => v.category).sum + 12 ≤ R.locals) (k : zE G R QQ own mn cc nL ret n0 pc' L rest n mi ml mr) : zE G R QQ own mn cc nL ret n0 pc L (.ref r0 :: rest) n mi ml mr := by
  intro p e s m args below meth c H locs ls hC hR hL hn
  subst hp
  have K := k p e s m args below meth c H locs ls hC hR hL hn
  obtain ⟨hx, hb, hrt, hml, hown, hts, hlk, hmn, hsz, had, hout⟩ := hC
  refine W.objInit (rest := rest.map (zTv (zad G))) (a := zad G r0) hx hb hown (hts _ hw1) (hts _ hw2) (hts _ hw3) rfl (by rw [hml]; exact hL.1) rfl hd hR1 (by rw [zTv_cats]; show 2 * 0 + _ + 12 ≤ _; omega) ?_
  exact W.eq rfl K
/-- System.arraycopy between int arrays -/
theorem e_copy (pc' : Nat) {ra rb sp dp len : Nat} {isp idp ilen : Int32} (hd : decode cc pc = .ok (.invokestatic idx, 3)) (hw1 : Cond.methodLink own idx arraycopyName ∈ zT) (hw2 : Cond.native arraycopyName ∈ zT) (hw3 : Cond.static arraycopyName ∈ zT) (hw4 : Cond.initialized "java/lang/System" ∈ zT) (hp : pc + 3 = pc') (hka : zKD ra = 16) (hkb : zKD rb = 16) (hra : ra < n) (hrb : rb < n) (h1 : isp = nI sp) (h2 : idp = nI dp) (h3 : ilen = nI len) (h4 : sp + len ≤ zLN ra) (h5 : dp + len ≤ zLN rb) (hfr : 1 ≤ R.frames) (hlo : (rest.map fun v => v.category).sum + (nativeFrameWords "java/lang/System" "arraycopy" 5 + 11) ≤ R.locals)
    (k : zE G R QQ own mn cc nL ret n0 pc' L rest n (zu mi rb (va_cpy (mi ra) (mi rb) sp dp len)) ml mr) : zE G R QQ own mn cc nL ret n0 pc L (.int ilen :: .int idp :: .ref rb :: .int isp :: .ref ra :: rest) n mi ml mr := by
  intro p e s m args below meth c H locs ls hC hR hL hn
  subst hp
  subst h1
  subst h2
  subst h3
  have hC0 := hC
  obtain ⟨hx, hb, hrt, hml, hown, hts, hlk, hmn, hsz, had, hout⟩ := hC
  have ba := zLN_le ra
  have bb := zLN_le rb
  have hea := zWs_get G mi ml mr hra
  have heb := zWs_get G mi ml mr hrb
  rw [zEnt_int hka (by decide) (by decide)] at hea
  rw [zEnt_int hkb (by decide) (by decide)] at heb
  have c1 : (nI sp).toNatClampNeg = sp := nI_clamp (by omega)
  have c2 : (nI dp).toNatClampNeg = dp := nI_clamp (by omega)
  have c3 : (nI len).toNatClampNeg = len := nI_clamp (by omega)
  refine va_copyi (rest := rest.map (zTv (zad G))) hx hb (by rw [hml]; exact hL.1.symm) hown (hts _ hw1) (hts _ hw2) (hts _ hw3) (hts _ hw4) hR.2.2.2.1 hR.2.1 hR.2.2.1 hR.1 ra rb 0 0 hea heb rfl rfl rfl (nI_pos (by omega)) (nI_pos (by omega)) (nI_pos (by omega)) (by rw [c1, c3]; exact h4) (by rw [c2, c3]; exact h5) (fun i hi => rfl) hfr (by rw [zTv_cats]; exact hlo) hd (fun H1 locs1 hP hD hS => ?_)
  rw [c1, c2, c3] at hP hD
  exact k p e s m args below meth c H1 locs1 ls hC0 (zRl_set hR hrb (by rw [zEnt_int hkb (by decide) (by decide), zu_s]) (fun q h => ⟨zu_n _ _ h, rfl, rfl⟩) hP hD hS) hL hn
/-- a reference into an array of them -/
theorem e_aast (pc' : Nat) {r j v : Nat} {i : Int32} (hd : decode cc pc = .ok (.aastore, 1)) (hp : pc + 1 = pc') (hk : (zKD r = 19 ∧ zKD v = 2) ∨ (zKD r = 20 ∧ zKD v = 3)) (hr : r < n) (hv : v < n) (hi : i = nI j) (hj : j < zLN r) (k : zE G R QQ own mn cc nL ret n0 pc' L st n mi ml (zp mr r j (some v))) : zE G R QQ own mn cc nL ret n0 pc L (.ref v :: .int i :: .ref r :: st) n mi ml mr := by
  intro p e s m args below meth c H locs ls hC hR hL hn
  subst hp
  subst hi
  have hb9 := zLN_le r
  have hcl : (nI j).toNatClampNeg = j := nI_clamp (by omega)
  have hin : vp_in (nI j) (zLN r) := vp_in_nI hj (by omega)
  have he := zWs_get G mi ml mr hr
  have hv9 := zWs_get G mi ml mr hv
  have fin : ∀ kd, zKD r = kd → 19 ≤ kd → ∀ (H1 : Heap) (locs1 : List Loc), va_P G.2.1 vwCl ((zWs G n mi ml mr).set r (zad G r, .inl (G.2.2.1 (kd - 16), zLN r, .inr (.inr (.inr (.inr (va_up (fun x => (mr r x).map (zad G)) (nI j).toNatClampNeg (some (zad G v))))))))) H1 → va_D (zA G) ((zWs G n mi ml mr).set r (zad G r, .inl (G.2.2.1 (kd - 16), zLN r, .inr (.inr (.inr (.inr (va_up (fun x => (mr r x).map (zad G)) (nI j).toNatClampNeg (some (zad G v))))))))) → va_S (zA G) s.heap H1 locs1 →
      W p G.1 e R s m args below meth c H1 locs1 (n - n0) (zSl n - zSl n0) (QQ below args s) (F0 m (pc + 1) ls (st.map (zTv (zad G)))) := by
    intro kd hkd hge H1 locs1 hP hD hS
    refine k p e s m args below meth c H1 locs1 ls hC (zRl_set hR hr ?_ (fun q h => ⟨rfl, rfl, zp_r _ _ _ h⟩) hP hD hS) hL hn
    rw [zEnt_ref hkd hge, zp_row, hcl]
    congr 1
    congr 1
    congr 1
    congr 1
    congr 1
    congr 1
    congr 1
    funext x
    by_cases hx : x = j
    · subst hx
      simp [zu, va_up]
    · simp [zu, va_up, hx]
  rcases hk with ⟨h1, h2⟩ | ⟨h1, h2⟩
  · rw [zEnt_ref h1 (by decide)] at he
    rw [zEnt_obj h2 (by decide)] at hv9
    exact va_astq (r := (RX2, TX2, 4)) hC.1 hC.2.1 hR.2.2.2.1 hR.2.1 hR.2.2.1 hR.1 r 3 v 2 he rfl hv9 rfl hin hd (fin 19 h1 (by decide))
  · rw [zEnt_ref h1 (by decide)] at he
    rw [zEnt_obj h2 (by decide)] at hv9
    exact va_astq (r := (RX3, TX3, 4)) hC.1 hC.2.1 hR.2.2.2.1 hR.2.1 hR.2.2.1 hR.1 r 4 v 3 he rfl hv9 rfl hin hd (fin 20 h1 (by decide))
end ZCALL
end
