section
-- ===== PART A: goes FIRST, ahead of the names: the tables' words, and 'selects' of the private methods out of them =====
/-- a private method of a class that the tables say can be made, by its rows of tables_1 -/
def lw_okq (q : MethodName × Nat) : Prop := (q.1.cls ≠ "java/lang/invoke/MethodHandle" ∧ q.1.cls ≠ "java/lang/invoke/VarHandle") ∧ Cond.instantiable q.1.cls q.2 ∈ tables_1 ∧ Cond.privateMethod q.1 ∈ tables_1 ∧ Cond.instanceMethod q.1 ∈ tables_1
theorem lw_p0 : lw_okq (⟨"LeastSolutions", "buildNext", "()I"⟩, 16) := ⟨⟨by decide +kernel, by decide +kernel⟩, List.mem_of_getElem? (i := 23) (by decide +kernel), List.mem_of_getElem? (i := 357) (by decide +kernel), List.mem_of_getElem? (i := 358) (by decide +kernel)⟩
theorem lw_p1 : lw_okq (⟨"LeastSolutions$Words", "add", "(LLeastSolutions$Text;I)Z"⟩, 7) := ⟨⟨by decide +kernel, by decide +kernel⟩, List.mem_of_getElem? (i := 47) (by decide +kernel), List.mem_of_getElem? (i := 369) (by decide +kernel), List.mem_of_getElem? (i := 370) (by decide +kernel)⟩
theorem lw_p2 : lw_okq (⟨"LeastSolutions$Words", "stateAfter", "(I)I"⟩, 7) := ⟨⟨by decide +kernel, by decide +kernel⟩, List.mem_of_getElem? (i := 47) (by decide +kernel), List.mem_of_getElem? (i := 382) (by decide +kernel), List.mem_of_getElem? (i := 383) (by decide +kernel)⟩
theorem lw_p3 : lw_okq (⟨"LeastSolutions$Words", "isSumWhole", "()Z"⟩, 7) := ⟨⟨by decide +kernel, by decide +kernel⟩, List.mem_of_getElem? (i := 47) (by decide +kernel), List.mem_of_getElem? (i := 386) (by decide +kernel), List.mem_of_getElem? (i := 387) (by decide +kernel)⟩
theorem lw_p4 : lw_okq (⟨"LeastSolutions$Builder", "beginRow", "(I)I"⟩, 8) := ⟨⟨by decide +kernel, by decide +kernel⟩, List.mem_of_getElem? (i := 81) (by decide +kernel), List.mem_of_getElem? (i := 410) (by decide +kernel), List.mem_of_getElem? (i := 411) (by decide +kernel)⟩
theorem lw_p5 : lw_okq (⟨"LeastSolutions$Builder", "fault", "(II)I"⟩, 8) := ⟨⟨by decide +kernel, by decide +kernel⟩, List.mem_of_getElem? (i := 81) (by decide +kernel), List.mem_of_getElem? (i := 414) (by decide +kernel), List.mem_of_getElem? (i := 415) (by decide +kernel)⟩
theorem lw_p6 : lw_okq (⟨"LeastSolutions$Builder", "beginTerm", "(I)V"⟩, 8) := ⟨⟨by decide +kernel, by decide +kernel⟩, List.mem_of_getElem? (i := 81) (by decide +kernel), List.mem_of_getElem? (i := 418) (by decide +kernel), List.mem_of_getElem? (i := 419) (by decide +kernel)⟩
theorem lw_p7 : lw_okq (⟨"LeastSolutions$Builder", "add", "(III)I"⟩, 8) := ⟨⟨by decide +kernel, by decide +kernel⟩, List.mem_of_getElem? (i := 81) (by decide +kernel), List.mem_of_getElem? (i := 422) (by decide +kernel), List.mem_of_getElem? (i := 423) (by decide +kernel)⟩
theorem lw_p8 : lw_okq (⟨"LeastSolutions$Builder", "addVariable", "(II)I"⟩, 8) := ⟨⟨by decide +kernel, by decide +kernel⟩, List.mem_of_getElem? (i := 81) (by decide +kernel), List.mem_of_getElem? (i := 426) (by decide +kernel), List.mem_of_getElem? (i := 427) (by decide +kernel)⟩
theorem lw_p9 : lw_okq (⟨"LeastSolutions$Builder", "endTerm", "()V"⟩, 8) := ⟨⟨by decide +kernel, by decide +kernel⟩, List.mem_of_getElem? (i := 81) (by decide +kernel), List.mem_of_getElem? (i := 442) (by decide +kernel), List.mem_of_getElem? (i := 443) (by decide +kernel)⟩
theorem lw_p10 : lw_okq (⟨"LeastSolutions$Builder", "endRow", "()I"⟩, 8) := ⟨⟨by decide +kernel, by decide +kernel⟩, List.mem_of_getElem? (i := 81) (by decide +kernel), List.mem_of_getElem? (i := 446) (by decide +kernel), List.mem_of_getElem? (i := 447) (by decide +kernel)⟩
theorem lw_p11 : lw_okq (⟨"LeastSolutions", "takeNext", "()V"⟩, 16) := ⟨⟨by decide +kernel, by decide +kernel⟩, List.mem_of_getElem? (i := 23) (by decide +kernel), List.mem_of_getElem? (i := 466) (by decide +kernel), List.mem_of_getElem? (i := 467) (by decide +kernel)⟩
theorem lw_p12 : lw_okq (⟨"LeastSolutions$Lattice", "insertFresh", "()V"⟩, 9) := ⟨⟨by decide +kernel, by decide +kernel⟩, List.mem_of_getElem? (i := 160) (by decide +kernel), List.mem_of_getElem? (i := 483) (by decide +kernel), List.mem_of_getElem? (i := 484) (by decide +kernel)⟩
theorem lw_p13 : lw_okq (⟨"LeastSolutions$Lattice", "placeFresh", "(I)V"⟩, 9) := ⟨⟨by decide +kernel, by decide +kernel⟩, List.mem_of_getElem? (i := 160) (by decide +kernel), List.mem_of_getElem? (i := 487) (by decide +kernel), List.mem_of_getElem? (i := 488) (by decide +kernel)⟩
theorem lw_p14 : lw_okq (⟨"LeastSolutions$Lattice", "swapFresh", "(I)V"⟩, 9) := ⟨⟨by decide +kernel, by decide +kernel⟩, List.mem_of_getElem? (i := 160) (by decide +kernel), List.mem_of_getElem? (i := 491) (by decide +kernel), List.mem_of_getElem? (i := 492) (by decide +kernel)⟩
theorem lw_p15 : lw_okq (⟨"LeastSolutions$Lattice", "makeLeadPositive", "(II)V"⟩, 9) := ⟨⟨by decide +kernel, by decide +kernel⟩, List.mem_of_getElem? (i := 160) (by decide +kernel), List.mem_of_getElem? (i := 495) (by decide +kernel), List.mem_of_getElem? (i := 496) (by decide +kernel)⟩
def lw_privs_1 : List (MethodName × Nat) := [(⟨"LeastSolutions", "buildNext", "()I"⟩, 16), (⟨"LeastSolutions$Words", "add", "(LLeastSolutions$Text;I)Z"⟩, 7), (⟨"LeastSolutions$Words", "stateAfter", "(I)I"⟩, 7), (⟨"LeastSolutions$Words", "isSumWhole", "()Z"⟩, 7), (⟨"LeastSolutions$Builder", "beginRow", "(I)I"⟩, 8), (⟨"LeastSolutions$Builder", "fault", "(II)I"⟩, 8), (⟨"LeastSolutions$Builder", "beginTerm", "(I)V"⟩, 8), (⟨"LeastSolutions$Builder", "add", "(III)I"⟩, 8), (⟨"LeastSolutions$Builder", "addVariable", "(II)I"⟩, 8), (⟨"LeastSolutions$Builder", "endTerm", "()V"⟩, 8), (⟨"LeastSolutions$Builder", "endRow", "()I"⟩, 8), (⟨"LeastSolutions", "takeNext", "()V"⟩, 16), (⟨"LeastSolutions$Lattice", "insertFresh", "()V"⟩, 9), (⟨"LeastSolutions$Lattice", "placeFresh", "(I)V"⟩, 9), (⟨"LeastSolutions$Lattice", "swapFresh", "(I)V"⟩, 9), (⟨"LeastSolutions$Lattice", "makeLeadPositive", "(II)V"⟩, 9)]
theorem lw_r1 : ∀ q ∈ lw_privs_1, lw_okq q := List.forall_mem_cons.mpr ⟨lw_p0, List.forall_mem_cons.mpr ⟨lw_p1, List.forall_mem_cons.mpr ⟨lw_p2, List.forall_mem_cons.mpr ⟨lw_p3, List.forall_mem_cons.mpr ⟨lw_p4, List.forall_mem_cons.mpr ⟨lw_p5, List.forall_mem_cons.mpr ⟨lw_p6, List.forall_mem_cons.mpr ⟨lw_p7, List.forall_mem_cons.mpr ⟨lw_p8, List.forall_mem_cons.mpr ⟨lw_p9, List.forall_mem_cons.mpr ⟨lw_p10, List.forall_mem_cons.mpr ⟨lw_p11, List.forall_mem_cons.mpr ⟨lw_p12, List.forall_mem_cons.mpr ⟨lw_p13, List.forall_mem_cons.mpr ⟨lw_p14, List.forall_mem_cons.mpr ⟨lw_p15, fun _ h => absurd h List.not_mem_nil⟩⟩⟩⟩⟩⟩⟩⟩⟩⟩⟩⟩⟩⟩⟩⟩
theorem lw_p16 : lw_okq (⟨"LeastSolutions$Lattice", "joinFresh", "(II)V"⟩, 9) := ⟨⟨by decide +kernel, by decide +kernel⟩, List.mem_of_getElem? (i := 160) (by decide +kernel), List.mem_of_getElem? (i := 499) (by decide +kernel), List.mem_of_getElem? (i := 500) (by decide +kernel)⟩
theorem lw_p17 : lw_okq (⟨"LeastSolutions$Lattice", "takeTimes", "([J[JJ)V"⟩, 9) := ⟨⟨by decide +kernel, by decide +kernel⟩, List.mem_of_getElem? (i := 160) (by decide +kernel), List.mem_of_getElem? (i := 503) (by decide +kernel), List.mem_of_getElem? (i := 504) (by decide +kernel)⟩
theorem lw_p18 : lw_okq (⟨"LeastSolutions$Lattice", "reduce", "([JI)V"⟩, 9) := ⟨⟨by decide +kernel, by decide +kernel⟩, List.mem_of_getElem? (i := 160) (by decide +kernel), List.mem_of_getElem? (i := 507) (by decide +kernel), List.mem_of_getElem? (i := 508) (by decide +kernel)⟩
theorem lw_p19 : lw_okq (⟨"LeastSolutions$Lattice", "reduceAll", "()V"⟩, 9) := ⟨⟨by decide +kernel, by decide +kernel⟩, List.mem_of_getElem? (i := 160) (by decide +kernel), List.mem_of_getElem? (i := 514) (by decide +kernel), List.mem_of_getElem? (i := 515) (by decide +kernel)⟩
theorem lw_p20 : lw_okq (⟨"LeastSolutions$Lattice", "findKernel", "()V"⟩, 9) := ⟨⟨by decide +kernel, by decide +kernel⟩, List.mem_of_getElem? (i := 160) (by decide +kernel), List.mem_of_getElem? (i := 518) (by decide +kernel), List.mem_of_getElem? (i := 519) (by decide +kernel)⟩
theorem lw_p21 : lw_okq (⟨"LeastSolutions", "canSplit", "()Z"⟩, 16) := ⟨⟨by decide +kernel, by decide +kernel⟩, List.mem_of_getElem? (i := 23) (by decide +kernel), List.mem_of_getElem? (i := 544) (by decide +kernel), List.mem_of_getElem? (i := 545) (by decide +kernel)⟩
theorem lw_p22 : lw_okq (⟨"LeastSolutions", "takeOften", "(I)I"⟩, 16) := ⟨⟨by decide +kernel, by decide +kernel⟩, List.mem_of_getElem? (i := 23) (by decide +kernel), List.mem_of_getElem? (i := 578) (by decide +kernel), List.mem_of_getElem? (i := 579) (by decide +kernel)⟩
theorem lw_p23 : lw_okq (⟨"LeastSolutions", "hasColumn", "(I)Z"⟩, 16) := ⟨⟨by decide +kernel, by decide +kernel⟩, List.mem_of_getElem? (i := 23) (by decide +kernel), List.mem_of_getElem? (i := 595) (by decide +kernel), List.mem_of_getElem? (i := 596) (by decide +kernel)⟩
theorem lw_p24 : lw_okq (⟨"java/lang/Throwable", "fillInStackTrace", "(I)Ljava/lang/Throwable;"⟩, 6) := ⟨⟨by decide +kernel, by decide +kernel⟩, List.mem_of_getElem? (i := 646) (by decide +kernel), List.mem_of_getElem? (i := 644) (by decide +kernel), List.mem_of_getElem? (i := 645) (by decide +kernel)⟩
theorem lw_p25 : lw_okq (⟨"LeastSolutions", "needSystem", "()V"⟩, 16) := ⟨⟨by decide +kernel, by decide +kernel⟩, List.mem_of_getElem? (i := 23) (by decide +kernel), List.mem_of_getElem? (i := 679) (by decide +kernel), List.mem_of_getElem? (i := 680) (by decide +kernel)⟩
theorem lw_p26 : lw_okq (⟨"LeastSolutions$Lattice", "takeFromTarget", "(I)Z"⟩, 9) := ⟨⟨by decide +kernel, by decide +kernel⟩, List.mem_of_getElem? (i := 160) (by decide +kernel), List.mem_of_getElem? (i := 702) (by decide +kernel), List.mem_of_getElem? (i := 703) (by decide +kernel)⟩
theorem lw_p27 : lw_okq (⟨"LeastSolutions", "needColumn", "(I)V"⟩, 16) := ⟨⟨by decide +kernel, by decide +kernel⟩, List.mem_of_getElem? (i := 23) (by decide +kernel), List.mem_of_getElem? (i := 720) (by decide +kernel), List.mem_of_getElem? (i := 721) (by decide +kernel)⟩
theorem lw_p28 : lw_okq (⟨"LeastSolutions$Search", "findReach", "(I)V"⟩, 8) := ⟨⟨by decide +kernel, by decide +kernel⟩, List.mem_of_getElem? (i := 198) (by decide +kernel), List.mem_of_getElem? (i := 764) (by decide +kernel), List.mem_of_getElem? (i := 765) (by decide +kernel)⟩
theorem lw_p29 : lw_okq (⟨"LeastSolutions$Search", "fill", "(IIZLLeastSolutions$Taker;)Z"⟩, 8) := ⟨⟨by decide +kernel, by decide +kernel⟩, List.mem_of_getElem? (i := 198) (by decide +kernel), List.mem_of_getElem? (i := 786) (by decide +kernel), List.mem_of_getElem? (i := 787) (by decide +kernel)⟩
theorem lw_p30 : lw_okq (⟨"LeastSolutions$Search", "canBeFilled", "(II)Z"⟩, 8) := ⟨⟨by decide +kernel, by decide +kernel⟩, List.mem_of_getElem? (i := 198) (by decide +kernel), List.mem_of_getElem? (i := 790) (by decide +kernel), List.mem_of_getElem? (i := 791) (by decide +kernel)⟩
theorem lw_p31 : lw_okq (⟨"LeastSolutions$Cheapest", "priceOf", "([I)I"⟩, 5) := ⟨⟨by decide +kernel, by decide +kernel⟩, List.mem_of_getElem? (i := 232) (by decide +kernel), List.mem_of_getElem? (i := 800) (by decide +kernel), List.mem_of_getElem? (i := 801) (by decide +kernel)⟩
def lw_privs_2 : List (MethodName × Nat) := [(⟨"LeastSolutions$Lattice", "joinFresh", "(II)V"⟩, 9), (⟨"LeastSolutions$Lattice", "takeTimes", "([J[JJ)V"⟩, 9), (⟨"LeastSolutions$Lattice", "reduce", "([JI)V"⟩, 9), (⟨"LeastSolutions$Lattice", "reduceAll", "()V"⟩, 9), (⟨"LeastSolutions$Lattice", "findKernel", "()V"⟩, 9), (⟨"LeastSolutions", "canSplit", "()Z"⟩, 16), (⟨"LeastSolutions", "takeOften", "(I)I"⟩, 16), (⟨"LeastSolutions", "hasColumn", "(I)Z"⟩, 16), (⟨"java/lang/Throwable", "fillInStackTrace", "(I)Ljava/lang/Throwable;"⟩, 6), (⟨"LeastSolutions", "needSystem", "()V"⟩, 16), (⟨"LeastSolutions$Lattice", "takeFromTarget", "(I)Z"⟩, 9), (⟨"LeastSolutions", "needColumn", "(I)V"⟩, 16), (⟨"LeastSolutions$Search", "findReach", "(I)V"⟩, 8), (⟨"LeastSolutions$Search", "fill", "(IIZLLeastSolutions$Taker;)Z"⟩, 8), (⟨"LeastSolutions$Search", "canBeFilled", "(II)Z"⟩, 8), (⟨"LeastSolutions$Cheapest", "priceOf", "([I)I"⟩, 5)]
theorem lw_r2 : ∀ q ∈ lw_privs_2, lw_okq q := List.forall_mem_cons.mpr ⟨lw_p16, List.forall_mem_cons.mpr ⟨lw_p17, List.forall_mem_cons.mpr ⟨lw_p18, List.forall_mem_cons.mpr ⟨lw_p19, List.forall_mem_cons.mpr ⟨lw_p20, List.forall_mem_cons.mpr ⟨lw_p21, List.forall_mem_cons.mpr ⟨lw_p22, List.forall_mem_cons.mpr ⟨lw_p23, List.forall_mem_cons.mpr ⟨lw_p24, List.forall_mem_cons.mpr ⟨lw_p25, List.forall_mem_cons.mpr ⟨lw_p26, List.forall_mem_cons.mpr ⟨lw_p27, List.forall_mem_cons.mpr ⟨lw_p28, List.forall_mem_cons.mpr ⟨lw_p29, List.forall_mem_cons.mpr ⟨lw_p30, List.forall_mem_cons.mpr ⟨lw_p31, fun _ h => absurd h List.not_mem_nil⟩⟩⟩⟩⟩⟩⟩⟩⟩⟩⟩⟩⟩⟩⟩⟩
theorem lw_p32 : lw_okq (⟨"LeastSolutions$Cheapest", "isBefore", "([I)Z"⟩, 5) := ⟨⟨by decide +kernel, by decide +kernel⟩, List.mem_of_getElem? (i := 232) (by decide +kernel), List.mem_of_getElem? (i := 804) (by decide +kernel), List.mem_of_getElem? (i := 805) (by decide +kernel)⟩
theorem lw_p33 : lw_okq (⟨"LeastSolutions$VectorList", "hasOneWithin", "([I)Z"⟩, 6) := ⟨⟨by decide +kernel, by decide +kernel⟩, List.mem_of_getElem? (i := 262) (by decide +kernel), List.mem_of_getElem? (i := 812) (by decide +kernel), List.mem_of_getElem? (i := 813) (by decide +kernel)⟩
theorem lw_p34 : lw_okq (⟨"LeastSolutions$Search", "put", "(II)V"⟩, 8) := ⟨⟨by decide +kernel, by decide +kernel⟩, List.mem_of_getElem? (i := 198) (by decide +kernel), List.mem_of_getElem? (i := 817) (by decide +kernel), List.mem_of_getElem? (i := 818) (by decide +kernel)⟩
theorem lw_p35 : lw_okq (⟨"LeastSolutionsModel", "cut", "()V"⟩, 36) := ⟨⟨by decide +kernel, by decide +kernel⟩, List.mem_of_getElem? (i := 880) (by decide +kernel), List.mem_of_getElem? (i := 1012) (by decide +kernel), List.mem_of_getElem? (i := 1013) (by decide +kernel)⟩
theorem lw_p36 : lw_okq (⟨"LeastSolutionsModel", "letter0", "(I)I"⟩, 36) := ⟨⟨by decide +kernel, by decide +kernel⟩, List.mem_of_getElem? (i := 880) (by decide +kernel), List.mem_of_getElem? (i := 1016) (by decide +kernel), List.mem_of_getElem? (i := 1017) (by decide +kernel)⟩
theorem lw_p37 : lw_okq (⟨"LeastSolutionsModel", "word", "(III)V"⟩, 36) := ⟨⟨by decide +kernel, by decide +kernel⟩, List.mem_of_getElem? (i := 880) (by decide +kernel), List.mem_of_getElem? (i := 1020) (by decide +kernel), List.mem_of_getElem? (i := 1021) (by decide +kernel)⟩
theorem lw_p38 : lw_okq (⟨"LeastSolutionsModel", "bad", "()I"⟩, 36) := ⟨⟨by decide +kernel, by decide +kernel⟩, List.mem_of_getElem? (i := 880) (by decide +kernel), List.mem_of_getElem? (i := 1024) (by decide +kernel), List.mem_of_getElem? (i := 1025) (by decide +kernel)⟩
theorem lw_p39 : lw_okq (⟨"LeastSolutionsModel", "fault", "(II)I"⟩, 36) := ⟨⟨by decide +kernel, by decide +kernel⟩, List.mem_of_getElem? (i := 880) (by decide +kernel), List.mem_of_getElem? (i := 1028) (by decide +kernel), List.mem_of_getElem? (i := 1029) (by decide +kernel)⟩
theorem lw_p40 : lw_okq (⟨"LeastSolutionsModel", "build", "()I"⟩, 36) := ⟨⟨by decide +kernel, by decide +kernel⟩, List.mem_of_getElem? (i := 880) (by decide +kernel), List.mem_of_getElem? (i := 1032) (by decide +kernel), List.mem_of_getElem? (i := 1033) (by decide +kernel)⟩
theorem lw_p41 : lw_okq (⟨"LeastSolutionsModel", "draftColumn", "(I)I"⟩, 36) := ⟨⟨by decide +kernel, by decide +kernel⟩, List.mem_of_getElem? (i := 880) (by decide +kernel), List.mem_of_getElem? (i := 1036) (by decide +kernel), List.mem_of_getElem? (i := 1037) (by decide +kernel)⟩
theorem lw_p42 : lw_okq (⟨"LeastSolutionsModel", "take", "()V"⟩, 36) := ⟨⟨by decide +kernel, by decide +kernel⟩, List.mem_of_getElem? (i := 880) (by decide +kernel), List.mem_of_getElem? (i := 1040) (by decide +kernel), List.mem_of_getElem? (i := 1041) (by decide +kernel)⟩
theorem lw_p43 : lw_okq (⟨"LeastSolutionsModel", "solveWhole", "()V"⟩, 36) := ⟨⟨by decide +kernel, by decide +kernel⟩, List.mem_of_getElem? (i := 880) (by decide +kernel), List.mem_of_getElem? (i := 1064) (by decide +kernel), List.mem_of_getElem? (i := 1065) (by decide +kernel)⟩
theorem lw_p44 : lw_okq (⟨"LeastSolutionsModel", "narrow", "(I)V"⟩, 36) := ⟨⟨by decide +kernel, by decide +kernel⟩, List.mem_of_getElem? (i := 880) (by decide +kernel), List.mem_of_getElem? (i := 1068) (by decide +kernel), List.mem_of_getElem? (i := 1069) (by decide +kernel)⟩
theorem lw_p45 : lw_okq (⟨"LeastSolutionsModel", "dot", "(I[JI)J"⟩, 36) := ⟨⟨by decide +kernel, by decide +kernel⟩, List.mem_of_getElem? (i := 880) (by decide +kernel), List.mem_of_getElem? (i := 1072) (by decide +kernel), List.mem_of_getElem? (i := 1073) (by decide +kernel)⟩
theorem lw_p46 : lw_okq (⟨"LeastSolutionsModel", "exchange", "(II)V"⟩, 36) := ⟨⟨by decide +kernel, by decide +kernel⟩, List.mem_of_getElem? (i := 880) (by decide +kernel), List.mem_of_getElem? (i := 1079) (by decide +kernel), List.mem_of_getElem? (i := 1080) (by decide +kernel)⟩
theorem lw_p47 : lw_okq (⟨"LeastSolutionsModel", "lose", "(IIJ)V"⟩, 36) := ⟨⟨by decide +kernel, by decide +kernel⟩, List.mem_of_getElem? (i := 880) (by decide +kernel), List.mem_of_getElem? (i := 1083) (by decide +kernel), List.mem_of_getElem? (i := 1084) (by decide +kernel)⟩
def lw_privs_3 : List (MethodName × Nat) := [(⟨"LeastSolutions$Cheapest", "isBefore", "([I)Z"⟩, 5), (⟨"LeastSolutions$VectorList", "hasOneWithin", "([I)Z"⟩, 6), (⟨"LeastSolutions$Search", "put", "(II)V"⟩, 8), (⟨"LeastSolutionsModel", "cut", "()V"⟩, 36), (⟨"LeastSolutionsModel", "letter0", "(I)I"⟩, 36), (⟨"LeastSolutionsModel", "word", "(III)V"⟩, 36), (⟨"LeastSolutionsModel", "bad", "()I"⟩, 36), (⟨"LeastSolutionsModel", "fault", "(II)I"⟩, 36), (⟨"LeastSolutionsModel", "build", "()I"⟩, 36), (⟨"LeastSolutionsModel", "draftColumn", "(I)I"⟩, 36), (⟨"LeastSolutionsModel", "take", "()V"⟩, 36), (⟨"LeastSolutionsModel", "solveWhole", "()V"⟩, 36), (⟨"LeastSolutionsModel", "narrow", "(I)V"⟩, 36), (⟨"LeastSolutionsModel", "dot", "(I[JI)J"⟩, 36), (⟨"LeastSolutionsModel", "exchange", "(II)V"⟩, 36), (⟨"LeastSolutionsModel", "lose", "(IIJ)V"⟩, 36)]
theorem lw_r3 : ∀ q ∈ lw_privs_3, lw_okq q := List.forall_mem_cons.mpr ⟨lw_p32, List.forall_mem_cons.mpr ⟨lw_p33, List.forall_mem_cons.mpr ⟨lw_p34, List.forall_mem_cons.mpr ⟨lw_p35, List.forall_mem_cons.mpr ⟨lw_p36, List.forall_mem_cons.mpr ⟨lw_p37, List.forall_mem_cons.mpr ⟨lw_p38, List.forall_mem_cons.mpr ⟨lw_p39, List.forall_mem_cons.mpr ⟨lw_p40, List.forall_mem_cons.mpr ⟨lw_p41, List.forall_mem_cons.mpr ⟨lw_p42, List.forall_mem_cons.mpr ⟨lw_p43, List.forall_mem_cons.mpr ⟨lw_p44, List.forall_mem_cons.mpr ⟨lw_p45, List.forall_mem_cons.mpr ⟨lw_p46, List.forall_mem_cons.mpr ⟨lw_p47, fun _ h => absurd h List.not_mem_nil⟩⟩⟩⟩⟩⟩⟩⟩⟩⟩⟩⟩⟩⟩⟩⟩
theorem lw_p48 : lw_okq (⟨"LeastSolutionsModel", "order", "()V"⟩, 36) := ⟨⟨by decide +kernel, by decide +kernel⟩, List.mem_of_getElem? (i := 880) (by decide +kernel), List.mem_of_getElem? (i := 1087) (by decide +kernel), List.mem_of_getElem? (i := 1088) (by decide +kernel)⟩
theorem lw_p49 : lw_okq (⟨"LeastSolutionsModel", "gather", "(II)Z"⟩, 36) := ⟨⟨by decide +kernel, by decide +kernel⟩, List.mem_of_getElem? (i := 880) (by decide +kernel), List.mem_of_getElem? (i := 1091) (by decide +kernel), List.mem_of_getElem? (i := 1092) (by decide +kernel)⟩
theorem lw_p50 : lw_okq (⟨"LeastSolutionsModel", "turn", "(I)V"⟩, 36) := ⟨⟨by decide +kernel, by decide +kernel⟩, List.mem_of_getElem? (i := 880) (by decide +kernel), List.mem_of_getElem? (i := 1095) (by decide +kernel), List.mem_of_getElem? (i := 1096) (by decide +kernel)⟩
theorem lw_p51 : lw_okq (⟨"LeastSolutionsModel", "shorten", "()V"⟩, 36) := ⟨⟨by decide +kernel, by decide +kernel⟩, List.mem_of_getElem? (i := 880) (by decide +kernel), List.mem_of_getElem? (i := 1099) (by decide +kernel), List.mem_of_getElem? (i := 1100) (by decide +kernel)⟩
theorem lw_p52 : lw_okq (⟨"LeastSolutionsModel", "isColumn", "(I)Z"⟩, 36) := ⟨⟨by decide +kernel, by decide +kernel⟩, List.mem_of_getElem? (i := 880) (by decide +kernel), List.mem_of_getElem? (i := 1111) (by decide +kernel), List.mem_of_getElem? (i := 1112) (by decide +kernel)⟩
theorem lw_p53 : lw_okq (⟨"LeastSolutionsModel", "most", "(I)I"⟩, 36) := ⟨⟨by decide +kernel, by decide +kernel⟩, List.mem_of_getElem? (i := 880) (by decide +kernel), List.mem_of_getElem? (i := 1119) (by decide +kernel), List.mem_of_getElem? (i := 1120) (by decide +kernel)⟩
theorem lw_p54 : lw_okq (⟨"LeastSolutionsModel", "begin", "(IZ)V"⟩, 36) := ⟨⟨by decide +kernel, by decide +kernel⟩, List.mem_of_getElem? (i := 880) (by decide +kernel), List.mem_of_getElem? (i := 1123) (by decide +kernel), List.mem_of_getElem? (i := 1124) (by decide +kernel)⟩
theorem lw_p55 : lw_okq (⟨"LeastSolutionsModel", "belongs", "(I)Z"⟩, 36) := ⟨⟨by decide +kernel, by decide +kernel⟩, List.mem_of_getElem? (i := 880) (by decide +kernel), List.mem_of_getElem? (i := 1127) (by decide +kernel), List.mem_of_getElem? (i := 1128) (by decide +kernel)⟩
theorem lw_p56 : lw_okq (⟨"LeastSolutionsModel", "solves", "([IZ)Z"⟩, 36) := ⟨⟨by decide +kernel, by decide +kernel⟩, List.mem_of_getElem? (i := 880) (by decide +kernel), List.mem_of_getElem? (i := 1131) (by decide +kernel), List.mem_of_getElem? (i := 1132) (by decide +kernel)⟩
theorem lw_p57 : lw_okq (⟨"LeastSolutionsModel", "isBelow", "(III)Z"⟩, 36) := ⟨⟨by decide +kernel, by decide +kernel⟩, List.mem_of_getElem? (i := 880) (by decide +kernel), List.mem_of_getElem? (i := 1135) (by decide +kernel), List.mem_of_getElem? (i := 1136) (by decide +kernel)⟩
theorem lw_p58 : lw_okq (⟨"LeastSolutionsModel", "put", "(I)V"⟩, 36) := ⟨⟨by decide +kernel, by decide +kernel⟩, List.mem_of_getElem? (i := 880) (by decide +kernel), List.mem_of_getElem? (i := 1139) (by decide +kernel), List.mem_of_getElem? (i := 1140) (by decide +kernel)⟩
theorem lw_p59 : lw_okq (⟨"LeastSolutionsModel", "next", "(Z)Z"⟩, 36) := ⟨⟨by decide +kernel, by decide +kernel⟩, List.mem_of_getElem? (i := 880) (by decide +kernel), List.mem_of_getElem? (i := 1143) (by decide +kernel), List.mem_of_getElem? (i := 1144) (by decide +kernel)⟩
theorem lw_p60 : lw_okq (⟨"LeastSolutionsModel", "spread", "(IIZ)V"⟩, 36) := ⟨⟨by decide +kernel, by decide +kernel⟩, List.mem_of_getElem? (i := 880) (by decide +kernel), List.mem_of_getElem? (i := 1147) (by decide +kernel), List.mem_of_getElem? (i := 1148) (by decide +kernel)⟩
theorem lw_p61 : lw_okq (⟨"LeastSolutionsModel", "isPlain", "()Z"⟩, 36) := ⟨⟨by decide +kernel, by decide +kernel⟩, List.mem_of_getElem? (i := 880) (by decide +kernel), List.mem_of_getElem? (i := 1163) (by decide +kernel), List.mem_of_getElem? (i := 1164) (by decide +kernel)⟩
theorem lw_p62 : lw_okq (⟨"LeastSolutionsModel", "isBefore", "()Z"⟩, 36) := ⟨⟨by decide +kernel, by decide +kernel⟩, List.mem_of_getElem? (i := 880) (by decide +kernel), List.mem_of_getElem? (i := 1183) (by decide +kernel), List.mem_of_getElem? (i := 1184) (by decide +kernel)⟩
def lw_privs_4 : List (MethodName × Nat) := [(⟨"LeastSolutionsModel", "order", "()V"⟩, 36), (⟨"LeastSolutionsModel", "gather", "(II)Z"⟩, 36), (⟨"LeastSolutionsModel", "turn", "(I)V"⟩, 36), (⟨"LeastSolutionsModel", "shorten", "()V"⟩, 36), (⟨"LeastSolutionsModel", "isColumn", "(I)Z"⟩, 36), (⟨"LeastSolutionsModel", "most", "(I)I"⟩, 36), (⟨"LeastSolutionsModel", "begin", "(IZ)V"⟩, 36), (⟨"LeastSolutionsModel", "belongs", "(I)Z"⟩, 36), (⟨"LeastSolutionsModel", "solves", "([IZ)Z"⟩, 36), (⟨"LeastSolutionsModel", "isBelow", "(III)Z"⟩, 36), (⟨"LeastSolutionsModel", "put", "(I)V"⟩, 36), (⟨"LeastSolutionsModel", "next", "(Z)Z"⟩, 36), (⟨"LeastSolutionsModel", "spread", "(IIZ)V"⟩, 36), (⟨"LeastSolutionsModel", "isPlain", "()Z"⟩, 36), (⟨"LeastSolutionsModel", "isBefore", "()Z"⟩, 36)]
theorem lw_r4 : ∀ q ∈ lw_privs_4, lw_okq q := List.forall_mem_cons.mpr ⟨lw_p48, List.forall_mem_cons.mpr ⟨lw_p49, List.forall_mem_cons.mpr ⟨lw_p50, List.forall_mem_cons.mpr ⟨lw_p51, List.forall_mem_cons.mpr ⟨lw_p52, List.forall_mem_cons.mpr ⟨lw_p53, List.forall_mem_cons.mpr ⟨lw_p54, List.forall_mem_cons.mpr ⟨lw_p55, List.forall_mem_cons.mpr ⟨lw_p56, List.forall_mem_cons.mpr ⟨lw_p57, List.forall_mem_cons.mpr ⟨lw_p58, List.forall_mem_cons.mpr ⟨lw_p59, List.forall_mem_cons.mpr ⟨lw_p60, List.forall_mem_cons.mpr ⟨lw_p61, List.forall_mem_cons.mpr ⟨lw_p62, fun _ h => absurd h List.not_mem_nil⟩⟩⟩⟩⟩⟩⟩⟩⟩⟩⟩⟩⟩⟩⟩
def lw_privs : List (MethodName × Nat) := lw_privs_1 ++ (lw_privs_2 ++ (lw_privs_3 ++ (lw_privs_4)))
def lw_tbl : List Cond := k2_sels lw_privs ++ tables_1
theorem lw_privs_ok : ∀ q ∈ lw_privs, lw_okq q := by
  show ∀ q ∈ lw_privs_1 ++ (lw_privs_2 ++ (lw_privs_3 ++ (lw_privs_4))), lw_okq q
  exact List.forall_mem_append.mpr ⟨lw_r1, List.forall_mem_append.mpr ⟨lw_r2, List.forall_mem_append.mpr ⟨lw_r3, lw_r4⟩⟩⟩
end
section
/-! throwing methods: a contract whose end is 'threw'; rows that throw, that let through, that catch -/
def xt_E (first t : State) (L : List Loc) (k n : Nat) : Prop := first.WarmedH t.vm ∧ first.sameButNew ({ t with vm := first.vm } : State) L k n
def xt_Met (l : Launch) (y : MethodName) (ws : List Cond) (rm : Room) (Pc : Array Value → State → Prop) (Qc : Array Value → State → Addr → State → Prop) (mc ms : Nat) (free : Addr → Prop) : Prop :=
  MetFree l y (headSpec ws rm) Pc (fun _ _ _ _ _ => True) (fun a st o t => ∃ x, o = Outcome.threw x ∧ Qc a st x t ∧ ∃ L, xt_E st t L mc ms ∧ ∀ q ∈ L, free q.base)
def xt_MQ (below : List Frame) (Qc : Array Value → State → Addr → State → Prop) (a : Array Value) (s : State) (mc ms : Nat) (free : Addr → Prop) : State → Prop := fun t =>
  ∃ x, t.status = .running ∧ Ended t below (.threw x) ∧ Qc a s x t ∧ ∃ L, xt_E s t L mc ms ∧ ∀ q ∈ L, free q.base
/-- what a thrown object is: new, of the class cls; nothing old has changed -/
def xt_X (cls : String) (st : State) (x : Addr) (t : State) : Prop :=
  st.heap.size ≤ x ∧ (∃ ce : Cell, t.heap[x]? = some ce ∧ ce.vm = .none ∧ t.vm.findClass cls = some ce.cls) ∧ va_F (fun _ => False) st t
theorem xt_ofW {l : Launch} {y : MethodName} {ws ws' : List Cond} {rm : Room} {Pc : Array Value → State → Prop} {Qc : Array Value → State → Addr → State → Prop} {mc ms : Nat} {free : Addr → Prop} {cc : ByteArray} {maxL : Nat} {ret : Option FieldType}
    (hy : plainName y.cls = true) (hw : ws = Cond.code y cc maxL ret :: ws')
    (body : ∀ p e s m args below meth c s₁, BodyLoose p l y (headSpec ws rm) cc maxL ret e s m args below meth c s₁ → c.maxLocals = maxL → (∀ x ∈ c.exceptionTable.toList, False) → Pc args s →
      W p l e (headSpec ws rm).room s m args below meth c s.heap [] 0 0 (xt_MQ below Qc args s mc ms free) (entryFrame m args maxL)) : xt_Met l y ws rm Pc Qc mc ms free := by
  refine MetFree.of_bodyS (code := cc) (maxLocals := maxL) (ret := ret) hy ?_ ?_
  · intro args s m h hn
    obtain ⟨meth, c, h1, h2, h3, h4, h5, h6, -, -⟩ := Cond.code_spec hn (atoms_spec (ws := ws) h _ (by rw [hw]; exact List.mem_cons_self))
    exact ⟨meth, c, h1, h2, h3, h4, h5, h6⟩
  · intro p e s m args below meth c s₁ B hml hP _
    have hh0 : s₁.heap = s.heap := by rw [B.state]; rfl
    have hnh : c.exceptionTable.isEmpty = true := B.noHandlers (atoms_spec (ws := ws) B.pre _ (by rw [hw]; exact List.mem_cons_self))
    have hno : ∀ x ∈ c.exceptionTable.toList, False := fun x hx => by
      have h0 : c.exceptionTable = #[] := Array.isEmpty_iff.mp hnh
      rw [h0] at hx
      cases hx
    obtain ⟨t, a1, x, b1, b2, b3, b4⟩ := body p e s m args below meth c s₁ B hml hno hP s₁ hh0 (Stand.of_body B)
    exact ⟨t, .threw x, a1, b1, b2, x, rfl, b3, b4⟩
/-- nothing was written: every old cell is as it was -/
theorem xt_kept {s U : State} {k n : Nat} (h : s.sameButNew ({ U with vm := s.vm } : State) [] k n) : va_F (fun _ => False) s U := by
  obtain ⟨-, h2, -, -, -, h6⟩ := h
  refine ⟨h2, fun q hq _ => ?_⟩
  have hc : s.heap[q]? = some s.heap[q] := Array.getElem?_eq_getElem hq
  obtain ⟨c', e1, e2, e3, e4⟩ := h6 q _ hc
  have e1' : U.heap[q]? = some c' := e1
  rw [e1', hc, e2]
  congr 1
  have hs : c'.slots = (s.heap[q]).slots := by
    apply Array.ext_getElem?
    intro i
    exact e4 i (by simp)
  rw [hs]
section XT
variable {p : Program} {l : Launch} {e : Env} {R : Room} {s : State} {m : MethodId} {args : Array Value} {below : List Frame} {meth : Method} {c : Code} {H : Heap} {cells slots : Nat}
/-- new X(); dup; X.<init>(); athrow, out of a method that has no handler and has written nothing -/
theorem xt_throw {cc : ByteArray} {own cls : String} {names : List String} {ia ic pc : Nat} {ls : Array Slot} {rest : List Value} {free : Addr → Prop} {nL : Nat} {lv : List (Nat × Value)}
    (hx : p.tables.exec = Jvm.exec) (hb : c.code = cc) (htr : l.stackTraces = false) (hml : c.maxLocals = nL) (hls : lv_has ls nL lv) (hne : ∀ x ∈ c.exceptionTable.toList, False) (hlocks : meth.locks = false)
    (hown : s.vm.findClass own = some m.cls) (hcls : Bundle.fit cls = true) (hnames : ∀ n ∈ names, Bundle.fit n = true)
    (hcl : (Cond.classLink own ia cls).before args s = true) (hini : (Cond.initialized cls).before args s = true)
    (hat : ∀ a ∈ Bundle.ownAtoms0 own ic cls names, a.before args s = true)
    (hd0 : decode cc pc = .ok (.new ia, 3)) (hd3 : decode cc (pc + 3) = .ok (.dup, 1)) (hd4 : decode cc (pc + 4) = .ok (.invokespecial ic, 3)) (hd7 : decode cc (pc + 7) = .ok (.athrow, 1))
    (hcells : cells + 1 ≤ R.cells) (hslots : slots + 6 ≤ R.slots) (hfr : names.length + 3 < R.frames) (hlo : (rest.map fun v => v.category).sum + 1 + (13 * (names.length + 1) + 41) ≤ R.locals) :
    W p l e R s m args below meth c s.heap [] cells slots (xt_MQ below (fun _ st x t => xt_X cls st x t) args s (cells + 1) (slots + 6) free) (F0 m pc ls rest) := by
  subst hb
  have hins : (Cond.instantiable cls 6).before args s = true := hat _ (by simp [Bundle.ownAtoms0])
  intro T hT X
  have htr' : e.platform.stackTraces = false := by rw [X.admits.platform]; exact htr
  obtain ⟨vm', cC, kC, h1, h2, h3, h4, X', st⟩ := X.newCold hx hown hcl hins hini (g := F0 m pc ls rest) rfl hd0 hcells hslots
  have hnew : s.heap.size ≤ T.heap.size := by rw [hT]; exact Nat.le_refl _
  have hcell : ((T.setVm vm').pushCell { cls := cC, slots := kC.instanceTypes.map defaultValue, vm := .none }).heap[T.heap.size]? = some (freshCell cC kC) := State.heap_pushCell_size _ _
  generalize hT1 : (T.setVm vm').pushCell { cls := cC, slots := kC.instanceTypes.map defaultValue, vm := .none } = T1 at X' st hcell
  have K : W p l e R s m args below meth c T1.heap [] (cells + 1) (slots + 6) (xt_MQ below (fun _ st x t => xt_X cls st x t) args s (cells + 1) (slots + 6) free) (F0 m (pc + 3) ls (.ref T.heap.size :: rest)) := by
    refine lv_dup hx rfl hd3 rfl ?_
    intro T2 hT2 X2
    obtain ⟨U, u1, u2, u3, u4, u5, ce, u6, u7⟩ := X2.ctorThrow0 (own := own) (cls := cls) (names := names) (ic := ic) hx htr' hown hcls hnames hat (fun x hx => by cases hx) h1 h2 (by rw [hT2]; exact hcell) hnew
      (g := F0 m (pc + 4) ls (.ref T.heap.size :: .ref T.heap.size :: rest)) rfl (hls.1.trans hml.symm) rfl rfl (rest := rest) rfl hd4 hd7 (fun x hx => (hne x hx).elim) hfr
      (by simp only [List.map_cons, List.sum_cons]; show 2 * 0 + (1 + _) + _ ≤ _; omega) hlocks
    exact ⟨U, u1, T.heap.size, u2, u3, ⟨hnew, ⟨ce, u6, u7.vm, by rw [u4.alike.findClass]; exact u7.cls⟩, xt_kept u5⟩, [], ⟨u4, u5⟩, fun q hq => by cases hq⟩
  obtain ⟨t, a1, b1⟩ := K T1 rfl X'
  exact ⟨t, st t a1, b1⟩
end XT
section XTC
variable {p : Program} {l : Launch} {e : Env} {R : Room} {s : State} {m : MethodId} {args : Array Value} {below : List Frame} {meth : Method} {c : Code} {H : Heap} {locs : List Loc} {cells slots : Nat}
variable {y : MethodName} {bytes cc : ByteArray} {maxL nL mc ms n index : Nat} {ret : Option FieldType} {ws : List Cond} {rm : Room} {Pc : Array Value → State → Prop} {Qc : Array Value → State → Addr → State → Prop} {free : Addr → Prop} {Ts : List Cond} {own C : String} {b : Addr} {As rest : List Value} {g : JFrame}
/-- into a callee that throws, and out of it: the note lies over the caller's frame -/
theorem xt_into {T : State} (X : Stand p l e R s m args below meth c T locs cells slots) (hM : xt_Met l y ws rm Pc Qc mc ms free) (hbl : FrameBlind Pc) (hrc : rm.cells = mc) (hrs : rm.slots = ms) (hfr : rm.frames + 1 ≤ R.frames) (hlo : 8 + (maxL + 11) + rm.locals ≤ R.locals)
    {a : Array Value} (hws : ∀ w ∈ ws, w.before a T = true) (hcode : (Cond.code y bytes maxL ret).before a T = true) (hini : (Cond.initialized y.cls).before a T = true)
    {ig : Instr} {len : Nat} {mk : MethodId} (hg : g.method = m) (hsize : g.locals.size = c.maxLocals) (hdg : decode c.code g.pc = .ok (ig, len)) (hW : 2 * g.monitorRoom + (g.stack.map fun v => v.category).sum ≤ 8) (hn : T.methodNamed? y = some mk) (hPc : Pc a T)
    (hcells : cells + mc ≤ R.cells) (hslots : slots + ms ≤ R.slots) :
    ∃ (x : Addr) (t T' : State) (L : List Loc), Stand p l e R s m args below meth c T' (locs ++ L) (cells + mc) (slots + ms) ∧ (∀ q ∈ L, free q.base) ∧ T'.heap = t.heap ∧ T'.vm = t.vm ∧ Qc a (T.calling g mk a) x t ∧
      Steps p.tables e below (doInvoke e (T.setTop g) [] mk a).1 ((T'.setTop g).pushFrame (.throwing x)) := by
  obtain ⟨methY, cY, hmY, hcY, -, hlY, -, -, -, -⟩ := Cond.code_spec hn hcode
  obtain ⟨kY, hkY, -⟩ := className_of_methodNamed hn
  have hinitY : kY.init = .initialized := Cond.initialized_spec (findClass_of_methodNamed hn) hkY hini
  have h : At T g.method c below := by rw [hg]; exact X.here
  have happ : (headSpec ws rm).appliesLoose y e.platform (T.calling g mk a) = true :=
    Spec.appliesLoose_calling (g := g) h hdg hn hkY hinitY
      (X.room_calling (g := g) (R' := (headSpec ws rm).room) hsize hmY hcY hfr (by rw [hlY]; show _ + rm.locals ≤ _; omega) (by show cells + rm.cells ≤ _; rw [hrc]; exact hcells) (by show slots + rm.slots ≤ _; rw [hrs]; exact hslots)) (atoms_intro hws)
  obtain ⟨mid, hmid⟩ := h.above
  have hfr' : (T.setTop g).frames = (.java g :: mid) ++ below := by rw [State.frames_setTop' g h.top, hmid]; rfl
  obtain ⟨o, s₂, hsteps, -, hend, hq⟩ := Steps.callFree hM p X.admits X.cas X.clock (acts := []) hfr' happ (hbl _ _ g mk hPc) trivial
  rw [State.frames_setTop' g h.top, X.tail] at hend
  obtain ⟨x, rfl, hQ, L, ⟨hW2, hsame⟩, hL⟩ := hq
  obtain ⟨T', X', -, -, ht⟩ := X.outOfThrown hg hend hW2 hsame
  refine ⟨x, s₂, T', L, X', hL, ?_, ?_, hQ, ?_⟩
  · rw [ht, Stand.throwing_heap]
  · rw [ht, Stand.throwing_vm]
  · rw [← ht]; exact hsteps
/-- a call that throws -/
def xt_Run (p : Program) (l : Launch) (e : Env) (R : Room) (s : State) (m : MethodId) (args : Array Value) (below : List Frame) (meth : Method) (c : Code) (H : Heap) (locs : List Loc) (cells slots mc ms : Nat) (g : JFrame) (rest : List Value) (Qa : State → Addr → State → Prop) (free : Addr → Prop) : Prop :=
  ∀ T : State, T.heap = H → Stand p l e R s m args below meth c T locs cells slots → ∃ (x : Addr) (st₀ t T' : State) (L : List Loc), st₀.heap = H ∧ Stand p l e R s m args below meth c T' (locs ++ L) (cells + mc) (slots + ms) ∧ (∀ q ∈ L, free q.base) ∧ T'.heap = t.heap ∧ T'.vm = t.vm ∧ Qa st₀ x t ∧
    ∀ target, Steps p.tables e below ((T'.setTop { g with stack := rest }).pushFrame (.throwing x)) target → Steps p.tables e below (T.setTop g) target
theorem xt_runV (S : CallFix p m c cc nL s args Ts own) (hM : xt_Met l y ws rm Pc Qc mc ms free) (cw : CallW R s args own C index y bytes maxL ret ws rm mc ms n) (hp : PreV s H C b Pc As)
    (hg : g.method = m) (hn : As.length = n) (hsize : g.locals.size = nL) (hstack : g.stack = As.reverse ++ .ref b :: rest) (hW : 2 * g.monitorRoom + (rest.map fun v => v.category).sum ≤ 8) (hdg : decode cc g.pc = .ok (.invokevirtual index, 3)) (hf : cells + mc ≤ R.cells ∧ slots + ms ≤ R.slots) :
    xt_Run p l e R s m args below meth c H locs cells slots mc ms g rest (Qc (Value.ref b :: As).toArray) free := by
  obtain ⟨⟨hrc, hrs, hfr, hlo, hws, hcw, hcode, hini, hy, hlen, hl⟩, hinst, hsel⟩ := cw
  obtain ⟨hx, hb, hml, ho, -⟩ := S
  obtain ⟨hbl, ⟨cellB, hcB, hoB, hclB⟩, hPc⟩ := hp
  subst hb
  intro T hT X
  obtain ⟨mk, methM, hnamed, hmethM, hstM, habM⟩ := Cond.instanceMethod_spec hinst
  obtain ⟨methM', cM, hmethM', -, -, -, -, -, -, hsigM⟩ := Cond.code_spec hnamed hcode
  cases hmethM.symm.trans hmethM'
  obtain ⟨c2, r2, m2, q1, q2, q3, q4, kP, hkP, hkPi⟩ := Cond.selects_spec hsel
  cases hclB.symm.trans q1
  cases (State.methodFound?_of_named hnamed hy).symm.trans q2
  cases hnamed.symm.trans q3
  have hselP : selectMethod e.platform s.vm cellB.cls mk = .method mk := by rw [Launch.admits_selectMethod X.admits]; exact q4
  obtain ⟨vm₁, X₁, hstep₁⟩ := X.invokevirtual hx ho hl hnamed hmethM hstM hkP hkPi hy (a := b) (cell := cellB) (by rw [hT]; exact hcB)
    (fun z h => by rw [h] at hoB; cases hoB) hselP hmethM habM hkP hkPi (g := g) hg (argsL := As) (rest := rest) (hn.trans (hlen _ hsigM)) hstack hdg
  obtain ⟨x, t, T', L, X', hL, e1, e2, hQ, hst⟩ := xt_into X₁ hM hbl hrc hrs hfr hlo (fun w hw => hws w hw _ _ X₁.warmed) (hws _ hcw _ _ X₁.warmed) (word_at X₁.warmed (Or.inl (by first | rfl | simp [Cond.onTables, Cond.keeps, Cond.steady])) hini)
    (g := { g with stack := rest }) (a := (Value.ref b :: As).toArray) hg (hsize.trans hml.symm) hdg hW (X₁.named hnamed) (hPc _ hT X₁.warmed) hf.1 hf.2
  exact ⟨x, (T.setVm vm₁).calling { g with stack := rest } mk (Value.ref b :: As).toArray, t, T', L, hT, X', hL, e1, e2, hQ, fun target h => hstep₁ _ fun acts => by rw [doInvoke_state]; exact hst.trans h⟩
theorem xt_runS (S : CallFix p m c cc nL s args Ts own) (hM : xt_Met l y ws rm Pc Qc mc ms free) (cw : CallB R s args own index y bytes maxL ret ws rm mc ms n ∧ (Cond.static y).before args s = true) (hp : PreS s H Pc As)
    (hg : g.method = m) (hn : As.length = n) (hsize : g.locals.size = nL) (hstack : g.stack = As.reverse ++ rest) (hW : 2 * g.monitorRoom + (rest.map fun v => v.category).sum ≤ 8) (hdg : decode cc g.pc = .ok (.invokestatic index, 3)) (hf : cells + mc ≤ R.cells ∧ slots + ms ≤ R.slots) :
    xt_Run p l e R s m args below meth c H locs cells slots mc ms g rest (Qc As.toArray) free := by
  obtain ⟨⟨hrc, hrs, hfr, hlo, hws, hcw, hcode, hini, hy, hlen, hl⟩, hstt⟩ := cw
  obtain ⟨hx, hb, hml, ho, -⟩ := S
  obtain ⟨hbl, hPc⟩ := hp
  subst hb
  intro T hT X
  obtain ⟨mk, hnamed⟩ := Cond.code_named hcode
  obtain ⟨methM, cM, hmethM, -, -, -, -, -, -, hsigM⟩ := Cond.code_spec hnamed hcode
  have hstatic : methM.isStatic = true := Cond.static_spec hnamed hmethM hstt
  obtain ⟨kP, hkP, -⟩ := className_of_methodNamed hnamed
  have hinitP : kP.init = .initialized := Cond.initialized_spec (findClass_of_methodNamed hnamed) hkP hini
  obtain ⟨vm₁, X₁, hstep₁⟩ := X.invokestatic hx ho hl hnamed hmethM hstatic hkP hinitP hy (g := g) hg (argsL := As) (rest := rest) (hn.trans (hlen _ hsigM)) hstack hdg
  obtain ⟨x, t, T', L, X', hL, e1, e2, hQ, hst⟩ := xt_into X₁ hM hbl hrc hrs hfr hlo (fun w hw => hws w hw _ _ X₁.warmed) (hws _ hcw _ _ X₁.warmed) (word_at X₁.warmed (Or.inl (by first | rfl | simp [Cond.onTables, Cond.keeps, Cond.steady])) hini)
    (g := { g with stack := rest }) (a := As.toArray) hg (hsize.trans hml.symm) hdg hW (X₁.named hnamed) (hPc _ hT X₁.warmed) hf.1 hf.2
  exact ⟨x, (T.setVm vm₁).calling { g with stack := rest } mk As.toArray, t, T', L, hT, X', hL, e1, e2, hQ, fun target h => hstep₁ _ fun acts => by rw [doInvoke_state]; exact hst.trans h⟩
/-- what the callee throws goes through: the caller has no handler and has written nothing -/
theorem xt_out {cls : String} {pc : Nat} {ls : Array Slot} {st0 : List Value} {f1 : Addr → Prop} (hr : xt_Run p l e R s m args below meth c s.heap [] cells slots mc ms (F0 m pc ls st0) rest (fun st x t => xt_X cls st x t) (fun _ => False))
    (hne : ∀ x ∈ c.exceptionTable.toList, False) (hlocks : meth.locks = false) :
    W p l e R s m args below meth c s.heap [] cells slots (xt_MQ below (fun _ st x t => xt_X cls st x t) args s (cells + mc) (slots + ms) f1) (F0 m pc ls st0) := by
  intro T hT X
  obtain ⟨x, st₀, t, T', L, h0, X', hL, e1, e2, ⟨q1, ⟨ce, q2, q3, q4⟩, q5, q6⟩, st⟩ := hr T hT X
  obtain ⟨w1, w2, w3, w4, w5⟩ := X'.leaveThrown x (g := { F0 m pc ls st0 with stack := rest }) rfl rfl rfl (fun x hx => (hne x hx).elim) hlocks
  have hL0 : L = [] := List.eq_nil_iff_forall_not_mem.mpr fun q hq => hL q hq
  subst hL0
  have hh : (T'.setFrames (.throwing x :: below)).heap = t.heap := e1
  have hv : (T'.setFrames (.throwing x :: below)).vm = t.vm := e2
  refine ⟨T'.setFrames (.throwing x :: below), st _ w1, x, w2, w3, ⟨by rw [← h0]; exact q1, ⟨ce, by rw [hh]; exact q2, q3, by rw [hv]; exact q4⟩, by rw [hh, ← h0]; exact q5, fun q h1 h2 => by rw [hh, ← h0]; exact q6 q (by rw [h0]; exact h1) h2⟩, [], ⟨w4, w5⟩, fun q hq => by cases hq⟩
end XTC
/-! the search for a handler where the catch type may still be unresolved -/
def xt_Finds (e : Env) (s : State) (f : JFrame) (a : Addr) (h : Handler) (vm' : Vm) : Prop :=
  ∀ (Q : Handler → Pre) (E : CtlPost) (d : Bool) (acts : List Action), wp (findHandler f a) Q E e d acts s ↔ Q h d acts (s.setVm vm')
theorem xt_go {E : CtlPost} {e : Env} {d : Bool} {acts : List Action} {s : State} {f : JFrame} {a : Addr} {Q : Handler → Pre} {x : ExceptionTableEntry} {t : List ExceptionTableEntry} {cC : ClassId} {cell : Cell} {vm' : Vm} (hx : covers x f.pc = true) (h0 : x.catchType ≠ 0)
    (hg : (Jvm.resolveClass f.method.cls x.catchType).Gives e.toSetting s.vm (.ok cC) vm') (hsz : vm'.classes.size ≤ s.vm.classes.size) (hcell : s.heap[a]? = some cell) (hobj : ∀ k, cell.vm ≠ .statics k)
    (hk : ∃ k, vm'.classes[cell.cls]? = some k) (hc : ∃ k, vm'.classes[cC]? = some k) :
    wp (findHandler.go f a (x :: t)) Q E e d acts s ↔
      if vm'.assignable cell.cls cC = true then Q (.found x.handlerPc) d acts (s.setVm vm') else wp (findHandler.go f a t) Q E e d acts (s.setVm vm') := by
  simp only [covers] at hx
  obtain ⟨ha, ht⟩ := hg.op (op := VmOp.resolveClass f.method.cls x.catchType) rfl
  cases hfit : vm'.assignable cell.cls cC <;>
    simp [findHandler.go, hx, h0, ha, ht, hsz, hcell, hobj, hk, hc, hfit, VmOp.dirties, VmOp.acts]
theorem xt_stepCatch {e : Env} {s : State} {a : Addr} {f : JFrame} {r : List Frame} {pc : Nat} {vm' : Vm} (hfind : xt_Finds e s f a (.found pc) vm') :
    (stepThrowing e s a (.java f :: r)).Is ((s.setVm vm').setFrames (.java { f with pc := pc, stack := [.ref a] } :: r)) [] := by
  simp only [stepThrowing, searchFrame, vmDo]
  generalize hr : Sem.go _ e false [] s = res
  obtain ⟨as, rfl, ha⟩ := Sem.eq_ok_of hr (a := Handler.found pc) (s' := s.setVm vm') (acts' := []) (by simp [hfind _ _ _ _])
  exact ⟨rfl, ha⟩
theorem xt_caught {tb : Tables} {e : Env} {s target : State} {g : JFrame} {c : Code} {below : List Frame} {a : Addr} (h : At s g.method c below) {pc : Nat} {vm' : Vm} (hfind : xt_Finds e ((s.setTop g).pushFrame (.throwing a)) g a (.found pc) vm')
    (hrest : Steps tb e below ((s.setVm vm').setTop { g with pc := pc, stack := [.ref a] }) target) :
    Steps tb e below ((s.setTop g).pushFrame (.throwing a)) target := by
  obtain ⟨hgo, hw⟩ := h.throwing a
  refine Steps.head hgo hw ?_
  rw [stepThread_throwing (frames_entered h.top _), (xt_stepCatch (s := (s.setTop g).pushFrame (.throwing a)) hfind).1]
  obtain ⟨g₀, hg⟩ := Option.isSome_iff_exists.mp h.top
  obtain ⟨r, hr⟩ := State.topJava?_eq_some.mp hg
  have hr' : (s.setVm vm').frames = .java g₀ :: r := hr
  rw [State.setTop_of_frames _ hr'] at hrest
  rw [State.pushFrame, State.setTop_of_frames _ hr]
  have e1 : ((((s.setFrames (.java g :: r)).setFrames (.throwing a :: (s.setFrames (.java g :: r)).frames)).setVm vm').setFrames (.java { g with pc := pc, stack := [.ref a] } :: s.frames.tail)) = (s.setVm vm').setFrames (.java { g with pc := pc, stack := [.ref a] } :: r) := by
    rw [hr]
    rw [State.setFrames_setFrames]
    show ((s.setVm vm').setFrames _).setFrames _ = _
    rw [State.setFrames_setFrames]
    rfl
  rw [e1]
  exact hrest
/-! methods with handlers: their word is codeWith -/
theorem xh_ofW {l : Launch} {y : MethodName} {ws ws' : List Cond} {rm : Room} {Pc : Array Value → State → Prop} {Qc : Array Value → State → Outcome → State → Prop} {mc ms : Nat} {free : Addr → Prop} {cc : ByteArray} {maxL : Nat} {ret : Option FieldType} {hs : List (Nat × Nat × Nat × Nat)}
    (hy : plainName y.cls = true) (hw : ws = Cond.codeWith y cc maxL ret hs :: ws')
    (body : ∀ p e s m args below meth c s₁, BodyLoose p l y (headSpec ws rm) cc maxL ret e s m args below meth c s₁ → c.maxLocals = maxL → c.exceptionTable.toList = tableOf hs → Pc args s →
      W p l e (headSpec ws rm).room s m args below meth c s.heap [] 0 0 (MQ below Qc args s mc ms free) (entryFrame m args maxL)) : Met l y ws rm Pc Qc mc ms free := by
  refine MetFree.of_bodyS (code := cc) (maxLocals := maxL) (ret := ret) hy ?_ ?_
  · intro args s m h hn
    obtain ⟨m', meth, c, hn', h1, h2, h3, h4, -, h5, h6, -⟩ := Cond.codeWith_spec (atoms_spec (ws := ws) h _ (by rw [hw]; exact List.mem_cons_self))
    cases hn.symm.trans hn'
    exact ⟨meth, c, h1, h2, h3, h4, h5, h6⟩
  · intro p e s m args below meth c s₁ B hml hP _
    have hh0 : s₁.heap = s.heap := by rw [B.state]; rfl
    obtain ⟨m', meth', c', hn', hm', hc', -, -, ht, -, -, -⟩ := Cond.codeWith_spec (atoms_spec (ws := ws) B.pre _ (by rw [hw]; exact List.mem_cons_self))
    cases B.named.symm.trans hn'
    cases B.method.symm.trans hm'
    cases (Stand.of_body B).code.symm.trans hc'
    obtain ⟨t, a1, o, b1, b2, b3⟩ := body p e s m args below meth c s₁ B hml (by rw [← ht]; exact (table_eq _).symm) hP s₁ hh0 (Stand.of_body B)
    exact ⟨t, o, a1, b1, b2, ⟨b3.1, b3.2⟩⟩
section XH
variable {p : Program} {l : Launch} {e : Env} {R : Room} {s : State} {m : MethodId} {args : Array Value} {below : List Frame} {meth : Method} {c : Code} {H : Heap} {locs : List Loc} {cells slots : Nat} {Q : State → Prop}
variable {y : MethodName} {bytes cc : ByteArray} {maxL nL mc ms n index : Nat} {ret : Option FieldType} {ws : List Cond} {rm : Room} {Pc : Array Value → State → Prop} {Qc : Array Value → State → Outcome → State → Prop} {free : Addr → Prop} {Ts : List Cond} {own C : String} {b : Addr} {As rest : List Value} {g : JFrame} {hs : List (Nat × Nat × Nat × Nat)}
/-- invokestatic of a method with handlers -/
theorem xh_runS (S : CallFix p m c cc nL s args Ts own) (hM : Met l y ws rm Pc Qc mc ms free) (hrc : rm.cells = mc) (hrs : rm.slots = ms) (hfr : rm.frames + 1 ≤ R.frames) (hlo : 8 + (maxL + 11) + rm.locals ≤ R.locals) (hws : ∀ w ∈ ws, ∀ (a' : Array Value) (U : State), s.WarmedH U.vm → w.before a' U = true)
    (hcw : Cond.codeWith y bytes maxL ret hs ∈ ws) (hcode : (Cond.codeWith y bytes maxL ret hs).before args s = true) (hini : (Cond.initialized y.cls).before args s = true) (hy : y.cls ≠ "java/lang/invoke/MethodHandle" ∧ y.cls ≠ "java/lang/invoke/VarHandle") (hlen : ∀ sig, parseMethodDescriptor y.desc = some sig → n = sig.parameters.length) (hl : (Cond.methodLink own index y).before args s = true) (hstt : (Cond.static y).before args s = true)
    (hp : PreS s H Pc As) (hg : g.method = m) (hn : As.length = n) (hsize : g.locals.size = nL) (hstack : g.stack = As.reverse ++ rest) (hW : 2 * g.monitorRoom + (rest.map fun v => v.category).sum ≤ 8) (hdg : decode cc g.pc = .ok (.invokestatic index, 3)) (hf : cells + mc ≤ R.cells ∧ slots + ms ≤ R.slots) :
    va_Run p l e R s m args below meth c H locs cells slots mc ms g rest (Qc As.toArray) free := by
  obtain ⟨hx, hb, hml, ho, -⟩ := S
  obtain ⟨hbl, hPc⟩ := hp
  subst hb
  intro T hT X
  obtain ⟨mk, methM, cM, hnamed, hmethM, -, -, -, -, -, -, hsigM⟩ := Cond.codeWith_spec hcode
  have hstatic : methM.isStatic = true := Cond.static_spec hnamed hmethM hstt
  obtain ⟨kP, hkP, -⟩ := className_of_methodNamed hnamed
  have hinitP : kP.init = .initialized := Cond.initialized_spec (findClass_of_methodNamed hnamed) hkP hini
  obtain ⟨vm₁, X₁, hstep₁⟩ := X.invokestatic hx ho hl hnamed hmethM hstatic hkP hinitP hy (g := g) hg (argsL := As) (rest := rest) (hn.trans (hlen _ hsigM)) hstack hdg
  generalize hT1 : T.setVm vm₁ = T1 at X₁ hstep₁
  have hT1h : T1.heap = H := by rw [← hT1]; exact hT
  have hini1 : (Cond.initialized y.cls).before As.toArray T1 = true := word_at X₁.warmed (Or.inl (by first | rfl | simp [Cond.onTables, Cond.keeps, Cond.steady])) hini
  obtain ⟨mY', methY, cY, hnY', hmY, hcY, -, hlY, -, -, -, -⟩ := Cond.codeWith_spec (hws _ hcw As.toArray T1 X₁.warmed)
  have hn1 := X₁.named hnamed
  cases hn1.symm.trans hnY'
  obtain ⟨kY, hkY, -⟩ := className_of_methodNamed hn1
  have hinitY : kY.init = .initialized := Cond.initialized_spec (findClass_of_methodNamed hn1) hkY hini1
  have h : At T1 ({ g with stack := rest } : JFrame).method c below := by show At T1 g.method c below; rw [hg]; exact X₁.here
  have happ : (headSpec ws rm).appliesLoose y e.platform (T1.calling { g with stack := rest } mk As.toArray) = true :=
    Spec.appliesLoose_calling (g := { g with stack := rest }) h hdg hn1 hkY hinitY
      (X₁.room_calling (g := { g with stack := rest }) (R' := (headSpec ws rm).room) (hsize.trans hml.symm) hmY hcY hfr (by rw [hlY]; show _ + rm.locals ≤ _; show 2 * g.monitorRoom + (rest.map fun v => v.category).sum + _ + _ ≤ _; omega) (by show cells + rm.cells ≤ _; rw [hrc]; exact hf.1) (by show slots + rm.slots ≤ _; rw [hrs]; exact hf.2)) (atoms_intro fun w hw => hws w hw _ _ X₁.warmed)
  obtain ⟨mid, hmid⟩ := h.above
  have hfr' : (T1.setTop { g with stack := rest }).frames = (.java { g with stack := rest } :: mid) ++ below := by rw [State.frames_setTop' _ h.top, hmid]; rfl
  obtain ⟨o, s₂, hsteps, -, hend, hq⟩ := Steps.callFree hM p X₁.admits X₁.cas X₁.clock (acts := []) hfr' happ (hbl _ _ _ mk (hPc T1 hT1h X₁.warmed)) trivial
  rw [State.frames_setTop' _ h.top, X₁.tail] at hend
  obtain ⟨hQ, L, ⟨⟨v, rfl⟩, hW2, hsame⟩, hL⟩ := hq
  obtain ⟨T', X', -, -, ht⟩ := X₁.outOf (g := { g with stack := rest }) hg hdg hend hW2 hsame
  refine ⟨v, T1.calling { g with stack := rest } mk As.toArray, s₂, T', L, hT1h, X', hL, by rw [ht]; simp, by rw [ht]; simp, hQ, fun target h => hstep₁ _ fun acts => ?_⟩
  rw [doInvoke_state]
  rw [ht] at hsteps
  exact hsteps.trans h
end XH
end
section
/-! the way through a handler table: entries whose class is another are passed, the first that fits is taken -/
def xt_path (args : Array Value) (s : State) (own cls : String) (pc : Nat) : List (Nat × Nat × Nat × Nat) → Nat → Prop
  | [], _ => False
  | q :: r, h => (q.1 ≤ pc ∧ pc < q.2.1 ∧ q.2.2.2 ≠ 0) ∧ ∃ (name : String) (cA cB : ClassId), (Cond.classLink own q.2.2.2 name).before args s = true ∧ s.vm.findClass cls = some cA ∧ s.vm.findClass name = some cB ∧
      ((s.vm.assignable cA cB = true ∧ h = q.2.2.1) ∨ (s.vm.assignable cA cB = false ∧ xt_path args s own cls pc r h))
theorem xt_pathGo {l : Launch} {e : Env} {s : State} {args : Array Value} {own cls : String} {g : JFrame} {x : Addr} (had : l.admits e) (hown : s.vm.findClass own = some g.method.cls) :
    ∀ (hs : List (Nat × Nat × Nat × Nat)) (h : Nat), xt_path args s own cls g.pc hs h → ∀ (S : State) (ce : Cell), s.WarmedH S.vm → S.heap[x]? = some ce → ce.vm = .none → S.vm.findClass cls = some ce.cls →
      ∃ vm', s.WarmedH vm' ∧ ∀ (Q : Handler → Pre) (E : CtlPost) (d : Bool) (acts : List Action), wp (findHandler.go g x (tableOf hs)) Q E e d acts S ↔ Q (.found h) d acts (S.setVm vm') := by
  intro hs
  induction hs with
  | nil => intro h hp; exact hp.elim
  | cons q r ih =>
    intro h hp S ce hW hcell hvm hcl
    obtain ⟨⟨h1, h2, h3⟩, name, cA, cB, hlink, hA, hB, hor⟩ := hp
    have hpl : e.platform.magicAccessors = ({} : Platform).magicAccessors := by rw [had.platform]
    obtain ⟨c', hc', hcl'⟩ := Cond.classLink_spec hown hlink e.platform hpl
    have ec : c' = cB := Option.some.inj (hc'.symm.trans hB)
    subst ec
    obtain ⟨hg, hwarm, hready⟩ := State.classEntry (e := e) hW hcl'
    have hsz : (S.vm.noted g.method.cls q.2.2.2 (.cls c')).classes.size ≤ S.vm.classes.size := by no_record
    generalize S.vm.noted g.method.cls q.2.2.2 (.cls c') = vm₁ at hg hwarm hready hsz
    have hal : s.vm.Alike vm₁ := hwarm.alike
    have hA1 : vm₁.findClass cls = some cA := by rw [hal.findClass]; exact hA
    have hB1 : vm₁.findClass name = some c' := by rw [hal.findClass]; exact hB
    have ea : ce.cls = cA := by
      rw [hW.alike.findClass] at hcl
      exact Option.some.inj (hcl.symm.trans hA)
    have hcov : covers (⟨q.1, q.2.1, q.2.2.1, q.2.2.2⟩ : ExceptionTableEntry) g.pc = true := by
      simp only [covers, Bool.and_eq_true, decide_eq_true_eq]
      exact ⟨h1, h2⟩
    have hgo := fun (Q : Handler → Pre) (E : CtlPost) (d : Bool) (acts : List Action) => xt_go (E := E) (e := e) (d := d) (acts := acts) (s := S) (f := g) (a := x) (Q := Q) (x := (⟨q.1, q.2.1, q.2.2.1, q.2.2.2⟩ : ExceptionTableEntry)) (t := tableOf r) (cC := c') (cell := ce) (vm' := vm₁) hcov h3 hg hsz hcell (fun k hk => by rw [hvm] at hk; cases hk)
      (by rw [ea]; exact Vm.classAt_of_findClass hA1) (Vm.classAt_of_findClass hB1)
    have has : vm₁.assignable ce.cls c' = s.vm.assignable cA c' := by rw [ea, hal.assignable]
    rcases hor with ⟨hfit, rfl⟩ | ⟨hfit, hrest⟩
    · refine ⟨vm₁, hwarm, fun Q E d acts => ?_⟩
      show wp (findHandler.go g x ((⟨q.1, q.2.1, q.2.2.1, q.2.2.2⟩ : ExceptionTableEntry) :: tableOf r)) Q E e d acts S ↔ _
      rw [hgo Q E d acts, has, hfit, if_pos rfl]
    · obtain ⟨vm', hw', hh⟩ := ih h hrest (S.setVm vm₁) ce hwarm hcell hvm (by show vm₁.findClass cls = _; rw [ea]; exact hA1)
      refine ⟨vm', hw', fun Q E d acts => ?_⟩
      show wp (findHandler.go g x ((⟨q.1, q.2.1, q.2.2.1, q.2.2.2⟩ : ExceptionTableEntry) :: tableOf r)) Q E e d acts S ↔ _
      rw [hgo Q E d acts, has, hfit, if_neg (by decide), hh Q E d acts]
      rfl
section XTK
variable {p : Program} {l : Launch} {e : Env} {R : Room} {s : State} {m : MethodId} {args : Array Value} {below : List Frame} {meth : Method} {c : Code} {H : Heap} {locs : List Loc} {cells slots mc ms : Nat} {Q : State → Prop} {rest st0 : List Value}
/-- a call that throws, and a handler of the method's own that takes it -/
theorem xt_catch {cls own : String} {hs : List (Nat × Nat × Nat × Nat)} {pc hpc : Nat} {ls : Array Slot} {A : Nat → Prop} {H0 : Heap} (hr : xt_Run p l e R s m args below meth c H locs cells slots mc ms (F0 m pc ls st0) rest (fun st x t => xt_X cls st x t) (fun _ => False))
    (htab : c.exceptionTable.toList = tableOf hs) (hown : s.vm.findClass own = some m.cls) (hpath : xt_path args s own cls pc hs hpc) (hS : va_S A H0 H locs)
    (kk : ∀ (x : Addr) (H1 : Heap) (locs1 : List Loc), H.size ≤ H1.size → (∀ q : Nat, q < H.size → H1[q]? = H[q]?) → va_S A H0 H1 locs1 → W p l e R s m args below meth c H1 locs1 (cells + mc) (slots + ms) Q (F0 m hpc ls [.ref x])) :
    W p l e R s m args below meth c H locs cells slots Q (F0 m pc ls st0) := by
  intro T hT X
  obtain ⟨x, st₀, t, T', L, h0, X', hL, e1, e2, ⟨q1, ⟨ce, q2, q3, q4⟩, q5, q6⟩, st⟩ := hr T hT X
  have hL0 : L = [] := List.eq_nil_iff_forall_not_mem.mpr fun q hq => hL q hq
  subst hL0
  rw [List.append_nil] at X'
  have hcell : T'.heap[x]? = some ce := by rw [e1]; exact q2
  have hfc : T'.vm.findClass cls = some ce.cls := by rw [e2]; exact q4
  obtain ⟨vm', hw', hh⟩ := xt_pathGo (l := l) (e := e) (s := s) (args := args) (own := own) (cls := cls) (g := F0 m pc ls rest) (x := x) X'.admits hown hs hpc hpath ((T'.setTop (F0 m pc ls rest)).pushFrame (.throwing x)) ce
    (by rw [Stand.throwing_vm]; exact X'.warmed) (by rw [Stand.throwing_heap]; exact hcell) q3 (by rw [Stand.throwing_vm]; exact hfc)
  have hfind : xt_Finds e ((T'.setTop (F0 m pc ls rest)).pushFrame (.throwing x)) (F0 m pc ls rest) x (.found hpc) vm' := by
    intro Q1 E1 d1 acts1
    rw [Jvm.W.findHandler_eq (meth := meth) (code := c) (by rw [Stand.throwing_vm]; exact X'.method') X'.code, htab]
    exact hh Q1 E1 d1 acts1
  have X2 := X'.noted hw'
  have hle : H.size ≤ T'.heap.size := by rw [e1, ← h0]; exact q5
  have hkeep : ∀ q : Nat, q < H.size → T'.heap[q]? = H[q]? := fun q hq => by rw [e1, ← h0]; exact q6 q (by rw [h0]; exact hq) id
  obtain ⟨t2, a1, b1⟩ := kk x (T'.setVm vm').heap locs hle hkeep ⟨Nat.le_trans hS.1 hle, fun q h1 h2 => (hkeep q (Nat.lt_of_lt_of_le h1 hS.1)).trans (hS.2.1 q h1 h2), hS.2.2⟩ (T'.setVm vm') rfl X2
  exact ⟨t2, st t2 (xt_caught (g := F0 m pc ls rest) X'.here hfind a1), b1⟩
end XTK
end
section
/-! arrays of arrays in one instruction (multianewarray of two dimensions) -/
def mk_in (cB : ClassId) (M : Nat) (dv : Value) : Cell := { cls := cB, slots := Array.replicate M dv, vm := .none }
def mk_out (cA : ClassId) (N q : Nat) : Nat → Cell
  | 0 => { cls := cA, slots := Array.replicate N .null, vm := .none }
  | i + 1 => (mk_out cA N q i).setSlot i (.ref (q + 1 + i))
/-- the state when the outer array and i of its rows are there -/
def mk_st (s : State) (cA cB : ClassId) (N M : Nat) (dv : Value) : Nat → State
  | 0 => s.pushCell (mk_out cA N s.heap.size 0)
  | i + 1 => ((mk_st s cA cB N M dv i).pushCell (mk_in cB M dv)).setCell s.heap.size (mk_out cA N s.heap.size (i + 1))
theorem mk_out_is (cA : ClassId) (N q i : Nat) : (mk_out cA N q i).cls = cA ∧ (mk_out cA N q i).vm = .none ∧ (mk_out cA N q i).slots.size = N := by
  induction i with
  | zero => exact ⟨rfl, rfl, by simp [mk_out]⟩
  | succ i ih =>
    obtain ⟨a, b, d⟩ := ih
    exact ⟨by simp [mk_out, Cell.setSlot, a], by simp [mk_out, Cell.setSlot, b], by simp [mk_out, Cell.setSlot, d]⟩
theorem mk_st_is (s : State) (cA cB : ClassId) (N M : Nat) (dv : Value) (i : Nat) : (mk_st s cA cB N M dv i).heap.size = s.heap.size + 1 + i ∧ (mk_st s cA cB N M dv i).heap[s.heap.size]? = some (mk_out cA N s.heap.size i) ∧
    (mk_st s cA cB N M dv i).vm = s.vm ∧ (mk_st s cA cB N M dv i).slotsUsed = s.slotsUsed + N + i * M := by
  induction i with
  | zero => exact ⟨by simp [mk_st], by simp [mk_st], rfl, by simp [mk_st, mk_out]⟩
  | succ i ih =>
    obtain ⟨a, b, d, u⟩ := ih
    have hlt : s.heap.size < (mk_st s cA cB N M dv i).heap.size := by omega
    have hb' : ((mk_st s cA cB N M dv i).pushCell (mk_in cB M dv)).heap[s.heap.size]? = some (mk_out cA N s.heap.size i) := by rw [State.heap_pushCell_of_lt (h := hlt)]; exact b
    refine ⟨?_, State.heap_setCell_self hb', by simp [mk_st, d], ?_⟩
    · simp [mk_st, State.setCell, a]; omega
    · simp [mk_st, u, mk_in, Nat.succ_mul]; omega
theorem mk_st_top (s : State) (f : JFrame) (cA cB : ClassId) (N M : Nat) (dv : Value) (i : Nat) : mk_st (s.setTop f) cA cB N M dv i = (mk_st s cA cB N M dv i).setTop f := by
  induction i with
  | zero => rfl
  | succ i ih => simp only [mk_st, ih, State.heap_setTop, State.pushCell_setTop, State.setCell_setTop]
theorem mk_st_old (s : State) (cA cB : ClassId) (N M : Nat) (dv : Value) {a : Addr} (ha : a < s.heap.size) (i : Nat) : (mk_st s cA cB N M dv i).heap[a]? = s.heap[a]? := by
  induction i with
  | zero => exact State.heap_pushCell_of_lt _ _ ha
  | succ i ih =>
    have f1 := (mk_st_is s cA cB N M dv i).1
    have hlt : a < (mk_st s cA cB N M dv i).heap.size := Nat.lt_of_lt_of_le ha (by rw [f1]; omega)
    show (((mk_st s cA cB N M dv i).pushCell (mk_in cB M dv)).setCell s.heap.size _).heap[a]? = _
    rw [State.heap_setCell_other (Nat.ne_of_gt ha), State.heap_pushCell_of_lt (h := hlt)]
    exact ih
section MK
variable {E : CtlPost} {e : Env} {d : Bool} {acts : List Action} {s : State}
theorem mk_newArray {cA comp : ClassId} {k : Class} {type : FieldType} {len : Nat} {init : Value} (hk : s.vm.classes[cA]? = some k) (hkind : k.kind = .array comp type)
    (hlimit : ¬ len > e.platform.arrayLengthLimit) (hheap : ¬ len * componentBytes type > e.platform.maxHeapBytes) (hfit : fits type init = true) (hdef : init.isDefault = true) {Q : Addr → Pre}
    (h1 : s.heap.size < e.platform.maxCells) (h2 : s.slotsUsed + len ≤ e.platform.maxSlots)
    (hq : Q s.heap.size d acts (s.pushCell { cls := cA, slots := Array.replicate len init, vm := .none })) :
    wp (Jvm.newArray cA len init) Q E e d acts s := by
  have hfits : ∀ i v, (Array.replicate len init)[i]? = some v → s.fitsSlot cA .none i v = true := by
    intro i v hv
    simp only [Array.getElem?_replicate] at hv
    split at hv
    · cases hv
      simp [State.fitsSlot, State.slotType?, hk, hkind, hfit]
    · cases hv
  have hda : allocActs (Array.replicate len init) s.heap.size acts = acts := by
    have hall : ((Array.replicate len init).all (·.isDefault)) = true := by
      rw [Array.all_replicate]
      split <;> simp [hdef]
    unfold allocActs
    rw [if_pos hall]
  simp only [Jvm.newArray, Jvm.arrayFits, wp_bind', W.ask, W.ite, hlimit, if_false, wp_pure', W.theClass, hk, hkind, hheap, W.alloc, W.stop, Option.some.injEq, exists_eq_left', Array.size_replicate, hda]
  rw [if_neg (by omega)]
  exact ⟨h1, h2, hfits, hq⟩
end MK
section MK2
variable {E : CtlPost} {e : Env} {d : Bool} {acts : List Action} {s : State}
theorem mk_refFits {t : FieldType} (h : t.isReference = true) (v : Value) (hv : v = .null ∨ ∃ a, v = .ref a) : fits t v = true := by
  rcases hv with rfl | ⟨a, rfl⟩ <;> cases t <;> simp [FieldType.isReference] at h <;> rfl
theorem mk_row {cB comp : ClassId} {kB : Class} {type : FieldType} {k : Int32} (hkB : s.vm.classes[cB]? = some kB) (hkind : kB.kind = .array comp type) (hk : ¬ k < 0)
    (hl : ¬ k.toNatClampNeg > e.platform.arrayLengthLimit) (hh : ¬ k.toNatClampNeg * componentBytes type > e.platform.maxHeapBytes) (hdf : fits type (defaultValue type) = true) (hdd : (defaultValue type).isDefault = true)
    (h1 : s.heap.size < e.platform.maxCells) (h2 : s.slotsUsed + k.toNatClampNeg ≤ e.platform.maxSlots) {Q : Addr → Pre} (hq : Q s.heap.size d acts (s.pushCell (mk_in cB k.toNatClampNeg (defaultValue type)))) :
    wp (Op.multianewarray.make cB [k]) Q E e d acts s := by
  rw [Op.multianewarray.make]
  simp only [wp_bind', W.ite, hk, if_false, wp_pure', W.theClass, hkB, hkind, Option.some.injEq, exists_eq_left']
  exact mk_newArray hkB hkind hl hh hdf hdd h1 h2 hq
theorem mk_rows {cA cB comp : ClassId} {kA kB : Class} {t0 type : FieldType} {n k : Int32} (hkA : s.vm.classes[cA]? = some kA) (hkindA : kA.kind = .array cB t0) (href : t0.isReference = true)
    (hkB : s.vm.classes[cB]? = some kB) (hkindB : kB.kind = .array comp type) (hn : ¬ n < 0) (hk : ¬ k < 0)
    (hl1 : ¬ n.toNatClampNeg > e.platform.arrayLengthLimit) (hh1 : ¬ n.toNatClampNeg * componentBytes t0 > e.platform.maxHeapBytes)
    (hl2 : ¬ k.toNatClampNeg > e.platform.arrayLengthLimit) (hh2 : ¬ k.toNatClampNeg * componentBytes type > e.platform.maxHeapBytes) (hdf : fits type (defaultValue type) = true) (hdd : (defaultValue type).isDefault = true)
    (hc : s.heap.size + 1 + n.toNatClampNeg ≤ e.platform.maxCells) (hs : s.slotsUsed + n.toNatClampNeg + n.toNatClampNeg * k.toNatClampNeg ≤ e.platform.maxSlots)
    {Q : Addr → Pre} (hq : ∀ d' acts', Q s.heap.size d' acts' (mk_st s cA cB n.toNatClampNeg k.toNatClampNeg (defaultValue type) n.toNatClampNeg)) :
    wp (Op.multianewarray.make cA [n, k]) Q E e d acts s := by
  have hfind : ([k].find? (· < 0)) = none := by simp [hk]
  generalize hN : n.toNatClampNeg = N at *
  generalize hM : k.toNatClampNeg = M at *
  rw [Op.multianewarray.make]
  simp only [wp_bind', W.ite, hn, if_false, wp_pure', W.theClass, hkA, hkindA, Option.some.injEq, exists_eq_left', hN]
  refine mk_newArray hkA hkindA hl1 hh1 (mk_refFits href _ (Or.inl rfl)) rfl (by omega) (by have := Nat.zero_le (N * M); omega) ?_
  simp only [hfind]
  rw [ite_self, wp_bind', Std.Legacy.Range.forIn_eq_forIn_range']
  have hsz : ([:N] : Std.Legacy.Range).size = N := by simp [Std.Legacy.Range.size]
  rw [hsz]
  show wp (forIn (List.range' 0 N 1) PUnit.unit _) _ E e d acts _
  refine wp_forIn_inv (fun rest s' => ∃ i, i ≤ N ∧ rest = List.range' i (N - i) ∧ s' = mk_st s cA cB N M (defaultValue type) i) _ _ ⟨0, Nat.zero_le _, rfl, rfl⟩ ?_ ?_
  · rintro x rest s' d' acts' Q' ⟨i, hi, hl, rfl⟩ hnext
    have hlt : i < N := by
      rcases Nat.lt_or_ge i N with h | h
      · exact h
      · rw [show N - i = 0 from by omega] at hl
        simp at hl
    obtain ⟨rfl, hrest⟩ : x = i ∧ rest = List.range' (i + 1) (N - (i + 1)) := by
      rw [show N - i = (N - (i + 1)) + 1 from by omega, List.range'_succ] at hl
      exact ⟨(List.cons.inj hl).1, (List.cons.inj hl).2⟩
    obtain ⟨f1, f2, f3, f4⟩ := mk_st_is s cA cB N M (defaultValue type) x
    obtain ⟨o1, o2, o3⟩ := mk_out_is cA N s.heap.size x
    have hmul : x * M + M ≤ N * M := by
      have := Nat.mul_le_mul_right M (show x + 1 ≤ N from hlt)
      rw [Nat.succ_mul] at this
      exact this
    simp only [wp_bind']
    refine mk_row (by rw [f3]; exact hkB) hkindB hk (by rw [hM]; exact hl2) (by rw [hM]; exact hh2) hdf hdd (by rw [f1]; omega) (by rw [f4, hM]; omega) ?_
    have hlt0 : s.heap.size < (mk_st s cA cB N M (defaultValue type) x).heap.size := by rw [f1]; omega
    simp only [wp_bind', W.writeLoc, wp_pure', hM]
    refine ⟨mk_out cA N s.heap.size x, by rw [State.heap_pushCell_of_lt (h := hlt0)]; exact f2, by rw [o2]; simp, by rw [o3]; exact hlt, ?_, hnext _ _ _ ⟨x + 1, hlt, hrest, ?_⟩⟩
    · rw [o1, o2]
      simp [State.fitsSlot, State.slotType?, f3, hkA, hkindA, mk_refFits href _ (Or.inr ⟨_, rfl⟩)]
    · rw [f1]
      rfl
  · rintro s' d' acts' ⟨i, hi, hl, rfl⟩
    have hiN : i = N := by
      rcases Nat.lt_or_ge i N with h | h
      · rw [show N - i = (N - (i + 1)) + 1 from by omega, List.range'_succ] at hl
        cases hl
      · omega
    subst hiN
    simp only [wp_pure']
    exact hq _ _
end MK2
section MK3
variable {p : Program} {l : Launch} {e : Env} {R : Room} {s : State} {m : MethodId} {args : Array Value} {below : List Frame} {meth : Method} {c : Code} {H : Heap} {locs : List Loc} {cells slots : Nat} {Q : State → Prop}
theorem mk_stand {T : State} (X : Stand p l e R s m args below meth c T locs cells slots) (cA cB : ClassId) (N M : Nat) (dv : Value) (i : Nat) :
    Stand p l e R s m args below meth c (mk_st T cA cB N M dv i) (locs ++ (List.range i).map fun j => ⟨T.heap.size, j⟩) (cells + 1 + i) (slots + N + i * M) := by
  induction i with
  | zero =>
    have h := X.pushed (mk_out cA N T.heap.size 0)
    rw [(mk_out_is cA N T.heap.size 0).2.2] at h
    simpa [mk_st] using h
  | succ i ih =>
    obtain ⟨f1, f2, f3, f4⟩ := mk_st_is T cA cB N M dv i
    have hlt0 : T.heap.size < (mk_st T cA cB N M dv i).heap.size := by rw [f1]; omega
    have hcell : ((mk_st T cA cB N M dv i).pushCell (mk_in cB M dv)).heap[T.heap.size]? = some (mk_out cA N T.heap.size i) := by rw [State.heap_pushCell_of_lt (h := hlt0)]; exact f2
    have h := (ih.pushed (mk_in cB M dv)).stored hcell i (.ref (T.heap.size + 1 + i))
    have e1 : (mk_in cB M dv).slots.size = M := by simp [mk_in]
    rw [e1] at h
    have e2 : (locs ++ (List.range (i + 1)).map fun j => (⟨T.heap.size, j⟩ : Loc)) = (locs ++ (List.range i).map fun j => (⟨T.heap.size, j⟩ : Loc)) ++ [⟨T.heap.size, i⟩] := by simp [List.range_succ, List.append_assoc]
    have e3 : slots + N + (i + 1) * M = slots + N + i * M + M := by rw [Nat.succ_mul]; omega
    rw [e2, e3]
    exact h
theorem mk_over {t : FieldType} (h : (Cond.arrayOver (.array t)).before args s = true) :
    ∃ cB cA k, s.vm.findClass (FieldType.array t).toString = some cB ∧ s.vm.classes[cA]? = some k ∧ k.kind = .array cB (.array t) ∧ s.vm.findClass ("[" ++ (FieldType.array t).toString) = some cA := by
  simp only [Cond.before, Cond.holds, Cond.value, beq_iff_eq] at h
  cases hc : s.vm.findClass (FieldType.array t).toString with
  | none => simp [hc] at h
  | some cB =>
    simp only [hc, Option.bind_some, Option.bind_eq_some_iff, Option.map_eq_some_iff] at h
    obtain ⟨cA, hi, k, hk, hb⟩ := h
    obtain ⟨hlt, hp, -⟩ := Array.findIdx?_eq_some_iff_getElem.mp hi
    have hkk : s.vm.classes[cA] = k := (Array.getElem?_eq_some_iff.mp hk).2
    rw [hkk] at hp
    cases hkind : k.kind with
    | array component ty =>
      rw [hkind] at hb hp
      simp at hb hp
      exact ⟨cB, cA, k, rfl, hk, by rw [hkind, hp, hb.1], hb.2⟩
    | _ => rw [hkind] at hb; simp at hb
/-- new T[n][k]: what it holds is not told here, only that all that was there stays -/
theorem mk_new0 {cc : ByteArray} {pc : Nat} {ls : Array Slot} {rest : List Value} {D : va_G} {cl : List vw_C} {A : Nat → Prop} {ws : va_W} {H0 : Heap} (hexec : p.tables.exec = Jvm.exec) (hb : c.code = cc) {own cn : String} {index : Nat} {ty : FieldType}
    (hown : s.vm.findClass own = some m.cls) (hcn : "[" ++ (FieldType.array ty).toString = cn) (hclink : (Cond.classLink own index cn).before args s = true)
    (hover : (Cond.arrayOver (.array ty)).before args s = true) (harr : (Cond.arrayClass ty).before args s = true) (hP : va_P D cl ws H) (hS : va_S A H0 H locs) (hA : ∀ q, H0.size ≤ q → A q)
    {n k : Int32} {N M : Nat} (hn : ¬ n < 0) (hk : ¬ k < 0) (hN : n.toNatClampNeg = N) (hM : k.toNatClampNeg = M) (hb1 : N * 4 ≤ 536870912) (hb2 : M * componentBytes ty ≤ 536870912) (hb3 : M ≤ 536870912)
    (hdf : fits ty (defaultValue ty) = true) (hdd : (defaultValue ty).isDefault = true) (hcells : cells + (1 + N) ≤ R.cells) (hslots : slots + (N + N * M) ≤ R.slots) (hdg : decode cc pc = .ok (.multianewarray index 2, 4))
    (kk : ∀ (q : Nat) (H1 : Heap) (locs1 : List Loc), va_P D cl ws H1 → va_S A H0 H1 locs1 → W p l e R s m args below meth c H1 locs1 (cells + 1 + N) (slots + N + N * M) Q (F0 m (pc + 4) ls (.ref q :: rest))) :
    W p l e R s m args below meth c H locs cells slots Q (F0 m pc ls (.int k :: .int n :: rest)) := by
  subst hb
  subst hcn
  intro T hT X
  have hpl : e.platform.magicAccessors = ({} : Platform).magicAccessors := by rw [X.admits.platform]
  obtain ⟨cB, cA, kA, hcomp, hkA, hkindA, hnameA⟩ := mk_over hover
  obtain ⟨cB', kC, comp, hcomp', hkC, hkindC⟩ := Cond.arrayClass_spec harr
  have ecomp : cB' = cB := Option.some.inj (hcomp'.symm.trans hcomp)
  subst ecomp
  obtain ⟨c0, hfc0, hcl⟩ := Cond.classLink_spec hown hclink e.platform hpl
  cases hnameA.symm.trans hfc0
  obtain ⟨hg₁, hwarm₁, hready₁⟩ := State.classEntry (e := e) X.warmed hcl
  generalize T.vm.noted m.cls index (.cls cA) = vm₁ at hg₁ hwarm₁ hready₁
  have hal : s.vm.Alike vm₁ := hwarm₁.alike
  obtain ⟨kA₁, hkA₁, heA⟩ := hal.2.2 _ _ hkA
  obtain ⟨kC₁, hkC₁, heC⟩ := hal.2.2 _ _ hkC
  have hkindA₁ : kA₁.kind = .array cB' (.array ty) := by rw [heA]; exact hkindA
  have hkindC₁ : kC₁.kind = .array comp ty := by rw [heC]; exact hkindC
  have X₁ := X.noted hwarm₁
  have hr1 := X.cellsAbove hcells
  have hr2 := X.slotsAbove hslots
  subst hN
  subst hM
  have XF := mk_stand X₁ cA cB' n.toNatClampNeg k.toNatClampNeg (defaultValue ty) n.toNatClampNeg
  obtain ⟨f1, f2, f3, f4⟩ := mk_st_is (T.setVm vm₁) cA cB' n.toNatClampNeg k.toNatClampNeg (defaultValue ty) n.toNatClampNeg
  have hold : ∀ x : Nat, x < H.size → (mk_st (T.setVm vm₁) cA cB' n.toNatClampNeg k.toNatClampNeg (defaultValue ty) n.toNatClampNeg).heap[x]? = H[x]? := fun x hx => by
    rw [mk_st_old (T.setVm vm₁) cA cB' _ _ _ (by show x < T.heap.size; rw [hT]; exact hx)]
    show T.heap[x]? = _
    rw [hT]
  have hsz : H.size ≤ (mk_st (T.setVm vm₁) cA cB' n.toNatClampNeg k.toNatClampNeg (defaultValue ty) n.toNatClampNeg).heap.size := by
    rw [f1]; show H.size ≤ T.heap.size + 1 + _; rw [hT]; omega
  obtain ⟨t, a1, b1⟩ := kk T.heap.size _ _ (hP.kept (fun k9 x hx => hold x.1 ((hP k9 x hx).lt))) ⟨Nat.le_trans hS.1 hsz, fun x h1 h2 => (hold x (Nat.lt_of_lt_of_le h1 hS.1)).trans (hS.2.1 x h1 h2), fun q hq => by
    rcases List.mem_append.mp hq with h | h
    · exact hS.2.2 q h
    · obtain ⟨j, -, rfl⟩ := List.mem_map.mp h
      exact hA _ (by show H0.size ≤ T.heap.size; rw [hT]; exact hS.1)⟩ _ rfl XF
  refine ⟨t, ?_, b1⟩
  have hl1 : ¬ n.toNatClampNeg > e.platform.arrayLengthLimit := by rw [Launch.admits_arrayLengthLimit X.admits]; omega
  have hh1 : ¬ n.toNatClampNeg * componentBytes (.array ty) > e.platform.maxHeapBytes := by
    rw [Launch.admits_maxHeapBytes X.admits]; show ¬ n.toNatClampNeg * 4 > 536870912; omega
  have hl2 : ¬ k.toNatClampNeg > e.platform.arrayLengthLimit := by rw [Launch.admits_arrayLengthLimit X.admits]; omega
  have hh2 : ¬ k.toNatClampNeg * componentBytes ty > e.platform.maxHeapBytes := by rw [Launch.admits_maxHeapBytes X.admits]; omega
  jvm_step X.here [hexec, hdg]
  simp only [Op.multianewarray.sem, wp_bind', Jvm.W.resolveClassAt_links (State.method?_setTop (F0 m pc ls (.int k :: .int n :: rest)) X.here.top) hg₁]
  rw [Jvm.W.popN, if_neg (by decide)]
  refine ⟨F0 m pc ls (.int k :: .int n :: rest), State.topJava?_setTop' (s := T.setVm vm₁) _ X.here.top, [.int n, .int k], rest, rfl, rfl, ?_⟩
  simp only [List.mapM_cons, List.mapM_nil, wp_bind', wp_pure']
  refine mk_rows (kA := kA₁) (kB := kC₁) (cB := cB') (comp := comp) (t0 := .array ty) (type := ty) hkA₁ hkindA₁ rfl hkC₁ hkindC₁ hn hk hl1 hh1 hl2 hh2 hdf hdd (by show T.heap.size + 1 + _ ≤ _; omega) (by show T.slotsUsed + _ + _ ≤ _; omega) (fun d' acts' => ?_)
  have eS : ((T.setTop (F0 m pc ls (.int k :: .int n :: rest))).setVm vm₁).setTop { F0 m pc ls (.int k :: .int n :: rest) with stack := rest } = (T.setVm vm₁).setTop { F0 m pc ls (.int k :: .int n :: rest) with stack := rest } := by
    show ((T.setVm vm₁).setTop _).setTop _ = _
    rw [State.setTop_setTop]
  rw [eS, mk_st_top]
  simp only [wp_bind', Jvm.W.mark, Jvm.W.pushRef, State.topJava?_setTop' _ XF.here.top, Option.some.injEq, exists_eq_left', State.setTop_setTop, State.heap_setTop]
  intro acts
  simp [jvm, XF.here.top]
  exact a1
end MK3
end
