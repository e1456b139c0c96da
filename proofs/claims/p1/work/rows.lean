section
-- ===== PART A: goes FIRST, ahead of the names: the tables' words, and 'selects' of the private methods out of them =====
/-- a private method of a class that the tables say can be made, by its rows of tables_1 -/
def lw_okq (q : MethodName × Nat) : Prop := (q.1.cls ≠ "java/lang/invoke/MethodHandle" ∧ q.1.cls ≠ "java/lang/invoke/VarHandle") ∧ Cond.instantiable q.1.cls q.2 ∈ tables_1 ∧ Cond.privateMethod q.1 ∈ tables_1 ∧ Cond.instanceMethod q.1 ∈ tables_1
theorem lw_p0 : lw_okq (⟨"LeastSolutions", "buildNext", "()I"⟩, 16) := ⟨⟨by decide +kernel, by decide +kernel⟩, List.mem_of_getElem? (i := 23) (by decide +kernel), List.mem_of_getElem? (i := 357) (by decide +kernel), List.mem_of_getElem? (i := 358) (by decide +kernel)⟩
theorem lw_p1 : lw_okq (⟨"LeastSolutions$Words", "add", "(LLeastSolutions$Text;I)Z"⟩, 7) := ⟨⟨by decide +kernel, by decide +kernel⟩, List.mem_of_getElem? (i := 47) (by decide +kernel), List.mem_of_getElem? (i := 369) (by decide +kernel), List.mem_of_getElem? (i := 370) (by decide +kernel)⟩
theorem lw_p2 : lw_okq (⟨"LeastSolutions$Words", "stateAfter", "(I)I"⟩, 7) := ⟨⟨by decide +kernel, by decide +kernel⟩, List.mem_of_getElem? (i := 47) (by decide +kernel), List.mem_of_getElem? (i := 382) (by decide +kernel), List.mem_of_getElem? (i := 383) (by decide +kernel)⟩
theorem lw_p3 : lw_okq (⟨"LeastSolutions$Words", "isSumWhole", "()Z"⟩, 7) := ⟨⟨by decide +kernel, by decide +kernel⟩, List.mem_of_getElem? (i := 47) (by decide +kernel), List.mem_of_getElem? (i := 386) (by decide +kernel), List.mem_of_getElem? (i := 387) (by decide +kernel)⟩
theorem lw_p4 : lw_okq (⟨"LeastSolutions$Builder", "beginRow", "(I)I"⟩, 8) := ⟨⟨by decide +kernel, by decide +kernel⟩, List.mem_of_getElem? (i := 81) (by decide +kernel), List.mem_of_getElem? (i := 410) (by decide +kernel), List.mem_of_getElem? (i := 411) (by decide +kernel)⟩
theorem lw_p5 : lw_okq (⟨"LeastSolutions$Builder", "fault", "(II)I"⟩, 8) := ⟨⟨by decide +kernel, by decide +kernel⟩, List.mem_of_getElem? (i := 81) (by decide +kernel), List.mem_of_getElem? (i := 414) (by decide +kernel), List.mem_of_getElem? (i := 415) (by decide +kernel)⟩
theorem lw_p6 : lw_okq (⟨"LeastSolutions$Builder", "beginTerm", "(I)V"⟩, 8) := ⟨⟨by decide +kernel, by decide +kernel⟩, List.mem_of_getElem? (i := 81) (by decide +kernel), List.mem_of_getElem? (i := 418) (by decide +kernel), List.mem_of_getElem? (i := 419) (by decide +kernel)⟩
theorem lw_p7 : lw_okq (⟨"LeastSolutions$Builder", "add", "(III)I"⟩, 8) := ⟨⟨by decide +kernel, by decide +kernel⟩, List.mem_of_getElem? (i := 81) (by decide +kernel), List.mem_of_getElem? (i := 422) (by decide +kernel), List.mem_of_getElem? (i := 423) (by decide +kernel)⟩
theorem lw_p8 : lw_okq (⟨"LeastSolutions$Builder", "addVariable", "(II)I"⟩, 8) := ⟨⟨by decide +kernel, by decide +kernel⟩, List.mem_of_getElem? (i := 81) (by decide +kernel), List.mem_of_getElem? (i := 426) (by decide +kernel), List.mem_of_getElem? (i := 427) (by decide +kernel)⟩
theorem lw_p9 : lw_okq (⟨"LeastSolutions$Builder", "endTerm", "()V"⟩, 8) := ⟨⟨by decide +kernel, by decide +kernel⟩, List.mem_of_getElem? (i := 81) (by decide +kernel), List.mem_of_getElem? (i := 442) (by decide +kernel), List.mem_of_getElem? (i := 443) (by decide +kernel)⟩
theorem lw_p10 : lw_okq (⟨"LeastSolutions$Builder", "endRow", "()I"⟩, 8) := ⟨⟨by decide +kernel, by decide +kernel⟩, List.mem_of_getElem? (i := 81) (by decide +kernel), List.mem_of_getElem? (i := 446) (by decide +kernel), List.mem_of_getElem? (i := 447) (by decide +kernel)⟩
theorem lw_p11 : lw_okq (⟨"LeastSolutions", "takeNext", "()V"⟩, 16) := ⟨⟨by decide +kernel, by decide +kernel⟩, List.mem_of_getElem? (i := 23) (by decide +kernel), List.mem_of_getElem? (i := 466) (by decide +kernel), List.mem_of_getElem? (i := 467) (by decide +kernel)⟩
theorem lw_p12 : lw_okq (⟨"LeastSolutions$Lattice", "insertFresh", "()V"⟩, 9) := ⟨⟨by decide +kernel, by decide +kernel⟩, List.mem_of_getElem? (i := 160) (by decide +kernel), List.mem_of_getElem? (i := 483) (by decide +kernel), List.mem_of_getElem? (i := 484) (by decide +kernel)⟩
theorem lw_p13 : lw_okq (⟨"LeastSolutions$Lattice", "placeFresh", "(I)V"⟩, 9) := ⟨⟨by decide +kernel, by decide +kernel⟩, List.mem_of_getElem? (i := 160) (by decide +kernel), List.mem_of_getElem? (i := 487) (by decide +kernel), List.mem_of_getElem? (i := 488) (by decide +kernel)⟩
theorem lw_p14 : lw_okq (⟨"LeastSolutions$Lattice", "swapFresh", "(I)V"⟩, 9) := ⟨⟨by decide +kernel, by decide +kernel⟩, List.mem_of_getElem? (i := 160) (by decide +kernel), List.mem_of_getElem? (i := 491) (by decide +kernel), List.mem_of_getElem? (i := 492) (by decide +kernel)⟩
theorem lw_p15 : lw_okq (⟨"LeastSolutions$Lattice", "makeLeadPositive", "(II)V"⟩, 9) := ⟨⟨by decide +kernel, by decide +kernel⟩, List.mem_of_getElem? (i := 160) (by decide +kernel), List.mem_of_getElem? (i := 495) (by decide +kernel), List.mem_of_getElem? (i := 496) (by decide +kernel)⟩
def lw_privs_1 : List (MethodName × Nat) := [(⟨"LeastSolutions", "buildNext", "()I"⟩, 16), (⟨"LeastSolutions$Words", "add", "(LLeastSolutions$Text;I)Z"⟩, 7), (⟨"LeastSolutions$Words", "stateAfter", "(I)I"⟩, 7), (⟨"LeastSolutions$Words", "isSumWhole", "()Z"⟩, 7), (⟨"LeastSolutions$Builder", "beginRow", "(I)I"⟩, 8), (⟨"LeastSolutions$Builder", "fault", "(II)I"⟩, 8), (⟨"LeastSolutions$Builder", "beginTerm", "(I)V"⟩, 8), (⟨"LeastSolutions$Builder", "add", "(III)I"⟩, 8), (⟨"LeastSolutions$Builder", "addVariable", "(II)I"⟩, 8), (⟨"LeastSolutions$Builder", "endTerm", "()V"⟩, 8), (⟨"LeastSolutions$Builder", "endRow", "()I"⟩, 8), (⟨"LeastSolutions", "takeNext", "()V"⟩, 16), (⟨"LeastSolutions$Lattice", "insertFresh", "()V"⟩, 9), (⟨"LeastSolutions$Lattice", "placeFresh", "(I)V"⟩, 9), (⟨"LeastSolutions$Lattice", "swapFresh", "(I)V"⟩, 9), (⟨"LeastSolutions$Lattice", "makeLeadPositive", "(II)V"⟩, 9)]
theorem lw_r1 : ∀ q ∈ lw_privs_1, lw_okq q := List.forall_mem_cons.mpr ⟨lw_p0, List.forall_mem_cons.mpr ⟨lw_p1, List.forall_mem_cons.mpr ⟨lw_p2, List.forall_mem_cons.mpr ⟨lw_p3, List.forall_mem_cons.mpr ⟨lw_p4, List.forall_mem_cons.mpr ⟨lw_p5, List.forall_mem_cons.mpr ⟨lw_p6, List.forall_mem_cons.mpr ⟨lw_p7, List.forall_mem_cons.mpr ⟨lw_p8, List.forall_mem_cons.mpr ⟨lw_p9, List.forall_mem_cons.mpr ⟨lw_p10, List.forall_mem_cons.mpr ⟨lw_p11, List.forall_mem_cons.mpr ⟨lw_p12, List.forall_mem_cons.mpr ⟨lw_p13, List.forall_mem_cons.mpr ⟨lw_p14, List.forall_mem_cons.mpr ⟨lw_p15, fun _ h => absurd h List.not_mem_nil⟩⟩⟩⟩⟩⟩⟩⟩⟩⟩⟩⟩⟩⟩⟩⟩
theorem lw_p16 : lw_okq (⟨"LeastSolutions$Lattice", "joinFresh", "(II)V"⟩, 9) := ⟨⟨by decide +kernel, by decide +kernel⟩, List.mem_of_getElem? (i := 160) (by decide +kernel), List.mem_of_getElem? (i := 499) (by decide +kernel), List.mem_of_getElem? (i := 500) (by decide +kernel)⟩
theorem lw_p17 : lw_okq (⟨"LeastSolutions$Lattice", "takeTimes", "([J[JJ)V"⟩, 9) := ⟨⟨by decide +kernel, by decide +kernel⟩, List.mem_of_getElem? (i := 160) (by decide +kernel), List.mem_of_getElem? (i := 503) (by decide +kernel), List.mem_of_getElem? (i := 504) (by decide +kernel)⟩
theorem lw_p18 : lw_okq (⟨"LeastSolutions$Lattice", "reduce", "([JI)V"⟩, 9) := ⟨⟨by decide +kernel, by decide +kernel⟩, List.mem_of_getElem? (i := 160) (by decide +kernel), List.mem_of_getElem? (i := 507) (by decide +kernel), List.mem_of_getElem? (i := 508) (by decide +kernel)⟩
theorem lw_p19 : lw_okq (⟨"LeastSolutions$Lattice", "reduceAll", "()V"⟩, 9) := ⟨⟨by decide +kernel, by decide +kernel⟩, List.mem_of_getElem? (i := 160) (by decide +kernel), List.mem_of_getElem? (i := 514) (by decide +kernel), List.mem_of_getElem? (i := 515) (by decide +kernel)⟩
theorem lw_p20 : lw_okq (⟨"LeastSolutions$Lattice", "findKernel", "()V"⟩, 9) := ⟨⟨by decide +kernel, by decide +kernel⟩, List.mem_of_getElem? (i := 160) (by decide +kernel), List.mem_of_getElem? (i := 518) (by decide +kernel), List.mem_of_getElem? (i := 519) (by decide +kernel)⟩
theorem lw_p21 : lw_okq (⟨"LeastSolutions", "canSplit", "()Z"⟩, 16) := ⟨⟨by decide +kernel, by decide +kernel⟩, List.mem_of_getElem? (i := 23) (by decide +kernel), List.mem_of_getElem? (i := 544) (by decide +kernel), List.mem_of_getElem? (i := 545) (by decide +kernel)⟩
theorem lw_p22 : lw_okq (⟨"LeastSolutions", "takeOften", "(I)I"⟩, 16) := ⟨⟨by decide +kernel, by decide +kernel⟩, List.mem_of_getElem? (i := 23) (by decide +kernel), List.mem_of_getElem? (i := 578) (by decide +kernel), List.mem_of_getElem? (i := 579) (by decide +kernel)⟩
theorem lw_p23 : lw_okq (⟨"LeastSolutions", "hasColumn", "(I)Z"⟩, 16) := ⟨⟨by decide +kernel, by decide +kernel⟩, List.mem_of_getElem? (i := 23) (by decide +kernel), List.mem_of_getElem? (i := 595) (by decide +kernel), List.mem_of_getElem? (i := 596) (by decide +kernel)⟩
theorem lw_p24 : lw_okq (⟨"java/lang/Throwable", "fillInStackTrace", "(I)Ljava/lang/Throwable;"⟩, 6) := ⟨⟨by decide +kernel, by decide +kernel⟩, List.mem_of_getElem? (i := 646) (by decide +kernel), List.mem_of_getElem? (i := 644) (by decide +kernel), List.mem_of_getElem? (i := 645) (by decide +kernel)⟩
theorem lw_p25 : lw_okq (⟨"LeastSolutions", "needSystem", "()V"⟩, 16) := ⟨⟨by decide +kernel, by decide +kernel⟩, List.mem_of_getElem? (i := 23) (by decide +kernel), List.mem_of_getElem? (i := 679) (by decide +kernel), List.mem_of_getElem? (i := 680) (by decide +kernel)⟩
theorem lw_p26 : lw_okq (⟨"LeastSolutions$Lattice", "takeFromTarget", "(I)Z"⟩, 9) := ⟨⟨by decide +kernel, by decide +kernel⟩, List.mem_of_getElem? (i := 160) (by decide +kernel), List.mem_of_getElem? (i := 702) (by decide +kernel), List.mem_of_getElem? (i := 703) (by decide +kernel)⟩
theorem lw_p27 : lw_okq (⟨"LeastSolutions", "needColumn", "(I)V"⟩, 16) := ⟨⟨by decide +kernel, by decide +kernel⟩, List.mem_of_getElem? (i := 23) (by decide +kernel), List.mem_of_getElem? (i := 720) (by decide +kernel), List.mem_of_getElem? (i := 721) (by decide +kernel)⟩
theorem lw_p28 : lw_okq (⟨"LeastSolutions$Search", "findReach", "(I)V"⟩, 8) := ⟨⟨by decide +kernel, by decide +kernel⟩, List.mem_of_getElem? (i := 198) (by decide +kernel), List.mem_of_getElem? (i := 764) (by decide +kernel), List.mem_of_getElem? (i := 765) (by decide +kernel)⟩
theorem lw_p29 : lw_okq (⟨"LeastSolutions$Search", "fill", "(IIZLLeastSolutions$Taker;)Z"⟩, 8) := ⟨⟨by decide +kernel, by decide +kernel⟩, List.mem_of_getElem? (i := 198) (by decide +kernel), List.mem_of_getElem? (i := 786) (by decide +kernel), List.mem_of_getElem? (i := 787) (by decide +kernel)⟩
theorem lw_p30 : lw_okq (⟨"LeastSolutions$Search", "canBeFilled", "(II)Z"⟩, 8) := ⟨⟨by decide +kernel, by decide +kernel⟩, List.mem_of_getElem? (i := 198) (by decide +kernel), List.mem_of_getElem? (i := 790) (by decide +kernel), List.mem_of_getElem? (i := 791) (by decide +kernel)⟩
theorem lw_p31 : lw_okq (⟨"LeastSolutions$Cheapest", "priceOf", "([I)I"⟩, 5) := ⟨⟨by decide +kernel, by decide +kernel⟩, List.mem_of_getElem? (i := 232) (by decide +kernel), List.mem_of_getElem? (i := 800) (by decide +kernel), List.mem_of_getElem? (i := 801) (by decide +kernel)⟩
def lw_privs_2 : List (MethodName × Nat) := [(⟨"LeastSolutions$Lattice", "joinFresh", "(II)V"⟩, 9), (⟨"LeastSolutions$Lattice", "takeTimes", "([J[JJ)V"⟩, 9), (⟨"LeastSolutions$Lattice", "reduce", "([JI)V"⟩, 9), (⟨"LeastSolutions$Lattice", "reduceAll", "()V"⟩, 9), (⟨"LeastSolutions$Lattice", "findKernel", "()V"⟩, 9), (⟨"LeastSolutions", "canSplit", "()Z"⟩, 16), (⟨"LeastSolutions", "takeOften", "(I)I"⟩, 16), (⟨"LeastSolutions", "hasColumn", "(I)Z"⟩, 16), (⟨"java/lang/Throwable", "fillInStackTrace", "(I)Ljava/lang/Throwable;"⟩, 6), (⟨"LeastSolutions", "needSystem", "()V"⟩, 16), (⟨"LeastSolutions$Lattice", "takeFromTarget", "(I)Z"⟩, 9), (⟨"LeastSolutions", "needColumn", "(I)V"⟩, 16), (⟨"LeastSolutions$Search", "findReach", "(I)V"⟩, 8), (⟨"LeastSolutions$Search", "fill", "(IIZLLeastSolutions$Taker;)Z"⟩, 8), (⟨"LeastSolutions$Search", "canBeFilled", "(II)Z"⟩, 8), (⟨"LeastSolutions$Cheapest", "priceOf", "([I)I"⟩, 5)]
theorem lw_r2 : ∀ q ∈ lw_privs_2, lw_okq q := List.forall_mem_cons.mpr ⟨lw_p16, List.forall_mem_cons.mpr ⟨lw_p17, List.forall_mem_cons.mpr ⟨lw_p18, List.forall_mem_cons.mpr ⟨lw_p19, List.forall_mem_cons.mpr ⟨lw_p20, List.forall_mem_cons.mpr ⟨lw_p21, List.forall_mem_cons.mpr ⟨lw_p22, List.forall_mem_cons.mpr ⟨lw_p23, List.forall_mem_cons.mpr ⟨lw_p24, List.forall_mem_cons.mpr ⟨lw_p25, List.forall_mem_cons.mpr ⟨lw_p26, List.forall_mem_cons.mpr ⟨lw_p27, List.forall_mem_cons.mpr ⟨lw_p28, List.forall_mem_cons.mpr ⟨lw_p29, List.forall_mem_cons.mpr ⟨lw_p30, List.forall_mem_cons.mpr ⟨lw_p31, fun _ h => absurd h List.not_mem_nil⟩⟩⟩⟩⟩⟩⟩⟩⟩⟩⟩⟩⟩⟩⟩⟩
theorem lw_p32 : lw_okq (⟨"LeastSolutions$Cheapest", "isBefore", "([I)Z"⟩, 5) := ⟨⟨by decide +kernel, by decide +kernel⟩, List.mem_of_getElem? (i := 232) (by decide +kernel), List.mem_of_getElem? (i := 804) (by decide +kernel), List.mem_of_getElem? (i := 805) (by decide +kernel)⟩
theorem lw_p33 : lw_okq (⟨"LeastSolutions$VectorList", "hasOneWithin", "([I)Z"⟩, 6) := ⟨⟨by decide +kernel, by decide +kernel⟩, List.mem_of_getElem? (i := 262) (by decide +kernel), List.mem_of_getElem? (i := 812) (by decide +kernel), List.mem_of_getElem? (i := 813) (by decide +kernel)⟩
theorem lw_p34 : lw_okq (⟨"LeastSolutions$Search", "put", "(II)V"⟩, 8) := ⟨⟨by decide +kernel, by decide +kernel⟩, List.mem_of_getElem? (i := 198) (by decide +kernel), List.mem_of_getElem? (i := 817) (by decide +kernel), List.mem_of_getElem? (i := 818) (by decide +kernel)⟩
theorem lw_p35 : lw_okq (⟨"LeastSolutionsModel", "cut", "()V"⟩, 36) := ⟨⟨by decide +kernel, by decide +kernel⟩, List.mem_of_getElem? (i := 880) (by decide +kernel), List.mem_of_getElem? (i := 1012) (by decide +kernel), List.mem_of_getElem? (i := 1013) (by decide +kernel)⟩
theorem lw_p36 : lw_okq (⟨"LeastSolutionsModel", "letter0", "(I)I"⟩, 36) := ⟨⟨by decide +kernel, by decide +kernel⟩, List.mem_of_getElem? (i := 880) (by decide +kernel), List.mem_of_getElem? (i := 1016) (by decide +kernel), List.mem_of_getElem? (i := 1017) (by decide +kernel)⟩
theorem lw_p37 : lw_okq (⟨"LeastSolutionsModel", "word", "(III)V"⟩, 36) := ⟨⟨by decide +kernel, by decide +kernel⟩, List.mem_of_getElem? (i := 880) (by decide +kernel), List.mem_of_getElem? (i := 1020) (by decide +kernel), List.mem_of_getElem? (i := 1021) (by decide +kernel)⟩
theorem lw_p38 : lw_okq (⟨"LeastSolutionsModel", "bad", "()I"⟩, 36) := ⟨⟨by decide +kernel, by decide +kernel⟩, List.mem_of_getElem? (i := 880) (by decide +kernel), List.mem_of_getElem? (i := 1024) (by decide +kernel), List.mem_of_getElem? (i := 1025) (by decide +kernel)⟩
theorem lw_p39 : lw_okq (⟨"LeastSolutionsModel", "fault", "(II)I"⟩, 36) := ⟨⟨by decide +kernel, by decide +kernel⟩, List.mem_of_getElem? (i := 880) (by decide +kernel), List.mem_of_getElem? (i := 1028) (by decide +kernel), List.mem_of_getElem? (i := 1029) (by decide +kernel)⟩
theorem lw_p40 : lw_okq (⟨"LeastSolutionsModel", "build", "()I"⟩, 36) := ⟨⟨by decide +kernel, by decide +kernel⟩, List.mem_of_getElem? (i := 880) (by decide +kernel), List.mem_of_getElem? (i := 1032) (by decide +kernel), List.mem_of_getElem? (i := 1033) (by decide +kernel)⟩
theorem lw_p41 : lw_okq (⟨"LeastSolutionsModel", "draftColumn", "(I)I"⟩, 36) := ⟨⟨by decide +kernel, by decide +kernel⟩, List.mem_of_getElem? (i := 880) (by decide +kernel), List.mem_of_getElem? (i := 1036) (by decide +kernel), List.mem_of_getElem? (i := 1037) (by decide +kernel)⟩
theorem lw_p42 : lw_okq (⟨"LeastSolutionsModel", "take", "()V"⟩, 36) := ⟨⟨by decide +kernel, by decide +kernel⟩, List.mem_of_getElem? (i := 880) (by decide +kernel), List.mem_of_getElem? (i := 1040) (by decide +kernel), List.mem_of_getElem? (i := 1041) (by decide +kernel)⟩
theorem lw_p43 : lw_okq (⟨"LeastSolutionsModel", "solveWhole", "()V"⟩, 36) := ⟨⟨by decide +kernel, by decide +kernel⟩, List.mem_of_getElem? (i := 880) (by decide +kernel), List.mem_of_getElem? (i := 1064) (by decide +kernel), List.mem_of_getElem? (i := 1065) (by decide +kernel)⟩
theorem lw_p44 : lw_okq (⟨"LeastSolutionsModel", "narrow", "(I)V"⟩, 36) := ⟨⟨by decide +kernel, by decide +kernel⟩, List.mem_of_getElem? (i := 880) (by decide +kernel), List.mem_of_getElem? (i := 1068) (by decide +kernel), List.mem_of_getElem? (i := 1069) (by decide +kernel)⟩
theorem lw_p45 : lw_okq (⟨"LeastSolutionsModel", "dot", "(I[JI)J"⟩, 36) := ⟨⟨by decide +kernel, by decide +kernel⟩, List.mem_of_getElem? (i := 880) (by decide +kernel), List.mem_of_getElem? (i := 1072) (by decide +kernel), List.mem_of_getElem? (i := 1073) (by decide +kernel)⟩
theorem lw_p46 : lw_okq (⟨"LeastSolutionsModel", "exchange", "(II)V"⟩, 36) := ⟨⟨by decide +kernel, by decide +kernel⟩, List.mem_of_getElem? (i := 880) (by decide +kernel), List.mem_of_getElem? (i := 1079) (by decide +kernel), List.mem_of_getElem? (i := 1080) (by decide +kernel)⟩
theorem lw_p47 : lw_okq (⟨"LeastSolutionsModel", "lose", "(IIJ)V"⟩, 36) := ⟨⟨by decide +kernel, by decide +kernel⟩, List.mem_of_getElem? (i := 880) (by decide +kernel), List.mem_of_getElem? (i := 1083) (by decide +kernel), List.mem_of_getElem? (i := 1084) (by decide +kernel)⟩
def lw_privs_3 : List (MethodName × Nat) := [(⟨"LeastSolutions$Cheapest", "isBefore", "([I)Z"⟩, 5), (⟨"LeastSolutions$VectorList", "hasOneWithin", "([I)Z"⟩, 6), (⟨"LeastSolutions$Search", "put", "(II)V"⟩, 8), (⟨"LeastSolutionsModel", "cut", "()V"⟩, 36), (⟨"LeastSolutionsModel", "letter0", "(I)I"⟩, 36), (⟨"LeastSolutionsModel", "word", "(III)V"⟩, 36), (⟨"LeastSolutionsModel", "bad", "()I"⟩, 36), (⟨"LeastSolutionsModel", "fault", "(II)I"⟩, 36), (⟨"LeastSolutionsModel", "build", "()I"⟩, 36), (⟨"LeastSolutionsModel", "draftColumn", "(I)I"⟩, 36), (⟨"LeastSolutionsModel", "take", "()V"⟩, 36), (⟨"LeastSolutionsModel", "solveWhole", "()V"⟩, 36), (⟨"LeastSolutionsModel", "narrow", "(I)V"⟩, 36), (⟨"LeastSolutionsModel", "dot", "(I[JI)J"⟩, 36), (⟨"LeastSolutionsModel", "exchange", "(II)V"⟩, 36), (⟨"LeastSolutionsModel", "lose", "(IIJ)V"⟩, 36)]
theorem lw_r3 : ∀ q ∈ lw_privs_3, lw_okq q := List.forall_mem_cons.mpr ⟨lw_p32, List.forall_mem_cons.mpr ⟨lw_p33, List.forall_mem_cons.mpr ⟨lw_p34, List.forall_mem_cons.mpr ⟨lw_p35, List.forall_mem_cons.mpr ⟨lw_p36, List.forall_mem_cons.mpr ⟨lw_p37, List.forall_mem_cons.mpr ⟨lw_p38, List.forall_mem_cons.mpr ⟨lw_p39, List.forall_mem_cons.mpr ⟨lw_p40, List.forall_mem_cons.mpr ⟨lw_p41, List.forall_mem_cons.mpr ⟨lw_p42, List.forall_mem_cons.mpr ⟨lw_p43, List.forall_mem_cons.mpr ⟨lw_p44, List.forall_mem_cons.mpr ⟨lw_p45, List.forall_mem_cons.mpr ⟨lw_p46, List.forall_mem_cons.mpr ⟨lw_p47, fun _ h => absurd h List.not_mem_nil⟩⟩⟩⟩⟩⟩⟩⟩⟩⟩⟩⟩⟩⟩⟩⟩
theorem lw_p48 : lw_okq (⟨"LeastSolutionsModel", "order", "()V"⟩, 36) := ⟨⟨by decide +kernel, by decide +kernel⟩, List.mem_of_getElem? (i := 880) (by decide +kernel), List.mem_of_getElem? (i := 1087) (by decide +kernel), List.mem_of_getElem? (i := 1088) (by decide +kernel)⟩
theorem lw_p49 : lw_okq (⟨"LeastSolutionsModel", "gather", "(II)Z"⟩, 36) := ⟨⟨by decide +kernel, by decide +kernel⟩, List.mem_of_getElem? (i := 880) (by decide +kernel), List.mem_of_getElem? (i := 1091) (by decide +kernel), List.mem_of_getElem? (i := 1092) (by decide +kernel)⟩
theorem lw_p50 : lw_okq (⟨"LeastSolutionsModel", "turn", "(I)V"⟩, 36) := ⟨⟨by decide +kernel, by decide +kernel⟩, List.mem_of_getElem? (i := 880) (by decide +kernel), List.mem_of_getElem? (i := 1095) (by decide +kernel), List.mem_of_getElem? (i := 1096) (by decide +kernel)⟩
theorem lw_p51 : lw_okq (⟨"LeastSolutionsModel", "shorten", "()V"⟩, 36) := ⟨⟨by decide +kernel, by decide +kernel⟩, List.mem_of_getElem? (i := 880) (by decide +kernel), List.mem_of_getElem? (i := 1099) (by decide +kernel), List.mem_of_getElem? (i := 1100) (by decide +kernel)⟩
theorem lw_p52 : lw_okq (⟨"LeastSolutionsModel", "isColumn", "(I)Z"⟩, 36) := ⟨⟨by decide +kernel, by decide +kernel⟩, List.mem_of_getElem? (i := 880) (by decide +kernel), List.mem_of_getElem? (i := 1111) (by decide +kernel), List.mem_of_getElem? (i := 1112) (by decide +kernel)⟩
theorem lw_p53 : lw_okq (⟨"LeastSolutionsModel", "most", "(I)I"⟩, 36) := ⟨⟨by decide +kernel, by decide +kernel⟩, List.mem_of_getElem? (i := 880) (by decide +kernel), List.mem_of_getElem? (i := 1119) (by decide +kernel), List.mem_of_getElem? (i := 1120) (by decide +kernel)⟩
theorem lw_p54 : lw_okq (⟨"LeastSolutionsModel", "begin", "(IZ)V"⟩, 36) := ⟨⟨by decide +kernel, by decide +kernel⟩, List.mem_of_getElem? (i := 880) (by decide +kernel), List.mem_of_getElem? (i := 1123) (by decide +kernel), List.mem_of_getElem? (i := 1124) (by decide +kernel)⟩
theorem lw_p55 : lw_okq (⟨"LeastSolutionsModel", "belongs", "(I)Z"⟩, 36) := ⟨⟨by decide +kernel, by decide +kernel⟩, List.mem_of_getElem? (i := 880) (by decide +kernel), List.mem_of_getElem? (i := 1127) (by decide +kernel), List.mem_of_getElem? (i := 1128) (by decide +kernel)⟩
theorem lw_p56 : lw_okq (⟨"LeastSolutionsModel", "solves", "([IZ)Z"⟩, 36) := ⟨⟨by decide +kernel, by decide +kernel⟩, List.mem_of_getElem? (i := 880) (by decide +kernel), List.mem_of_getElem? (i := 1131) (by decide +kernel), List.mem_of_getElem? (i := 1132) (by decide +kernel)⟩
theorem lw_p57 : lw_okq (⟨"LeastSolutionsModel", "isBelow", "(III)Z"⟩, 36) := ⟨⟨by decide +kernel, by decide +kernel⟩, List.mem_of_getElem? (i := 880) (by decide +kernel), List.mem_of_getElem? (i := 1135) (by decide +kernel), List.mem_of_getElem? (i := 1136) (by decide +kernel)⟩
theorem lw_p58 : lw_okq (⟨"LeastSolutionsModel", "put", "(I)V"⟩, 36) := ⟨⟨by decide +kernel, by decide +kernel⟩, List.mem_of_getElem? (i := 880) (by decide +kernel), List.mem_of_getElem? (i := 1139) (by decide +kernel), List.mem_of_getElem? (i := 1140) (by decide +kernel)⟩
theorem lw_p59 : lw_okq (⟨"LeastSolutionsModel", "next", "(Z)Z"⟩, 36) := ⟨⟨by decide +kernel, by decide +kernel⟩, List.mem_of_getElem? (i := 880) (by decide +kernel), List.mem_of_getElem? (i := 1143) (by decide +kernel), List.mem_of_getElem? (i := 1144) (by decide +kernel)⟩
theorem lw_p60 : lw_okq (⟨"LeastSolutionsModel", "spread", "(IIZ)V"⟩, 36) := ⟨⟨by decide +kernel, by decide +kernel⟩, List.mem_of_getElem? (i := 880) (by decide +kernel), List.mem_of_getElem? (i := 1147) (by decide +kernel), List.mem_of_getElem? (i := 1148) (by decide +kernel)⟩
theorem lw_p61 : lw_okq (⟨"LeastSolutionsModel", "isPlain", "()Z"⟩, 36) := ⟨⟨by decide +kernel, by decide +kernel⟩, List.mem_of_getElem? (i := 880) (by decide +kernel), List.mem_of_getElem? (i := 1163) (by decide +kernel), List.mem_of_getElem? (i := 1164) (by decide +kernel)⟩
theorem lw_p62 : lw_okq (⟨"LeastSolutionsModel", "isBefore", "()Z"⟩, 36) := ⟨⟨by decide +kernel, by decide +kernel⟩, List.mem_of_getElem? (i := 880) (by decide +kernel), List.mem_of_getElem? (i := 1183) (by decide +kernel), List.mem_of_getElem? (i := 1184) (by decide +kernel)⟩
def lw_privs_4 : List (MethodName × Nat) := [(⟨"LeastSolutionsModel", "order", "()V"⟩, 36), (⟨"LeastSolutionsModel", "gather", "(II)Z"⟩, 36), (⟨"LeastSolutionsModel", "turn", "(I)V"⟩, 36), (⟨"LeastSolutionsModel", "shorten", "()V"⟩, 36), (⟨"LeastSolutionsModel", "isColumn", "(I)Z"⟩, 36), (⟨"LeastSolutionsModel", "most", "(I)I"⟩, 36), (⟨"LeastSolutionsModel", "begin", "(IZ)V"⟩, 36), (⟨"LeastSolutionsModel", "belongs", "(I)Z"⟩, 36), (⟨"LeastSolutionsModel", "solves", "([IZ)Z"⟩, 36), (⟨"LeastSolutionsModel", "isBelow", "(III)Z"⟩, 36), (⟨"LeastSolutionsModel", "put", "(I)V"⟩, 36), (⟨"LeastSolutionsModel", "next", "(Z)Z"⟩, 36), (⟨"LeastSolutionsModel", "spread", "(IIZ)V"⟩, 36), (⟨"LeastSolutionsModel", "isPlain", "()Z"⟩, 36), (⟨"LeastSolutionsModel", "isBefore", "()Z"⟩, 36)]
theorem lw_r4 : ∀ q ∈ lw_privs_4, lw_okq q := List.forall_mem_cons.mpr ⟨lw_p48, List.forall_mem_cons.mpr ⟨lw_p49, List.forall_mem_cons.mpr ⟨lw_p50, List.forall_mem_cons.mpr ⟨lw_p51, List.forall_mem_cons.mpr ⟨lw_p52, List.forall_mem_cons.mpr ⟨lw_p53, List.forall_mem_cons.mpr ⟨lw_p54, List.forall_mem_cons.mpr ⟨lw_p55, List.forall_mem_cons.mpr ⟨lw_p56, List.forall_mem_cons.mpr ⟨lw_p57, List.forall_mem_cons.mpr ⟨lw_p58, List.forall_mem_cons.mpr ⟨lw_p59, List.forall_mem_cons.mpr ⟨lw_p60, List.forall_mem_cons.mpr ⟨lw_p61, List.forall_mem_cons.mpr ⟨lw_p62, fun _ h => absurd h List.not_mem_nil⟩⟩⟩⟩⟩⟩⟩⟩⟩⟩⟩⟩⟩⟩⟩
def lw_privs : List (MethodName × Nat) := lw_privs_1 ++ (lw_privs_2 ++ (lw_privs_3 ++ (lw_privs_4)))
def lw_tbl : List Cond := k2_sels lw_privs ++ tables_1
theorem lw_privs_ok : ∀ q ∈ lw_privs, lw_okq q := by
  show ∀ q ∈ lw_privs_1 ++ (lw_privs_2 ++ (lw_privs_3 ++ (lw_privs_4))), lw_okq q
  exact List.forall_mem_append.mpr ⟨lw_r1, List.forall_mem_append.mpr ⟨lw_r2, List.forall_mem_append.mpr ⟨lw_r3, lw_r4⟩⟩⟩
end
section
/-! throwing methods: a contract whose end is 'threw'; rows that throw, that let through, that catch -/
def xt_E (first t : State) (L : List Loc) (k n : Nat) : Prop := first.WarmedH t.vm ∧ first.sameButNew ({ t with vm := first.vm } : State) L k n
def xt_Met (l : Launch) (y : MethodName) (ws : List Cond) (rm : Room) (Pc : Array Value → State → Prop) (Qc : Array Value → State → Addr → State → Prop) (mc ms : Nat) (free : Addr → Prop) : Prop :=
  MetFree l y (headSpec ws rm) Pc (fun _ _ _ _ _ => True) (fun a st o t => ∃ x, o = Outcome.threw x ∧ Qc a st x t ∧ ∃ L, xt_E st t L mc ms ∧ ∀ q ∈ L, free q.base)
def xt_MQ (below : List Frame) (Qc : Array Value → State → Addr → State → Prop) (a : Array Value) (s : State) (mc ms : Nat) (free : Addr → Prop) : State → Prop := fun t =>
  ∃ x, t.status = .running ∧ Ended t below (.threw x) ∧ Qc a s x t ∧ ∃ L, xt_E s t L mc ms ∧ ∀ q ∈ L, free q.base
/-- what a thrown object is: new, of the class cls; nothing old has changed -/
def xt_X (cls : String) (st : State) (x : Addr) (t : State) : Prop :=
  st.heap.size ≤ x ∧ (∃ ce : Cell, t.heap[x]? = some ce ∧ ce.vm = .none ∧ t.vm.findClass cls = some ce.cls) ∧ va_F (fun _ => False) st t
theorem xt_ofW {l : Launch} {y : MethodName} {ws ws' : List Cond} {rm : Room} {Pc : Array Value → State → Prop} {Qc : Array Value → State → Addr → State → Prop} {mc ms : Nat} {free : Addr → Prop} {cc : ByteArray} {maxL : Nat} {ret : Option FieldType}
    (hy : plainName y.cls = true) (hw : ws = Cond.code y cc maxL ret :: ws')
    (body : ∀ p e s m args below meth c s₁, BodyLoose p l y (headSpec ws rm) cc maxL ret e s m args below meth c s₁ → c.maxLocals = maxL → (∀ x ∈ c.exceptionTable.toList, False) → Pc args s →
      W p l e (headSpec ws rm).room s m args below meth c s.heap [] 0 0 (xt_MQ below Qc args s mc ms free) (entryFrame m args maxL)) : xt_Met l y ws rm Pc Qc mc ms free := by
  refine MetFree.of_bodyS (code := cc) (maxLocals := maxL) (ret := ret) hy ?_ ?_
  · intro args s m h hn
    obtain ⟨meth, c, h1, h2, h3, h4, h5, h6, -, -⟩ := Cond.code_spec hn (atoms_spec (ws := ws) h _ (by rw [hw]; exact List.mem_cons_self))
    exact ⟨meth, c, h1, h2, h3, h4, h5, h6⟩
  · intro p e s m args below meth c s₁ B hml hP _
    have hh0 : s₁.heap = s.heap := by rw [B.state]; rfl
    have hnh : c.exceptionTable.isEmpty = true := B.noHandlers (atoms_spec (ws := ws) B.pre _ (by rw [hw]; exact List.mem_cons_self))
    have hno : ∀ x ∈ c.exceptionTable.toList, False := fun x hx => by
      have h0 : c.exceptionTable = #[] := Array.isEmpty_iff.mp hnh
      rw [h0] at hx
      cases hx
    obtain ⟨t, a1, x, b1, b2, b3, b4⟩ := body p e s m args below meth c s₁ B hml hno hP s₁ hh0 (Stand.of_body B)
    exact ⟨t, .threw x, a1, b1, b2, x, rfl, b3, b4⟩
/-- nothing was written: every old cell is as it was -/
theorem xt_kept {s U : State} {k n : Nat} (h : s.sameButNew ({ U with vm := s.vm } : State) [] k n) : va_F (fun _ => False) s U := by
  obtain ⟨-, h2, -, -, -, h6⟩ := h
  refine ⟨h2, fun q hq _ => ?_⟩
  have hc : s.heap[q]? = some s.heap[q] := Array.getElem?_eq_getElem hq
  obtain ⟨c', e1, e2, e3, e4⟩ := h6 q _ hc
  have e1' : U.heap[q]? = some c' := e1
  rw [e1', hc, e2]
  congr 1
  have hs : c'.slots = (s.heap[q]).slots := by
    apply Array.ext_getElem?
    intro i
    exact e4 i (by simp)
  rw [hs]
section XT
variable {p : Program} {l : Launch} {e : Env} {R : Room} {s : State} {m : MethodId} {args : Array Value} {below : List Frame} {meth : Method} {c : Code} {H : Heap} {cells slots : Nat}
/-- new X(); dup; X.<init>(); athrow, out of a method that has no handler and has written nothing -/
theorem xt_throw {cc : ByteArray} {own cls : String} {names : List String} {ia ic pc : Nat} {ls : Array Slot} {rest : List Value} {free : Addr → Prop} {nL : Nat} {lv : List (Nat × Value)}
    (hx : p.tables.exec = Jvm.exec) (hb : c.code = cc) (htr : l.stackTraces = false) (hml : c.maxLocals = nL) (hls : lv_has ls nL lv) (hne : ∀ x ∈ c.exceptionTable.toList, False) (hlocks : meth.locks = false)
    (hown : s.vm.findClass own = some m.cls) (hcls : Bundle.fit cls = true) (hnames : ∀ n ∈ names, Bundle.fit n = true)
    (hcl : (Cond.classLink own ia cls).before args s = true) (hini : (Cond.initialized cls).before args s = true)
    (hat : ∀ a ∈ Bundle.ownAtoms0 own ic cls names, a.before args s = true)
    (hd0 : decode cc pc = .ok (.new ia, 3)) (hd3 : decode cc (pc + 3) = .ok (.dup, 1)) (hd4 : decode cc (pc + 4) = .ok (.invokespecial ic, 3)) (hd7 : decode cc (pc + 7) = .ok (.athrow, 1))
    (hcells : cells + 1 ≤ R.cells) (hslots : slots + 6 ≤ R.slots) (hfr : names.length + 3 < R.frames) (hlo : (rest.map fun v => v.category).sum + 1 + (13 * (names.length + 1) + 41) ≤ R.locals) :
    W p l e R s m args below meth c s.heap [] cells slots (xt_MQ below (fun _ st x t => xt_X cls st x t) args s (cells + 1) (slots + 6) free) (F0 m pc ls rest) := by
  subst hb
  have hins : (Cond.instantiable cls 6).before args s = true := hat _ (by simp [Bundle.ownAtoms0])
  intro T hT X
  have htr' : e.platform.stackTraces = false := by rw [X.admits.platform]; exact htr
  obtain ⟨vm', cC, kC, h1, h2, h3, h4, X', st⟩ := X.newCold hx hown hcl hins hini (g := F0 m pc ls rest) rfl hd0 hcells hslots
  have hnew : s.heap.size ≤ T.heap.size := by rw [hT]; exact Nat.le_refl _
  have hcell : ((T.setVm vm').pushCell { cls := cC, slots := kC.instanceTypes.map defaultValue, vm := .none }).heap[T.heap.size]? = some (freshCell cC kC) := State.heap_pushCell_size _ _
  generalize hT1 : (T.setVm vm').pushCell { cls := cC, slots := kC.instanceTypes.map defaultValue, vm := .none } = T1 at X' st hcell
  have K : W p l e R s m args below meth c T1.heap [] (cells + 1) (slots + 6) (xt_MQ below (fun _ st x t => xt_X cls st x t) args s (cells + 1) (slots + 6) free) (F0 m (pc + 3) ls (.ref T.heap.size :: rest)) := by
    refine lv_dup hx rfl hd3 rfl ?_
    intro T2 hT2 X2
    obtain ⟨U, u1, u2, u3, u4, u5, ce, u6, u7⟩ := X2.ctorThrow0 (own := own) (cls := cls) (names := names) (ic := ic) hx htr' hown hcls hnames hat (fun x hx => by cases hx) h1 h2 (by rw [hT2]; exact hcell) hnew
      (g := F0 m (pc + 4) ls (.ref T.heap.size :: .ref T.heap.size :: rest)) rfl (hls.1.trans hml.symm) rfl rfl (rest := rest) rfl hd4 hd7 (fun x hx => (hne x hx).elim) hfr
      (by simp only [List.map_cons, List.sum_cons]; show 2 * 0 + (1 + _) + _ ≤ _; omega) hlocks
    exact ⟨U, u1, T.heap.size, u2, u3, ⟨hnew, ⟨ce, u6, u7.vm, by rw [u4.alike.findClass]; exact u7.cls⟩, xt_kept u5⟩, [], ⟨u4, u5⟩, fun q hq => by cases hq⟩
  obtain ⟨t, a1, b1⟩ := K T1 rfl X'
  exact ⟨t, st t a1, b1⟩
end XT
section XTC
variable {p : Program} {l : Launch} {e : Env} {R : Room} {s : State} {m : MethodId} {args : Array Value} {below : List Frame} {meth : Method} {c : Code} {H : Heap} {locs : List Loc} {cells slots : Nat}
variable {y : MethodName} {bytes cc : ByteArray} {maxL nL mc ms n index : Nat} {ret : Option FieldType} {ws : List Cond} {rm : Room} {Pc : Array Value → State → Prop} {Qc : Array Value → State → Addr → State → Prop} {free : Addr → Prop} {Ts : List Cond} {own C : String} {b : Addr} {As rest : List Value} {g : JFrame}
/-- into a callee that throws, and out of it: the note lies over the caller's frame -/
theorem xt_into {T : State} (X : Stand p l e R s m args below meth c T locs cells slots) (hM : xt_Met l y ws rm Pc Qc mc ms free) (hbl : FrameBlind Pc) (hrc : rm.cells = mc) (hrs : rm.slots = ms) (hfr : rm.frames + 1 ≤ R.frames) (hlo : 8 + (maxL + 11) + rm.locals ≤ R.locals)
    {a : Array Value} (hws : ∀ w ∈ ws, w.before a T = true) (hcode : (Cond.code y bytes maxL ret).before a T = true) (hini : (Cond.initialized y.cls).before a T = true)
    {ig : Instr} {len : Nat} {mk : MethodId} (hg : g.method = m) (hsize : g.locals.size = c.maxLocals) (hdg : decode c.code g.pc = .ok (ig, len)) (hW : 2 * g.monitorRoom + (g.stack.map fun v => v.category).sum ≤ 8) (hn : T.methodNamed? y = some mk) (hPc : Pc a T)
    (hcells : cells + mc ≤ R.cells) (hslots : slots + ms ≤ R.slots) :
    ∃ (x : Addr) (t T' : State) (L : List Loc), Stand p l e R s m args below meth c T' (locs ++ L) (cells + mc) (slots + ms) ∧ (∀ q ∈ L, free q.base) ∧ T'.heap = t.heap ∧ T'.vm = t.vm ∧ Qc a (T.calling g mk a) x t ∧
      Steps p.tables e below (doInvoke e (T.setTop g) [] mk a).1 ((T'.setTop g).pushFrame (.throwing x)) := by
  obtain ⟨methY, cY, hmY, hcY, -, hlY, -, -, -, -⟩ := Cond.code_spec hn hcode
  obtain ⟨kY, hkY, -⟩ := className_of_methodNamed hn
  have hinitY : kY.init = .initialized := Cond.initialized_spec (findClass_of_methodNamed hn) hkY hini
  have h : At T g.method c below := by rw [hg]; exact X.here
  have happ : (headSpec ws rm).appliesLoose y e.platform (T.calling g mk a) = true :=
    Spec.appliesLoose_calling (g := g) h hdg hn hkY hinitY
      (X.room_calling (g := g) (R' := (headSpec ws rm).room) hsize hmY hcY hfr (by rw [hlY]; show _ + rm.locals ≤ _; omega) (by show cells + rm.cells ≤ _; rw [hrc]; exact hcells) (by show slots + rm.slots ≤ _; rw [hrs]; exact hslots)) (atoms_intro hws)
  obtain ⟨mid, hmid⟩ := h.above
  have hfr' : (T.setTop g).frames = (.java g :: mid) ++ below := by rw [State.frames_setTop' g h.top, hmid]; rfl
  obtain ⟨o, s₂, hsteps, -, hend, hq⟩ := Steps.callFree hM p X.admits X.cas X.clock (acts := []) hfr' happ (hbl _ _ g mk hPc) trivial
  rw [State.frames_setTop' g h.top, X.tail] at hend
  obtain ⟨x, rfl, hQ, L, ⟨hW2, hsame⟩, hL⟩ := hq
  obtain ⟨T', X', -, -, ht⟩ := X.outOfThrown hg hend hW2 hsame
  refine ⟨x, s₂, T', L, X', hL, ?_, ?_, hQ, ?_⟩
  · rw [ht, Stand.throwing_heap]
  · rw [ht, Stand.throwing_vm]
  · rw [← ht]; exact hsteps
/-- a call that throws -/
def xt_Run (p : Program) (l : Launch) (e : Env) (R : Room) (s : State) (m : MethodId) (args : Array Value) (below : List Frame) (meth : Method) (c : Code) (H : Heap) (locs : List Loc) (cells slots mc ms : Nat) (g : JFrame) (rest : List Value) (Qa : State → Addr → State → Prop) (free : Addr → Prop) : Prop :=
  ∀ T : State, T.heap = H → Stand p l e R s m args below meth c T locs cells slots → ∃ (x : Addr) (st₀ t T' : State) (L : List Loc), st₀.heap = H ∧ Stand p l e R s m args below meth c T' (locs ++ L) (cells + mc) (slots + ms) ∧ (∀ q ∈ L, free q.base) ∧ T'.heap = t.heap ∧ T'.vm = t.vm ∧ Qa st₀ x t ∧
    ∀ target, Steps p.tables e below ((T'.setTop { g with stack := rest }).pushFrame (.throwing x)) target → Steps p.tables e below (T.setTop g) target
theorem xt_runV (S : CallFix p m c cc nL s args Ts own) (hM : xt_Met l y ws rm Pc Qc mc ms free) (cw : CallW R s args own C index y bytes maxL ret ws rm mc ms n) (hp : PreV s H C b Pc As)
    (hg : g.method = m) (hn : As.length = n) (hsize : g.locals.size = nL) (hstack : g.stack = As.reverse ++ .ref b :: rest) (hW : 2 * g.monitorRoom + (rest.map fun v => v.category).sum ≤ 8) (hdg : decode cc g.pc = .ok (.invokevirtual index, 3)) (hf : cells + mc ≤ R.cells ∧ slots + ms ≤ R.slots) :
    xt_Run p l e R s m args below meth c H locs cells slots mc ms g rest (Qc (Value.ref b :: As).toArray) free := by
  obtain ⟨⟨hrc, hrs, hfr, hlo, hws, hcw, hcode, hini, hy, hlen, hl⟩, hinst, hsel⟩ := cw
  obtain ⟨hx, hb, hml, ho, -⟩ := S
  obtain ⟨hbl, ⟨cellB, hcB, hoB, hclB⟩, hPc⟩ := hp
  subst hb
  intro T hT X
  obtain ⟨mk, methM, hnamed, hmethM, hstM, habM⟩ := Cond.instanceMethod_spec hinst
  obtain ⟨methM', cM, hmethM', -, -, -, -, -, -, hsigM⟩ := Cond.code_spec hnamed hcode
  cases hmethM.symm.trans hmethM'
  obtain ⟨c2, r2, m2, q1, q2, q3, q4, kP, hkP, hkPi⟩ := Cond.selects_spec hsel
  cases hclB.symm.trans q1
  cases (State.methodFound?_of_named hnamed hy).symm.trans q2
  cases hnamed.symm.trans q3
  have hselP : selectMethod e.platform s.vm cellB.cls mk = .method mk := by rw [Launch.admits_selectMethod X.admits]; exact q4
  obtain ⟨vm₁, X₁, hstep₁⟩ := X.invokevirtual hx ho hl hnamed hmethM hstM hkP hkPi hy (a := b) (cell := cellB) (by rw [hT]; exact hcB)
    (fun z h => by rw [h] at hoB; cases hoB) hselP hmethM habM hkP hkPi (g := g) hg (argsL := As) (rest := rest) (hn.trans (hlen _ hsigM)) hstack hdg
  obtain ⟨x, t, T', L, X', hL, e1, e2, hQ, hst⟩ := xt_into X₁ hM hbl hrc hrs hfr hlo (fun w hw => hws w hw _ _ X₁.warmed) (hws _ hcw _ _ X₁.warmed) (word_at X₁.warmed (Or.inl (by first | rfl | simp [Cond.onTables, Cond.keeps, Cond.steady])) hini)
    (g := { g with stack := rest }) (a := (Value.ref b :: As).toArray) hg (hsize.trans hml.symm) hdg hW (X₁.named hnamed) (hPc _ hT X₁.warmed) hf.1 hf.2
  exact ⟨x, (T.setVm vm₁).calling { g with stack := rest } mk (Value.ref b :: As).toArray, t, T', L, hT, X', hL, e1, e2, hQ, fun target h => hstep₁ _ fun acts => by rw [doInvoke_state]; exact hst.trans h⟩
theorem xt_runS (S : CallFix p m c cc nL s args Ts own) (hM : xt_Met l y ws rm Pc Qc mc ms free) (cw : CallB R s args own index y bytes maxL ret ws rm mc ms n ∧ (Cond.static y).before args s = true) (hp : PreS s H Pc As)
    (hg : g.method = m) (hn : As.length = n) (hsize : g.locals.size = nL) (hstack : g.stack = As.reverse ++ rest) (hW : 2 * g.monitorRoom + (rest.map fun v => v.category).sum ≤ 8) (hdg : decode cc g.pc = .ok (.invokestatic index, 3)) (hf : cells + mc ≤ R.cells ∧ slots + ms ≤ R.slots) :
    xt_Run p l e R s m args below meth c H locs cells slots mc ms g rest (Qc As.toArray) free := by
  obtain ⟨⟨hrc, hrs, hfr, hlo, hws, hcw, hcode, hini, hy, hlen, hl⟩, hstt⟩ := cw
  obtain ⟨hx, hb, hml, ho, -⟩ := S
  obtain ⟨hbl, hPc⟩ := hp
  subst hb
  intro T hT X
  obtain ⟨mk, hnamed⟩ := Cond.code_named hcode
  obtain ⟨methM, cM, hmethM, -, -, -, -, -, -, hsigM⟩ := Cond.code_spec hnamed hcode
  have hstatic : methM.isStatic = true := Cond.static_spec hnamed hmethM hstt
  obtain ⟨kP, hkP, -⟩ := className_of_methodNamed hnamed
  have hinitP : kP.init = .initialized := Cond.initialized_spec (findClass_of_methodNamed hnamed) hkP hini
  obtain ⟨vm₁, X₁, hstep₁⟩ := X.invokestatic hx ho hl hnamed hmethM hstatic hkP hinitP hy (g := g) hg (argsL := As) (rest := rest) (hn.trans (hlen _ hsigM)) hstack hdg
  obtain ⟨x, t, T', L, X', hL, e1, e2, hQ, hst⟩ := xt_into X₁ hM hbl hrc hrs hfr hlo (fun w hw => hws w hw _ _ X₁.warmed) (hws _ hcw _ _ X₁.warmed) (word_at X₁.warmed (Or.inl (by first | rfl | simp [Cond.onTables, Cond.keeps, Cond.steady])) hini)
    (g := { g with stack := rest }) (a := As.toArray) hg (hsize.trans hml.symm) hdg hW (X₁.named hnamed) (hPc _ hT X₁.warmed) hf.1 hf.2
  exact ⟨x, (T.setVm vm₁).calling { g with stack := rest } mk As.toArray, t, T', L, hT, X', hL, e1, e2, hQ, fun target h => hstep₁ _ fun acts => by rw [doInvoke_state]; exact hst.trans h⟩
/-- what the callee throws goes through: the caller has no handler and has written nothing -/
theorem xt_out {cls : String} {pc : Nat} {ls : Array Slot} {st0 : List Value} {f1 : Addr → Prop} (hr : xt_Run p l e R s m args below meth c s.heap [] cells slots mc ms (F0 m pc ls st0) rest (fun st x t => xt_X cls st x t) (fun _ => False))
    (hne : ∀ x ∈ c.exceptionTable.toList, False) (hlocks : meth.locks = false) :
    W p l e R s m args below meth c s.heap [] cells slots (xt_MQ below (fun _ st x t => xt_X cls st x t) args s (cells + mc) (slots + ms) f1) (F0 m pc ls st0) := by
  intro T hT X
  obtain ⟨x, st₀, t, T', L, h0, X', hL, e1, e2, ⟨q1, ⟨ce, q2, q3, q4⟩, q5, q6⟩, st⟩ := hr T hT X
  obtain ⟨w1, w2, w3, w4, w5⟩ := X'.leaveThrown x (g := { F0 m pc ls st0 with stack := rest }) rfl rfl rfl (fun x hx => (hne x hx).elim) hlocks
  have hL0 : L = [] := List.eq_nil_iff_forall_not_mem.mpr fun q hq => hL q hq
  subst hL0
  have hh : (T'.setFrames (.throwing x :: below)).heap = t.heap := e1
  have hv : (T'.setFrames (.throwing x :: below)).vm = t.vm := e2
  refine ⟨T'.setFrames (.throwing x :: below), st _ w1, x, w2, w3, ⟨by rw [← h0]; exact q1, ⟨ce, by rw [hh]; exact q2, q3, by rw [hv]; exact q4⟩, by rw [hh, ← h0]; exact q5, fun q h1 h2 => by rw [hh, ← h0]; exact q6 q (by rw [h0]; exact h1) h2⟩, [], ⟨w4, w5⟩, fun q hq => by cases hq⟩
end XTC
/-! the search for a handler where the catch type may still be unresolved -/
def xt_Finds (e : Env) (s : State) (f : JFrame) (a : Addr) (h : Handler) (vm' : Vm) : Prop :=
  ∀ (Q : Handler → Pre) (E : CtlPost) (d : Bool) (acts : List Action), wp (findHandler f a) Q E e d acts s ↔ Q h d acts (s.setVm vm')
theorem xt_go {E : CtlPost} {e : Env} {d : Bool} {acts : List Action} {s : State} {f : JFrame} {a : Addr} {Q : Handler → Pre} {x : ExceptionTableEntry} {t : List ExceptionTableEntry} {cC : ClassId} {cell : Cell} {vm' : Vm} (hx : covers x f.pc = true) (h0 : x.catchType ≠ 0)
    (hg : (Jvm.resolveClass f.method.cls x.catchType).Gives e.toSetting s.vm (.ok cC) vm') (hsz : vm'.classes.size ≤ s.vm.classes.size) (hcell : s.heap[a]? = some cell) (hobj : ∀ k, cell.vm ≠ .statics k)
    (hk : ∃ k, vm'.classes[cell.cls]? = some k) (hc : ∃ k, vm'.classes[cC]? = some k) :
    wp (findHandler.go f a (x :: t)) Q E e d acts s ↔
      if vm'.assignable cell.cls cC = true then Q (.found x.handlerPc) d acts (s.setVm vm') else wp (findHandler.go f a t) Q E e d acts (s.setVm vm') := by
  simp only [covers] at hx
  obtain ⟨ha, ht⟩ := hg.op (op := VmOp.resolveClass f.method.cls x.catchType) rfl
  cases hfit : vm'.assignable cell.cls cC <;>
    simp [findHandler.go, hx, h0, ha, ht, hsz, hcell, hobj, hk, hc, hfit, VmOp.dirties, VmOp.acts]
theorem xt_stepCatch {e : Env} {s : State} {a : Addr} {f : JFrame} {r : List Frame} {pc : Nat} {vm' : Vm} (hfind : xt_Finds e s f a (.found pc) vm') :
    (stepThrowing e s a (.java f :: r)).Is ((s.setVm vm').setFrames (.java { f with pc := pc, stack := [.ref a] } :: r)) [] := by
  simp only [stepThrowing, searchFrame, vmDo]
  generalize hr : Sem.go _ e false [] s = res
  obtain ⟨as, rfl, ha⟩ := Sem.eq_ok_of hr (a := Handler.found pc) (s' := s.setVm vm') (acts' := []) (by simp [hfind _ _ _ _])
  exact ⟨rfl, ha⟩
theorem xt_caught {tb : Tables} {e : Env} {s target : State} {g : JFrame} {c : Code} {below : List Frame} {a : Addr} (h : At s g.method c below) {pc : Nat} {vm' : Vm} (hfind : xt_Finds e ((s.setTop g).pushFrame (.throwing a)) g a (.found pc) vm')
    (hrest : Steps tb e below ((s.setVm vm').setTop { g with pc := pc, stack := [.ref a] }) target) :
    Steps tb e below ((s.setTop g).pushFrame (.throwing a)) target := by
  obtain ⟨hgo, hw⟩ := h.throwing a
  refine Steps.head hgo hw ?_
  rw [stepThread_throwing (frames_entered h.top _), (xt_stepCatch (s := (s.setTop g).pushFrame (.throwing a)) hfind).1]
  obtain ⟨g₀, hg⟩ := Option.isSome_iff_exists.mp h.top
  obtain ⟨r, hr⟩ := State.topJava?_eq_some.mp hg
  have hr' : (s.setVm vm').frames = .java g₀ :: r := hr
  rw [State.setTop_of_frames _ hr'] at hrest
  rw [State.pushFrame, State.setTop_of_frames _ hr]
  have e1 : ((((s.setFrames (.java g :: r)).setFrames (.throwing a :: (s.setFrames (.java g :: r)).frames)).setVm vm').setFrames (.java { g with pc := pc, stack := [.ref a] } :: s.frames.tail)) = (s.setVm vm').setFrames (.java { g with pc := pc, stack := [.ref a] } :: r) := by
    rw [hr]
    rw [State.setFrames_setFrames]
    show ((s.setVm vm').setFrames _).setFrames _ = _
    rw [State.setFrames_setFrames]
    rfl
  rw [e1]
  exact hrest
/-! methods with handlers: their word is codeWith -/
theorem xh_ofW {l : Launch} {y : MethodName} {ws ws' : List Cond} {rm : Room} {Pc : Array Value → State → Prop} {Qc : Array Value → State → Outcome → State → Prop} {mc ms : Nat} {free : Addr → Prop} {cc : ByteArray} {maxL : Nat} {ret : Option FieldType} {hs : List (Nat × Nat × Nat × Nat)}
    (hy : plainName y.cls = true) (hw : ws = Cond.codeWith y cc maxL ret hs :: ws')
    (body : ∀ p e s m args below meth c s₁, BodyLoose p l y (headSpec ws rm) cc maxL ret e s m args below meth c s₁ → c.maxLocals = maxL → c.exceptionTable.toList = tableOf hs → Pc args s →
      W p l e (headSpec ws rm).room s m args below meth c s.heap [] 0 0 (MQ below Qc args s mc ms free) (entryFrame m args maxL)) : Met l y ws rm Pc Qc mc ms free := by
  refine MetFree.of_bodyS (code := cc) (maxLocals := maxL) (ret := ret) hy ?_ ?_
  · intro args s m h hn
    obtain ⟨m', meth, c, hn', h1, h2, h3, h4, -, h5, h6, -⟩ := Cond.codeWith_spec (atoms_spec (ws := ws) h _ (by rw [hw]; exact List.mem_cons_self))
    cases hn.symm.trans hn'
    exact ⟨meth, c, h1, h2, h3, h4, h5, h6⟩
  · intro p e s m args below meth c s₁ B hml hP _
    have hh0 : s₁.heap = s.heap := by rw [B.state]; rfl
    obtain ⟨m', meth', c', hn', hm', hc', -, -, ht, -, -, -⟩ := Cond.codeWith_spec (atoms_spec (ws := ws) B.pre _ (by rw [hw]; exact List.mem_cons_self))
    cases B.named.symm.trans hn'
    cases B.method.symm.trans hm'
    cases (Stand.of_body B).code.symm.trans hc'
    obtain ⟨t, a1, o, b1, b2, b3⟩ := body p e s m args below meth c s₁ B hml (by rw [← ht]; exact (table_eq _).symm) hP s₁ hh0 (Stand.of_body B)
    exact ⟨t, o, a1, b1, b2, ⟨b3.1, b3.2⟩⟩
section XH
variable {p : Program} {l : Launch} {e : Env} {R : Room} {s : State} {m : MethodId} {args : Array Value} {below : List Frame} {meth : Method} {c : Code} {H : Heap} {locs : List Loc} {cells slots : Nat} {Q : State → Prop}
variable {y : MethodName} {bytes cc : ByteArray} {maxL nL mc ms n index : Nat} {ret : Option FieldType} {ws : List Cond} {rm : Room} {Pc : Array Value → State → Prop} {Qc : Array Value → State → Outcome → State → Prop} {free : Addr → Prop} {Ts : List Cond} {own C : String} {b : Addr} {As rest : List Value} {g : JFrame} {hs : List (Nat × Nat × Nat × Nat)}
/-- invokestatic of a method with handlers -/
theorem xh_runS (S : CallFix p m c cc nL s args Ts own) (hM : Met l y ws rm Pc Qc mc ms free) (hrc : rm.cells = mc) (hrs : rm.slots = ms) (hfr : rm.frames + 1 ≤ R.frames) (hlo : 8 + (maxL + 11) + rm.locals ≤ R.locals) (hws : ∀ w ∈ ws, ∀ (a' : Array Value) (U : State), s.WarmedH U.vm → w.before a' U = true)
    (hcw : Cond.codeWith y bytes maxL ret hs ∈ ws) (hcode : (Cond.codeWith y bytes maxL ret hs).before args s = true) (hini : (Cond.initialized y.cls).before args s = true) (hy : y.cls ≠ "java/lang/invoke/MethodHandle" ∧ y.cls ≠ "java/lang/invoke/VarHandle") (hlen : ∀ sig, parseMethodDescriptor y.desc = some sig → n = sig.parameters.length) (hl : (Cond.methodLink own index y).before args s = true) (hstt : (Cond.static y).before args s = true)
    (hp : PreS s H Pc As) (hg : g.method = m) (hn : As.length = n) (hsize : g.locals.size = nL) (hstack : g.stack = As.reverse ++ rest) (hW : 2 * g.monitorRoom + (rest.map fun v => v.category).sum ≤ 8) (hdg : decode cc g.pc = .ok (.invokestatic index, 3)) (hf : cells + mc ≤ R.cells ∧ slots + ms ≤ R.slots) :
    va_Run p l e R s m args below meth c H locs cells slots mc ms g rest (Qc As.toArray) free := by
  obtain ⟨hx, hb, hml, ho, -⟩ := S
  obtain ⟨hbl, hPc⟩ := hp
  subst hb
  intro T hT X
  obtain ⟨mk, methM, cM, hnamed, hmethM, -, -, -, -, -, -, hsigM⟩ := Cond.codeWith_spec hcode
  have hstatic : methM.isStatic = true := Cond.static_spec hnamed hmethM hstt
  obtain ⟨kP, hkP, -⟩ := className_of_methodNamed hnamed
  have hinitP : kP.init = .initialized := Cond.initialized_spec (findClass_of_methodNamed hnamed) hkP hini
  obtain ⟨vm₁, X₁, hstep₁⟩ := X.invokestatic hx ho hl hnamed hmethM hstatic hkP hinitP hy (g := g) hg (argsL := As) (rest := rest) (hn.trans (hlen _ hsigM)) hstack hdg
  generalize hT1 : T.setVm vm₁ = T1 at X₁ hstep₁
  have hT1h : T1.heap = H := by rw [← hT1]; exact hT
  have hini1 : (Cond.initialized y.cls).before As.toArray T1 = true := word_at X₁.warmed (Or.inl (by first | rfl | simp [Cond.onTables, Cond.keeps, Cond.steady])) hini
  obtain ⟨mY', methY, cY, hnY', hmY, hcY, -, hlY, -, -, -, -⟩ := Cond.codeWith_spec (hws _ hcw As.toArray T1 X₁.warmed)
  have hn1 := X₁.named hnamed
  cases hn1.symm.trans hnY'
  obtain ⟨kY, hkY, -⟩ := className_of_methodNamed hn1
  have hinitY : kY.init = .initialized := Cond.initialized_spec (findClass_of_methodNamed hn1) hkY hini1
  have h : At T1 ({ g with stack := rest } : JFrame).method c below := by show At T1 g.method c below; rw [hg]; exact X₁.here
  have happ : (headSpec ws rm).appliesLoose y e.platform (T1.calling { g with stack := rest } mk As.toArray) = true :=
    Spec.appliesLoose_calling (g := { g with stack := rest }) h hdg hn1 hkY hinitY
      (X₁.room_calling (g := { g with stack := rest }) (R' := (headSpec ws rm).room) (hsize.trans hml.symm) hmY hcY hfr (by rw [hlY]; show _ + rm.locals ≤ _; show 2 * g.monitorRoom + (rest.map fun v => v.category).sum + _ + _ ≤ _; omega) (by show cells + rm.cells ≤ _; rw [hrc]; exact hf.1) (by show slots + rm.slots ≤ _; rw [hrs]; exact hf.2)) (atoms_intro fun w hw => hws w hw _ _ X₁.warmed)
  obtain ⟨mid, hmid⟩ := h.above
  have hfr' : (T1.setTop { g with stack := rest }).frames = (.java { g with stack := rest } :: mid) ++ below := by rw [State.frames_setTop' _ h.top, hmid]; rfl
  obtain ⟨o, s₂, hsteps, -, hend, hq⟩ := Steps.callFree hM p X₁.admits X₁.cas X₁.clock (acts := []) hfr' happ (hbl _ _ _ mk (hPc T1 hT1h X₁.warmed)) trivial
  rw [State.frames_setTop' _ h.top, X₁.tail] at hend
  obtain ⟨hQ, L, ⟨⟨v, rfl⟩, hW2, hsame⟩, hL⟩ := hq
  obtain ⟨T', X', -, -, ht⟩ := X₁.outOf (g := { g with stack := rest }) hg hdg hend hW2 hsame
  refine ⟨v, T1.calling { g with stack := rest } mk As.toArray, s₂, T', L, hT1h, X', hL, by rw [ht]; simp, by rw [ht]; simp, hQ, fun target h => hstep₁ _ fun acts => ?_⟩
  rw [doInvoke_state]
  rw [ht] at hsteps
  exact hsteps.trans h
end XH
end
section
/-! the way through a handler table: entries whose class is another are passed, the first that fits is taken -/
def xt_path (args : Array Value) (s : State) (own cls : String) (pc : Nat) : List (Nat × Nat × Nat × Nat) → Nat → Prop
  | [], _ => False
  | q :: r, h => (q.1 ≤ pc ∧ pc < q.2.1 ∧ q.2.2.2 ≠ 0) ∧ ∃ (name : String) (cA cB : ClassId), (Cond.classLink own q.2.2.2 name).before args s = true ∧ s.vm.findClass cls = some cA ∧ s.vm.findClass name = some cB ∧
      ((s.vm.assignable cA cB = true ∧ h = q.2.2.1) ∨ (s.vm.assignable cA cB = false ∧ xt_path args s own cls pc r h))
theorem xt_pathGo {l : Launch} {e : Env} {s : State} {args : Array Value} {own cls : String} {g : JFrame} {x : Addr} (had : l.admits e) (hown : s.vm.findClass own = some g.method.cls) :
    ∀ (hs : List (Nat × Nat × Nat × Nat)) (h : Nat), xt_path args s own cls g.pc hs h → ∀ (S : State) (ce : Cell), s.WarmedH S.vm → S.heap[x]? = some ce → ce.vm = .none → S.vm.findClass cls = some ce.cls →
      ∃ vm', s.WarmedH vm' ∧ ∀ (Q : Handler → Pre) (E : CtlPost) (d : Bool) (acts : List Action), wp (findHandler.go g x (tableOf hs)) Q E e d acts S ↔ Q (.found h) d acts (S.setVm vm') := by
  intro hs
  induction hs with
  | nil => intro h hp; exact hp.elim
  | cons q r ih =>
    intro h hp S ce hW hcell hvm hcl
    obtain ⟨⟨h1, h2, h3⟩, name, cA, cB, hlink, hA, hB, hor⟩ := hp
    have hpl : e.platform.magicAccessors = ({} : Platform).magicAccessors := by rw [had.platform]
    obtain ⟨c', hc', hcl'⟩ := Cond.classLink_spec hown hlink e.platform hpl
    have ec : c' = cB := Option.some.inj (hc'.symm.trans hB)
    subst ec
    obtain ⟨hg, hwarm, hready⟩ := State.classEntry (e := e) hW hcl'
    have hsz : (S.vm.noted g.method.cls q.2.2.2 (.cls c')).classes.size ≤ S.vm.classes.size := by no_record
    generalize S.vm.noted g.method.cls q.2.2.2 (.cls c') = vm₁ at hg hwarm hready hsz
    have hal : s.vm.Alike vm₁ := hwarm.alike
    have hA1 : vm₁.findClass cls = some cA := by rw [hal.findClass]; exact hA
    have hB1 : vm₁.findClass name = some c' := by rw [hal.findClass]; exact hB
    have ea : ce.cls = cA := by
      rw [hW.alike.findClass] at hcl
      exact Option.some.inj (hcl.symm.trans hA)
    have hcov : covers (⟨q.1, q.2.1, q.2.2.1, q.2.2.2⟩ : ExceptionTableEntry) g.pc = true := by
      simp only [covers, Bool.and_eq_true, decide_eq_true_eq]
      exact ⟨h1, h2⟩
    have hgo := fun (Q : Handler → Pre) (E : CtlPost) (d : Bool) (acts : List Action) => xt_go (E := E) (e := e) (d := d) (acts := acts) (s := S) (f := g) (a := x) (Q := Q) (x := (⟨q.1, q.2.1, q.2.2.1, q.2.2.2⟩ : ExceptionTableEntry)) (t := tableOf r) (cC := c') (cell := ce) (vm' := vm₁) hcov h3 hg hsz hcell (fun k hk => by rw [hvm] at hk; cases hk)
      (by rw [ea]; exact Vm.classAt_of_findClass hA1) (Vm.classAt_of_findClass hB1)
    have has : vm₁.assignable ce.cls c' = s.vm.assignable cA c' := by rw [ea, hal.assignable]
    rcases hor with ⟨hfit, rfl⟩ | ⟨hfit, hrest⟩
    · refine ⟨vm₁, hwarm, fun Q E d acts => ?_⟩
      show wp (findHandler.go g x ((⟨q.1, q.2.1, q.2.2.1, q.2.2.2⟩ : ExceptionTableEntry) :: tableOf r)) Q E e d acts S ↔ _
      rw [hgo Q E d acts, has, hfit, if_pos rfl]
    · obtain ⟨vm', hw', hh⟩ := ih h hrest (S.setVm vm₁) ce hwarm hcell hvm (by show vm₁.findClass cls = _; rw [ea]; exact hA1)
      refine ⟨vm', hw', fun Q E d acts => ?_⟩
      show wp (findHandler.go g x ((⟨q.1, q.2.1, q.2.2.1, q.2.2.2⟩ : ExceptionTableEntry) :: tableOf r)) Q E e d acts S ↔ _
      rw [hgo Q E d acts, has, hfit, if_neg (by decide), hh Q E d acts]
      rfl
section XTK
variable {p : Program} {l : Launch} {e : Env} {R : Room} {s : State} {m : MethodId} {args : Array Value} {below : List Frame} {meth : Method} {c : Code} {H : Heap} {locs : List Loc} {cells slots mc ms : Nat} {Q : State → Prop} {rest st0 : List Value}
/-- a call that throws, and a handler of the method's own that takes it -/
theorem xt_catch {cls own : String} {hs : List (Nat × Nat × Nat × Nat)} {pc hpc : Nat} {ls : Array Slot} {A : Nat → Prop} {H0 : Heap} (hr : xt_Run p l e R s m args below meth c H locs cells slots mc ms (F0 m pc ls st0) rest (fun st x t => xt_X cls st x t) (fun _ => False))
    (htab : c.exceptionTable.toList = tableOf hs) (hown : s.vm.findClass own = some m.cls) (hpath : xt_path args s own cls pc hs hpc) (hS : va_S A H0 H locs)
    (kk : ∀ (x : Addr) (H1 : Heap) (locs1 : List Loc), H.size ≤ H1.size → (∀ q : Nat, q < H.size → H1[q]? = H[q]?) → va_S A H0 H1 locs1 → W p l e R s m args below meth c H1 locs1 (cells + mc) (slots + ms) Q (F0 m hpc ls [.ref x])) :
    W p l e R s m args below meth c H locs cells slots Q (F0 m pc ls st0) := by
  intro T hT X
  obtain ⟨x, st₀, t, T', L, h0, X', hL, e1, e2, ⟨q1, ⟨ce, q2, q3, q4⟩, q5, q6⟩, st⟩ := hr T hT X
  have hL0 : L = [] := List.eq_nil_iff_forall_not_mem.mpr fun q hq => hL q hq
  subst hL0
  rw [List.append_nil] at X'
  have hcell : T'.heap[x]? = some ce := by rw [e1]; exact q2
  have hfc : T'.vm.findClass cls = some ce.cls := by rw [e2]; exact q4
  obtain ⟨vm', hw', hh⟩ := xt_pathGo (l := l) (e := e) (s := s) (args := args) (own := own) (cls := cls) (g := F0 m pc ls rest) (x := x) X'.admits hown hs hpc hpath ((T'.setTop (F0 m pc ls rest)).pushFrame (.throwing x)) ce
    (by rw [Stand.throwing_vm]; exact X'.warmed) (by rw [Stand.throwing_heap]; exact hcell) q3 (by rw [Stand.throwing_vm]; exact hfc)
  have hfind : xt_Finds e ((T'.setTop (F0 m pc ls rest)).pushFrame (.throwing x)) (F0 m pc ls rest) x (.found hpc) vm' := by
    intro Q1 E1 d1 acts1
    rw [Jvm.W.findHandler_eq (meth := meth) (code := c) (by rw [Stand.throwing_vm]; exact X'.method') X'.code, htab]
    exact hh Q1 E1 d1 acts1
  have X2 := X'.noted hw'
  have hle : H.size ≤ T'.heap.size := by rw [e1, ← h0]; exact q5
  have hkeep : ∀ q : Nat, q < H.size → T'.heap[q]? = H[q]? := fun q hq => by rw [e1, ← h0]; exact q6 q (by rw [h0]; exact hq) id
  obtain ⟨t2, a1, b1⟩ := kk x (T'.setVm vm').heap locs hle hkeep ⟨Nat.le_trans hS.1 hle, fun q h1 h2 => (hkeep q (Nat.lt_of_lt_of_le h1 hS.1)).trans (hS.2.1 q h1 h2), hS.2.2⟩ (T'.setVm vm') rfl X2
  exact ⟨t2, st t2 (xt_caught (g := F0 m pc ls rest) X'.here hfind a1), b1⟩
end XTK
end
section
/-! arrays of arrays in one instruction (multianewarray of two dimensions) -/
def mk_in (cB : ClassId) (M : Nat) (dv : Value) : Cell := { cls := cB, slots := Array.replicate M dv, vm := .none }
def mk_out (cA : ClassId) (N q : Nat) : Nat → Cell
  | 0 => { cls := cA, slots := Array.replicate N .null, vm := .none }
  | i + 1 => (mk_out cA N q i).setSlot i (.ref (q + 1 + i))
/-- the state when the outer array and i of its rows are there -/
def mk_st (s : State) (cA cB : ClassId) (N M : Nat) (dv : Value) : Nat → State
  | 0 => s.pushCell (mk_out cA N s.heap.size 0)
  | i + 1 => ((mk_st s cA cB N M dv i).pushCell (mk_in cB M dv)).setCell s.heap.size (mk_out cA N s.heap.size (i + 1))
theorem mk_out_is (cA : ClassId) (N q i : Nat) : (mk_out cA N q i).cls = cA ∧ (mk_out cA N q i).vm = .none ∧ (mk_out cA N q i).slots.size = N := by
  induction i with
  | zero => exact ⟨rfl, rfl, by simp [mk_out]⟩
  | succ i ih =>
    obtain ⟨a, b, d⟩ := ih
    exact ⟨by simp [mk_out, Cell.setSlot, a], by simp [mk_out, Cell.setSlot, b], by simp [mk_out, Cell.setSlot, d]⟩
theorem mk_st_is (s : State) (cA cB : ClassId) (N M : Nat) (dv : Value) (i : Nat) : (mk_st s cA cB N M dv i).heap.size = s.heap.size + 1 + i ∧ (mk_st s cA cB N M dv i).heap[s.heap.size]? = some (mk_out cA N s.heap.size i) ∧
    (mk_st s cA cB N M dv i).vm = s.vm ∧ (mk_st s cA cB N M dv i).slotsUsed = s.slotsUsed + N + i * M := by
  induction i with
  | zero => exact ⟨by simp [mk_st], by simp [mk_st], rfl, by simp [mk_st, mk_out]⟩
  | succ i ih =>
    obtain ⟨a, b, d, u⟩ := ih
    have hlt : s.heap.size < (mk_st s cA cB N M dv i).heap.size := by omega
    have hb' : ((mk_st s cA cB N M dv i).pushCell (mk_in cB M dv)).heap[s.heap.size]? = some (mk_out cA N s.heap.size i) := by rw [State.heap_pushCell_of_lt (h := hlt)]; exact b
    refine ⟨?_, State.heap_setCell_self hb', by simp [mk_st, d], ?_⟩
    · simp [mk_st, State.setCell, a]; omega
    · simp [mk_st, u, mk_in, Nat.succ_mul]; omega
theorem mk_st_top (s : State) (f : JFrame) (cA cB : ClassId) (N M : Nat) (dv : Value) (i : Nat) : mk_st (s.setTop f) cA cB N M dv i = (mk_st s cA cB N M dv i).setTop f := by
  induction i with
  | zero => rfl
  | succ i ih => simp only [mk_st, ih, State.heap_setTop, State.pushCell_setTop, State.setCell_setTop]
theorem mk_st_old (s : State) (cA cB : ClassId) (N M : Nat) (dv : Value) {a : Addr} (ha : a < s.heap.size) (i : Nat) : (mk_st s cA cB N M dv i).heap[a]? = s.heap[a]? := by
  induction i with
  | zero => exact State.heap_pushCell_of_lt _ _ ha
  | succ i ih =>
    have f1 := (mk_st_is s cA cB N M dv i).1
    have hlt : a < (mk_st s cA cB N M dv i).heap.size := Nat.lt_of_lt_of_le ha (by rw [f1]; omega)
    show (((mk_st s cA cB N M dv i).pushCell (mk_in cB M dv)).setCell s.heap.size _).heap[a]? = _
    rw [State.heap_setCell_other (Nat.ne_of_gt ha), State.heap_pushCell_of_lt (h := hlt)]
    exact ih
section MK
variable {E : CtlPost} {e : Env} {d : Bool} {acts : List Action} {s : State}
theorem mk_newArray {cA comp : ClassId} {k : Class} {type : FieldType} {len : Nat} {init : Value} (hk : s.vm.classes[cA]? = some k) (hkind : k.kind = .array comp type)
    (hlimit : ¬ len > e.platform.arrayLengthLimit) (hheap : ¬ len * componentBytes type > e.platform.maxHeapBytes) (hfit : fits type init = true) (hdef : init.isDefault = true) {Q : Addr → Pre}
    (h1 : s.heap.size < e.platform.maxCells) (h2 : s.slotsUsed + len ≤ e.platform.maxSlots)
    (hq : Q s.heap.size d acts (s.pushCell { cls := cA, slots := Array.replicate len init, vm := .none })) :
    wp (Jvm.newArray cA len init) Q E e d acts s := by
  have hfits : ∀ i v, (Array.replicate len init)[i]? = some v → s.fitsSlot cA .none i v = true := by
    intro i v hv
    simp only [Array.getElem?_replicate] at hv
    split at hv
    · cases hv
      simp [State.fitsSlot, State.slotType?, hk, hkind, hfit]
    · cases hv
  have hda : allocActs (Array.replicate len init) s.heap.size acts = acts := by
    have hall : ((Array.replicate len init).all (·.isDefault)) = true := by
      rw [Array.all_replicate]
      split <;> simp [hdef]
    unfold allocActs
    rw [if_pos hall]
  simp only [Jvm.newArray, Jvm.arrayFits, wp_bind', W.ask, W.ite, hlimit, if_false, wp_pure', W.theClass, hk, hkind, hheap, W.alloc, W.stop, Option.some.injEq, exists_eq_left', Array.size_replicate, hda]
  rw [if_neg (by omega)]
  exact ⟨h1, h2, hfits, hq⟩
end MK
section MK2
variable {E : CtlPost} {e : Env} {d : Bool} {acts : List Action} {s : State}
theorem mk_refFits {t : FieldType} (h : t.isReference = true) (v : Value) (hv : v = .null ∨ ∃ a, v = .ref a) : fits t v = true := by
  rcases hv with rfl | ⟨a, rfl⟩ <;> cases t <;> simp [FieldType.isReference] at h <;> rfl
theorem mk_row {cB comp : ClassId} {kB : Class} {type : FieldType} {k : Int32} (hkB : s.vm.classes[cB]? = some kB) (hkind : kB.kind = .array comp type) (hk : ¬ k < 0)
    (hl : ¬ k.toNatClampNeg > e.platform.arrayLengthLimit) (hh : ¬ k.toNatClampNeg * componentBytes type > e.platform.maxHeapBytes) (hdf : fits type (defaultValue type) = true) (hdd : (defaultValue type).isDefault = true)
    (h1 : s.heap.size < e.platform.maxCells) (h2 : s.slotsUsed + k.toNatClampNeg ≤ e.platform.maxSlots) {Q : Addr → Pre} (hq : Q s.heap.size d acts (s.pushCell (mk_in cB k.toNatClampNeg (defaultValue type)))) :
    wp (Op.multianewarray.make cB [k]) Q E e d acts s := by
  rw [Op.multianewarray.make]
  simp only [wp_bind', W.ite, hk, if_false, wp_pure', W.theClass, hkB, hkind, Option.some.injEq, exists_eq_left']
  exact mk_newArray hkB hkind hl hh hdf hdd h1 h2 hq
theorem mk_rows {cA cB comp : ClassId} {kA kB : Class} {t0 type : FieldType} {n k : Int32} (hkA : s.vm.classes[cA]? = some kA) (hkindA : kA.kind = .array cB t0) (href : t0.isReference = true)
    (hkB : s.vm.classes[cB]? = some kB) (hkindB : kB.kind = .array comp type) (hn : ¬ n < 0) (hk : ¬ k < 0)
    (hl1 : ¬ n.toNatClampNeg > e.platform.arrayLengthLimit) (hh1 : ¬ n.toNatClampNeg * componentBytes t0 > e.platform.maxHeapBytes)
    (hl2 : ¬ k.toNatClampNeg > e.platform.arrayLengthLimit) (hh2 : ¬ k.toNatClampNeg * componentBytes type > e.platform.maxHeapBytes) (hdf : fits type (defaultValue type) = true) (hdd : (defaultValue type).isDefault = true)
    (hc : s.heap.size + 1 + n.toNatClampNeg ≤ e.platform.maxCells) (hs : s.slotsUsed + n.toNatClampNeg + n.toNatClampNeg * k.toNatClampNeg ≤ e.platform.maxSlots)
    {Q : Addr → Pre} (hq : ∀ d' acts', Q s.heap.size d' acts' (mk_st s cA cB n.toNatClampNeg k.toNatClampNeg (defaultValue type) n.toNatClampNeg)) :
    wp (Op.multianewarray.make cA [n, k]) Q E e d acts s := by
  have hfind : ([k].find? (· < 0)) = none := by simp [hk]
  generalize hN : n.toNatClampNeg = N at *
  generalize hM : k.toNatClampNeg = M at *
  rw [Op.multianewarray.make]
  simp only [wp_bind', W.ite, hn, if_false, wp_pure', W.theClass, hkA, hkindA, Option.some.injEq, exists_eq_left', hN]
  refine mk_newArray hkA hkindA hl1 hh1 (mk_refFits href _ (Or.inl rfl)) rfl (by omega) (by have := Nat.zero_le (N * M); omega) ?_
  simp only [hfind]
  rw [ite_self, wp_bind', Std.Legacy.Range.forIn_eq_forIn_range']
  have hsz : ([:N] : Std.Legacy.Range).size = N := by simp [Std.Legacy.Range.size]
  rw [hsz]
  show wp (forIn (List.range' 0 N 1) PUnit.unit _) _ E e d acts _
  refine wp_forIn_inv (fun rest s' => ∃ i, i ≤ N ∧ rest = List.range' i (N - i) ∧ s' = mk_st s cA cB N M (defaultValue type) i) _ _ ⟨0, Nat.zero_le _, rfl, rfl⟩ ?_ ?_
  · rintro x rest s' d' acts' Q' ⟨i, hi, hl, rfl⟩ hnext
    have hlt : i < N := by
      rcases Nat.lt_or_ge i N with h | h
      · exact h
      · rw [show N - i = 0 from by omega] at hl
        simp at hl
    obtain ⟨rfl, hrest⟩ : x = i ∧ rest = List.range' (i + 1) (N - (i + 1)) := by
      rw [show N - i = (N - (i + 1)) + 1 from by omega, List.range'_succ] at hl
      exact ⟨(List.cons.inj hl).1, (List.cons.inj hl).2⟩
    obtain ⟨f1, f2, f3, f4⟩ := mk_st_is s cA cB N M (defaultValue type) x
    obtain ⟨o1, o2, o3⟩ := mk_out_is cA N s.heap.size x
    have hmul : x * M + M ≤ N * M := by
      have := Nat.mul_le_mul_right M (show x + 1 ≤ N from hlt)
      rw [Nat.succ_mul] at this
      exact this
    simp only [wp_bind']
    refine mk_row (by rw [f3]; exact hkB) hkindB hk (by rw [hM]; exact hl2) (by rw [hM]; exact hh2) hdf hdd (by rw [f1]; omega) (by rw [f4, hM]; omega) ?_
    have hlt0 : s.heap.size < (mk_st s cA cB N M (defaultValue type) x).heap.size := by rw [f1]; omega
    simp only [wp_bind', W.writeLoc, wp_pure', hM]
    refine ⟨mk_out cA N s.heap.size x, by rw [State.heap_pushCell_of_lt (h := hlt0)]; exact f2, by rw [o2]; simp, by rw [o3]; exact hlt, ?_, hnext _ _ _ ⟨x + 1, hlt, hrest, ?_⟩⟩
    · rw [o1, o2]
      simp [State.fitsSlot, State.slotType?, f3, hkA, hkindA, mk_refFits href _ (Or.inr ⟨_, rfl⟩)]
    · rw [f1]
      rfl
  · rintro s' d' acts' ⟨i, hi, hl, rfl⟩
    have hiN : i = N := by
      rcases Nat.lt_or_ge i N with h | h
      · rw [show N - i = (N - (i + 1)) + 1 from by omega, List.range'_succ] at hl
        cases hl
      · omega
    subst hiN
    simp only [wp_pure']
    exact hq _ _
end MK2
section MK3
variable {p : Program} {l : Launch} {e : Env} {R : Room} {s : State} {m : MethodId} {args : Array Value} {below : List Frame} {meth : Method} {c : Code} {H : Heap} {locs : List Loc} {cells slots : Nat} {Q : State → Prop}
theorem mk_stand {T : State} (X : Stand p l e R s m args below meth c T locs cells slots) (cA cB : ClassId) (N M : Nat) (dv : Value) (i : Nat) :
    Stand p l e R s m args below meth c (mk_st T cA cB N M dv i) (locs ++ (List.range i).map fun j => ⟨T.heap.size, j⟩) (cells + 1 + i) (slots + N + i * M) := by
  induction i with
  | zero =>
    have h := X.pushed (mk_out cA N T.heap.size 0)
    rw [(mk_out_is cA N T.heap.size 0).2.2] at h
    simpa [mk_st] using h
  | succ i ih =>
    obtain ⟨f1, f2, f3, f4⟩ := mk_st_is T cA cB N M dv i
    have hlt0 : T.heap.size < (mk_st T cA cB N M dv i).heap.size := by rw [f1]; omega
    have hcell : ((mk_st T cA cB N M dv i).pushCell (mk_in cB M dv)).heap[T.heap.size]? = some (mk_out cA N T.heap.size i) := by rw [State.heap_pushCell_of_lt (h := hlt0)]; exact f2
    have h := (ih.pushed (mk_in cB M dv)).stored hcell i (.ref (T.heap.size + 1 + i))
    have e1 : (mk_in cB M dv).slots.size = M := by simp [mk_in]
    rw [e1] at h
    have e2 : (locs ++ (List.range (i + 1)).map fun j => (⟨T.heap.size, j⟩ : Loc)) = (locs ++ (List.range i).map fun j => (⟨T.heap.size, j⟩ : Loc)) ++ [⟨T.heap.size, i⟩] := by simp [List.range_succ, List.append_assoc]
    have e3 : slots + N + (i + 1) * M = slots + N + i * M + M := by rw [Nat.succ_mul]; omega
    rw [e2, e3]
    exact h
theorem mk_over {t : FieldType} (h : (Cond.arrayOver (.array t)).before args s = true) :
    ∃ cB cA k, s.vm.findClass (FieldType.array t).toString = some cB ∧ s.vm.classes[cA]? = some k ∧ k.kind = .array cB (.array t) ∧ s.vm.findClass ("[" ++ (FieldType.array t).toString) = some cA := by
  simp only [Cond.before, Cond.holds, Cond.value, beq_iff_eq] at h
  cases hc : s.vm.findClass (FieldType.array t).toString with
  | none => simp [hc] at h
  | some cB =>
    simp only [hc, Option.bind_some, Option.bind_eq_some_iff, Option.map_eq_some_iff] at h
    obtain ⟨cA, hi, k, hk, hb⟩ := h
    obtain ⟨hlt, hp, -⟩ := Array.findIdx?_eq_some_iff_getElem.mp hi
    have hkk : s.vm.classes[cA] = k := (Array.getElem?_eq_some_iff.mp hk).2
    rw [hkk] at hp
    cases hkind : k.kind with
    | array component ty =>
      rw [hkind] at hb hp
      simp at hb hp
      exact ⟨cB, cA, k, rfl, hk, by rw [hkind, hp, hb.1], hb.2⟩
    | _ => rw [hkind] at hb; simp at hb
/-- the array classes of two dimensions, as the tables have them -/
def mk_AO (t : FieldType) (U : State) : Prop := ∃ cB cA k, U.vm.findClass (FieldType.array t).toString = some cB ∧ U.vm.classes[cA]? = some k ∧ k.kind = .array cB (.array t) ∧ U.vm.findClass ("[" ++ (FieldType.array t).toString) = some cA
theorem mk_AO.moved {t : FieldType} {u U : State} (hvm : u.vm.Alike U.vm) (h : mk_AO t u) : mk_AO t U := by
  obtain ⟨cB, cA, k, h1, h2, h3, h4⟩ := h
  obtain ⟨k', hk', he⟩ := hvm.2.2 _ _ h2
  exact ⟨cB, cA, k', by rw [hvm.findClass]; exact h1, hk', by rw [he]; exact h3, by rw [hvm.findClass]; exact h4⟩
/-- new T[n][k]: what it holds is not told here, only that all that was there stays -/
theorem mk_new0 {cc : ByteArray} {pc : Nat} {ls : Array Slot} {rest : List Value} {D : va_G} {cl : List vw_C} {A : Nat → Prop} {ws : va_W} {H0 : Heap} (hexec : p.tables.exec = Jvm.exec) (hb : c.code = cc) {own cn : String} {index : Nat} {ty : FieldType}
    (hown : s.vm.findClass own = some m.cls) (hcn : "[" ++ (FieldType.array ty).toString = cn) (hclink : (Cond.classLink own index cn).before args s = true)
    (hover : mk_AO ty s) (harr : (Cond.arrayClass ty).before args s = true) (hP : va_P D cl ws H) (hS : va_S A H0 H locs) (hA : ∀ q, H0.size ≤ q → A q)
    {n k : Int32} {N M : Nat} (hn : ¬ n < 0) (hk : ¬ k < 0) (hN : n.toNatClampNeg = N) (hM : k.toNatClampNeg = M) (hb1 : N * 4 ≤ 536870912) (hb2 : M * componentBytes ty ≤ 536870912) (hb3 : M ≤ 536870912)
    (hdf : fits ty (defaultValue ty) = true) (hdd : (defaultValue ty).isDefault = true) (hcells : cells + (1 + N) ≤ R.cells) (hslots : slots + (N + N * M) ≤ R.slots) (hdg : decode cc pc = .ok (.multianewarray index 2, 4))
    (kk : ∀ (q : Nat) (H1 : Heap) (locs1 : List Loc), va_P D cl ws H1 → va_S A H0 H1 locs1 → W p l e R s m args below meth c H1 locs1 (cells + 1 + N) (slots + N + N * M) Q (F0 m (pc + 4) ls (.ref q :: rest))) :
    W p l e R s m args below meth c H locs cells slots Q (F0 m pc ls (.int k :: .int n :: rest)) := by
  subst hb
  subst hcn
  intro T hT X
  have hpl : e.platform.magicAccessors = ({} : Platform).magicAccessors := by rw [X.admits.platform]
  obtain ⟨cB, cA, kA, hcomp, hkA, hkindA, hnameA⟩ := hover
  obtain ⟨cB', kC, comp, hcomp', hkC, hkindC⟩ := Cond.arrayClass_spec harr
  have ecomp : cB' = cB := Option.some.inj (hcomp'.symm.trans hcomp)
  subst ecomp
  obtain ⟨c0, hfc0, hcl⟩ := Cond.classLink_spec hown hclink e.platform hpl
  cases hnameA.symm.trans hfc0
  obtain ⟨hg₁, hwarm₁, hready₁⟩ := State.classEntry (e := e) X.warmed hcl
  generalize T.vm.noted m.cls index (.cls cA) = vm₁ at hg₁ hwarm₁ hready₁
  have hal : s.vm.Alike vm₁ := hwarm₁.alike
  obtain ⟨kA₁, hkA₁, heA⟩ := hal.2.2 _ _ hkA
  obtain ⟨kC₁, hkC₁, heC⟩ := hal.2.2 _ _ hkC
  have hkindA₁ : kA₁.kind = .array cB' (.array ty) := by rw [heA]; exact hkindA
  have hkindC₁ : kC₁.kind = .array comp ty := by rw [heC]; exact hkindC
  have X₁ := X.noted hwarm₁
  have hr1 := X.cellsAbove hcells
  have hr2 := X.slotsAbove hslots
  subst hN
  subst hM
  have XF := mk_stand X₁ cA cB' n.toNatClampNeg k.toNatClampNeg (defaultValue ty) n.toNatClampNeg
  obtain ⟨f1, f2, f3, f4⟩ := mk_st_is (T.setVm vm₁) cA cB' n.toNatClampNeg k.toNatClampNeg (defaultValue ty) n.toNatClampNeg
  have hold : ∀ x : Nat, x < H.size → (mk_st (T.setVm vm₁) cA cB' n.toNatClampNeg k.toNatClampNeg (defaultValue ty) n.toNatClampNeg).heap[x]? = H[x]? := fun x hx => by
    rw [mk_st_old (T.setVm vm₁) cA cB' _ _ _ (by show x < T.heap.size; rw [hT]; exact hx)]
    show T.heap[x]? = _
    rw [hT]
  have hsz : H.size ≤ (mk_st (T.setVm vm₁) cA cB' n.toNatClampNeg k.toNatClampNeg (defaultValue ty) n.toNatClampNeg).heap.size := by
    rw [f1]; show H.size ≤ T.heap.size + 1 + _; rw [hT]; omega
  obtain ⟨t, a1, b1⟩ := kk T.heap.size _ _ (hP.kept (fun k9 x hx => hold x.1 ((hP k9 x hx).lt))) ⟨Nat.le_trans hS.1 hsz, fun x h1 h2 => (hold x (Nat.lt_of_lt_of_le h1 hS.1)).trans (hS.2.1 x h1 h2), fun q hq => by
    rcases List.mem_append.mp hq with h | h
    · exact hS.2.2 q h
    · obtain ⟨j, -, rfl⟩ := List.mem_map.mp h
      exact hA _ (by show H0.size ≤ T.heap.size; rw [hT]; exact hS.1)⟩ _ rfl XF
  refine ⟨t, ?_, b1⟩
  have hl1 : ¬ n.toNatClampNeg > e.platform.arrayLengthLimit := by rw [Launch.admits_arrayLengthLimit X.admits]; omega
  have hh1 : ¬ n.toNatClampNeg * componentBytes (.array ty) > e.platform.maxHeapBytes := by
    rw [Launch.admits_maxHeapBytes X.admits]; show ¬ n.toNatClampNeg * 4 > 536870912; omega
  have hl2 : ¬ k.toNatClampNeg > e.platform.arrayLengthLimit := by rw [Launch.admits_arrayLengthLimit X.admits]; omega
  have hh2 : ¬ k.toNatClampNeg * componentBytes ty > e.platform.maxHeapBytes := by rw [Launch.admits_maxHeapBytes X.admits]; omega
  jvm_step X.here [hexec, hdg]
  simp only [Op.multianewarray.sem, wp_bind', Jvm.W.resolveClassAt_links (State.method?_setTop (F0 m pc ls (.int k :: .int n :: rest)) X.here.top) hg₁]
  rw [Jvm.W.popN, if_neg (by decide)]
  refine ⟨F0 m pc ls (.int k :: .int n :: rest), State.topJava?_setTop' (s := T.setVm vm₁) _ X.here.top, [.int n, .int k], rest, rfl, rfl, ?_⟩
  simp only [List.mapM_cons, List.mapM_nil, wp_bind', wp_pure']
  refine mk_rows (kA := kA₁) (kB := kC₁) (cB := cB') (comp := comp) (t0 := .array ty) (type := ty) hkA₁ hkindA₁ rfl hkC₁ hkindC₁ hn hk hl1 hh1 hl2 hh2 hdf hdd (by show T.heap.size + 1 + _ ≤ _; omega) (by show T.slotsUsed + _ + _ ≤ _; omega) (fun d' acts' => ?_)
  have eS : ((T.setTop (F0 m pc ls (.int k :: .int n :: rest))).setVm vm₁).setTop { F0 m pc ls (.int k :: .int n :: rest) with stack := rest } = (T.setVm vm₁).setTop { F0 m pc ls (.int k :: .int n :: rest) with stack := rest } := by
    show ((T.setVm vm₁).setTop _).setTop _ = _
    rw [State.setTop_setTop]
  rw [eS, mk_st_top]
  simp only [wp_bind', Jvm.W.mark, Jvm.W.pushRef, State.topJava?_setTop' _ XF.here.top, Option.some.injEq, exists_eq_left', State.setTop_setTop, State.heap_setTop]
  intro acts
  simp [jvm, XF.here.top]
  exact a1
end MK3
end
section
/-! the words that every method has: those of the tables that stay -/
def wd : List Cond := lw_tbl.filter goodWord
theorem wd_t {w : Cond} (h : w ∈ tables_1) (hg : goodWord w = true) : w ∈ wd := List.mem_filter.mpr ⟨List.mem_append_right _ h, hg⟩
theorem wd_p {q : MethodName × Nat} (h : q ∈ lw_privs) : Cond.selects q.1.cls q.1 q.1 ∈ wd := List.mem_filter.mpr ⟨List.mem_append_left _ (List.mem_map.mpr ⟨q, h, rfl⟩), rfl⟩
theorem wd_g {w0 : Cond} (h : w0 ∈ wd) : GoodIn wd (w0 :: wd) := fun w hw => by
  rcases List.mem_cons.mp hw with rfl | hw
  · exact ⟨h, good_of_word (List.mem_filter.mp h).2⟩
  · exact ⟨hw, good_of_word (List.mem_filter.mp hw).2⟩
section WD
variable {R : Room} {s : State} {args : Array Value} {own C host : String} {index maxL mc ms : Nat} {y : MethodName} {bytes : ByteArray} {ret : Option FieldType} {rm : Room}
theorem wd_V (n : Nat) (hts : ∀ w ∈ wd, w.before args s = true) (hc : Cond.code y bytes maxL ret ∈ wd) (hi : Cond.initialized y.cls ∈ wd) (hl : Cond.methodLink own index y ∈ wd) (hin : Cond.instanceMethod y ∈ wd) (hse : Cond.selects C y y ∈ wd) (hrc : rm.cells = mc) (hrs : rm.slots = ms)
    (hd : y.cls ≠ "java/lang/invoke/MethodHandle" ∧ y.cls ≠ "java/lang/invoke/VarHandle" ∧ (parseMethodDescriptor y.desc).map (fun d => d.parameters.length) = some n) (hR : rm.frames + 1 ≤ R.frames ∧ 8 + (maxL + 11) + rm.locals ≤ R.locals) :
    CallW R s args own C index y bytes maxL ret (Cond.code y bytes maxL ret :: wd) rm mc ms n := ⟨callB_of n hts (wd_g hc) rfl hrc hrs (hts _ hi) (hts _ hl) hd hR, hts _ hin, hts _ hse⟩
theorem wd_S (n : Nat) (hts : ∀ w ∈ wd, w.before args s = true) (hc : Cond.code y bytes maxL ret ∈ wd) (hi : Cond.initialized y.cls ∈ wd) (hl : Cond.methodLink own index y ∈ wd) (hst : Cond.static y ∈ wd) (hrc : rm.cells = mc) (hrs : rm.slots = ms)
    (hd : y.cls ≠ "java/lang/invoke/MethodHandle" ∧ y.cls ≠ "java/lang/invoke/VarHandle" ∧ (parseMethodDescriptor y.desc).map (fun d => d.parameters.length) = some n) (hR : rm.frames + 1 ≤ R.frames ∧ 8 + (maxL + 11) + rm.locals ≤ R.locals) :
    CallB R s args own index y bytes maxL ret (Cond.code y bytes maxL ret :: wd) rm mc ms n ∧ (Cond.static y).before args s = true := ⟨callB_of n hts (wd_g hc) rfl hrc hrs (hts _ hi) (hts _ hl) hd hR, hts _ hst⟩
theorem wd_I (n : Nat) (hts : ∀ w ∈ wd, w.before args s = true) (hc : Cond.code y bytes maxL none ∈ wd) (hi : Cond.initialized y.cls ∈ wd) (hl : Cond.methodLink own index y ∈ wd) (hin : Cond.instanceMethod y ∈ wd) (hy1 : y.name = "<init>") (hrc : rm.cells = mc) (hrs : rm.slots = ms)
    (hd : y.cls ≠ "java/lang/invoke/MethodHandle" ∧ y.cls ≠ "java/lang/invoke/VarHandle" ∧ (parseMethodDescriptor y.desc).map (fun d => d.parameters.length) = some n) (hR : rm.frames + 1 ≤ R.frames ∧ 8 + (maxL + 11) + rm.locals ≤ R.locals) :
    CallB R s args own index y bytes maxL none (Cond.code y bytes maxL none :: wd) rm mc ms n ∧ y.name = "<init>" ∧ (Cond.instanceMethod y).before args s = true := ⟨callB_of n hts (wd_g hc) rfl hrc hrs (hts _ hi) (hts _ hl) hd hR, hy1, hts _ hin⟩
theorem wd_IN (n : Nat) (hts : ∀ w ∈ wd, w.before args s = true) (hc : Cond.code y bytes maxL none ∈ wd) (hi : Cond.initialized y.cls ∈ wd) (hl : va_Nw (.methodLinkNest own index y host) s) (hin : Cond.instanceMethod y ∈ wd) (hy1 : y.name = "<init>") (hrc : rm.cells = mc) (hrs : rm.slots = ms)
    (hd : y.cls ≠ "java/lang/invoke/MethodHandle" ∧ y.cls ≠ "java/lang/invoke/VarHandle" ∧ (parseMethodDescriptor y.desc).map (fun d => d.parameters.length) = some n) (hR : rm.frames + 1 ≤ R.frames ∧ 8 + (maxL + 11) + rm.locals ≤ R.locals) :
    va_CN R s args own index y host bytes maxL none (Cond.code y bytes maxL none :: wd) rm mc ms n ∧ y.name = "<init>" ∧ (Cond.instanceMethod y).before args s = true := ⟨va_cnB n hts (wd_g hc) rfl hrc hrs hl (hts _ hi) hd hR, hy1, hts _ hin⟩
end WD
end
section
theorem k_14 : (Jvm.Cond.initialized "java/lang/Throwable") ∈ wd := wd_t (List.mem_of_getElem? (i := 14) (by decide +kernel)) rfl
theorem k_28 : (Jvm.Cond.instanceMethod ({ cls := "java/lang/Object", name := "<init>", desc := "()V" } : Jvm.MethodName)) ∈ wd := wd_t (List.mem_of_getElem? (i := 28) (by decide +kernel)) rfl
theorem k_29 : (Jvm.Cond.code ({ cls := "java/lang/Object", name := "<init>", desc := "()V" } : Jvm.MethodName) object_method_1_code (1 : Nat) (Option.none : Option Jvm.ClassFile.FieldType)) ∈ wd := wd_t (List.mem_of_getElem? (i := 29) (by decide +kernel)) rfl
theorem k_40 : (Jvm.Cond.laysFinal "LeastSolutions$Text" "LeastSolutions$Text" "characters" "[B") ∈ wd := wd_t (List.mem_of_getElem? (i := 40) (by decide +kernel)) rfl
theorem k_42 : (Jvm.Cond.lays "LeastSolutions$Text" "LeastSolutions$Text" "length" "I") ∈ wd := wd_t (List.mem_of_getElem? (i := 42) (by decide +kernel)) rfl
theorem k_64 : (Jvm.Cond.laysFinal "LeastSolutions$Words" "LeastSolutions$Words" "kinds" "[I") ∈ wd := wd_t (List.mem_of_getElem? (i := 64) (by decide +kernel)) rfl
theorem k_66 : (Jvm.Cond.laysFinal "LeastSolutions$Words" "LeastSolutions$Words" "places" "[I") ∈ wd := wd_t (List.mem_of_getElem? (i := 66) (by decide +kernel)) rfl
theorem k_68 : (Jvm.Cond.laysFinal "LeastSolutions$Words" "LeastSolutions$Words" "values" "[I") ∈ wd := wd_t (List.mem_of_getElem? (i := 68) (by decide +kernel)) rfl
theorem k_70 : (Jvm.Cond.lays "LeastSolutions$Words" "LeastSolutions$Words" "total" "I") ∈ wd := wd_t (List.mem_of_getElem? (i := 70) (by decide +kernel)) rfl
theorem k_72 : (Jvm.Cond.lays "LeastSolutions$Words" "LeastSolutions$Words" "state" "I") ∈ wd := wd_t (List.mem_of_getElem? (i := 72) (by decide +kernel)) rfl
theorem k_74 : (Jvm.Cond.lays "LeastSolutions$Words" "LeastSolutions$Words" "isRightSide" "Z") ∈ wd := wd_t (List.mem_of_getElem? (i := 74) (by decide +kernel)) rfl
theorem k_76 : (Jvm.Cond.lays "LeastSolutions$Words" "LeastSolutions$Words" "faultPlace" "I") ∈ wd := wd_t (List.mem_of_getElem? (i := 76) (by decide +kernel)) rfl
theorem k_116 : (Jvm.Cond.laysFinal "LeastSolutions$Equations" "LeastSolutions$Equations" "a" "[[I") ∈ wd := wd_t (List.mem_of_getElem? (i := 116) (by decide +kernel)) rfl
theorem k_118 : (Jvm.Cond.laysFinal "LeastSolutions$Equations" "LeastSolutions$Equations" "b" "[I") ∈ wd := wd_t (List.mem_of_getElem? (i := 118) (by decide +kernel)) rfl
theorem k_120 : (Jvm.Cond.laysFinal "LeastSolutions$Equations" "LeastSolutions$Equations" "letters" "[I") ∈ wd := wd_t (List.mem_of_getElem? (i := 120) (by decide +kernel)) rfl
theorem k_122 : (Jvm.Cond.laysFinal "LeastSolutions$Equations" "LeastSolutions$Equations" "slackRows" "[I") ∈ wd := wd_t (List.mem_of_getElem? (i := 122) (by decide +kernel)) rfl
theorem k_124 : (Jvm.Cond.laysFinal "LeastSolutions$Equations" "LeastSolutions$Equations" "slackNumbers" "[I") ∈ wd := wd_t (List.mem_of_getElem? (i := 124) (by decide +kernel)) rfl
theorem k_126 : (Jvm.Cond.lays "LeastSolutions$Equations" "LeastSolutions$Equations" "rows" "I") ∈ wd := wd_t (List.mem_of_getElem? (i := 126) (by decide +kernel)) rfl
theorem k_128 : (Jvm.Cond.lays "LeastSolutions$Equations" "LeastSolutions$Equations" "variables" "I") ∈ wd := wd_t (List.mem_of_getElem? (i := 128) (by decide +kernel)) rfl
theorem k_130 : (Jvm.Cond.lays "LeastSolutions$Equations" "LeastSolutions$Equations" "slacks" "I") ∈ wd := wd_t (List.mem_of_getElem? (i := 130) (by decide +kernel)) rfl
theorem k_142 : (Jvm.Cond.lays "LeastSolutions$Builder" "LeastSolutions$Builder" "result" "LLeastSolutions$Equations;") ∈ wd := wd_t (List.mem_of_getElem? (i := 142) (by decide +kernel)) rfl
theorem k_144 : (Jvm.Cond.lays "LeastSolutions$Builder" "LeastSolutions$Builder" "row" "I") ∈ wd := wd_t (List.mem_of_getElem? (i := 144) (by decide +kernel)) rfl
theorem k_146 : (Jvm.Cond.lays "LeastSolutions$Builder" "LeastSolutions$Builder" "side" "I") ∈ wd := wd_t (List.mem_of_getElem? (i := 146) (by decide +kernel)) rfl
theorem k_148 : (Jvm.Cond.lays "LeastSolutions$Builder" "LeastSolutions$Builder" "sign" "I") ∈ wd := wd_t (List.mem_of_getElem? (i := 148) (by decide +kernel)) rfl
theorem k_150 : (Jvm.Cond.lays "LeastSolutions$Builder" "LeastSolutions$Builder" "open" "I") ∈ wd := wd_t (List.mem_of_getElem? (i := 150) (by decide +kernel)) rfl
theorem k_152 : (Jvm.Cond.lays "LeastSolutions$Builder" "LeastSolutions$Builder" "relation" "I") ∈ wd := wd_t (List.mem_of_getElem? (i := 152) (by decide +kernel)) rfl
theorem k_154 : (Jvm.Cond.lays "LeastSolutions$Builder" "LeastSolutions$Builder" "relationPlace" "I") ∈ wd := wd_t (List.mem_of_getElem? (i := 154) (by decide +kernel)) rfl
theorem k_156 : (Jvm.Cond.lays "LeastSolutions$Builder" "LeastSolutions$Builder" "faultPlace" "I") ∈ wd := wd_t (List.mem_of_getElem? (i := 156) (by decide +kernel)) rfl
theorem k_177 : (Jvm.Cond.laysFinal "LeastSolutions$Lattice" "LeastSolutions$Lattice" "basis" "[[J") ∈ wd := wd_t (List.mem_of_getElem? (i := 177) (by decide +kernel)) rfl
theorem k_179 : (Jvm.Cond.laysFinal "LeastSolutions$Lattice" "LeastSolutions$Lattice" "rowLeadingAt" "[I") ∈ wd := wd_t (List.mem_of_getElem? (i := 179) (by decide +kernel)) rfl
theorem k_181 : (Jvm.Cond.laysFinal "LeastSolutions$Lattice" "LeastSolutions$Lattice" "kernelRows" "[I") ∈ wd := wd_t (List.mem_of_getElem? (i := 181) (by decide +kernel)) rfl
theorem k_183 : (Jvm.Cond.laysFinal "LeastSolutions$Lattice" "LeastSolutions$Lattice" "target" "[J") ∈ wd := wd_t (List.mem_of_getElem? (i := 183) (by decide +kernel)) rfl
theorem k_185 : (Jvm.Cond.laysFinal "LeastSolutions$Lattice" "LeastSolutions$Lattice" "fresh" "[J") ∈ wd := wd_t (List.mem_of_getElem? (i := 185) (by decide +kernel)) rfl
theorem k_187 : (Jvm.Cond.lays "LeastSolutions$Lattice" "LeastSolutions$Lattice" "kernelVectors" "I") ∈ wd := wd_t (List.mem_of_getElem? (i := 187) (by decide +kernel)) rfl
theorem k_189 : (Jvm.Cond.lays "LeastSolutions$Lattice" "LeastSolutions$Lattice" "height" "I") ∈ wd := wd_t (List.mem_of_getElem? (i := 189) (by decide +kernel)) rfl
theorem k_191 : (Jvm.Cond.lays "LeastSolutions$Lattice" "LeastSolutions$Lattice" "width" "I") ∈ wd := wd_t (List.mem_of_getElem? (i := 191) (by decide +kernel)) rfl
theorem k_193 : (Jvm.Cond.lays "LeastSolutions$Lattice" "LeastSolutions$Lattice" "used" "I") ∈ wd := wd_t (List.mem_of_getElem? (i := 193) (by decide +kernel)) rfl
theorem k_212 : (Jvm.Cond.laysFinal "LeastSolutions$Search" "LeastSolutions$Search" "vector" "[I") ∈ wd := wd_t (List.mem_of_getElem? (i := 212) (by decide +kernel)) rfl
theorem k_214 : (Jvm.Cond.laysFinal "LeastSolutions$Search" "LeastSolutions$Search" "lack" "[I") ∈ wd := wd_t (List.mem_of_getElem? (i := 214) (by decide +kernel)) rfl
theorem k_216 : (Jvm.Cond.laysFinal "LeastSolutions$Search" "LeastSolutions$Search" "lowest" "[[I") ∈ wd := wd_t (List.mem_of_getElem? (i := 216) (by decide +kernel)) rfl
theorem k_218 : (Jvm.Cond.laysFinal "LeastSolutions$Search" "LeastSolutions$Search" "highest" "[[I") ∈ wd := wd_t (List.mem_of_getElem? (i := 218) (by decide +kernel)) rfl
theorem k_220 : (Jvm.Cond.laysFinal "LeastSolutions$Search" "LeastSolutions$Search" "a" "[[I") ∈ wd := wd_t (List.mem_of_getElem? (i := 220) (by decide +kernel)) rfl
theorem k_222 : (Jvm.Cond.lays "LeastSolutions$Search" "LeastSolutions$Search" "rows" "I") ∈ wd := wd_t (List.mem_of_getElem? (i := 222) (by decide +kernel)) rfl
theorem k_224 : (Jvm.Cond.lays "LeastSolutions$Search" "LeastSolutions$Search" "columns" "I") ∈ wd := wd_t (List.mem_of_getElem? (i := 224) (by decide +kernel)) rfl
theorem k_226 : (Jvm.Cond.lays "LeastSolutions$Search" "LeastSolutions$Search" "isSigned" "Z") ∈ wd := wd_t (List.mem_of_getElem? (i := 226) (by decide +kernel)) rfl
theorem k_249 : (Jvm.Cond.laysFinal "LeastSolutions$Cheapest" "LeastSolutions$Cheapest" "vector" "[I") ∈ wd := wd_t (List.mem_of_getElem? (i := 249) (by decide +kernel)) rfl
theorem k_251 : (Jvm.Cond.laysFinal "LeastSolutions$Cheapest" "LeastSolutions$Cheapest" "costs" "[I") ∈ wd := wd_t (List.mem_of_getElem? (i := 251) (by decide +kernel)) rfl
theorem k_253 : (Jvm.Cond.lays "LeastSolutions$Cheapest" "LeastSolutions$Cheapest" "columns" "I") ∈ wd := wd_t (List.mem_of_getElem? (i := 253) (by decide +kernel)) rfl
theorem k_255 : (Jvm.Cond.lays "LeastSolutions$Cheapest" "LeastSolutions$Cheapest" "price" "I") ∈ wd := wd_t (List.mem_of_getElem? (i := 255) (by decide +kernel)) rfl
theorem k_257 : (Jvm.Cond.lays "LeastSolutions$Cheapest" "LeastSolutions$Cheapest" "isFound" "Z") ∈ wd := wd_t (List.mem_of_getElem? (i := 257) (by decide +kernel)) rfl
theorem k_276 : (Jvm.Cond.laysFinal "LeastSolutions$VectorList" "LeastSolutions$VectorList" "numbers" "[B") ∈ wd := wd_t (List.mem_of_getElem? (i := 276) (by decide +kernel)) rfl
theorem k_278 : (Jvm.Cond.lays "LeastSolutions$VectorList" "LeastSolutions$VectorList" "isThere" "Z") ∈ wd := wd_t (List.mem_of_getElem? (i := 278) (by decide +kernel)) rfl
theorem k_280 : (Jvm.Cond.lays "LeastSolutions$VectorList" "LeastSolutions$VectorList" "columns" "I") ∈ wd := wd_t (List.mem_of_getElem? (i := 280) (by decide +kernel)) rfl
theorem k_282 : (Jvm.Cond.lays "LeastSolutions$VectorList" "LeastSolutions$VectorList" "bound" "I") ∈ wd := wd_t (List.mem_of_getElem? (i := 282) (by decide +kernel)) rfl
theorem k_284 : (Jvm.Cond.lays "LeastSolutions$VectorList" "LeastSolutions$VectorList" "total" "I") ∈ wd := wd_t (List.mem_of_getElem? (i := 284) (by decide +kernel)) rfl
theorem k_286 : (Jvm.Cond.lays "LeastSolutions$VectorList" "LeastSolutions$VectorList" "lesser" "I") ∈ wd := wd_t (List.mem_of_getElem? (i := 286) (by decide +kernel)) rfl
theorem k_305 : (Jvm.Cond.laysFinal "LeastSolutions" "LeastSolutions" "text" "LLeastSolutions$Text;") ∈ wd := wd_t (List.mem_of_getElem? (i := 305) (by decide +kernel)) rfl
theorem k_307 : (Jvm.Cond.laysFinal "LeastSolutions" "LeastSolutions" "words" "LLeastSolutions$Words;") ∈ wd := wd_t (List.mem_of_getElem? (i := 307) (by decide +kernel)) rfl
theorem k_309 : (Jvm.Cond.laysFinal "LeastSolutions" "LeastSolutions" "builder" "LLeastSolutions$Builder;") ∈ wd := wd_t (List.mem_of_getElem? (i := 309) (by decide +kernel)) rfl
theorem k_311 : (Jvm.Cond.laysFinal "LeastSolutions" "LeastSolutions" "lattice" "LLeastSolutions$Lattice;") ∈ wd := wd_t (List.mem_of_getElem? (i := 311) (by decide +kernel)) rfl
theorem k_313 : (Jvm.Cond.laysFinal "LeastSolutions" "LeastSolutions" "search" "LLeastSolutions$Search;") ∈ wd := wd_t (List.mem_of_getElem? (i := 313) (by decide +kernel)) rfl
theorem k_315 : (Jvm.Cond.laysFinal "LeastSolutions" "LeastSolutions" "lists" "[LLeastSolutions$VectorList;") ∈ wd := wd_t (List.mem_of_getElem? (i := 315) (by decide +kernel)) rfl
theorem k_317 : (Jvm.Cond.laysFinal "LeastSolutions" "LeastSolutions" "cheapest" "LLeastSolutions$Cheapest;") ∈ wd := wd_t (List.mem_of_getElem? (i := 317) (by decide +kernel)) rfl
theorem k_319 : (Jvm.Cond.laysFinal "LeastSolutions" "LeastSolutions" "told" "[I") ∈ wd := wd_t (List.mem_of_getElem? (i := 319) (by decide +kernel)) rfl
theorem k_321 : (Jvm.Cond.laysFinal "LeastSolutions" "LeastSolutions" "rest" "[I") ∈ wd := wd_t (List.mem_of_getElem? (i := 321) (by decide +kernel)) rfl
theorem k_323 : (Jvm.Cond.laysFinal "LeastSolutions" "LeastSolutions" "taken" "[I") ∈ wd := wd_t (List.mem_of_getElem? (i := 323) (by decide +kernel)) rfl
theorem k_325 : (Jvm.Cond.laysFinal "LeastSolutions" "LeastSolutions" "bestVector" "[I") ∈ wd := wd_t (List.mem_of_getElem? (i := 325) (by decide +kernel)) rfl
theorem k_327 : (Jvm.Cond.lays "LeastSolutions" "LeastSolutions" "system" "LLeastSolutions$Equations;") ∈ wd := wd_t (List.mem_of_getElem? (i := 327) (by decide +kernel)) rfl
theorem k_329 : (Jvm.Cond.lays "LeastSolutions" "LeastSolutions" "hasSystem" "Z") ∈ wd := wd_t (List.mem_of_getElem? (i := 329) (by decide +kernel)) rfl
theorem k_331 : (Jvm.Cond.lays "LeastSolutions" "LeastSolutions" "hasSplit" "Z") ∈ wd := wd_t (List.mem_of_getElem? (i := 331) (by decide +kernel)) rfl
theorem k_333 : (Jvm.Cond.lays "LeastSolutions" "LeastSolutions" "hasBest" "Z") ∈ wd := wd_t (List.mem_of_getElem? (i := 333) (by decide +kernel)) rfl
theorem k_335 : (Jvm.Cond.lays "LeastSolutions" "LeastSolutions" "faultPlace" "I") ∈ wd := wd_t (List.mem_of_getElem? (i := 335) (by decide +kernel)) rfl
theorem k_607 : (Jvm.Cond.instantiable "java/lang/IndexOutOfBoundsException" (6 : Nat)) ∈ wd := wd_t (List.mem_of_getElem? (i := 607) (by decide +kernel)) rfl
theorem k_615 : (Jvm.Cond.selects "java/lang/IndexOutOfBoundsException" ({ cls := "java/lang/Throwable", name := "fillInStackTrace", desc := "(I)Ljava/lang/Throwable;" } : Jvm.MethodName) ({ cls := "java/lang/Throwable", name := "fillInStackTrace", desc := "(I)Ljava/lang/Throwable;" } : Jvm.MethodName)) ∈ wd := wd_t (List.mem_of_getElem? (i := 615) (by decide +kernel)) rfl
theorem k_616 : (Jvm.Cond.selects "java/lang/IndexOutOfBoundsException" ({ cls := "java/lang/Throwable", name := "fillInStackTrace", desc := "()Ljava/lang/Throwable;" } : Jvm.MethodName) ({ cls := "java/lang/Throwable", name := "fillInStackTrace", desc := "()Ljava/lang/Throwable;" } : Jvm.MethodName)) ∈ wd := wd_t (List.mem_of_getElem? (i := 616) (by decide +kernel)) rfl
theorem k_617 : (Jvm.Cond.lays "java/lang/IndexOutOfBoundsException" "java/lang/Throwable" "cause" "Ljava/lang/Throwable;") ∈ wd := wd_t (List.mem_of_getElem? (i := 617) (by decide +kernel)) rfl
theorem k_618 : (Jvm.Cond.lays "java/lang/Throwable" "java/lang/Throwable" "cause" "Ljava/lang/Throwable;") ∈ wd := wd_t (List.mem_of_getElem? (i := 618) (by decide +kernel)) rfl
theorem k_619 : (Jvm.Cond.lays "java/lang/IndexOutOfBoundsException" "java/lang/Throwable" "stackTrace" "[Ljava/lang/StackTraceElement;") ∈ wd := wd_t (List.mem_of_getElem? (i := 619) (by decide +kernel)) rfl
theorem k_620 : (Jvm.Cond.lays "java/lang/Throwable" "java/lang/Throwable" "stackTrace" "[Ljava/lang/StackTraceElement;") ∈ wd := wd_t (List.mem_of_getElem? (i := 620) (by decide +kernel)) rfl
theorem k_621 : (Jvm.Cond.lays "java/lang/IndexOutOfBoundsException" "java/lang/Throwable" "suppressedExceptions" "Ljava/util/List;") ∈ wd := wd_t (List.mem_of_getElem? (i := 621) (by decide +kernel)) rfl
theorem k_622 : (Jvm.Cond.lays "java/lang/Throwable" "java/lang/Throwable" "suppressedExceptions" "Ljava/util/List;") ∈ wd := wd_t (List.mem_of_getElem? (i := 622) (by decide +kernel)) rfl
theorem k_623 : (Jvm.Cond.lays "java/lang/IndexOutOfBoundsException" "java/lang/Throwable" "detailMessage" "Ljava/lang/String;") ∈ wd := wd_t (List.mem_of_getElem? (i := 623) (by decide +kernel)) rfl
theorem k_624 : (Jvm.Cond.lays "java/lang/Throwable" "java/lang/Throwable" "detailMessage" "Ljava/lang/String;") ∈ wd := wd_t (List.mem_of_getElem? (i := 624) (by decide +kernel)) rfl
theorem k_625 : (Jvm.Cond.lays "java/lang/IndexOutOfBoundsException" "java/lang/Throwable" "backtrace" "Ljava/lang/Object;") ∈ wd := wd_t (List.mem_of_getElem? (i := 625) (by decide +kernel)) rfl
theorem k_626 : (Jvm.Cond.lays "java/lang/Throwable" "java/lang/Throwable" "backtrace" "Ljava/lang/Object;") ∈ wd := wd_t (List.mem_of_getElem? (i := 626) (by decide +kernel)) rfl
theorem k_627 : (Jvm.Cond.fieldLink "java/lang/Throwable" (198 : Nat) "java/lang/Throwable" "backtrace" "Ljava/lang/Object;") ∈ wd := wd_t (List.mem_of_getElem? (i := 627) (by decide +kernel)) rfl
theorem k_628 : (Jvm.Cond.superclass "java/lang/Throwable" "java/lang/Object") ∈ wd := wd_t (List.mem_of_getElem? (i := 628) (by decide +kernel)) rfl
theorem k_629 : (Jvm.Cond.instanceMethod ({ cls := "java/lang/Throwable", name := "<init>", desc := "()V" } : Jvm.MethodName)) ∈ wd := wd_t (List.mem_of_getElem? (i := 629) (by decide +kernel)) rfl
theorem k_630 : (Jvm.Cond.code ({ cls := "java/lang/Throwable", name := "<init>", desc := "()V" } : Jvm.MethodName) prog_20_method_1_code (1 : Nat) (Option.none : Option Jvm.ClassFile.FieldType)) ∈ wd := wd_t (List.mem_of_getElem? (i := 630) (by decide +kernel)) rfl
theorem k_631 : (Jvm.Cond.methodLink "java/lang/Throwable" (1 : Nat) ({ cls := "java/lang/Object", name := "<init>", desc := "()V" } : Jvm.MethodName)) ∈ wd := wd_t (List.mem_of_getElem? (i := 631) (by decide +kernel)) rfl
theorem k_632 : (Jvm.Cond.fieldLink "java/lang/Throwable" (13 : Nat) "java/lang/Throwable" "UNASSIGNED_STACK" "[Ljava/lang/StackTraceElement;") ∈ wd := wd_t (List.mem_of_getElem? (i := 632) (by decide +kernel)) rfl
theorem k_634 : (Jvm.Cond.fieldLink "java/lang/Throwable" (20 : Nat) "java/lang/Throwable" "SUPPRESSED_SENTINEL" "Ljava/util/List;") ∈ wd := wd_t (List.mem_of_getElem? (i := 634) (by decide +kernel)) rfl
theorem k_636 : (Jvm.Cond.methodLink "java/lang/Throwable" (27 : Nat) ({ cls := "java/lang/Throwable", name := "fillInStackTrace", desc := "()Ljava/lang/Throwable;" } : Jvm.MethodName)) ∈ wd := wd_t (List.mem_of_getElem? (i := 636) (by decide +kernel)) rfl
theorem k_637 : (Jvm.Cond.instanceMethod ({ cls := "java/lang/Throwable", name := "fillInStackTrace", desc := "()Ljava/lang/Throwable;" } : Jvm.MethodName)) ∈ wd := wd_t (List.mem_of_getElem? (i := 637) (by decide +kernel)) rfl
theorem k_639 : (Jvm.Cond.selects "java/lang/IllegalArgumentException" ({ cls := "java/lang/Throwable", name := "fillInStackTrace", desc := "()Ljava/lang/Throwable;" } : Jvm.MethodName) ({ cls := "java/lang/Throwable", name := "fillInStackTrace", desc := "()Ljava/lang/Throwable;" } : Jvm.MethodName)) ∈ wd := wd_t (List.mem_of_getElem? (i := 639) (by decide +kernel)) rfl
theorem k_640 : (Jvm.Cond.selects "java/lang/IllegalStateException" ({ cls := "java/lang/Throwable", name := "fillInStackTrace", desc := "()Ljava/lang/Throwable;" } : Jvm.MethodName) ({ cls := "java/lang/Throwable", name := "fillInStackTrace", desc := "()Ljava/lang/Throwable;" } : Jvm.MethodName)) ∈ wd := wd_t (List.mem_of_getElem? (i := 640) (by decide +kernel)) rfl
theorem k_641 : (Jvm.Cond.selects "java/util/NoSuchElementException" ({ cls := "java/lang/Throwable", name := "fillInStackTrace", desc := "()Ljava/lang/Throwable;" } : Jvm.MethodName) ({ cls := "java/lang/Throwable", name := "fillInStackTrace", desc := "()Ljava/lang/Throwable;" } : Jvm.MethodName)) ∈ wd := wd_t (List.mem_of_getElem? (i := 641) (by decide +kernel)) rfl
theorem k_642 : (Jvm.Cond.codeSync ({ cls := "java/lang/Throwable", name := "fillInStackTrace", desc := "()Ljava/lang/Throwable;" } : Jvm.MethodName) prog_20_method_18_code (1 : Nat) (Option.some (Jvm.ClassFile.FieldType.object "java/lang/Throwable"))) ∈ wd := wd_t (List.mem_of_getElem? (i := 642) (by decide +kernel)) rfl
theorem k_643 : (Jvm.Cond.methodLink "java/lang/Throwable" (202 : Nat) ({ cls := "java/lang/Throwable", name := "fillInStackTrace", desc := "(I)Ljava/lang/Throwable;" } : Jvm.MethodName)) ∈ wd := wd_t (List.mem_of_getElem? (i := 643) (by decide +kernel)) rfl
theorem k_645 : (Jvm.Cond.instanceMethod ({ cls := "java/lang/Throwable", name := "fillInStackTrace", desc := "(I)Ljava/lang/Throwable;" } : Jvm.MethodName)) ∈ wd := wd_t (List.mem_of_getElem? (i := 645) (by decide +kernel)) rfl
theorem k_647 : (Jvm.Cond.native ({ cls := "java/lang/Throwable", name := "fillInStackTrace", desc := "(I)Ljava/lang/Throwable;" } : Jvm.MethodName)) ∈ wd := wd_t (List.mem_of_getElem? (i := 647) (by decide +kernel)) rfl
theorem k_648 : (Jvm.Cond.methodLink "LeastSolutions" (120 : Nat) ({ cls := "java/lang/IndexOutOfBoundsException", name := "<init>", desc := "()V" } : Jvm.MethodName)) ∈ wd := wd_t (List.mem_of_getElem? (i := 648) (by decide +kernel)) rfl
theorem k_649 : (Jvm.Cond.instanceMethod ({ cls := "java/lang/IndexOutOfBoundsException", name := "<init>", desc := "()V" } : Jvm.MethodName)) ∈ wd := wd_t (List.mem_of_getElem? (i := 649) (by decide +kernel)) rfl
theorem k_650 : (Jvm.Cond.code ({ cls := "java/lang/IndexOutOfBoundsException", name := "<init>", desc := "()V" } : Jvm.MethodName) prog_16_method_1_code (1 : Nat) (Option.none : Option Jvm.ClassFile.FieldType)) ∈ wd := wd_t (List.mem_of_getElem? (i := 650) (by decide +kernel)) rfl
theorem k_651 : (Jvm.Cond.methodLink "java/lang/IndexOutOfBoundsException" (1 : Nat) ({ cls := "java/lang/RuntimeException", name := "<init>", desc := "()V" } : Jvm.MethodName)) ∈ wd := wd_t (List.mem_of_getElem? (i := 651) (by decide +kernel)) rfl
theorem k_652 : (Jvm.Cond.instanceMethod ({ cls := "java/lang/RuntimeException", name := "<init>", desc := "()V" } : Jvm.MethodName)) ∈ wd := wd_t (List.mem_of_getElem? (i := 652) (by decide +kernel)) rfl
theorem k_653 : (Jvm.Cond.code ({ cls := "java/lang/RuntimeException", name := "<init>", desc := "()V" } : Jvm.MethodName) prog_18_method_1_code (1 : Nat) (Option.none : Option Jvm.ClassFile.FieldType)) ∈ wd := wd_t (List.mem_of_getElem? (i := 653) (by decide +kernel)) rfl
theorem k_654 : (Jvm.Cond.methodLink "java/lang/RuntimeException" (1 : Nat) ({ cls := "java/lang/Exception", name := "<init>", desc := "()V" } : Jvm.MethodName)) ∈ wd := wd_t (List.mem_of_getElem? (i := 654) (by decide +kernel)) rfl
theorem k_655 : (Jvm.Cond.instanceMethod ({ cls := "java/lang/Exception", name := "<init>", desc := "()V" } : Jvm.MethodName)) ∈ wd := wd_t (List.mem_of_getElem? (i := 655) (by decide +kernel)) rfl
theorem k_656 : (Jvm.Cond.code ({ cls := "java/lang/Exception", name := "<init>", desc := "()V" } : Jvm.MethodName) prog_13_method_1_code (1 : Nat) (Option.none : Option Jvm.ClassFile.FieldType)) ∈ wd := wd_t (List.mem_of_getElem? (i := 656) (by decide +kernel)) rfl
theorem k_657 : (Jvm.Cond.methodLink "java/lang/Exception" (1 : Nat) ({ cls := "java/lang/Throwable", name := "<init>", desc := "()V" } : Jvm.MethodName)) ∈ wd := wd_t (List.mem_of_getElem? (i := 657) (by decide +kernel)) rfl
theorem k_659 : (Jvm.Cond.fieldLink "java/lang/Throwable" (7 : Nat) "java/lang/Throwable" "cause" "Ljava/lang/Throwable;") ∈ wd := wd_t (List.mem_of_getElem? (i := 659) (by decide +kernel)) rfl
theorem k_660 : (Jvm.Cond.fieldLink "java/lang/Throwable" (17 : Nat) "java/lang/Throwable" "stackTrace" "[Ljava/lang/StackTraceElement;") ∈ wd := wd_t (List.mem_of_getElem? (i := 660) (by decide +kernel)) rfl
theorem k_661 : (Jvm.Cond.fieldLink "java/lang/Throwable" (24 : Nat) "java/lang/Throwable" "suppressedExceptions" "Ljava/util/List;") ∈ wd := wd_t (List.mem_of_getElem? (i := 661) (by decide +kernel)) rfl
theorem k_683 : (Jvm.Cond.instantiable "java/lang/IllegalStateException" (6 : Nat)) ∈ wd := wd_t (List.mem_of_getElem? (i := 683) (by decide +kernel)) rfl
theorem k_685 : (Jvm.Cond.selects "java/lang/IllegalStateException" ({ cls := "java/lang/Throwable", name := "fillInStackTrace", desc := "(I)Ljava/lang/Throwable;" } : Jvm.MethodName) ({ cls := "java/lang/Throwable", name := "fillInStackTrace", desc := "(I)Ljava/lang/Throwable;" } : Jvm.MethodName)) ∈ wd := wd_t (List.mem_of_getElem? (i := 685) (by decide +kernel)) rfl
theorem k_686 : (Jvm.Cond.lays "java/lang/IllegalStateException" "java/lang/Throwable" "cause" "Ljava/lang/Throwable;") ∈ wd := wd_t (List.mem_of_getElem? (i := 686) (by decide +kernel)) rfl
theorem k_687 : (Jvm.Cond.lays "java/lang/IllegalStateException" "java/lang/Throwable" "stackTrace" "[Ljava/lang/StackTraceElement;") ∈ wd := wd_t (List.mem_of_getElem? (i := 687) (by decide +kernel)) rfl
theorem k_688 : (Jvm.Cond.lays "java/lang/IllegalStateException" "java/lang/Throwable" "suppressedExceptions" "Ljava/util/List;") ∈ wd := wd_t (List.mem_of_getElem? (i := 688) (by decide +kernel)) rfl
theorem k_689 : (Jvm.Cond.lays "java/lang/IllegalStateException" "java/lang/Throwable" "detailMessage" "Ljava/lang/String;") ∈ wd := wd_t (List.mem_of_getElem? (i := 689) (by decide +kernel)) rfl
theorem k_690 : (Jvm.Cond.lays "java/lang/IllegalStateException" "java/lang/Throwable" "backtrace" "Ljava/lang/Object;") ∈ wd := wd_t (List.mem_of_getElem? (i := 690) (by decide +kernel)) rfl
theorem k_691 : (Jvm.Cond.methodLink "LeastSolutions" (268 : Nat) ({ cls := "java/lang/IllegalStateException", name := "<init>", desc := "()V" } : Jvm.MethodName)) ∈ wd := wd_t (List.mem_of_getElem? (i := 691) (by decide +kernel)) rfl
theorem k_692 : (Jvm.Cond.instanceMethod ({ cls := "java/lang/IllegalStateException", name := "<init>", desc := "()V" } : Jvm.MethodName)) ∈ wd := wd_t (List.mem_of_getElem? (i := 692) (by decide +kernel)) rfl
theorem k_693 : (Jvm.Cond.code ({ cls := "java/lang/IllegalStateException", name := "<init>", desc := "()V" } : Jvm.MethodName) prog_15_method_1_code (1 : Nat) (Option.none : Option Jvm.ClassFile.FieldType)) ∈ wd := wd_t (List.mem_of_getElem? (i := 693) (by decide +kernel)) rfl
theorem k_694 : (Jvm.Cond.methodLink "java/lang/IllegalStateException" (1 : Nat) ({ cls := "java/lang/RuntimeException", name := "<init>", desc := "()V" } : Jvm.MethodName)) ∈ wd := wd_t (List.mem_of_getElem? (i := 694) (by decide +kernel)) rfl
theorem k_736 : (Jvm.Cond.instantiable "java/lang/IllegalArgumentException" (6 : Nat)) ∈ wd := wd_t (List.mem_of_getElem? (i := 736) (by decide +kernel)) rfl
theorem k_738 : (Jvm.Cond.selects "java/lang/IllegalArgumentException" ({ cls := "java/lang/Throwable", name := "fillInStackTrace", desc := "(I)Ljava/lang/Throwable;" } : Jvm.MethodName) ({ cls := "java/lang/Throwable", name := "fillInStackTrace", desc := "(I)Ljava/lang/Throwable;" } : Jvm.MethodName)) ∈ wd := wd_t (List.mem_of_getElem? (i := 738) (by decide +kernel)) rfl
theorem k_739 : (Jvm.Cond.lays "java/lang/IllegalArgumentException" "java/lang/Throwable" "cause" "Ljava/lang/Throwable;") ∈ wd := wd_t (List.mem_of_getElem? (i := 739) (by decide +kernel)) rfl
theorem k_740 : (Jvm.Cond.lays "java/lang/IllegalArgumentException" "java/lang/Throwable" "stackTrace" "[Ljava/lang/StackTraceElement;") ∈ wd := wd_t (List.mem_of_getElem? (i := 740) (by decide +kernel)) rfl
theorem k_741 : (Jvm.Cond.lays "java/lang/IllegalArgumentException" "java/lang/Throwable" "suppressedExceptions" "Ljava/util/List;") ∈ wd := wd_t (List.mem_of_getElem? (i := 741) (by decide +kernel)) rfl
theorem k_742 : (Jvm.Cond.lays "java/lang/IllegalArgumentException" "java/lang/Throwable" "detailMessage" "Ljava/lang/String;") ∈ wd := wd_t (List.mem_of_getElem? (i := 742) (by decide +kernel)) rfl
theorem k_743 : (Jvm.Cond.lays "java/lang/IllegalArgumentException" "java/lang/Throwable" "backtrace" "Ljava/lang/Object;") ∈ wd := wd_t (List.mem_of_getElem? (i := 743) (by decide +kernel)) rfl
theorem k_744 : (Jvm.Cond.methodLink "LeastSolutions" (148 : Nat) ({ cls := "java/lang/IllegalArgumentException", name := "<init>", desc := "()V" } : Jvm.MethodName)) ∈ wd := wd_t (List.mem_of_getElem? (i := 744) (by decide +kernel)) rfl
theorem k_745 : (Jvm.Cond.instanceMethod ({ cls := "java/lang/IllegalArgumentException", name := "<init>", desc := "()V" } : Jvm.MethodName)) ∈ wd := wd_t (List.mem_of_getElem? (i := 745) (by decide +kernel)) rfl
theorem k_746 : (Jvm.Cond.code ({ cls := "java/lang/IllegalArgumentException", name := "<init>", desc := "()V" } : Jvm.MethodName) prog_14_method_1_code (1 : Nat) (Option.none : Option Jvm.ClassFile.FieldType)) ∈ wd := wd_t (List.mem_of_getElem? (i := 746) (by decide +kernel)) rfl
theorem k_747 : (Jvm.Cond.methodLink "java/lang/IllegalArgumentException" (1 : Nat) ({ cls := "java/lang/RuntimeException", name := "<init>", desc := "()V" } : Jvm.MethodName)) ∈ wd := wd_t (List.mem_of_getElem? (i := 747) (by decide +kernel)) rfl
theorem k_865 : (Jvm.Cond.instantiable "java/util/NoSuchElementException" (6 : Nat)) ∈ wd := wd_t (List.mem_of_getElem? (i := 865) (by decide +kernel)) rfl
theorem k_867 : (Jvm.Cond.selects "java/util/NoSuchElementException" ({ cls := "java/lang/Throwable", name := "fillInStackTrace", desc := "(I)Ljava/lang/Throwable;" } : Jvm.MethodName) ({ cls := "java/lang/Throwable", name := "fillInStackTrace", desc := "(I)Ljava/lang/Throwable;" } : Jvm.MethodName)) ∈ wd := wd_t (List.mem_of_getElem? (i := 867) (by decide +kernel)) rfl
theorem k_868 : (Jvm.Cond.lays "java/util/NoSuchElementException" "java/lang/Throwable" "cause" "Ljava/lang/Throwable;") ∈ wd := wd_t (List.mem_of_getElem? (i := 868) (by decide +kernel)) rfl
theorem k_869 : (Jvm.Cond.lays "java/util/NoSuchElementException" "java/lang/Throwable" "stackTrace" "[Ljava/lang/StackTraceElement;") ∈ wd := wd_t (List.mem_of_getElem? (i := 869) (by decide +kernel)) rfl
theorem k_870 : (Jvm.Cond.lays "java/util/NoSuchElementException" "java/lang/Throwable" "suppressedExceptions" "Ljava/util/List;") ∈ wd := wd_t (List.mem_of_getElem? (i := 870) (by decide +kernel)) rfl
theorem k_871 : (Jvm.Cond.lays "java/util/NoSuchElementException" "java/lang/Throwable" "detailMessage" "Ljava/lang/String;") ∈ wd := wd_t (List.mem_of_getElem? (i := 871) (by decide +kernel)) rfl
theorem k_872 : (Jvm.Cond.lays "java/util/NoSuchElementException" "java/lang/Throwable" "backtrace" "Ljava/lang/Object;") ∈ wd := wd_t (List.mem_of_getElem? (i := 872) (by decide +kernel)) rfl
theorem k_873 : (Jvm.Cond.methodLink "LeastSolutions" (221 : Nat) ({ cls := "java/util/NoSuchElementException", name := "<init>", desc := "()V" } : Jvm.MethodName)) ∈ wd := wd_t (List.mem_of_getElem? (i := 873) (by decide +kernel)) rfl
theorem k_874 : (Jvm.Cond.instanceMethod ({ cls := "java/util/NoSuchElementException", name := "<init>", desc := "()V" } : Jvm.MethodName)) ∈ wd := wd_t (List.mem_of_getElem? (i := 874) (by decide +kernel)) rfl
theorem k_875 : (Jvm.Cond.code ({ cls := "java/util/NoSuchElementException", name := "<init>", desc := "()V" } : Jvm.MethodName) prog_22_method_1_code (1 : Nat) (Option.none : Option Jvm.ClassFile.FieldType)) ∈ wd := wd_t (List.mem_of_getElem? (i := 875) (by decide +kernel)) rfl
theorem k_876 : (Jvm.Cond.methodLink "java/util/NoSuchElementException" (1 : Nat) ({ cls := "java/lang/RuntimeException", name := "<init>", desc := "()V" } : Jvm.MethodName)) ∈ wd := wd_t (List.mem_of_getElem? (i := 876) (by decide +kernel)) rfl
theorem k_922 : (Jvm.Cond.lays "LeastSolutionsModel" "LeastSolutionsModel" "thrown" "I") ∈ wd := wd_t (List.mem_of_getElem? (i := 922) (by decide +kernel)) rfl
theorem k_924 : (Jvm.Cond.laysFinal "LeastSolutionsModel" "LeastSolutionsModel" "text" "[I") ∈ wd := wd_t (List.mem_of_getElem? (i := 924) (by decide +kernel)) rfl
theorem k_926 : (Jvm.Cond.lays "LeastSolutionsModel" "LeastSolutionsModel" "length" "I") ∈ wd := wd_t (List.mem_of_getElem? (i := 926) (by decide +kernel)) rfl
theorem k_928 : (Jvm.Cond.lays "LeastSolutionsModel" "LeastSolutionsModel" "wrong" "I") ∈ wd := wd_t (List.mem_of_getElem? (i := 928) (by decide +kernel)) rfl
theorem k_930 : (Jvm.Cond.laysFinal "LeastSolutionsModel" "LeastSolutionsModel" "kinds" "[I") ∈ wd := wd_t (List.mem_of_getElem? (i := 930) (by decide +kernel)) rfl
theorem k_932 : (Jvm.Cond.laysFinal "LeastSolutionsModel" "LeastSolutionsModel" "places" "[I") ∈ wd := wd_t (List.mem_of_getElem? (i := 932) (by decide +kernel)) rfl
theorem k_934 : (Jvm.Cond.laysFinal "LeastSolutionsModel" "LeastSolutionsModel" "values" "[I") ∈ wd := wd_t (List.mem_of_getElem? (i := 934) (by decide +kernel)) rfl
theorem k_936 : (Jvm.Cond.lays "LeastSolutionsModel" "LeastSolutionsModel" "words" "I") ∈ wd := wd_t (List.mem_of_getElem? (i := 936) (by decide +kernel)) rfl
theorem k_938 : (Jvm.Cond.laysFinal "LeastSolutionsModel" "LeastSolutionsModel" "draftLetters" "[I") ∈ wd := wd_t (List.mem_of_getElem? (i := 938) (by decide +kernel)) rfl
theorem k_940 : (Jvm.Cond.lays "LeastSolutionsModel" "LeastSolutionsModel" "draftVariables" "I") ∈ wd := wd_t (List.mem_of_getElem? (i := 940) (by decide +kernel)) rfl
theorem k_942 : (Jvm.Cond.lays "LeastSolutionsModel" "LeastSolutionsModel" "draftSlacks" "I") ∈ wd := wd_t (List.mem_of_getElem? (i := 942) (by decide +kernel)) rfl
theorem k_944 : (Jvm.Cond.lays "LeastSolutionsModel" "LeastSolutionsModel" "draftRows" "I") ∈ wd := wd_t (List.mem_of_getElem? (i := 944) (by decide +kernel)) rfl
theorem k_946 : (Jvm.Cond.laysFinal "LeastSolutionsModel" "LeastSolutionsModel" "draftNumbers" "[I") ∈ wd := wd_t (List.mem_of_getElem? (i := 946) (by decide +kernel)) rfl
theorem k_948 : (Jvm.Cond.laysFinal "LeastSolutionsModel" "LeastSolutionsModel" "draftSigns" "[I") ∈ wd := wd_t (List.mem_of_getElem? (i := 948) (by decide +kernel)) rfl
theorem k_950 : (Jvm.Cond.lays "LeastSolutionsModel" "LeastSolutionsModel" "known" "Z") ∈ wd := wd_t (List.mem_of_getElem? (i := 950) (by decide +kernel)) rfl
theorem k_952 : (Jvm.Cond.lays "LeastSolutionsModel" "LeastSolutionsModel" "rows" "I") ∈ wd := wd_t (List.mem_of_getElem? (i := 952) (by decide +kernel)) rfl
theorem k_954 : (Jvm.Cond.lays "LeastSolutionsModel" "LeastSolutionsModel" "variables" "I") ∈ wd := wd_t (List.mem_of_getElem? (i := 954) (by decide +kernel)) rfl
theorem k_956 : (Jvm.Cond.lays "LeastSolutionsModel" "LeastSolutionsModel" "columns" "I") ∈ wd := wd_t (List.mem_of_getElem? (i := 956) (by decide +kernel)) rfl
theorem k_958 : (Jvm.Cond.laysFinal "LeastSolutionsModel" "LeastSolutionsModel" "letters" "[I") ∈ wd := wd_t (List.mem_of_getElem? (i := 958) (by decide +kernel)) rfl
theorem k_960 : (Jvm.Cond.laysFinal "LeastSolutionsModel" "LeastSolutionsModel" "numbers" "[I") ∈ wd := wd_t (List.mem_of_getElem? (i := 960) (by decide +kernel)) rfl
theorem k_962 : (Jvm.Cond.laysFinal "LeastSolutionsModel" "LeastSolutionsModel" "isList" "[Z") ∈ wd := wd_t (List.mem_of_getElem? (i := 962) (by decide +kernel)) rfl
theorem k_964 : (Jvm.Cond.laysFinal "LeastSolutionsModel" "LeastSolutionsModel" "bounds" "[I") ∈ wd := wd_t (List.mem_of_getElem? (i := 964) (by decide +kernel)) rfl
theorem k_966 : (Jvm.Cond.laysFinal "LeastSolutionsModel" "LeastSolutionsModel" "sizes" "[I") ∈ wd := wd_t (List.mem_of_getElem? (i := 966) (by decide +kernel)) rfl
theorem k_968 : (Jvm.Cond.laysFinal "LeastSolutionsModel" "LeastSolutionsModel" "lists" "[B") ∈ wd := wd_t (List.mem_of_getElem? (i := 968) (by decide +kernel)) rfl
theorem k_970 : (Jvm.Cond.laysFinal "LeastSolutionsModel" "LeastSolutionsModel" "told" "[I") ∈ wd := wd_t (List.mem_of_getElem? (i := 970) (by decide +kernel)) rfl
theorem k_972 : (Jvm.Cond.laysFinal "LeastSolutionsModel" "LeastSolutionsModel" "costs" "[I") ∈ wd := wd_t (List.mem_of_getElem? (i := 972) (by decide +kernel)) rfl
theorem k_974 : (Jvm.Cond.lays "LeastSolutionsModel" "LeastSolutionsModel" "isSplit" "Z") ∈ wd := wd_t (List.mem_of_getElem? (i := 974) (by decide +kernel)) rfl
theorem k_976 : (Jvm.Cond.laysFinal "LeastSolutionsModel" "LeastSolutionsModel" "times" "[I") ∈ wd := wd_t (List.mem_of_getElem? (i := 976) (by decide +kernel)) rfl
theorem k_978 : (Jvm.Cond.lays "LeastSolutionsModel" "LeastSolutionsModel" "isBest" "Z") ∈ wd := wd_t (List.mem_of_getElem? (i := 978) (by decide +kernel)) rfl
theorem k_980 : (Jvm.Cond.laysFinal "LeastSolutionsModel" "LeastSolutionsModel" "bestOne" "[I") ∈ wd := wd_t (List.mem_of_getElem? (i := 980) (by decide +kernel)) rfl
theorem k_982 : (Jvm.Cond.laysFinal "LeastSolutionsModel" "LeastSolutionsModel" "basis" "[J") ∈ wd := wd_t (List.mem_of_getElem? (i := 982) (by decide +kernel)) rfl
theorem k_984 : (Jvm.Cond.lays "LeastSolutionsModel" "LeastSolutionsModel" "vectors" "I") ∈ wd := wd_t (List.mem_of_getElem? (i := 984) (by decide +kernel)) rfl
theorem k_986 : (Jvm.Cond.laysFinal "LeastSolutionsModel" "LeastSolutionsModel" "one" "[J") ∈ wd := wd_t (List.mem_of_getElem? (i := 986) (by decide +kernel)) rfl
theorem k_988 : (Jvm.Cond.lays "LeastSolutionsModel" "LeastSolutionsModel" "isOne" "Z") ∈ wd := wd_t (List.mem_of_getElem? (i := 988) (by decide +kernel)) rfl
theorem k_990 : (Jvm.Cond.laysFinal "LeastSolutionsModel" "LeastSolutionsModel" "along" "[J") ∈ wd := wd_t (List.mem_of_getElem? (i := 990) (by decide +kernel)) rfl
theorem k_992 : (Jvm.Cond.laysFinal "LeastSolutionsModel" "LeastSolutionsModel" "now" "[I") ∈ wd := wd_t (List.mem_of_getElem? (i := 992) (by decide +kernel)) rfl
end
section
/-! the words of nest mates, and the array classes: carried beside the others -/
def nw_l : List Cond := [(Jvm.Cond.methodLinkNest "LeastSolutions" (9 : Nat) ({ cls := "LeastSolutions$Text", name := "<init>", desc := "()V" } : Jvm.MethodName) "LeastSolutions"), (Jvm.Cond.fieldLinkNest "LeastSolutions" (96 : Nat) "LeastSolutions$Text" "length" "I" "LeastSolutions"), (Jvm.Cond.fieldLinkNest "LeastSolutions$Words" (35 : Nat) "LeastSolutions$Text" "length" "I" "LeastSolutions"), (Jvm.Cond.methodLinkNest "LeastSolutions" (18 : Nat) ({ cls := "LeastSolutions$Words", name := "<init>", desc := "()V" } : Jvm.MethodName) "LeastSolutions"), (Jvm.Cond.fieldLinkNest "LeastSolutions$Builder" (48 : Nat) "LeastSolutions$Words" "kinds" "[I" "LeastSolutions"), (Jvm.Cond.fieldLinkNest "LeastSolutions$Builder" (52 : Nat) "LeastSolutions$Words" "places" "[I" "LeastSolutions"), (Jvm.Cond.fieldLinkNest "LeastSolutions$Builder" (59 : Nat) "LeastSolutions$Words" "values" "[I" "LeastSolutions"), (Jvm.Cond.fieldLinkNest "LeastSolutions$Builder" (45 : Nat) "LeastSolutions$Words" "total" "I" "LeastSolutions"), (Jvm.Cond.fieldLinkNest "LeastSolutions" (235 : Nat) "LeastSolutions$Words" "faultPlace" "I" "LeastSolutions"), (Jvm.Cond.methodLinkNest "LeastSolutions" (25 : Nat) ({ cls := "LeastSolutions$Builder", name := "<init>", desc := "()V" } : Jvm.MethodName) "LeastSolutions"), (Jvm.Cond.methodLinkNest "LeastSolutions$Builder" (11 : Nat) ({ cls := "LeastSolutions$Equations", name := "<init>", desc := "()V" } : Jvm.MethodName) "LeastSolutions"), (Jvm.Cond.fieldLinkNest "LeastSolutions$Search" (46 : Nat) "LeastSolutions$Equations" "a" "[[I" "LeastSolutions"), (Jvm.Cond.fieldLinkNest "LeastSolutions$Lattice" (61 : Nat) "LeastSolutions$Equations" "a" "[[I" "LeastSolutions"), (Jvm.Cond.fieldLinkNest "LeastSolutions$Builder" (93 : Nat) "LeastSolutions$Equations" "a" "[[I" "LeastSolutions"), (Jvm.Cond.fieldLinkNest "LeastSolutions" (124 : Nat) "LeastSolutions$Equations" "a" "[[I" "LeastSolutions"), (Jvm.Cond.fieldLinkNest "LeastSolutions$Search" (53 : Nat) "LeastSolutions$Equations" "b" "[I" "LeastSolutions"), (Jvm.Cond.fieldLinkNest "LeastSolutions" (121 : Nat) "LeastSolutions$Equations" "b" "[I" "LeastSolutions"), (Jvm.Cond.fieldLinkNest "LeastSolutions$Builder" (97 : Nat) "LeastSolutions$Equations" "b" "[I" "LeastSolutions"), (Jvm.Cond.fieldLinkNest "LeastSolutions$Lattice" (102 : Nat) "LeastSolutions$Equations" "b" "[I" "LeastSolutions"), (Jvm.Cond.fieldLinkNest "LeastSolutions" (115 : Nat) "LeastSolutions$Equations" "letters" "[I" "LeastSolutions"), (Jvm.Cond.fieldLinkNest "LeastSolutions$Lattice" (43 : Nat) "LeastSolutions$Equations" "rows" "I" "LeastSolutions"), (Jvm.Cond.fieldLinkNest "LeastSolutions$Search" (40 : Nat) "LeastSolutions$Equations" "rows" "I" "LeastSolutions"), (Jvm.Cond.fieldLinkNest "LeastSolutions$Builder" (73 : Nat) "LeastSolutions$Equations" "rows" "I" "LeastSolutions"), (Jvm.Cond.fieldLinkNest "LeastSolutions" (106 : Nat) "LeastSolutions$Equations" "rows" "I" "LeastSolutions"), (Jvm.Cond.fieldLinkNest "LeastSolutions" (112 : Nat) "LeastSolutions$Equations" "variables" "I" "LeastSolutions"), (Jvm.Cond.fieldLinkNest "LeastSolutions" (240 : Nat) "LeastSolutions$Builder" "faultPlace" "I" "LeastSolutions"), (Jvm.Cond.methodLinkNest "LeastSolutions" (32 : Nat) ({ cls := "LeastSolutions$Lattice", name := "<init>", desc := "()V" } : Jvm.MethodName) "LeastSolutions"), (Jvm.Cond.fieldLinkNest "LeastSolutions" (135 : Nat) "LeastSolutions$Lattice" "kernelVectors" "I" "LeastSolutions"), (Jvm.Cond.methodLinkNest "LeastSolutions" (39 : Nat) ({ cls := "LeastSolutions$Search", name := "<init>", desc := "()V" } : Jvm.MethodName) "LeastSolutions"), (Jvm.Cond.methodLinkNest "LeastSolutions" (52 : Nat) ({ cls := "LeastSolutions$Cheapest", name := "<init>", desc := "()V" } : Jvm.MethodName) "LeastSolutions"), (Jvm.Cond.methodLinkNest "LeastSolutions$Cheapest" (3 : Nat) ({ cls := "LeastSolutions$Taker", name := "<init>", desc := "()V" } : Jvm.MethodName) "LeastSolutions"), (Jvm.Cond.fieldLinkNest "LeastSolutions" (222 : Nat) "LeastSolutions$Cheapest" "vector" "[I" "LeastSolutions"), (Jvm.Cond.fieldLinkNest "LeastSolutions" (211 : Nat) "LeastSolutions$Cheapest" "costs" "[I" "LeastSolutions"), (Jvm.Cond.fieldLinkNest "LeastSolutions" (225 : Nat) "LeastSolutions$Cheapest" "price" "I" "LeastSolutions"), (Jvm.Cond.fieldLinkNest "LeastSolutions" (216 : Nat) "LeastSolutions$Cheapest" "isFound" "Z" "LeastSolutions"), (Jvm.Cond.methodLinkNest "LeastSolutions" (72 : Nat) ({ cls := "LeastSolutions$Equations", name := "<init>", desc := "()V" } : Jvm.MethodName) "LeastSolutions"), (Jvm.Cond.methodLinkNest "LeastSolutions" (91 : Nat) ({ cls := "LeastSolutions$VectorList", name := "<init>", desc := "()V" } : Jvm.MethodName) "LeastSolutions"), (Jvm.Cond.methodLinkNest "LeastSolutions$VectorList" (3 : Nat) ({ cls := "LeastSolutions$Taker", name := "<init>", desc := "()V" } : Jvm.MethodName) "LeastSolutions"), (Jvm.Cond.fieldLinkNest "LeastSolutions" (164 : Nat) "LeastSolutions$VectorList" "isThere" "Z" "LeastSolutions"), (Jvm.Cond.fieldLinkNest "LeastSolutions" (259 : Nat) "LeastSolutions$VectorList" "bound" "I" "LeastSolutions"), (Jvm.Cond.fieldLinkNest "LeastSolutions" (167 : Nat) "LeastSolutions$VectorList" "total" "I" "LeastSolutions")]
theorem nw_0 : (Jvm.Cond.methodLinkNest "LeastSolutions" (9 : Nat) ({ cls := "LeastSolutions$Text", name := "<init>", desc := "()V" } : Jvm.MethodName) "LeastSolutions") ∈ nw_l := List.mem_of_getElem? (i := 0) rfl
theorem nw_1 : (Jvm.Cond.fieldLinkNest "LeastSolutions" (96 : Nat) "LeastSolutions$Text" "length" "I" "LeastSolutions") ∈ nw_l := List.mem_of_getElem? (i := 1) rfl
theorem nw_2 : (Jvm.Cond.fieldLinkNest "LeastSolutions$Words" (35 : Nat) "LeastSolutions$Text" "length" "I" "LeastSolutions") ∈ nw_l := List.mem_of_getElem? (i := 2) rfl
theorem nw_3 : (Jvm.Cond.methodLinkNest "LeastSolutions" (18 : Nat) ({ cls := "LeastSolutions$Words", name := "<init>", desc := "()V" } : Jvm.MethodName) "LeastSolutions") ∈ nw_l := List.mem_of_getElem? (i := 3) rfl
theorem nw_4 : (Jvm.Cond.fieldLinkNest "LeastSolutions$Builder" (48 : Nat) "LeastSolutions$Words" "kinds" "[I" "LeastSolutions") ∈ nw_l := List.mem_of_getElem? (i := 4) rfl
theorem nw_5 : (Jvm.Cond.fieldLinkNest "LeastSolutions$Builder" (52 : Nat) "LeastSolutions$Words" "places" "[I" "LeastSolutions") ∈ nw_l := List.mem_of_getElem? (i := 5) rfl
theorem nw_6 : (Jvm.Cond.fieldLinkNest "LeastSolutions$Builder" (59 : Nat) "LeastSolutions$Words" "values" "[I" "LeastSolutions") ∈ nw_l := List.mem_of_getElem? (i := 6) rfl
theorem nw_7 : (Jvm.Cond.fieldLinkNest "LeastSolutions$Builder" (45 : Nat) "LeastSolutions$Words" "total" "I" "LeastSolutions") ∈ nw_l := List.mem_of_getElem? (i := 7) rfl
theorem nw_8 : (Jvm.Cond.fieldLinkNest "LeastSolutions" (235 : Nat) "LeastSolutions$Words" "faultPlace" "I" "LeastSolutions") ∈ nw_l := List.mem_of_getElem? (i := 8) rfl
theorem nw_9 : (Jvm.Cond.methodLinkNest "LeastSolutions" (25 : Nat) ({ cls := "LeastSolutions$Builder", name := "<init>", desc := "()V" } : Jvm.MethodName) "LeastSolutions") ∈ nw_l := List.mem_of_getElem? (i := 9) rfl
theorem nw_10 : (Jvm.Cond.methodLinkNest "LeastSolutions$Builder" (11 : Nat) ({ cls := "LeastSolutions$Equations", name := "<init>", desc := "()V" } : Jvm.MethodName) "LeastSolutions") ∈ nw_l := List.mem_of_getElem? (i := 10) rfl
theorem nw_11 : (Jvm.Cond.fieldLinkNest "LeastSolutions$Search" (46 : Nat) "LeastSolutions$Equations" "a" "[[I" "LeastSolutions") ∈ nw_l := List.mem_of_getElem? (i := 11) rfl
theorem nw_12 : (Jvm.Cond.fieldLinkNest "LeastSolutions$Lattice" (61 : Nat) "LeastSolutions$Equations" "a" "[[I" "LeastSolutions") ∈ nw_l := List.mem_of_getElem? (i := 12) rfl
theorem nw_13 : (Jvm.Cond.fieldLinkNest "LeastSolutions$Builder" (93 : Nat) "LeastSolutions$Equations" "a" "[[I" "LeastSolutions") ∈ nw_l := List.mem_of_getElem? (i := 13) rfl
theorem nw_14 : (Jvm.Cond.fieldLinkNest "LeastSolutions" (124 : Nat) "LeastSolutions$Equations" "a" "[[I" "LeastSolutions") ∈ nw_l := List.mem_of_getElem? (i := 14) rfl
theorem nw_15 : (Jvm.Cond.fieldLinkNest "LeastSolutions$Search" (53 : Nat) "LeastSolutions$Equations" "b" "[I" "LeastSolutions") ∈ nw_l := List.mem_of_getElem? (i := 15) rfl
theorem nw_16 : (Jvm.Cond.fieldLinkNest "LeastSolutions" (121 : Nat) "LeastSolutions$Equations" "b" "[I" "LeastSolutions") ∈ nw_l := List.mem_of_getElem? (i := 16) rfl
theorem nw_17 : (Jvm.Cond.fieldLinkNest "LeastSolutions$Builder" (97 : Nat) "LeastSolutions$Equations" "b" "[I" "LeastSolutions") ∈ nw_l := List.mem_of_getElem? (i := 17) rfl
theorem nw_18 : (Jvm.Cond.fieldLinkNest "LeastSolutions$Lattice" (102 : Nat) "LeastSolutions$Equations" "b" "[I" "LeastSolutions") ∈ nw_l := List.mem_of_getElem? (i := 18) rfl
theorem nw_19 : (Jvm.Cond.fieldLinkNest "LeastSolutions" (115 : Nat) "LeastSolutions$Equations" "letters" "[I" "LeastSolutions") ∈ nw_l := List.mem_of_getElem? (i := 19) rfl
theorem nw_20 : (Jvm.Cond.fieldLinkNest "LeastSolutions$Lattice" (43 : Nat) "LeastSolutions$Equations" "rows" "I" "LeastSolutions") ∈ nw_l := List.mem_of_getElem? (i := 20) rfl
theorem nw_21 : (Jvm.Cond.fieldLinkNest "LeastSolutions$Search" (40 : Nat) "LeastSolutions$Equations" "rows" "I" "LeastSolutions") ∈ nw_l := List.mem_of_getElem? (i := 21) rfl
theorem nw_22 : (Jvm.Cond.fieldLinkNest "LeastSolutions$Builder" (73 : Nat) "LeastSolutions$Equations" "rows" "I" "LeastSolutions") ∈ nw_l := List.mem_of_getElem? (i := 22) rfl
theorem nw_23 : (Jvm.Cond.fieldLinkNest "LeastSolutions" (106 : Nat) "LeastSolutions$Equations" "rows" "I" "LeastSolutions") ∈ nw_l := List.mem_of_getElem? (i := 23) rfl
theorem nw_24 : (Jvm.Cond.fieldLinkNest "LeastSolutions" (112 : Nat) "LeastSolutions$Equations" "variables" "I" "LeastSolutions") ∈ nw_l := List.mem_of_getElem? (i := 24) rfl
theorem nw_25 : (Jvm.Cond.fieldLinkNest "LeastSolutions" (240 : Nat) "LeastSolutions$Builder" "faultPlace" "I" "LeastSolutions") ∈ nw_l := List.mem_of_getElem? (i := 25) rfl
theorem nw_26 : (Jvm.Cond.methodLinkNest "LeastSolutions" (32 : Nat) ({ cls := "LeastSolutions$Lattice", name := "<init>", desc := "()V" } : Jvm.MethodName) "LeastSolutions") ∈ nw_l := List.mem_of_getElem? (i := 26) rfl
theorem nw_27 : (Jvm.Cond.fieldLinkNest "LeastSolutions" (135 : Nat) "LeastSolutions$Lattice" "kernelVectors" "I" "LeastSolutions") ∈ nw_l := List.mem_of_getElem? (i := 27) rfl
theorem nw_28 : (Jvm.Cond.methodLinkNest "LeastSolutions" (39 : Nat) ({ cls := "LeastSolutions$Search", name := "<init>", desc := "()V" } : Jvm.MethodName) "LeastSolutions") ∈ nw_l := List.mem_of_getElem? (i := 28) rfl
theorem nw_29 : (Jvm.Cond.methodLinkNest "LeastSolutions" (52 : Nat) ({ cls := "LeastSolutions$Cheapest", name := "<init>", desc := "()V" } : Jvm.MethodName) "LeastSolutions") ∈ nw_l := List.mem_of_getElem? (i := 29) rfl
theorem nw_30 : (Jvm.Cond.methodLinkNest "LeastSolutions$Cheapest" (3 : Nat) ({ cls := "LeastSolutions$Taker", name := "<init>", desc := "()V" } : Jvm.MethodName) "LeastSolutions") ∈ nw_l := List.mem_of_getElem? (i := 30) rfl
theorem nw_31 : (Jvm.Cond.fieldLinkNest "LeastSolutions" (222 : Nat) "LeastSolutions$Cheapest" "vector" "[I" "LeastSolutions") ∈ nw_l := List.mem_of_getElem? (i := 31) rfl
theorem nw_32 : (Jvm.Cond.fieldLinkNest "LeastSolutions" (211 : Nat) "LeastSolutions$Cheapest" "costs" "[I" "LeastSolutions") ∈ nw_l := List.mem_of_getElem? (i := 32) rfl
theorem nw_33 : (Jvm.Cond.fieldLinkNest "LeastSolutions" (225 : Nat) "LeastSolutions$Cheapest" "price" "I" "LeastSolutions") ∈ nw_l := List.mem_of_getElem? (i := 33) rfl
theorem nw_34 : (Jvm.Cond.fieldLinkNest "LeastSolutions" (216 : Nat) "LeastSolutions$Cheapest" "isFound" "Z" "LeastSolutions") ∈ nw_l := List.mem_of_getElem? (i := 34) rfl
theorem nw_35 : (Jvm.Cond.methodLinkNest "LeastSolutions" (72 : Nat) ({ cls := "LeastSolutions$Equations", name := "<init>", desc := "()V" } : Jvm.MethodName) "LeastSolutions") ∈ nw_l := List.mem_of_getElem? (i := 35) rfl
theorem nw_36 : (Jvm.Cond.methodLinkNest "LeastSolutions" (91 : Nat) ({ cls := "LeastSolutions$VectorList", name := "<init>", desc := "()V" } : Jvm.MethodName) "LeastSolutions") ∈ nw_l := List.mem_of_getElem? (i := 36) rfl
theorem nw_37 : (Jvm.Cond.methodLinkNest "LeastSolutions$VectorList" (3 : Nat) ({ cls := "LeastSolutions$Taker", name := "<init>", desc := "()V" } : Jvm.MethodName) "LeastSolutions") ∈ nw_l := List.mem_of_getElem? (i := 37) rfl
theorem nw_38 : (Jvm.Cond.fieldLinkNest "LeastSolutions" (164 : Nat) "LeastSolutions$VectorList" "isThere" "Z" "LeastSolutions") ∈ nw_l := List.mem_of_getElem? (i := 38) rfl
theorem nw_39 : (Jvm.Cond.fieldLinkNest "LeastSolutions" (259 : Nat) "LeastSolutions$VectorList" "bound" "I" "LeastSolutions") ∈ nw_l := List.mem_of_getElem? (i := 39) rfl
theorem nw_40 : (Jvm.Cond.fieldLinkNest "LeastSolutions" (167 : Nat) "LeastSolutions$VectorList" "total" "I" "LeastSolutions") ∈ nw_l := List.mem_of_getElem? (i := 40) rfl
def nw_is : Cond → Bool
  | .fieldLinkNest .. => true
  | .methodLinkNest .. => true
  | _ => false
theorem nw_all : nw_l.all nw_is = true := by decide +kernel
def nw_ok (U : State) : Prop := (∀ w ∈ nw_l, va_Nw w U) ∧ mk_AO .int U ∧ mk_AO .long U ∧ va_AO "LeastSolutions$VectorList" U
theorem nw_warm1 {w : Cond} (h1 : nw_is w = true) {s U : State} (hW : s.WarmedH U.vm) (h2 : va_Nw w s) : va_Nw w U := by
  cases w <;> first | exact va_Nw.warmF hW h2 | exact va_Nw.warmM hW h2 | cases h1
theorem nw_ok.warm {s U : State} (hW : s.WarmedH U.vm) (h : nw_ok s) : nw_ok U :=
  ⟨fun w hw => nw_warm1 (List.all_eq_true.mp nw_all w hw) hW (h.1 w hw), h.2.1.moved hW.alike, h.2.2.1.moved hW.alike, h.2.2.2.moved hW.alike⟩
theorem nw_tab {w : Cond} (h1 : nw_is w = true) : w.onTables = true := by
  cases w <;> first | rfl | cases h1
theorem nw_ok.same {s U : State} (e : s.vm = U.vm) (h : nw_ok s) : nw_ok U := by
  have ha : s.vm.Alike U.vm := by rw [e]; exact Vm.Alike.refl _
  exact ⟨fun w hw => va_Nw.same (nw_tab (List.all_eq_true.mp nw_all w hw)) e (h.1 w hw), h.2.1.moved ha, h.2.2.1.moved ha, h.2.2.2.moved ha⟩
/-! what a throw asks beside the words: Throwable's two statics (a reference or null), and words of another kind -/
def xd_l : List Cond := [(Jvm.Cond.castable "java/lang/IndexOutOfBoundsException" "java/lang/IndexOutOfBoundsException"), (Jvm.Cond.castable "java/lang/IllegalStateException" "java/lang/IllegalStateException"), (Jvm.Cond.castable "java/lang/IllegalArgumentException" "java/lang/IllegalArgumentException"), (Jvm.Cond.castable "java/util/NoSuchElementException" "java/util/NoSuchElementException"), (Jvm.Cond.declares ({ cls := "java/lang/RuntimeException", name := "<init>", desc := "()V" } : Jvm.MethodName)), (Jvm.Cond.declares ({ cls := "java/lang/Exception", name := "<init>", desc := "()V" } : Jvm.MethodName)), (Jvm.Cond.declares ({ cls := "java/lang/Throwable", name := "<init>", desc := "()V" } : Jvm.MethodName))]
theorem xd_0 : (Jvm.Cond.castable "java/lang/IndexOutOfBoundsException" "java/lang/IndexOutOfBoundsException") ∈ xd_l := List.mem_of_getElem? (i := 0) rfl
theorem xd_1 : (Jvm.Cond.castable "java/lang/IllegalStateException" "java/lang/IllegalStateException") ∈ xd_l := List.mem_of_getElem? (i := 1) rfl
theorem xd_2 : (Jvm.Cond.castable "java/lang/IllegalArgumentException" "java/lang/IllegalArgumentException") ∈ xd_l := List.mem_of_getElem? (i := 2) rfl
theorem xd_3 : (Jvm.Cond.castable "java/util/NoSuchElementException" "java/util/NoSuchElementException") ∈ xd_l := List.mem_of_getElem? (i := 3) rfl
theorem xd_4 : (Jvm.Cond.declares ({ cls := "java/lang/RuntimeException", name := "<init>", desc := "()V" } : Jvm.MethodName)) ∈ xd_l := List.mem_of_getElem? (i := 4) rfl
theorem xd_5 : (Jvm.Cond.declares ({ cls := "java/lang/Exception", name := "<init>", desc := "()V" } : Jvm.MethodName)) ∈ xd_l := List.mem_of_getElem? (i := 5) rfl
theorem xd_6 : (Jvm.Cond.declares ({ cls := "java/lang/Throwable", name := "<init>", desc := "()V" } : Jvm.MethodName)) ∈ xd_l := List.mem_of_getElem? (i := 6) rfl
def xd_is : Cond → Bool
  | .castable .. => true
  | .declares .. => true
  | _ => false
theorem xd_all : xd_l.all xd_is = true := by decide +kernel
theorem xd_warm1 {w : Cond} (h1 : xd_is w = true) {s U : State} (hvm : s.vm.Alike U.vm) (h2 : va_Nw w s) : va_Nw w U := by
  cases w <;> first | exact va_tabs rfl (rfl : (s.setVm U.vm).vm = U.vm) (by rw [Cond.castable_setVm hvm]; exact h2) | exact va_tabs rfl (rfl : (s.setVm U.vm).vm = U.vm) (by rw [Cond.declares_setVm hvm]; exact h2) | cases h1
theorem xd_tab {w : Cond} (h1 : xd_is w = true) : w.onTables = true := by
  cases w <;> first | rfl | cases h1
theorem xs_lays {C n d : String} {a b : Array Value} {u U : State} (hvm : u.vm.Alike U.vm) (hk : ∀ q : Nat, q < u.heap.size → U.heap[q]? = u.heap[q]?) (h : (Cond.laysStatic C n d).before a u = true) : (Cond.laysStatic C n d).before b U = true := by
  obtain ⟨c, k, i, f, aS, cell, h1, h2, h3, h4, h5, h6, h7, h8, h9⟩ := Cond.laysStatic_spec h
  obtain ⟨k', hi', he⟩ := State.fieldFound?_setVm hvm h2
  have f1 : U.vm.findClass C = some c := by rw [hvm.findClass]; exact h1
  have f2 : U.fieldFound? C n d = some (c, k', i, f) := hi'
  have f4 : k'.statics = some aS := by rw [he]; exact h4
  have f5 : U.heap[aS]? = some cell := by rw [hk aS (Array.getElem?_eq_some_iff.mp h5).1]; exact h5
  have f9 : k'.staticTypes[f.slot]? = some f.type := by rw [he]; exact h9
  simp [Cond.before, Cond.holds, Cond.value, f1, f2, f4, f5, h3, h6, h7, h8, f9]
def xs_ok (U : State) : Prop := va_Zq Bundle.tN "UNASSIGNED_STACK" Bundle.steD (fun _ => False) U U.heap ∧ va_Zq Bundle.tN "SUPPRESSED_SENTINEL" Bundle.listD (fun _ => False) U U.heap ∧
  (Cond.laysStatic Bundle.tN "UNASSIGNED_STACK" Bundle.steD).before #[] U = true ∧ (Cond.laysStatic Bundle.tN "SUPPRESSED_SENTINEL" Bundle.listD).before #[] U = true ∧ ∀ w ∈ xd_l, va_Nw w U
theorem xs_ok.moved {s U : State} (hvm : s.vm.Alike U.vm) (hk : ∀ q : Nat, q < s.heap.size → U.heap[q]? = s.heap[q]?) (h : xs_ok s) : xs_ok U :=
  ⟨(h.1.moved hvm).kept (fun a ha _ => hk a ha), (h.2.1.moved hvm).kept (fun a ha _ => hk a ha), xs_lays hvm hk h.2.2.1, xs_lays hvm hk h.2.2.2.1, fun w hw => xd_warm1 (List.all_eq_true.mp xd_all w hw) hvm (h.2.2.2.2 w hw)⟩
theorem xs_w {w : Cond} {args : Array Value} {s : State} (hx : xs_ok s) (h : w ∈ xd_l) : w.before args s = true := va_Nw.use (xd_tab (List.all_eq_true.mp xd_all w h)) (hx.2.2.2.2 w h)
theorem xs_s1 {args : Array Value} {s : State} (hx : xs_ok s) : (Cond.laysStatic Bundle.tN "UNASSIGNED_STACK" Bundle.steD).before args s = true := xs_lays (Vm.Alike.refl _) (fun _ _ => rfl) hx.2.2.1
theorem xs_s2 {args : Array Value} {s : State} (hx : xs_ok s) : (Cond.laysStatic Bundle.tN "SUPPRESSED_SENTINEL" Bundle.listD).before args s = true := xs_lays (Vm.Alike.refl _) (fun _ _ => rfl) hx.2.2.2.1
theorem xs_ref {C n d : String} {args : Array Value} {s : State} (h : va_Zq C n d (fun _ => False) s s.heap) : (Cond.isRef (.static C n d)).before args s = true := by
  rcases h with h | ⟨t, h⟩ <;>
  · obtain ⟨cf, kf, fi, f, a, cell, h1, h2, h3, h4, h5, h6, h7, -⟩ := h
    simp [Cond.before, Cond.holds, Cond.value, Term.eval, State.fieldNamed?, h1, h2, h4, h5, h6, h7]
/-- what a throw of a new java/lang/IndexOutOfBoundsException asks of the tables -/
theorem oa_IOOBE {args : Array Value} {s : State} (hts : ∀ w ∈ wd, w.before args s = true) (hx : xs_ok s) : ∀ a ∈ Bundle.ownAtoms0 "LeastSolutions" 120 "java/lang/IndexOutOfBoundsException" ["java/lang/RuntimeException", "java/lang/Exception"], a.before args s = true := by
  show ∀ a ∈ ([(Jvm.Cond.initialized "java/lang/Throwable"), (Jvm.Cond.superclass "java/lang/Throwable" "java/lang/Object"), (Jvm.Cond.instanceMethod ({ cls := "java/lang/Throwable", name := "fillInStackTrace", desc := "()Ljava/lang/Throwable;" } : Jvm.MethodName)), (Jvm.Cond.codeSync ({ cls := "java/lang/Throwable", name := "fillInStackTrace", desc := "()Ljava/lang/Throwable;" } : Jvm.MethodName) prog_20_method_18_code (1 : Nat) (Option.some (Jvm.ClassFile.FieldType.object "java/lang/Throwable"))), (Jvm.Cond.instanceMethod ({ cls := "java/lang/Throwable", name := "fillInStackTrace", desc := "(I)Ljava/lang/Throwable;" } : Jvm.MethodName)), (Jvm.Cond.native ({ cls := "java/lang/Throwable", name := "fillInStackTrace", desc := "(I)Ljava/lang/Throwable;" } : Jvm.MethodName)), (Jvm.Cond.instanceMethod ({ cls := "java/lang/Throwable", name := "<init>", desc := "()V" } : Jvm.MethodName)), (Jvm.Cond.code ({ cls := "java/lang/Throwable", name := "<init>", desc := "()V" } : Jvm.MethodName) prog_20_method_1_code (1 : Nat) (Option.none : Option Jvm.ClassFile.FieldType)), (Jvm.Cond.instanceMethod ({ cls := "java/lang/Object", name := "<init>", desc := "()V" } : Jvm.MethodName)), (Jvm.Cond.code ({ cls := "java/lang/Object", name := "<init>", desc := "()V" } : Jvm.MethodName) object_method_1_code (1 : Nat) (Option.none : Option Jvm.ClassFile.FieldType)), (Jvm.Cond.methodLink "java/lang/Throwable" (1 : Nat) ({ cls := "java/lang/Object", name := "<init>", desc := "()V" } : Jvm.MethodName)), (Jvm.Cond.methodLink "java/lang/Throwable" (27 : Nat) ({ cls := "java/lang/Throwable", name := "fillInStackTrace", desc := "()Ljava/lang/Throwable;" } : Jvm.MethodName)), (Jvm.Cond.methodLink "java/lang/Throwable" (202 : Nat) ({ cls := "java/lang/Throwable", name := "fillInStackTrace", desc := "(I)Ljava/lang/Throwable;" } : Jvm.MethodName)), (Jvm.Cond.fieldLink "java/lang/Throwable" (7 : Nat) "java/lang/Throwable" "cause" "Ljava/lang/Throwable;"), (Jvm.Cond.lays "java/lang/Throwable" "java/lang/Throwable" "cause" "Ljava/lang/Throwable;"), (Jvm.Cond.fieldLink "java/lang/Throwable" (17 : Nat) "java/lang/Throwable" "stackTrace" "[Ljava/lang/StackTraceElement;"), (Jvm.Cond.lays "java/lang/Throwable" "java/lang/Throwable" "stackTrace" "[Ljava/lang/StackTraceElement;"), (Jvm.Cond.fieldLink "java/lang/Throwable" (24 : Nat) "java/lang/Throwable" "suppressedExceptions" "Ljava/util/List;"), (Jvm.Cond.lays "java/lang/Throwable" "java/lang/Throwable" "suppressedExceptions" "Ljava/util/List;"), (Jvm.Cond.fieldLink "java/lang/Throwable" (13 : Nat) "java/lang/Throwable" "UNASSIGNED_STACK" "[Ljava/lang/StackTraceElement;"), (Jvm.Cond.laysStatic "java/lang/Throwable" "UNASSIGNED_STACK" "[Ljava/lang/StackTraceElement;"), (Jvm.Cond.fieldLink "java/lang/Throwable" (20 : Nat) "java/lang/Throwable" "SUPPRESSED_SENTINEL" "Ljava/util/List;"), (Jvm.Cond.laysStatic "java/lang/Throwable" "SUPPRESSED_SENTINEL" "Ljava/util/List;"), (Jvm.Cond.lays "java/lang/Throwable" "java/lang/Throwable" "detailMessage" "Ljava/lang/String;"), (Jvm.Cond.instanceMethod ({ cls := "java/lang/IndexOutOfBoundsException", name := "<init>", desc := "()V" } : Jvm.MethodName)), (Jvm.Cond.code ({ cls := "java/lang/IndexOutOfBoundsException", name := "<init>", desc := "()V" } : Jvm.MethodName) prog_16_method_1_code (1 : Nat) (Option.none : Option Jvm.ClassFile.FieldType)), (Jvm.Cond.methodLink "java/lang/IndexOutOfBoundsException" (1 : Nat) ({ cls := "java/lang/RuntimeException", name := "<init>", desc := "()V" } : Jvm.MethodName)), (Jvm.Cond.instanceMethod ({ cls := "java/lang/RuntimeException", name := "<init>", desc := "()V" } : Jvm.MethodName)), (Jvm.Cond.declares ({ cls := "java/lang/RuntimeException", name := "<init>", desc := "()V" } : Jvm.MethodName)), (Jvm.Cond.instanceMethod ({ cls := "java/lang/RuntimeException", name := "<init>", desc := "()V" } : Jvm.MethodName)), (Jvm.Cond.code ({ cls := "java/lang/RuntimeException", name := "<init>", desc := "()V" } : Jvm.MethodName) prog_18_method_1_code (1 : Nat) (Option.none : Option Jvm.ClassFile.FieldType)), (Jvm.Cond.methodLink "java/lang/RuntimeException" (1 : Nat) ({ cls := "java/lang/Exception", name := "<init>", desc := "()V" } : Jvm.MethodName)), (Jvm.Cond.instanceMethod ({ cls := "java/lang/Exception", name := "<init>", desc := "()V" } : Jvm.MethodName)), (Jvm.Cond.declares ({ cls := "java/lang/Exception", name := "<init>", desc := "()V" } : Jvm.MethodName)), (Jvm.Cond.instanceMethod ({ cls := "java/lang/Exception", name := "<init>", desc := "()V" } : Jvm.MethodName)), (Jvm.Cond.code ({ cls := "java/lang/Exception", name := "<init>", desc := "()V" } : Jvm.MethodName) prog_13_method_1_code (1 : Nat) (Option.none : Option Jvm.ClassFile.FieldType)), (Jvm.Cond.methodLink "java/lang/Exception" (1 : Nat) ({ cls := "java/lang/Throwable", name := "<init>", desc := "()V" } : Jvm.MethodName)), (Jvm.Cond.instanceMethod ({ cls := "java/lang/Throwable", name := "<init>", desc := "()V" } : Jvm.MethodName)), (Jvm.Cond.declares ({ cls := "java/lang/Throwable", name := "<init>", desc := "()V" } : Jvm.MethodName)), (Jvm.Cond.methodLink "LeastSolutions" (120 : Nat) ({ cls := "java/lang/IndexOutOfBoundsException", name := "<init>", desc := "()V" } : Jvm.MethodName)), (Jvm.Cond.instantiable "java/lang/IndexOutOfBoundsException" (6 : Nat)), (Jvm.Cond.castable "java/lang/IndexOutOfBoundsException" "java/lang/IndexOutOfBoundsException"), (Jvm.Cond.selects "java/lang/IndexOutOfBoundsException" ({ cls := "java/lang/Throwable", name := "fillInStackTrace", desc := "(I)Ljava/lang/Throwable;" } : Jvm.MethodName) ({ cls := "java/lang/Throwable", name := "fillInStackTrace", desc := "(I)Ljava/lang/Throwable;" } : Jvm.MethodName)), (Jvm.Cond.selects "java/lang/IndexOutOfBoundsException" ({ cls := "java/lang/Throwable", name := "fillInStackTrace", desc := "()Ljava/lang/Throwable;" } : Jvm.MethodName) ({ cls := "java/lang/Throwable", name := "fillInStackTrace", desc := "()Ljava/lang/Throwable;" } : Jvm.MethodName)), (Jvm.Cond.lays "java/lang/IndexOutOfBoundsException" "java/lang/Throwable" "cause" "Ljava/lang/Throwable;"), (Jvm.Cond.lays "java/lang/IndexOutOfBoundsException" "java/lang/Throwable" "stackTrace" "[Ljava/lang/StackTraceElement;"), (Jvm.Cond.lays "java/lang/IndexOutOfBoundsException" "java/lang/Throwable" "suppressedExceptions" "Ljava/util/List;"), (Jvm.Cond.lays "java/lang/IndexOutOfBoundsException" "java/lang/Throwable" "detailMessage" "Ljava/lang/String;"), (Jvm.Cond.isRef (Jvm.Term.static "java/lang/Throwable" "UNASSIGNED_STACK" "[Ljava/lang/StackTraceElement;")), (Jvm.Cond.isRef (Jvm.Term.static "java/lang/Throwable" "SUPPRESSED_SENTINEL" "Ljava/util/List;")), (Jvm.Cond.fieldLink "java/lang/Throwable" (198 : Nat) "java/lang/Throwable" "backtrace" "Ljava/lang/Object;"), (Jvm.Cond.lays "java/lang/Throwable" "java/lang/Throwable" "backtrace" "Ljava/lang/Object;"), (Jvm.Cond.lays "java/lang/IndexOutOfBoundsException" "java/lang/Throwable" "backtrace" "Ljava/lang/Object;")] : List Cond), a.before args s = true
  exact List.forall_mem_cons.mpr ⟨hts _ k_14, List.forall_mem_cons.mpr ⟨hts _ k_628, List.forall_mem_cons.mpr ⟨hts _ k_637, List.forall_mem_cons.mpr ⟨hts _ k_642, List.forall_mem_cons.mpr ⟨hts _ k_645, List.forall_mem_cons.mpr ⟨hts _ k_647, List.forall_mem_cons.mpr ⟨hts _ k_629, List.forall_mem_cons.mpr ⟨hts _ k_630, List.forall_mem_cons.mpr ⟨hts _ k_28, List.forall_mem_cons.mpr ⟨hts _ k_29, List.forall_mem_cons.mpr ⟨hts _ k_631, List.forall_mem_cons.mpr ⟨hts _ k_636, List.forall_mem_cons.mpr ⟨hts _ k_643, List.forall_mem_cons.mpr ⟨hts _ k_659, List.forall_mem_cons.mpr ⟨hts _ k_618, List.forall_mem_cons.mpr ⟨hts _ k_660, List.forall_mem_cons.mpr ⟨hts _ k_620, List.forall_mem_cons.mpr ⟨hts _ k_661, List.forall_mem_cons.mpr ⟨hts _ k_622, List.forall_mem_cons.mpr ⟨hts _ k_632, List.forall_mem_cons.mpr ⟨xs_s1 hx, List.forall_mem_cons.mpr ⟨hts _ k_634, List.forall_mem_cons.mpr ⟨xs_s2 hx, List.forall_mem_cons.mpr ⟨hts _ k_624, List.forall_mem_cons.mpr ⟨hts _ k_649, List.forall_mem_cons.mpr ⟨hts _ k_650, List.forall_mem_cons.mpr ⟨hts _ k_651, List.forall_mem_cons.mpr ⟨hts _ k_652, List.forall_mem_cons.mpr ⟨xs_w hx xd_4, List.forall_mem_cons.mpr ⟨hts _ k_652, List.forall_mem_cons.mpr ⟨hts _ k_653, List.forall_mem_cons.mpr ⟨hts _ k_654, List.forall_mem_cons.mpr ⟨hts _ k_655, List.forall_mem_cons.mpr ⟨xs_w hx xd_5, List.forall_mem_cons.mpr ⟨hts _ k_655, List.forall_mem_cons.mpr ⟨hts _ k_656, List.forall_mem_cons.mpr ⟨hts _ k_657, List.forall_mem_cons.mpr ⟨hts _ k_629, List.forall_mem_cons.mpr ⟨xs_w hx xd_6, List.forall_mem_cons.mpr ⟨hts _ k_648, List.forall_mem_cons.mpr ⟨hts _ k_607, List.forall_mem_cons.mpr ⟨xs_w hx xd_0, List.forall_mem_cons.mpr ⟨hts _ k_615, List.forall_mem_cons.mpr ⟨hts _ k_616, List.forall_mem_cons.mpr ⟨hts _ k_617, List.forall_mem_cons.mpr ⟨hts _ k_619, List.forall_mem_cons.mpr ⟨hts _ k_621, List.forall_mem_cons.mpr ⟨hts _ k_623, List.forall_mem_cons.mpr ⟨xs_ref hx.1, List.forall_mem_cons.mpr ⟨xs_ref hx.2.1, List.forall_mem_cons.mpr ⟨hts _ k_627, List.forall_mem_cons.mpr ⟨hts _ k_626, List.forall_mem_cons.mpr ⟨hts _ k_625, fun _ h => absurd h List.not_mem_nil⟩⟩⟩⟩⟩⟩⟩⟩⟩⟩⟩⟩⟩⟩⟩⟩⟩⟩⟩⟩⟩⟩⟩⟩⟩⟩⟩⟩⟩⟩⟩⟩⟩⟩⟩⟩⟩⟩⟩⟩⟩⟩⟩⟩⟩⟩⟩⟩⟩⟩⟩⟩⟩
/-- what a throw of a new java/lang/IllegalStateException asks of the tables -/
theorem oa_ISE {args : Array Value} {s : State} (hts : ∀ w ∈ wd, w.before args s = true) (hx : xs_ok s) : ∀ a ∈ Bundle.ownAtoms0 "LeastSolutions" 268 "java/lang/IllegalStateException" ["java/lang/RuntimeException", "java/lang/Exception"], a.before args s = true := by
  show ∀ a ∈ ([(Jvm.Cond.initialized "java/lang/Throwable"), (Jvm.Cond.superclass "java/lang/Throwable" "java/lang/Object"), (Jvm.Cond.instanceMethod ({ cls := "java/lang/Throwable", name := "fillInStackTrace", desc := "()Ljava/lang/Throwable;" } : Jvm.MethodName)), (Jvm.Cond.codeSync ({ cls := "java/lang/Throwable", name := "fillInStackTrace", desc := "()Ljava/lang/Throwable;" } : Jvm.MethodName) prog_20_method_18_code (1 : Nat) (Option.some (Jvm.ClassFile.FieldType.object "java/lang/Throwable"))), (Jvm.Cond.instanceMethod ({ cls := "java/lang/Throwable", name := "fillInStackTrace", desc := "(I)Ljava/lang/Throwable;" } : Jvm.MethodName)), (Jvm.Cond.native ({ cls := "java/lang/Throwable", name := "fillInStackTrace", desc := "(I)Ljava/lang/Throwable;" } : Jvm.MethodName)), (Jvm.Cond.instanceMethod ({ cls := "java/lang/Throwable", name := "<init>", desc := "()V" } : Jvm.MethodName)), (Jvm.Cond.code ({ cls := "java/lang/Throwable", name := "<init>", desc := "()V" } : Jvm.MethodName) prog_20_method_1_code (1 : Nat) (Option.none : Option Jvm.ClassFile.FieldType)), (Jvm.Cond.instanceMethod ({ cls := "java/lang/Object", name := "<init>", desc := "()V" } : Jvm.MethodName)), (Jvm.Cond.code ({ cls := "java/lang/Object", name := "<init>", desc := "()V" } : Jvm.MethodName) object_method_1_code (1 : Nat) (Option.none : Option Jvm.ClassFile.FieldType)), (Jvm.Cond.methodLink "java/lang/Throwable" (1 : Nat) ({ cls := "java/lang/Object", name := "<init>", desc := "()V" } : Jvm.MethodName)), (Jvm.Cond.methodLink "java/lang/Throwable" (27 : Nat) ({ cls := "java/lang/Throwable", name := "fillInStackTrace", desc := "()Ljava/lang/Throwable;" } : Jvm.MethodName)), (Jvm.Cond.methodLink "java/lang/Throwable" (202 : Nat) ({ cls := "java/lang/Throwable", name := "fillInStackTrace", desc := "(I)Ljava/lang/Throwable;" } : Jvm.MethodName)), (Jvm.Cond.fieldLink "java/lang/Throwable" (7 : Nat) "java/lang/Throwable" "cause" "Ljava/lang/Throwable;"), (Jvm.Cond.lays "java/lang/Throwable" "java/lang/Throwable" "cause" "Ljava/lang/Throwable;"), (Jvm.Cond.fieldLink "java/lang/Throwable" (17 : Nat) "java/lang/Throwable" "stackTrace" "[Ljava/lang/StackTraceElement;"), (Jvm.Cond.lays "java/lang/Throwable" "java/lang/Throwable" "stackTrace" "[Ljava/lang/StackTraceElement;"), (Jvm.Cond.fieldLink "java/lang/Throwable" (24 : Nat) "java/lang/Throwable" "suppressedExceptions" "Ljava/util/List;"), (Jvm.Cond.lays "java/lang/Throwable" "java/lang/Throwable" "suppressedExceptions" "Ljava/util/List;"), (Jvm.Cond.fieldLink "java/lang/Throwable" (13 : Nat) "java/lang/Throwable" "UNASSIGNED_STACK" "[Ljava/lang/StackTraceElement;"), (Jvm.Cond.laysStatic "java/lang/Throwable" "UNASSIGNED_STACK" "[Ljava/lang/StackTraceElement;"), (Jvm.Cond.fieldLink "java/lang/Throwable" (20 : Nat) "java/lang/Throwable" "SUPPRESSED_SENTINEL" "Ljava/util/List;"), (Jvm.Cond.laysStatic "java/lang/Throwable" "SUPPRESSED_SENTINEL" "Ljava/util/List;"), (Jvm.Cond.lays "java/lang/Throwable" "java/lang/Throwable" "detailMessage" "Ljava/lang/String;"), (Jvm.Cond.instanceMethod ({ cls := "java/lang/IllegalStateException", name := "<init>", desc := "()V" } : Jvm.MethodName)), (Jvm.Cond.code ({ cls := "java/lang/IllegalStateException", name := "<init>", desc := "()V" } : Jvm.MethodName) prog_15_method_1_code (1 : Nat) (Option.none : Option Jvm.ClassFile.FieldType)), (Jvm.Cond.methodLink "java/lang/IllegalStateException" (1 : Nat) ({ cls := "java/lang/RuntimeException", name := "<init>", desc := "()V" } : Jvm.MethodName)), (Jvm.Cond.instanceMethod ({ cls := "java/lang/RuntimeException", name := "<init>", desc := "()V" } : Jvm.MethodName)), (Jvm.Cond.declares ({ cls := "java/lang/RuntimeException", name := "<init>", desc := "()V" } : Jvm.MethodName)), (Jvm.Cond.instanceMethod ({ cls := "java/lang/RuntimeException", name := "<init>", desc := "()V" } : Jvm.MethodName)), (Jvm.Cond.code ({ cls := "java/lang/RuntimeException", name := "<init>", desc := "()V" } : Jvm.MethodName) prog_18_method_1_code (1 : Nat) (Option.none : Option Jvm.ClassFile.FieldType)), (Jvm.Cond.methodLink "java/lang/RuntimeException" (1 : Nat) ({ cls := "java/lang/Exception", name := "<init>", desc := "()V" } : Jvm.MethodName)), (Jvm.Cond.instanceMethod ({ cls := "java/lang/Exception", name := "<init>", desc := "()V" } : Jvm.MethodName)), (Jvm.Cond.declares ({ cls := "java/lang/Exception", name := "<init>", desc := "()V" } : Jvm.MethodName)), (Jvm.Cond.instanceMethod ({ cls := "java/lang/Exception", name := "<init>", desc := "()V" } : Jvm.MethodName)), (Jvm.Cond.code ({ cls := "java/lang/Exception", name := "<init>", desc := "()V" } : Jvm.MethodName) prog_13_method_1_code (1 : Nat) (Option.none : Option Jvm.ClassFile.FieldType)), (Jvm.Cond.methodLink "java/lang/Exception" (1 : Nat) ({ cls := "java/lang/Throwable", name := "<init>", desc := "()V" } : Jvm.MethodName)), (Jvm.Cond.instanceMethod ({ cls := "java/lang/Throwable", name := "<init>", desc := "()V" } : Jvm.MethodName)), (Jvm.Cond.declares ({ cls := "java/lang/Throwable", name := "<init>", desc := "()V" } : Jvm.MethodName)), (Jvm.Cond.methodLink "LeastSolutions" (268 : Nat) ({ cls := "java/lang/IllegalStateException", name := "<init>", desc := "()V" } : Jvm.MethodName)), (Jvm.Cond.instantiable "java/lang/IllegalStateException" (6 : Nat)), (Jvm.Cond.castable "java/lang/IllegalStateException" "java/lang/IllegalStateException"), (Jvm.Cond.selects "java/lang/IllegalStateException" ({ cls := "java/lang/Throwable", name := "fillInStackTrace", desc := "(I)Ljava/lang/Throwable;" } : Jvm.MethodName) ({ cls := "java/lang/Throwable", name := "fillInStackTrace", desc := "(I)Ljava/lang/Throwable;" } : Jvm.MethodName)), (Jvm.Cond.selects "java/lang/IllegalStateException" ({ cls := "java/lang/Throwable", name := "fillInStackTrace", desc := "()Ljava/lang/Throwable;" } : Jvm.MethodName) ({ cls := "java/lang/Throwable", name := "fillInStackTrace", desc := "()Ljava/lang/Throwable;" } : Jvm.MethodName)), (Jvm.Cond.lays "java/lang/IllegalStateException" "java/lang/Throwable" "cause" "Ljava/lang/Throwable;"), (Jvm.Cond.lays "java/lang/IllegalStateException" "java/lang/Throwable" "stackTrace" "[Ljava/lang/StackTraceElement;"), (Jvm.Cond.lays "java/lang/IllegalStateException" "java/lang/Throwable" "suppressedExceptions" "Ljava/util/List;"), (Jvm.Cond.lays "java/lang/IllegalStateException" "java/lang/Throwable" "detailMessage" "Ljava/lang/String;"), (Jvm.Cond.isRef (Jvm.Term.static "java/lang/Throwable" "UNASSIGNED_STACK" "[Ljava/lang/StackTraceElement;")), (Jvm.Cond.isRef (Jvm.Term.static "java/lang/Throwable" "SUPPRESSED_SENTINEL" "Ljava/util/List;")), (Jvm.Cond.fieldLink "java/lang/Throwable" (198 : Nat) "java/lang/Throwable" "backtrace" "Ljava/lang/Object;"), (Jvm.Cond.lays "java/lang/Throwable" "java/lang/Throwable" "backtrace" "Ljava/lang/Object;"), (Jvm.Cond.lays "java/lang/IllegalStateException" "java/lang/Throwable" "backtrace" "Ljava/lang/Object;")] : List Cond), a.before args s = true
  exact List.forall_mem_cons.mpr ⟨hts _ k_14, List.forall_mem_cons.mpr ⟨hts _ k_628, List.forall_mem_cons.mpr ⟨hts _ k_637, List.forall_mem_cons.mpr ⟨hts _ k_642, List.forall_mem_cons.mpr ⟨hts _ k_645, List.forall_mem_cons.mpr ⟨hts _ k_647, List.forall_mem_cons.mpr ⟨hts _ k_629, List.forall_mem_cons.mpr ⟨hts _ k_630, List.forall_mem_cons.mpr ⟨hts _ k_28, List.forall_mem_cons.mpr ⟨hts _ k_29, List.forall_mem_cons.mpr ⟨hts _ k_631, List.forall_mem_cons.mpr ⟨hts _ k_636, List.forall_mem_cons.mpr ⟨hts _ k_643, List.forall_mem_cons.mpr ⟨hts _ k_659, List.forall_mem_cons.mpr ⟨hts _ k_618, List.forall_mem_cons.mpr ⟨hts _ k_660, List.forall_mem_cons.mpr ⟨hts _ k_620, List.forall_mem_cons.mpr ⟨hts _ k_661, List.forall_mem_cons.mpr ⟨hts _ k_622, List.forall_mem_cons.mpr ⟨hts _ k_632, List.forall_mem_cons.mpr ⟨xs_s1 hx, List.forall_mem_cons.mpr ⟨hts _ k_634, List.forall_mem_cons.mpr ⟨xs_s2 hx, List.forall_mem_cons.mpr ⟨hts _ k_624, List.forall_mem_cons.mpr ⟨hts _ k_692, List.forall_mem_cons.mpr ⟨hts _ k_693, List.forall_mem_cons.mpr ⟨hts _ k_694, List.forall_mem_cons.mpr ⟨hts _ k_652, List.forall_mem_cons.mpr ⟨xs_w hx xd_4, List.forall_mem_cons.mpr ⟨hts _ k_652, List.forall_mem_cons.mpr ⟨hts _ k_653, List.forall_mem_cons.mpr ⟨hts _ k_654, List.forall_mem_cons.mpr ⟨hts _ k_655, List.forall_mem_cons.mpr ⟨xs_w hx xd_5, List.forall_mem_cons.mpr ⟨hts _ k_655, List.forall_mem_cons.mpr ⟨hts _ k_656, List.forall_mem_cons.mpr ⟨hts _ k_657, List.forall_mem_cons.mpr ⟨hts _ k_629, List.forall_mem_cons.mpr ⟨xs_w hx xd_6, List.forall_mem_cons.mpr ⟨hts _ k_691, List.forall_mem_cons.mpr ⟨hts _ k_683, List.forall_mem_cons.mpr ⟨xs_w hx xd_1, List.forall_mem_cons.mpr ⟨hts _ k_685, List.forall_mem_cons.mpr ⟨hts _ k_640, List.forall_mem_cons.mpr ⟨hts _ k_686, List.forall_mem_cons.mpr ⟨hts _ k_687, List.forall_mem_cons.mpr ⟨hts _ k_688, List.forall_mem_cons.mpr ⟨hts _ k_689, List.forall_mem_cons.mpr ⟨xs_ref hx.1, List.forall_mem_cons.mpr ⟨xs_ref hx.2.1, List.forall_mem_cons.mpr ⟨hts _ k_627, List.forall_mem_cons.mpr ⟨hts _ k_626, List.forall_mem_cons.mpr ⟨hts _ k_690, fun _ h => absurd h List.not_mem_nil⟩⟩⟩⟩⟩⟩⟩⟩⟩⟩⟩⟩⟩⟩⟩⟩⟩⟩⟩⟩⟩⟩⟩⟩⟩⟩⟩⟩⟩⟩⟩⟩⟩⟩⟩⟩⟩⟩⟩⟩⟩⟩⟩⟩⟩⟩⟩⟩⟩⟩⟩⟩⟩
/-- what a throw of a new java/lang/IllegalArgumentException asks of the tables -/
theorem oa_IAE {args : Array Value} {s : State} (hts : ∀ w ∈ wd, w.before args s = true) (hx : xs_ok s) : ∀ a ∈ Bundle.ownAtoms0 "LeastSolutions" 148 "java/lang/IllegalArgumentException" ["java/lang/RuntimeException", "java/lang/Exception"], a.before args s = true := by
  show ∀ a ∈ ([(Jvm.Cond.initialized "java/lang/Throwable"), (Jvm.Cond.superclass "java/lang/Throwable" "java/lang/Object"), (Jvm.Cond.instanceMethod ({ cls := "java/lang/Throwable", name := "fillInStackTrace", desc := "()Ljava/lang/Throwable;" } : Jvm.MethodName)), (Jvm.Cond.codeSync ({ cls := "java/lang/Throwable", name := "fillInStackTrace", desc := "()Ljava/lang/Throwable;" } : Jvm.MethodName) prog_20_method_18_code (1 : Nat) (Option.some (Jvm.ClassFile.FieldType.object "java/lang/Throwable"))), (Jvm.Cond.instanceMethod ({ cls := "java/lang/Throwable", name := "fillInStackTrace", desc := "(I)Ljava/lang/Throwable;" } : Jvm.MethodName)), (Jvm.Cond.native ({ cls := "java/lang/Throwable", name := "fillInStackTrace", desc := "(I)Ljava/lang/Throwable;" } : Jvm.MethodName)), (Jvm.Cond.instanceMethod ({ cls := "java/lang/Throwable", name := "<init>", desc := "()V" } : Jvm.MethodName)), (Jvm.Cond.code ({ cls := "java/lang/Throwable", name := "<init>", desc := "()V" } : Jvm.MethodName) prog_20_method_1_code (1 : Nat) (Option.none : Option Jvm.ClassFile.FieldType)), (Jvm.Cond.instanceMethod ({ cls := "java/lang/Object", name := "<init>", desc := "()V" } : Jvm.MethodName)), (Jvm.Cond.code ({ cls := "java/lang/Object", name := "<init>", desc := "()V" } : Jvm.MethodName) object_method_1_code (1 : Nat) (Option.none : Option Jvm.ClassFile.FieldType)), (Jvm.Cond.methodLink "java/lang/Throwable" (1 : Nat) ({ cls := "java/lang/Object", name := "<init>", desc := "()V" } : Jvm.MethodName)), (Jvm.Cond.methodLink "java/lang/Throwable" (27 : Nat) ({ cls := "java/lang/Throwable", name := "fillInStackTrace", desc := "()Ljava/lang/Throwable;" } : Jvm.MethodName)), (Jvm.Cond.methodLink "java/lang/Throwable" (202 : Nat) ({ cls := "java/lang/Throwable", name := "fillInStackTrace", desc := "(I)Ljava/lang/Throwable;" } : Jvm.MethodName)), (Jvm.Cond.fieldLink "java/lang/Throwable" (7 : Nat) "java/lang/Throwable" "cause" "Ljava/lang/Throwable;"), (Jvm.Cond.lays "java/lang/Throwable" "java/lang/Throwable" "cause" "Ljava/lang/Throwable;"), (Jvm.Cond.fieldLink "java/lang/Throwable" (17 : Nat) "java/lang/Throwable" "stackTrace" "[Ljava/lang/StackTraceElement;"), (Jvm.Cond.lays "java/lang/Throwable" "java/lang/Throwable" "stackTrace" "[Ljava/lang/StackTraceElement;"), (Jvm.Cond.fieldLink "java/lang/Throwable" (24 : Nat) "java/lang/Throwable" "suppressedExceptions" "Ljava/util/List;"), (Jvm.Cond.lays "java/lang/Throwable" "java/lang/Throwable" "suppressedExceptions" "Ljava/util/List;"), (Jvm.Cond.fieldLink "java/lang/Throwable" (13 : Nat) "java/lang/Throwable" "UNASSIGNED_STACK" "[Ljava/lang/StackTraceElement;"), (Jvm.Cond.laysStatic "java/lang/Throwable" "UNASSIGNED_STACK" "[Ljava/lang/StackTraceElement;"), (Jvm.Cond.fieldLink "java/lang/Throwable" (20 : Nat) "java/lang/Throwable" "SUPPRESSED_SENTINEL" "Ljava/util/List;"), (Jvm.Cond.laysStatic "java/lang/Throwable" "SUPPRESSED_SENTINEL" "Ljava/util/List;"), (Jvm.Cond.lays "java/lang/Throwable" "java/lang/Throwable" "detailMessage" "Ljava/lang/String;"), (Jvm.Cond.instanceMethod ({ cls := "java/lang/IllegalArgumentException", name := "<init>", desc := "()V" } : Jvm.MethodName)), (Jvm.Cond.code ({ cls := "java/lang/IllegalArgumentException", name := "<init>", desc := "()V" } : Jvm.MethodName) prog_14_method_1_code (1 : Nat) (Option.none : Option Jvm.ClassFile.FieldType)), (Jvm.Cond.methodLink "java/lang/IllegalArgumentException" (1 : Nat) ({ cls := "java/lang/RuntimeException", name := "<init>", desc := "()V" } : Jvm.MethodName)), (Jvm.Cond.instanceMethod ({ cls := "java/lang/RuntimeException", name := "<init>", desc := "()V" } : Jvm.MethodName)), (Jvm.Cond.declares ({ cls := "java/lang/RuntimeException", name := "<init>", desc := "()V" } : Jvm.MethodName)), (Jvm.Cond.instanceMethod ({ cls := "java/lang/RuntimeException", name := "<init>", desc := "()V" } : Jvm.MethodName)), (Jvm.Cond.code ({ cls := "java/lang/RuntimeException", name := "<init>", desc := "()V" } : Jvm.MethodName) prog_18_method_1_code (1 : Nat) (Option.none : Option Jvm.ClassFile.FieldType)), (Jvm.Cond.methodLink "java/lang/RuntimeException" (1 : Nat) ({ cls := "java/lang/Exception", name := "<init>", desc := "()V" } : Jvm.MethodName)), (Jvm.Cond.instanceMethod ({ cls := "java/lang/Exception", name := "<init>", desc := "()V" } : Jvm.MethodName)), (Jvm.Cond.declares ({ cls := "java/lang/Exception", name := "<init>", desc := "()V" } : Jvm.MethodName)), (Jvm.Cond.instanceMethod ({ cls := "java/lang/Exception", name := "<init>", desc := "()V" } : Jvm.MethodName)), (Jvm.Cond.code ({ cls := "java/lang/Exception", name := "<init>", desc := "()V" } : Jvm.MethodName) prog_13_method_1_code (1 : Nat) (Option.none : Option Jvm.ClassFile.FieldType)), (Jvm.Cond.methodLink "java/lang/Exception" (1 : Nat) ({ cls := "java/lang/Throwable", name := "<init>", desc := "()V" } : Jvm.MethodName)), (Jvm.Cond.instanceMethod ({ cls := "java/lang/Throwable", name := "<init>", desc := "()V" } : Jvm.MethodName)), (Jvm.Cond.declares ({ cls := "java/lang/Throwable", name := "<init>", desc := "()V" } : Jvm.MethodName)), (Jvm.Cond.methodLink "LeastSolutions" (148 : Nat) ({ cls := "java/lang/IllegalArgumentException", name := "<init>", desc := "()V" } : Jvm.MethodName)), (Jvm.Cond.instantiable "java/lang/IllegalArgumentException" (6 : Nat)), (Jvm.Cond.castable "java/lang/IllegalArgumentException" "java/lang/IllegalArgumentException"), (Jvm.Cond.selects "java/lang/IllegalArgumentException" ({ cls := "java/lang/Throwable", name := "fillInStackTrace", desc := "(I)Ljava/lang/Throwable;" } : Jvm.MethodName) ({ cls := "java/lang/Throwable", name := "fillInStackTrace", desc := "(I)Ljava/lang/Throwable;" } : Jvm.MethodName)), (Jvm.Cond.selects "java/lang/IllegalArgumentException" ({ cls := "java/lang/Throwable", name := "fillInStackTrace", desc := "()Ljava/lang/Throwable;" } : Jvm.MethodName) ({ cls := "java/lang/Throwable", name := "fillInStackTrace", desc := "()Ljava/lang/Throwable;" } : Jvm.MethodName)), (Jvm.Cond.lays "java/lang/IllegalArgumentException" "java/lang/Throwable" "cause" "Ljava/lang/Throwable;"), (Jvm.Cond.lays "java/lang/IllegalArgumentException" "java/lang/Throwable" "stackTrace" "[Ljava/lang/StackTraceElement;"), (Jvm.Cond.lays "java/lang/IllegalArgumentException" "java/lang/Throwable" "suppressedExceptions" "Ljava/util/List;"), (Jvm.Cond.lays "java/lang/IllegalArgumentException" "java/lang/Throwable" "detailMessage" "Ljava/lang/String;"), (Jvm.Cond.isRef (Jvm.Term.static "java/lang/Throwable" "UNASSIGNED_STACK" "[Ljava/lang/StackTraceElement;")), (Jvm.Cond.isRef (Jvm.Term.static "java/lang/Throwable" "SUPPRESSED_SENTINEL" "Ljava/util/List;")), (Jvm.Cond.fieldLink "java/lang/Throwable" (198 : Nat) "java/lang/Throwable" "backtrace" "Ljava/lang/Object;"), (Jvm.Cond.lays "java/lang/Throwable" "java/lang/Throwable" "backtrace" "Ljava/lang/Object;"), (Jvm.Cond.lays "java/lang/IllegalArgumentException" "java/lang/Throwable" "backtrace" "Ljava/lang/Object;")] : List Cond), a.before args s = true
  exact List.forall_mem_cons.mpr ⟨hts _ k_14, List.forall_mem_cons.mpr ⟨hts _ k_628, List.forall_mem_cons.mpr ⟨hts _ k_637, List.forall_mem_cons.mpr ⟨hts _ k_642, List.forall_mem_cons.mpr ⟨hts _ k_645, List.forall_mem_cons.mpr ⟨hts _ k_647, List.forall_mem_cons.mpr ⟨hts _ k_629, List.forall_mem_cons.mpr ⟨hts _ k_630, List.forall_mem_cons.mpr ⟨hts _ k_28, List.forall_mem_cons.mpr ⟨hts _ k_29, List.forall_mem_cons.mpr ⟨hts _ k_631, List.forall_mem_cons.mpr ⟨hts _ k_636, List.forall_mem_cons.mpr ⟨hts _ k_643, List.forall_mem_cons.mpr ⟨hts _ k_659, List.forall_mem_cons.mpr ⟨hts _ k_618, List.forall_mem_cons.mpr ⟨hts _ k_660, List.forall_mem_cons.mpr ⟨hts _ k_620, List.forall_mem_cons.mpr ⟨hts _ k_661, List.forall_mem_cons.mpr ⟨hts _ k_622, List.forall_mem_cons.mpr ⟨hts _ k_632, List.forall_mem_cons.mpr ⟨xs_s1 hx, List.forall_mem_cons.mpr ⟨hts _ k_634, List.forall_mem_cons.mpr ⟨xs_s2 hx, List.forall_mem_cons.mpr ⟨hts _ k_624, List.forall_mem_cons.mpr ⟨hts _ k_745, List.forall_mem_cons.mpr ⟨hts _ k_746, List.forall_mem_cons.mpr ⟨hts _ k_747, List.forall_mem_cons.mpr ⟨hts _ k_652, List.forall_mem_cons.mpr ⟨xs_w hx xd_4, List.forall_mem_cons.mpr ⟨hts _ k_652, List.forall_mem_cons.mpr ⟨hts _ k_653, List.forall_mem_cons.mpr ⟨hts _ k_654, List.forall_mem_cons.mpr ⟨hts _ k_655, List.forall_mem_cons.mpr ⟨xs_w hx xd_5, List.forall_mem_cons.mpr ⟨hts _ k_655, List.forall_mem_cons.mpr ⟨hts _ k_656, List.forall_mem_cons.mpr ⟨hts _ k_657, List.forall_mem_cons.mpr ⟨hts _ k_629, List.forall_mem_cons.mpr ⟨xs_w hx xd_6, List.forall_mem_cons.mpr ⟨hts _ k_744, List.forall_mem_cons.mpr ⟨hts _ k_736, List.forall_mem_cons.mpr ⟨xs_w hx xd_2, List.forall_mem_cons.mpr ⟨hts _ k_738, List.forall_mem_cons.mpr ⟨hts _ k_639, List.forall_mem_cons.mpr ⟨hts _ k_739, List.forall_mem_cons.mpr ⟨hts _ k_740, List.forall_mem_cons.mpr ⟨hts _ k_741, List.forall_mem_cons.mpr ⟨hts _ k_742, List.forall_mem_cons.mpr ⟨xs_ref hx.1, List.forall_mem_cons.mpr ⟨xs_ref hx.2.1, List.forall_mem_cons.mpr ⟨hts _ k_627, List.forall_mem_cons.mpr ⟨hts _ k_626, List.forall_mem_cons.mpr ⟨hts _ k_743, fun _ h => absurd h List.not_mem_nil⟩⟩⟩⟩⟩⟩⟩⟩⟩⟩⟩⟩⟩⟩⟩⟩⟩⟩⟩⟩⟩⟩⟩⟩⟩⟩⟩⟩⟩⟩⟩⟩⟩⟩⟩⟩⟩⟩⟩⟩⟩⟩⟩⟩⟩⟩⟩⟩⟩⟩⟩⟩⟩
/-- what a throw of a new java/util/NoSuchElementException asks of the tables -/
theorem oa_NSE {args : Array Value} {s : State} (hts : ∀ w ∈ wd, w.before args s = true) (hx : xs_ok s) : ∀ a ∈ Bundle.ownAtoms0 "LeastSolutions" 221 "java/util/NoSuchElementException" ["java/lang/RuntimeException", "java/lang/Exception"], a.before args s = true := by
  show ∀ a ∈ ([(Jvm.Cond.initialized "java/lang/Throwable"), (Jvm.Cond.superclass "java/lang/Throwable" "java/lang/Object"), (Jvm.Cond.instanceMethod ({ cls := "java/lang/Throwable", name := "fillInStackTrace", desc := "()Ljava/lang/Throwable;" } : Jvm.MethodName)), (Jvm.Cond.codeSync ({ cls := "java/lang/Throwable", name := "fillInStackTrace", desc := "()Ljava/lang/Throwable;" } : Jvm.MethodName) prog_20_method_18_code (1 : Nat) (Option.some (Jvm.ClassFile.FieldType.object "java/lang/Throwable"))), (Jvm.Cond.instanceMethod ({ cls := "java/lang/Throwable", name := "fillInStackTrace", desc := "(I)Ljava/lang/Throwable;" } : Jvm.MethodName)), (Jvm.Cond.native ({ cls := "java/lang/Throwable", name := "fillInStackTrace", desc := "(I)Ljava/lang/Throwable;" } : Jvm.MethodName)), (Jvm.Cond.instanceMethod ({ cls := "java/lang/Throwable", name := "<init>", desc := "()V" } : Jvm.MethodName)), (Jvm.Cond.code ({ cls := "java/lang/Throwable", name := "<init>", desc := "()V" } : Jvm.MethodName) prog_20_method_1_code (1 : Nat) (Option.none : Option Jvm.ClassFile.FieldType)), (Jvm.Cond.instanceMethod ({ cls := "java/lang/Object", name := "<init>", desc := "()V" } : Jvm.MethodName)), (Jvm.Cond.code ({ cls := "java/lang/Object", name := "<init>", desc := "()V" } : Jvm.MethodName) object_method_1_code (1 : Nat) (Option.none : Option Jvm.ClassFile.FieldType)), (Jvm.Cond.methodLink "java/lang/Throwable" (1 : Nat) ({ cls := "java/lang/Object", name := "<init>", desc := "()V" } : Jvm.MethodName)), (Jvm.Cond.methodLink "java/lang/Throwable" (27 : Nat) ({ cls := "java/lang/Throwable", name := "fillInStackTrace", desc := "()Ljava/lang/Throwable;" } : Jvm.MethodName)), (Jvm.Cond.methodLink "java/lang/Throwable" (202 : Nat) ({ cls := "java/lang/Throwable", name := "fillInStackTrace", desc := "(I)Ljava/lang/Throwable;" } : Jvm.MethodName)), (Jvm.Cond.fieldLink "java/lang/Throwable" (7 : Nat) "java/lang/Throwable" "cause" "Ljava/lang/Throwable;"), (Jvm.Cond.lays "java/lang/Throwable" "java/lang/Throwable" "cause" "Ljava/lang/Throwable;"), (Jvm.Cond.fieldLink "java/lang/Throwable" (17 : Nat) "java/lang/Throwable" "stackTrace" "[Ljava/lang/StackTraceElement;"), (Jvm.Cond.lays "java/lang/Throwable" "java/lang/Throwable" "stackTrace" "[Ljava/lang/StackTraceElement;"), (Jvm.Cond.fieldLink "java/lang/Throwable" (24 : Nat) "java/lang/Throwable" "suppressedExceptions" "Ljava/util/List;"), (Jvm.Cond.lays "java/lang/Throwable" "java/lang/Throwable" "suppressedExceptions" "Ljava/util/List;"), (Jvm.Cond.fieldLink "java/lang/Throwable" (13 : Nat) "java/lang/Throwable" "UNASSIGNED_STACK" "[Ljava/lang/StackTraceElement;"), (Jvm.Cond.laysStatic "java/lang/Throwable" "UNASSIGNED_STACK" "[Ljava/lang/StackTraceElement;"), (Jvm.Cond.fieldLink "java/lang/Throwable" (20 : Nat) "java/lang/Throwable" "SUPPRESSED_SENTINEL" "Ljava/util/List;"), (Jvm.Cond.laysStatic "java/lang/Throwable" "SUPPRESSED_SENTINEL" "Ljava/util/List;"), (Jvm.Cond.lays "java/lang/Throwable" "java/lang/Throwable" "detailMessage" "Ljava/lang/String;"), (Jvm.Cond.instanceMethod ({ cls := "java/util/NoSuchElementException", name := "<init>", desc := "()V" } : Jvm.MethodName)), (Jvm.Cond.code ({ cls := "java/util/NoSuchElementException", name := "<init>", desc := "()V" } : Jvm.MethodName) prog_22_method_1_code (1 : Nat) (Option.none : Option Jvm.ClassFile.FieldType)), (Jvm.Cond.methodLink "java/util/NoSuchElementException" (1 : Nat) ({ cls := "java/lang/RuntimeException", name := "<init>", desc := "()V" } : Jvm.MethodName)), (Jvm.Cond.instanceMethod ({ cls := "java/lang/RuntimeException", name := "<init>", desc := "()V" } : Jvm.MethodName)), (Jvm.Cond.declares ({ cls := "java/lang/RuntimeException", name := "<init>", desc := "()V" } : Jvm.MethodName)), (Jvm.Cond.instanceMethod ({ cls := "java/lang/RuntimeException", name := "<init>", desc := "()V" } : Jvm.MethodName)), (Jvm.Cond.code ({ cls := "java/lang/RuntimeException", name := "<init>", desc := "()V" } : Jvm.MethodName) prog_18_method_1_code (1 : Nat) (Option.none : Option Jvm.ClassFile.FieldType)), (Jvm.Cond.methodLink "java/lang/RuntimeException" (1 : Nat) ({ cls := "java/lang/Exception", name := "<init>", desc := "()V" } : Jvm.MethodName)), (Jvm.Cond.instanceMethod ({ cls := "java/lang/Exception", name := "<init>", desc := "()V" } : Jvm.MethodName)), (Jvm.Cond.declares ({ cls := "java/lang/Exception", name := "<init>", desc := "()V" } : Jvm.MethodName)), (Jvm.Cond.instanceMethod ({ cls := "java/lang/Exception", name := "<init>", desc := "()V" } : Jvm.MethodName)), (Jvm.Cond.code ({ cls := "java/lang/Exception", name := "<init>", desc := "()V" } : Jvm.MethodName) prog_13_method_1_code (1 : Nat) (Option.none : Option Jvm.ClassFile.FieldType)), (Jvm.Cond.methodLink "java/lang/Exception" (1 : Nat) ({ cls := "java/lang/Throwable", name := "<init>", desc := "()V" } : Jvm.MethodName)), (Jvm.Cond.instanceMethod ({ cls := "java/lang/Throwable", name := "<init>", desc := "()V" } : Jvm.MethodName)), (Jvm.Cond.declares ({ cls := "java/lang/Throwable", name := "<init>", desc := "()V" } : Jvm.MethodName)), (Jvm.Cond.methodLink "LeastSolutions" (221 : Nat) ({ cls := "java/util/NoSuchElementException", name := "<init>", desc := "()V" } : Jvm.MethodName)), (Jvm.Cond.instantiable "java/util/NoSuchElementException" (6 : Nat)), (Jvm.Cond.castable "java/util/NoSuchElementException" "java/util/NoSuchElementException"), (Jvm.Cond.selects "java/util/NoSuchElementException" ({ cls := "java/lang/Throwable", name := "fillInStackTrace", desc := "(I)Ljava/lang/Throwable;" } : Jvm.MethodName) ({ cls := "java/lang/Throwable", name := "fillInStackTrace", desc := "(I)Ljava/lang/Throwable;" } : Jvm.MethodName)), (Jvm.Cond.selects "java/util/NoSuchElementException" ({ cls := "java/lang/Throwable", name := "fillInStackTrace", desc := "()Ljava/lang/Throwable;" } : Jvm.MethodName) ({ cls := "java/lang/Throwable", name := "fillInStackTrace", desc := "()Ljava/lang/Throwable;" } : Jvm.MethodName)), (Jvm.Cond.lays "java/util/NoSuchElementException" "java/lang/Throwable" "cause" "Ljava/lang/Throwable;"), (Jvm.Cond.lays "java/util/NoSuchElementException" "java/lang/Throwable" "stackTrace" "[Ljava/lang/StackTraceElement;"), (Jvm.Cond.lays "java/util/NoSuchElementException" "java/lang/Throwable" "suppressedExceptions" "Ljava/util/List;"), (Jvm.Cond.lays "java/util/NoSuchElementException" "java/lang/Throwable" "detailMessage" "Ljava/lang/String;"), (Jvm.Cond.isRef (Jvm.Term.static "java/lang/Throwable" "UNASSIGNED_STACK" "[Ljava/lang/StackTraceElement;")), (Jvm.Cond.isRef (Jvm.Term.static "java/lang/Throwable" "SUPPRESSED_SENTINEL" "Ljava/util/List;")), (Jvm.Cond.fieldLink "java/lang/Throwable" (198 : Nat) "java/lang/Throwable" "backtrace" "Ljava/lang/Object;"), (Jvm.Cond.lays "java/lang/Throwable" "java/lang/Throwable" "backtrace" "Ljava/lang/Object;"), (Jvm.Cond.lays "java/util/NoSuchElementException" "java/lang/Throwable" "backtrace" "Ljava/lang/Object;")] : List Cond), a.before args s = true
  exact List.forall_mem_cons.mpr ⟨hts _ k_14, List.forall_mem_cons.mpr ⟨hts _ k_628, List.forall_mem_cons.mpr ⟨hts _ k_637, List.forall_mem_cons.mpr ⟨hts _ k_642, List.forall_mem_cons.mpr ⟨hts _ k_645, List.forall_mem_cons.mpr ⟨hts _ k_647, List.forall_mem_cons.mpr ⟨hts _ k_629, List.forall_mem_cons.mpr ⟨hts _ k_630, List.forall_mem_cons.mpr ⟨hts _ k_28, List.forall_mem_cons.mpr ⟨hts _ k_29, List.forall_mem_cons.mpr ⟨hts _ k_631, List.forall_mem_cons.mpr ⟨hts _ k_636, List.forall_mem_cons.mpr ⟨hts _ k_643, List.forall_mem_cons.mpr ⟨hts _ k_659, List.forall_mem_cons.mpr ⟨hts _ k_618, List.forall_mem_cons.mpr ⟨hts _ k_660, List.forall_mem_cons.mpr ⟨hts _ k_620, List.forall_mem_cons.mpr ⟨hts _ k_661, List.forall_mem_cons.mpr ⟨hts _ k_622, List.forall_mem_cons.mpr ⟨hts _ k_632, List.forall_mem_cons.mpr ⟨xs_s1 hx, List.forall_mem_cons.mpr ⟨hts _ k_634, List.forall_mem_cons.mpr ⟨xs_s2 hx, List.forall_mem_cons.mpr ⟨hts _ k_624, List.forall_mem_cons.mpr ⟨hts _ k_874, List.forall_mem_cons.mpr ⟨hts _ k_875, List.forall_mem_cons.mpr ⟨hts _ k_876, List.forall_mem_cons.mpr ⟨hts _ k_652, List.forall_mem_cons.mpr ⟨xs_w hx xd_4, List.forall_mem_cons.mpr ⟨hts _ k_652, List.forall_mem_cons.mpr ⟨hts _ k_653, List.forall_mem_cons.mpr ⟨hts _ k_654, List.forall_mem_cons.mpr ⟨hts _ k_655, List.forall_mem_cons.mpr ⟨xs_w hx xd_5, List.forall_mem_cons.mpr ⟨hts _ k_655, List.forall_mem_cons.mpr ⟨hts _ k_656, List.forall_mem_cons.mpr ⟨hts _ k_657, List.forall_mem_cons.mpr ⟨hts _ k_629, List.forall_mem_cons.mpr ⟨xs_w hx xd_6, List.forall_mem_cons.mpr ⟨hts _ k_873, List.forall_mem_cons.mpr ⟨hts _ k_865, List.forall_mem_cons.mpr ⟨xs_w hx xd_3, List.forall_mem_cons.mpr ⟨hts _ k_867, List.forall_mem_cons.mpr ⟨hts _ k_641, List.forall_mem_cons.mpr ⟨hts _ k_868, List.forall_mem_cons.mpr ⟨hts _ k_869, List.forall_mem_cons.mpr ⟨hts _ k_870, List.forall_mem_cons.mpr ⟨hts _ k_871, List.forall_mem_cons.mpr ⟨xs_ref hx.1, List.forall_mem_cons.mpr ⟨xs_ref hx.2.1, List.forall_mem_cons.mpr ⟨hts _ k_627, List.forall_mem_cons.mpr ⟨hts _ k_626, List.forall_mem_cons.mpr ⟨hts _ k_872, fun _ h => absurd h List.not_mem_nil⟩⟩⟩⟩⟩⟩⟩⟩⟩⟩⟩⟩⟩⟩⟩⟩⟩⟩⟩⟩⟩⟩⟩⟩⟩⟩⟩⟩⟩⟩⟩⟩⟩⟩⟩⟩⟩⟩⟩⟩⟩⟩⟩⟩⟩⟩⟩⟩⟩⟩⟩⟩⟩
/-! the classes: fields in an order of ours, their types; numbers of classes in cls -/
def R_LS : String := "LeastSolutions"
def T_LS : u_T := fun k => match k with
  | 0 => ("LeastSolutions", "text", "LLeastSolutions$Text;", true)
  | 1 => ("LeastSolutions", "words", "LLeastSolutions$Words;", true)
  | 2 => ("LeastSolutions", "builder", "LLeastSolutions$Builder;", true)
  | 3 => ("LeastSolutions", "lattice", "LLeastSolutions$Lattice;", true)
  | 4 => ("LeastSolutions", "search", "LLeastSolutions$Search;", true)
  | 5 => ("LeastSolutions", "lists", "[LLeastSolutions$VectorList;", true)
  | 6 => ("LeastSolutions", "cheapest", "LLeastSolutions$Cheapest;", true)
  | 7 => ("LeastSolutions", "told", "[I", true)
  | 8 => ("LeastSolutions", "rest", "[I", true)
  | 9 => ("LeastSolutions", "taken", "[I", true)
  | 10 => ("LeastSolutions", "bestVector", "[I", true)
  | 11 => ("LeastSolutions", "system", "LLeastSolutions$Equations;", false)
  | 12 => ("LeastSolutions", "hasSystem", "Z", false)
  | 13 => ("LeastSolutions", "hasSplit", "Z", false)
  | 14 => ("LeastSolutions", "hasBest", "Z", false)
  | _ => ("LeastSolutions", "faultPlace", "I", false)
def t_LS : Nat → FieldType := fun k => match k with
  | 0 => (.object "LeastSolutions$Text")
  | 1 => (.object "LeastSolutions$Words")
  | 2 => (.object "LeastSolutions$Builder")
  | 3 => (.object "LeastSolutions$Lattice")
  | 4 => (.object "LeastSolutions$Search")
  | 5 => (.array (.object "LeastSolutions$VectorList"))
  | 6 => (.object "LeastSolutions$Cheapest")
  | 7 => (.array .int)
  | 8 => (.array .int)
  | 9 => (.array .int)
  | 10 => (.array .int)
  | 11 => (.object "LeastSolutions$Equations")
  | 12 => .boolean
  | 13 => .boolean
  | 14 => .boolean
  | _ => .int
theorem n_LS : ∀ a, a < 16 → ∀ b, b < 16 → a ≠ b → (T_LS a).2.1 ≠ (T_LS b).2.1 := by decide +kernel
theorem t_LS_ok : ∀ k, k < 16 → parseFieldDescriptor (T_LS k).2.2.1 = some (t_LS k) := by decide +kernel
theorem in_LS : ∀ w ∈ u_ws R_LS T_LS 16, w ∈ wd := by
  show ∀ w ∈ ([(Jvm.Cond.laysFinal "LeastSolutions" "LeastSolutions" "text" "LLeastSolutions$Text;"), (Jvm.Cond.laysFinal "LeastSolutions" "LeastSolutions" "words" "LLeastSolutions$Words;"), (Jvm.Cond.laysFinal "LeastSolutions" "LeastSolutions" "builder" "LLeastSolutions$Builder;"), (Jvm.Cond.laysFinal "LeastSolutions" "LeastSolutions" "lattice" "LLeastSolutions$Lattice;"), (Jvm.Cond.laysFinal "LeastSolutions" "LeastSolutions" "search" "LLeastSolutions$Search;"), (Jvm.Cond.laysFinal "LeastSolutions" "LeastSolutions" "lists" "[LLeastSolutions$VectorList;"), (Jvm.Cond.laysFinal "LeastSolutions" "LeastSolutions" "cheapest" "LLeastSolutions$Cheapest;"), (Jvm.Cond.laysFinal "LeastSolutions" "LeastSolutions" "told" "[I"), (Jvm.Cond.laysFinal "LeastSolutions" "LeastSolutions" "rest" "[I"), (Jvm.Cond.laysFinal "LeastSolutions" "LeastSolutions" "taken" "[I"), (Jvm.Cond.laysFinal "LeastSolutions" "LeastSolutions" "bestVector" "[I"), (Jvm.Cond.lays "LeastSolutions" "LeastSolutions" "system" "LLeastSolutions$Equations;"), (Jvm.Cond.lays "LeastSolutions" "LeastSolutions" "hasSystem" "Z"), (Jvm.Cond.lays "LeastSolutions" "LeastSolutions" "hasSplit" "Z"), (Jvm.Cond.lays "LeastSolutions" "LeastSolutions" "hasBest" "Z"), (Jvm.Cond.lays "LeastSolutions" "LeastSolutions" "faultPlace" "I")] : List Cond), w ∈ wd
  exact List.forall_mem_cons.mpr ⟨k_305, List.forall_mem_cons.mpr ⟨k_307, List.forall_mem_cons.mpr ⟨k_309, List.forall_mem_cons.mpr ⟨k_311, List.forall_mem_cons.mpr ⟨k_313, List.forall_mem_cons.mpr ⟨k_315, List.forall_mem_cons.mpr ⟨k_317, List.forall_mem_cons.mpr ⟨k_319, List.forall_mem_cons.mpr ⟨k_321, List.forall_mem_cons.mpr ⟨k_323, List.forall_mem_cons.mpr ⟨k_325, List.forall_mem_cons.mpr ⟨k_327, List.forall_mem_cons.mpr ⟨k_329, List.forall_mem_cons.mpr ⟨k_331, List.forall_mem_cons.mpr ⟨k_333, List.forall_mem_cons.mpr ⟨k_335, fun _ h => absurd h List.not_mem_nil⟩⟩⟩⟩⟩⟩⟩⟩⟩⟩⟩⟩⟩⟩⟩⟩
theorem dv_LS : ∀ j, j < 16 → defaultValue (t_LS j) = vp_V [.null, .null, .null, .null, .null, .null, .null, .null, .null, .null, .null, .null, .int 0, .int 0, .int 0, .int 0] j := fun j hj => by
  rcases (show j = 0 ∨ j = 1 ∨ j = 2 ∨ j = 3 ∨ j = 4 ∨ j = 5 ∨ j = 6 ∨ j = 7 ∨ j = 8 ∨ j = 9 ∨ j = 10 ∨ j = 11 ∨ j = 12 ∨ j = 13 ∨ j = 14 ∨ j = 15 by omega) with rfl | rfl | rfl | rfl | rfl | rfl | rfl | rfl | rfl | rfl | rfl | rfl | rfl | rfl | rfl | rfl <;> rfl
def R_TX : String := "LeastSolutions$Text"
def T_TX : u_T := fun k => match k with
  | 0 => ("LeastSolutions$Text", "characters", "[B", true)
  | _ => ("LeastSolutions$Text", "length", "I", false)
def t_TX : Nat → FieldType := fun k => match k with
  | 0 => (.array .byte)
  | _ => .int
theorem n_TX : ∀ a, a < 2 → ∀ b, b < 2 → a ≠ b → (T_TX a).2.1 ≠ (T_TX b).2.1 := by decide +kernel
theorem t_TX_ok : ∀ k, k < 2 → parseFieldDescriptor (T_TX k).2.2.1 = some (t_TX k) := by decide +kernel
theorem in_TX : ∀ w ∈ u_ws R_TX T_TX 2, w ∈ wd := by
  show ∀ w ∈ ([(Jvm.Cond.laysFinal "LeastSolutions$Text" "LeastSolutions$Text" "characters" "[B"), (Jvm.Cond.lays "LeastSolutions$Text" "LeastSolutions$Text" "length" "I")] : List Cond), w ∈ wd
  exact List.forall_mem_cons.mpr ⟨k_40, List.forall_mem_cons.mpr ⟨k_42, fun _ h => absurd h List.not_mem_nil⟩⟩
theorem dv_TX : ∀ j, j < 2 → defaultValue (t_TX j) = vp_V [.null, .int 0] j := fun j hj => by
  rcases (show j = 0 ∨ j = 1 by omega) with rfl | rfl <;> rfl
def R_WO : String := "LeastSolutions$Words"
def T_WO : u_T := fun k => match k with
  | 0 => ("LeastSolutions$Words", "kinds", "[I", true)
  | 1 => ("LeastSolutions$Words", "places", "[I", true)
  | 2 => ("LeastSolutions$Words", "values", "[I", true)
  | 3 => ("LeastSolutions$Words", "total", "I", false)
  | 4 => ("LeastSolutions$Words", "state", "I", false)
  | 5 => ("LeastSolutions$Words", "isRightSide", "Z", false)
  | _ => ("LeastSolutions$Words", "faultPlace", "I", false)
def t_WO : Nat → FieldType := fun k => match k with
  | 0 => (.array .int)
  | 1 => (.array .int)
  | 2 => (.array .int)
  | 3 => .int
  | 4 => .int
  | 5 => .boolean
  | _ => .int
theorem n_WO : ∀ a, a < 7 → ∀ b, b < 7 → a ≠ b → (T_WO a).2.1 ≠ (T_WO b).2.1 := by decide +kernel
theorem t_WO_ok : ∀ k, k < 7 → parseFieldDescriptor (T_WO k).2.2.1 = some (t_WO k) := by decide +kernel
theorem in_WO : ∀ w ∈ u_ws R_WO T_WO 7, w ∈ wd := by
  show ∀ w ∈ ([(Jvm.Cond.laysFinal "LeastSolutions$Words" "LeastSolutions$Words" "kinds" "[I"), (Jvm.Cond.laysFinal "LeastSolutions$Words" "LeastSolutions$Words" "places" "[I"), (Jvm.Cond.laysFinal "LeastSolutions$Words" "LeastSolutions$Words" "values" "[I"), (Jvm.Cond.lays "LeastSolutions$Words" "LeastSolutions$Words" "total" "I"), (Jvm.Cond.lays "LeastSolutions$Words" "LeastSolutions$Words" "state" "I"), (Jvm.Cond.lays "LeastSolutions$Words" "LeastSolutions$Words" "isRightSide" "Z"), (Jvm.Cond.lays "LeastSolutions$Words" "LeastSolutions$Words" "faultPlace" "I")] : List Cond), w ∈ wd
  exact List.forall_mem_cons.mpr ⟨k_64, List.forall_mem_cons.mpr ⟨k_66, List.forall_mem_cons.mpr ⟨k_68, List.forall_mem_cons.mpr ⟨k_70, List.forall_mem_cons.mpr ⟨k_72, List.forall_mem_cons.mpr ⟨k_74, List.forall_mem_cons.mpr ⟨k_76, fun _ h => absurd h List.not_mem_nil⟩⟩⟩⟩⟩⟩⟩
theorem dv_WO : ∀ j, j < 7 → defaultValue (t_WO j) = vp_V [.null, .null, .null, .int 0, .int 0, .int 0, .int 0] j := fun j hj => by
  rcases (show j = 0 ∨ j = 1 ∨ j = 2 ∨ j = 3 ∨ j = 4 ∨ j = 5 ∨ j = 6 by omega) with rfl | rfl | rfl | rfl | rfl | rfl | rfl <;> rfl
def R_BU : String := "LeastSolutions$Builder"
def T_BU : u_T := fun k => match k with
  | 0 => ("LeastSolutions$Builder", "result", "LLeastSolutions$Equations;", false)
  | 1 => ("LeastSolutions$Builder", "row", "I", false)
  | 2 => ("LeastSolutions$Builder", "side", "I", false)
  | 3 => ("LeastSolutions$Builder", "sign", "I", false)
  | 4 => ("LeastSolutions$Builder", "open", "I", false)
  | 5 => ("LeastSolutions$Builder", "relation", "I", false)
  | 6 => ("LeastSolutions$Builder", "relationPlace", "I", false)
  | _ => ("LeastSolutions$Builder", "faultPlace", "I", false)
def t_BU : Nat → FieldType := fun k => match k with
  | 0 => (.object "LeastSolutions$Equations")
  | 1 => .int
  | 2 => .int
  | 3 => .int
  | 4 => .int
  | 5 => .int
  | 6 => .int
  | _ => .int
theorem n_BU : ∀ a, a < 8 → ∀ b, b < 8 → a ≠ b → (T_BU a).2.1 ≠ (T_BU b).2.1 := by decide +kernel
theorem t_BU_ok : ∀ k, k < 8 → parseFieldDescriptor (T_BU k).2.2.1 = some (t_BU k) := by decide +kernel
theorem in_BU : ∀ w ∈ u_ws R_BU T_BU 8, w ∈ wd := by
  show ∀ w ∈ ([(Jvm.Cond.lays "LeastSolutions$Builder" "LeastSolutions$Builder" "result" "LLeastSolutions$Equations;"), (Jvm.Cond.lays "LeastSolutions$Builder" "LeastSolutions$Builder" "row" "I"), (Jvm.Cond.lays "LeastSolutions$Builder" "LeastSolutions$Builder" "side" "I"), (Jvm.Cond.lays "LeastSolutions$Builder" "LeastSolutions$Builder" "sign" "I"), (Jvm.Cond.lays "LeastSolutions$Builder" "LeastSolutions$Builder" "open" "I"), (Jvm.Cond.lays "LeastSolutions$Builder" "LeastSolutions$Builder" "relation" "I"), (Jvm.Cond.lays "LeastSolutions$Builder" "LeastSolutions$Builder" "relationPlace" "I"), (Jvm.Cond.lays "LeastSolutions$Builder" "LeastSolutions$Builder" "faultPlace" "I")] : List Cond), w ∈ wd
  exact List.forall_mem_cons.mpr ⟨k_142, List.forall_mem_cons.mpr ⟨k_144, List.forall_mem_cons.mpr ⟨k_146, List.forall_mem_cons.mpr ⟨k_148, List.forall_mem_cons.mpr ⟨k_150, List.forall_mem_cons.mpr ⟨k_152, List.forall_mem_cons.mpr ⟨k_154, List.forall_mem_cons.mpr ⟨k_156, fun _ h => absurd h List.not_mem_nil⟩⟩⟩⟩⟩⟩⟩⟩
theorem dv_BU : ∀ j, j < 8 → defaultValue (t_BU j) = vp_V [.null, .int 0, .int 0, .int 0, .int 0, .int 0, .int 0, .int 0] j := fun j hj => by
  rcases (show j = 0 ∨ j = 1 ∨ j = 2 ∨ j = 3 ∨ j = 4 ∨ j = 5 ∨ j = 6 ∨ j = 7 by omega) with rfl | rfl | rfl | rfl | rfl | rfl | rfl | rfl <;> rfl
def R_EQ : String := "LeastSolutions$Equations"
def T_EQ : u_T := fun k => match k with
  | 0 => ("LeastSolutions$Equations", "a", "[[I", true)
  | 1 => ("LeastSolutions$Equations", "b", "[I", true)
  | 2 => ("LeastSolutions$Equations", "letters", "[I", true)
  | 3 => ("LeastSolutions$Equations", "slackRows", "[I", true)
  | 4 => ("LeastSolutions$Equations", "slackNumbers", "[I", true)
  | 5 => ("LeastSolutions$Equations", "rows", "I", false)
  | 6 => ("LeastSolutions$Equations", "variables", "I", false)
  | _ => ("LeastSolutions$Equations", "slacks", "I", false)
def t_EQ : Nat → FieldType := fun k => match k with
  | 0 => (.array (.array .int))
  | 1 => (.array .int)
  | 2 => (.array .int)
  | 3 => (.array .int)
  | 4 => (.array .int)
  | 5 => .int
  | 6 => .int
  | _ => .int
theorem n_EQ : ∀ a, a < 8 → ∀ b, b < 8 → a ≠ b → (T_EQ a).2.1 ≠ (T_EQ b).2.1 := by decide +kernel
theorem t_EQ_ok : ∀ k, k < 8 → parseFieldDescriptor (T_EQ k).2.2.1 = some (t_EQ k) := by decide +kernel
theorem in_EQ : ∀ w ∈ u_ws R_EQ T_EQ 8, w ∈ wd := by
  show ∀ w ∈ ([(Jvm.Cond.laysFinal "LeastSolutions$Equations" "LeastSolutions$Equations" "a" "[[I"), (Jvm.Cond.laysFinal "LeastSolutions$Equations" "LeastSolutions$Equations" "b" "[I"), (Jvm.Cond.laysFinal "LeastSolutions$Equations" "LeastSolutions$Equations" "letters" "[I"), (Jvm.Cond.laysFinal "LeastSolutions$Equations" "LeastSolutions$Equations" "slackRows" "[I"), (Jvm.Cond.laysFinal "LeastSolutions$Equations" "LeastSolutions$Equations" "slackNumbers" "[I"), (Jvm.Cond.lays "LeastSolutions$Equations" "LeastSolutions$Equations" "rows" "I"), (Jvm.Cond.lays "LeastSolutions$Equations" "LeastSolutions$Equations" "variables" "I"), (Jvm.Cond.lays "LeastSolutions$Equations" "LeastSolutions$Equations" "slacks" "I")] : List Cond), w ∈ wd
  exact List.forall_mem_cons.mpr ⟨k_116, List.forall_mem_cons.mpr ⟨k_118, List.forall_mem_cons.mpr ⟨k_120, List.forall_mem_cons.mpr ⟨k_122, List.forall_mem_cons.mpr ⟨k_124, List.forall_mem_cons.mpr ⟨k_126, List.forall_mem_cons.mpr ⟨k_128, List.forall_mem_cons.mpr ⟨k_130, fun _ h => absurd h List.not_mem_nil⟩⟩⟩⟩⟩⟩⟩⟩
theorem dv_EQ : ∀ j, j < 8 → defaultValue (t_EQ j) = vp_V [.null, .null, .null, .null, .null, .int 0, .int 0, .int 0] j := fun j hj => by
  rcases (show j = 0 ∨ j = 1 ∨ j = 2 ∨ j = 3 ∨ j = 4 ∨ j = 5 ∨ j = 6 ∨ j = 7 by omega) with rfl | rfl | rfl | rfl | rfl | rfl | rfl | rfl <;> rfl
def R_LA : String := "LeastSolutions$Lattice"
def T_LA : u_T := fun k => match k with
  | 0 => ("LeastSolutions$Lattice", "basis", "[[J", true)
  | 1 => ("LeastSolutions$Lattice", "rowLeadingAt", "[I", true)
  | 2 => ("LeastSolutions$Lattice", "kernelRows", "[I", true)
  | 3 => ("LeastSolutions$Lattice", "target", "[J", true)
  | 4 => ("LeastSolutions$Lattice", "fresh", "[J", true)
  | 5 => ("LeastSolutions$Lattice", "kernelVectors", "I", false)
  | 6 => ("LeastSolutions$Lattice", "height", "I", false)
  | 7 => ("LeastSolutions$Lattice", "width", "I", false)
  | _ => ("LeastSolutions$Lattice", "used", "I", false)
def t_LA : Nat → FieldType := fun k => match k with
  | 0 => (.array (.array .long))
  | 1 => (.array .int)
  | 2 => (.array .int)
  | 3 => (.array .long)
  | 4 => (.array .long)
  | 5 => .int
  | 6 => .int
  | 7 => .int
  | _ => .int
theorem n_LA : ∀ a, a < 9 → ∀ b, b < 9 → a ≠ b → (T_LA a).2.1 ≠ (T_LA b).2.1 := by decide +kernel
theorem t_LA_ok : ∀ k, k < 9 → parseFieldDescriptor (T_LA k).2.2.1 = some (t_LA k) := by decide +kernel
theorem in_LA : ∀ w ∈ u_ws R_LA T_LA 9, w ∈ wd := by
  show ∀ w ∈ ([(Jvm.Cond.laysFinal "LeastSolutions$Lattice" "LeastSolutions$Lattice" "basis" "[[J"), (Jvm.Cond.laysFinal "LeastSolutions$Lattice" "LeastSolutions$Lattice" "rowLeadingAt" "[I"), (Jvm.Cond.laysFinal "LeastSolutions$Lattice" "LeastSolutions$Lattice" "kernelRows" "[I"), (Jvm.Cond.laysFinal "LeastSolutions$Lattice" "LeastSolutions$Lattice" "target" "[J"), (Jvm.Cond.laysFinal "LeastSolutions$Lattice" "LeastSolutions$Lattice" "fresh" "[J"), (Jvm.Cond.lays "LeastSolutions$Lattice" "LeastSolutions$Lattice" "kernelVectors" "I"), (Jvm.Cond.lays "LeastSolutions$Lattice" "LeastSolutions$Lattice" "height" "I"), (Jvm.Cond.lays "LeastSolutions$Lattice" "LeastSolutions$Lattice" "width" "I"), (Jvm.Cond.lays "LeastSolutions$Lattice" "LeastSolutions$Lattice" "used" "I")] : List Cond), w ∈ wd
  exact List.forall_mem_cons.mpr ⟨k_177, List.forall_mem_cons.mpr ⟨k_179, List.forall_mem_cons.mpr ⟨k_181, List.forall_mem_cons.mpr ⟨k_183, List.forall_mem_cons.mpr ⟨k_185, List.forall_mem_cons.mpr ⟨k_187, List.forall_mem_cons.mpr ⟨k_189, List.forall_mem_cons.mpr ⟨k_191, List.forall_mem_cons.mpr ⟨k_193, fun _ h => absurd h List.not_mem_nil⟩⟩⟩⟩⟩⟩⟩⟩⟩
theorem dv_LA : ∀ j, j < 9 → defaultValue (t_LA j) = vp_V [.null, .null, .null, .null, .null, .int 0, .int 0, .int 0, .int 0] j := fun j hj => by
  rcases (show j = 0 ∨ j = 1 ∨ j = 2 ∨ j = 3 ∨ j = 4 ∨ j = 5 ∨ j = 6 ∨ j = 7 ∨ j = 8 by omega) with rfl | rfl | rfl | rfl | rfl | rfl | rfl | rfl | rfl <;> rfl
def R_SE : String := "LeastSolutions$Search"
def T_SE : u_T := fun k => match k with
  | 0 => ("LeastSolutions$Search", "vector", "[I", true)
  | 1 => ("LeastSolutions$Search", "lack", "[I", true)
  | 2 => ("LeastSolutions$Search", "lowest", "[[I", true)
  | 3 => ("LeastSolutions$Search", "highest", "[[I", true)
  | 4 => ("LeastSolutions$Search", "a", "[[I", true)
  | 5 => ("LeastSolutions$Search", "rows", "I", false)
  | 6 => ("LeastSolutions$Search", "columns", "I", false)
  | _ => ("LeastSolutions$Search", "isSigned", "Z", false)
def t_SE : Nat → FieldType := fun k => match k with
  | 0 => (.array .int)
  | 1 => (.array .int)
  | 2 => (.array (.array .int))
  | 3 => (.array (.array .int))
  | 4 => (.array (.array .int))
  | 5 => .int
  | 6 => .int
  | _ => .boolean
theorem n_SE : ∀ a, a < 8 → ∀ b, b < 8 → a ≠ b → (T_SE a).2.1 ≠ (T_SE b).2.1 := by decide +kernel
theorem t_SE_ok : ∀ k, k < 8 → parseFieldDescriptor (T_SE k).2.2.1 = some (t_SE k) := by decide +kernel
theorem in_SE : ∀ w ∈ u_ws R_SE T_SE 8, w ∈ wd := by
  show ∀ w ∈ ([(Jvm.Cond.laysFinal "LeastSolutions$Search" "LeastSolutions$Search" "vector" "[I"), (Jvm.Cond.laysFinal "LeastSolutions$Search" "LeastSolutions$Search" "lack" "[I"), (Jvm.Cond.laysFinal "LeastSolutions$Search" "LeastSolutions$Search" "lowest" "[[I"), (Jvm.Cond.laysFinal "LeastSolutions$Search" "LeastSolutions$Search" "highest" "[[I"), (Jvm.Cond.laysFinal "LeastSolutions$Search" "LeastSolutions$Search" "a" "[[I"), (Jvm.Cond.lays "LeastSolutions$Search" "LeastSolutions$Search" "rows" "I"), (Jvm.Cond.lays "LeastSolutions$Search" "LeastSolutions$Search" "columns" "I"), (Jvm.Cond.lays "LeastSolutions$Search" "LeastSolutions$Search" "isSigned" "Z")] : List Cond), w ∈ wd
  exact List.forall_mem_cons.mpr ⟨k_212, List.forall_mem_cons.mpr ⟨k_214, List.forall_mem_cons.mpr ⟨k_216, List.forall_mem_cons.mpr ⟨k_218, List.forall_mem_cons.mpr ⟨k_220, List.forall_mem_cons.mpr ⟨k_222, List.forall_mem_cons.mpr ⟨k_224, List.forall_mem_cons.mpr ⟨k_226, fun _ h => absurd h List.not_mem_nil⟩⟩⟩⟩⟩⟩⟩⟩
theorem dv_SE : ∀ j, j < 8 → defaultValue (t_SE j) = vp_V [.null, .null, .null, .null, .null, .int 0, .int 0, .int 0] j := fun j hj => by
  rcases (show j = 0 ∨ j = 1 ∨ j = 2 ∨ j = 3 ∨ j = 4 ∨ j = 5 ∨ j = 6 ∨ j = 7 by omega) with rfl | rfl | rfl | rfl | rfl | rfl | rfl | rfl <;> rfl
def R_VL : String := "LeastSolutions$VectorList"
def T_VL : u_T := fun k => match k with
  | 0 => ("LeastSolutions$VectorList", "numbers", "[B", true)
  | 1 => ("LeastSolutions$VectorList", "isThere", "Z", false)
  | 2 => ("LeastSolutions$VectorList", "columns", "I", false)
  | 3 => ("LeastSolutions$VectorList", "bound", "I", false)
  | 4 => ("LeastSolutions$VectorList", "total", "I", false)
  | _ => ("LeastSolutions$VectorList", "lesser", "I", false)
def t_VL : Nat → FieldType := fun k => match k with
  | 0 => (.array .byte)
  | 1 => .boolean
  | 2 => .int
  | 3 => .int
  | 4 => .int
  | _ => .int
theorem n_VL : ∀ a, a < 6 → ∀ b, b < 6 → a ≠ b → (T_VL a).2.1 ≠ (T_VL b).2.1 := by decide +kernel
theorem t_VL_ok : ∀ k, k < 6 → parseFieldDescriptor (T_VL k).2.2.1 = some (t_VL k) := by decide +kernel
theorem in_VL : ∀ w ∈ u_ws R_VL T_VL 6, w ∈ wd := by
  show ∀ w ∈ ([(Jvm.Cond.laysFinal "LeastSolutions$VectorList" "LeastSolutions$VectorList" "numbers" "[B"), (Jvm.Cond.lays "LeastSolutions$VectorList" "LeastSolutions$VectorList" "isThere" "Z"), (Jvm.Cond.lays "LeastSolutions$VectorList" "LeastSolutions$VectorList" "columns" "I"), (Jvm.Cond.lays "LeastSolutions$VectorList" "LeastSolutions$VectorList" "bound" "I"), (Jvm.Cond.lays "LeastSolutions$VectorList" "LeastSolutions$VectorList" "total" "I"), (Jvm.Cond.lays "LeastSolutions$VectorList" "LeastSolutions$VectorList" "lesser" "I")] : List Cond), w ∈ wd
  exact List.forall_mem_cons.mpr ⟨k_276, List.forall_mem_cons.mpr ⟨k_278, List.forall_mem_cons.mpr ⟨k_280, List.forall_mem_cons.mpr ⟨k_282, List.forall_mem_cons.mpr ⟨k_284, List.forall_mem_cons.mpr ⟨k_286, fun _ h => absurd h List.not_mem_nil⟩⟩⟩⟩⟩⟩
theorem dv_VL : ∀ j, j < 6 → defaultValue (t_VL j) = vp_V [.null, .int 0, .int 0, .int 0, .int 0, .int 0] j := fun j hj => by
  rcases (show j = 0 ∨ j = 1 ∨ j = 2 ∨ j = 3 ∨ j = 4 ∨ j = 5 by omega) with rfl | rfl | rfl | rfl | rfl | rfl <;> rfl
def R_CH : String := "LeastSolutions$Cheapest"
def T_CH : u_T := fun k => match k with
  | 0 => ("LeastSolutions$Cheapest", "vector", "[I", true)
  | 1 => ("LeastSolutions$Cheapest", "costs", "[I", true)
  | 2 => ("LeastSolutions$Cheapest", "columns", "I", false)
  | 3 => ("LeastSolutions$Cheapest", "price", "I", false)
  | _ => ("LeastSolutions$Cheapest", "isFound", "Z", false)
def t_CH : Nat → FieldType := fun k => match k with
  | 0 => (.array .int)
  | 1 => (.array .int)
  | 2 => .int
  | 3 => .int
  | _ => .boolean
theorem n_CH : ∀ a, a < 5 → ∀ b, b < 5 → a ≠ b → (T_CH a).2.1 ≠ (T_CH b).2.1 := by decide +kernel
theorem t_CH_ok : ∀ k, k < 5 → parseFieldDescriptor (T_CH k).2.2.1 = some (t_CH k) := by decide +kernel
theorem in_CH : ∀ w ∈ u_ws R_CH T_CH 5, w ∈ wd := by
  show ∀ w ∈ ([(Jvm.Cond.laysFinal "LeastSolutions$Cheapest" "LeastSolutions$Cheapest" "vector" "[I"), (Jvm.Cond.laysFinal "LeastSolutions$Cheapest" "LeastSolutions$Cheapest" "costs" "[I"), (Jvm.Cond.lays "LeastSolutions$Cheapest" "LeastSolutions$Cheapest" "columns" "I"), (Jvm.Cond.lays "LeastSolutions$Cheapest" "LeastSolutions$Cheapest" "price" "I"), (Jvm.Cond.lays "LeastSolutions$Cheapest" "LeastSolutions$Cheapest" "isFound" "Z")] : List Cond), w ∈ wd
  exact List.forall_mem_cons.mpr ⟨k_249, List.forall_mem_cons.mpr ⟨k_251, List.forall_mem_cons.mpr ⟨k_253, List.forall_mem_cons.mpr ⟨k_255, List.forall_mem_cons.mpr ⟨k_257, fun _ h => absurd h List.not_mem_nil⟩⟩⟩⟩⟩
theorem dv_CH : ∀ j, j < 5 → defaultValue (t_CH j) = vp_V [.null, .null, .int 0, .int 0, .int 0] j := fun j hj => by
  rcases (show j = 0 ∨ j = 1 ∨ j = 2 ∨ j = 3 ∨ j = 4 by omega) with rfl | rfl | rfl | rfl | rfl <;> rfl
def R_MO : String := "LeastSolutionsModel"
def T_MO : u_T := fun k => match k with
  | 0 => ("LeastSolutionsModel", "thrown", "I", false)
  | 1 => ("LeastSolutionsModel", "text", "[I", true)
  | 2 => ("LeastSolutionsModel", "length", "I", false)
  | 3 => ("LeastSolutionsModel", "wrong", "I", false)
  | 4 => ("LeastSolutionsModel", "kinds", "[I", true)
  | 5 => ("LeastSolutionsModel", "places", "[I", true)
  | 6 => ("LeastSolutionsModel", "values", "[I", true)
  | 7 => ("LeastSolutionsModel", "words", "I", false)
  | 8 => ("LeastSolutionsModel", "draftLetters", "[I", true)
  | 9 => ("LeastSolutionsModel", "draftVariables", "I", false)
  | 10 => ("LeastSolutionsModel", "draftSlacks", "I", false)
  | 11 => ("LeastSolutionsModel", "draftRows", "I", false)
  | 12 => ("LeastSolutionsModel", "draftNumbers", "[I", true)
  | 13 => ("LeastSolutionsModel", "draftSigns", "[I", true)
  | 14 => ("LeastSolutionsModel", "known", "Z", false)
  | 15 => ("LeastSolutionsModel", "rows", "I", false)
  | 16 => ("LeastSolutionsModel", "variables", "I", false)
  | 17 => ("LeastSolutionsModel", "columns", "I", false)
  | 18 => ("LeastSolutionsModel", "letters", "[I", true)
  | 19 => ("LeastSolutionsModel", "numbers", "[I", true)
  | 20 => ("LeastSolutionsModel", "isList", "[Z", true)
  | 21 => ("LeastSolutionsModel", "bounds", "[I", true)
  | 22 => ("LeastSolutionsModel", "sizes", "[I", true)
  | 23 => ("LeastSolutionsModel", "lists", "[B", true)
  | 24 => ("LeastSolutionsModel", "told", "[I", true)
  | 25 => ("LeastSolutionsModel", "costs", "[I", true)
  | 26 => ("LeastSolutionsModel", "isSplit", "Z", false)
  | 27 => ("LeastSolutionsModel", "times", "[I", true)
  | 28 => ("LeastSolutionsModel", "isBest", "Z", false)
  | 29 => ("LeastSolutionsModel", "bestOne", "[I", true)
  | 30 => ("LeastSolutionsModel", "basis", "[J", true)
  | 31 => ("LeastSolutionsModel", "vectors", "I", false)
  | 32 => ("LeastSolutionsModel", "one", "[J", true)
  | 33 => ("LeastSolutionsModel", "isOne", "Z", false)
  | 34 => ("LeastSolutionsModel", "along", "[J", true)
  | _ => ("LeastSolutionsModel", "now", "[I", true)
def t_MO : Nat → FieldType := fun k => match k with
  | 0 => .int
  | 1 => (.array .int)
  | 2 => .int
  | 3 => .int
  | 4 => (.array .int)
  | 5 => (.array .int)
  | 6 => (.array .int)
  | 7 => .int
  | 8 => (.array .int)
  | 9 => .int
  | 10 => .int
  | 11 => .int
  | 12 => (.array .int)
  | 13 => (.array .int)
  | 14 => .boolean
  | 15 => .int
  | 16 => .int
  | 17 => .int
  | 18 => (.array .int)
  | 19 => (.array .int)
  | 20 => (.array .boolean)
  | 21 => (.array .int)
  | 22 => (.array .int)
  | 23 => (.array .byte)
  | 24 => (.array .int)
  | 25 => (.array .int)
  | 26 => .boolean
  | 27 => (.array .int)
  | 28 => .boolean
  | 29 => (.array .int)
  | 30 => (.array .long)
  | 31 => .int
  | 32 => (.array .long)
  | 33 => .boolean
  | 34 => (.array .long)
  | _ => (.array .int)
theorem n_MO : ∀ a, a < 36 → ∀ b, b < 36 → a ≠ b → (T_MO a).2.1 ≠ (T_MO b).2.1 := by decide +kernel
theorem t_MO_ok : ∀ k, k < 36 → parseFieldDescriptor (T_MO k).2.2.1 = some (t_MO k) := by decide +kernel
theorem in_MO : ∀ w ∈ u_ws R_MO T_MO 36, w ∈ wd := by
  show ∀ w ∈ ([(Jvm.Cond.lays "LeastSolutionsModel" "LeastSolutionsModel" "thrown" "I"), (Jvm.Cond.laysFinal "LeastSolutionsModel" "LeastSolutionsModel" "text" "[I"), (Jvm.Cond.lays "LeastSolutionsModel" "LeastSolutionsModel" "length" "I"), (Jvm.Cond.lays "LeastSolutionsModel" "LeastSolutionsModel" "wrong" "I"), (Jvm.Cond.laysFinal "LeastSolutionsModel" "LeastSolutionsModel" "kinds" "[I"), (Jvm.Cond.laysFinal "LeastSolutionsModel" "LeastSolutionsModel" "places" "[I"), (Jvm.Cond.laysFinal "LeastSolutionsModel" "LeastSolutionsModel" "values" "[I"), (Jvm.Cond.lays "LeastSolutionsModel" "LeastSolutionsModel" "words" "I"), (Jvm.Cond.laysFinal "LeastSolutionsModel" "LeastSolutionsModel" "draftLetters" "[I"), (Jvm.Cond.lays "LeastSolutionsModel" "LeastSolutionsModel" "draftVariables" "I"), (Jvm.Cond.lays "LeastSolutionsModel" "LeastSolutionsModel" "draftSlacks" "I"), (Jvm.Cond.lays "LeastSolutionsModel" "LeastSolutionsModel" "draftRows" "I"), (Jvm.Cond.laysFinal "LeastSolutionsModel" "LeastSolutionsModel" "draftNumbers" "[I"), (Jvm.Cond.laysFinal "LeastSolutionsModel" "LeastSolutionsModel" "draftSigns" "[I"), (Jvm.Cond.lays "LeastSolutionsModel" "LeastSolutionsModel" "known" "Z"), (Jvm.Cond.lays "LeastSolutionsModel" "LeastSolutionsModel" "rows" "I"), (Jvm.Cond.lays "LeastSolutionsModel" "LeastSolutionsModel" "variables" "I"), (Jvm.Cond.lays "LeastSolutionsModel" "LeastSolutionsModel" "columns" "I"), (Jvm.Cond.laysFinal "LeastSolutionsModel" "LeastSolutionsModel" "letters" "[I"), (Jvm.Cond.laysFinal "LeastSolutionsModel" "LeastSolutionsModel" "numbers" "[I"), (Jvm.Cond.laysFinal "LeastSolutionsModel" "LeastSolutionsModel" "isList" "[Z"), (Jvm.Cond.laysFinal "LeastSolutionsModel" "LeastSolutionsModel" "bounds" "[I"), (Jvm.Cond.laysFinal "LeastSolutionsModel" "LeastSolutionsModel" "sizes" "[I"), (Jvm.Cond.laysFinal "LeastSolutionsModel" "LeastSolutionsModel" "lists" "[B"), (Jvm.Cond.laysFinal "LeastSolutionsModel" "LeastSolutionsModel" "told" "[I"), (Jvm.Cond.laysFinal "LeastSolutionsModel" "LeastSolutionsModel" "costs" "[I"), (Jvm.Cond.lays "LeastSolutionsModel" "LeastSolutionsModel" "isSplit" "Z"), (Jvm.Cond.laysFinal "LeastSolutionsModel" "LeastSolutionsModel" "times" "[I"), (Jvm.Cond.lays "LeastSolutionsModel" "LeastSolutionsModel" "isBest" "Z"), (Jvm.Cond.laysFinal "LeastSolutionsModel" "LeastSolutionsModel" "bestOne" "[I"), (Jvm.Cond.laysFinal "LeastSolutionsModel" "LeastSolutionsModel" "basis" "[J"), (Jvm.Cond.lays "LeastSolutionsModel" "LeastSolutionsModel" "vectors" "I"), (Jvm.Cond.laysFinal "LeastSolutionsModel" "LeastSolutionsModel" "one" "[J"), (Jvm.Cond.lays "LeastSolutionsModel" "LeastSolutionsModel" "isOne" "Z"), (Jvm.Cond.laysFinal "LeastSolutionsModel" "LeastSolutionsModel" "along" "[J"), (Jvm.Cond.laysFinal "LeastSolutionsModel" "LeastSolutionsModel" "now" "[I")] : List Cond), w ∈ wd
  exact List.forall_mem_cons.mpr ⟨k_922, List.forall_mem_cons.mpr ⟨k_924, List.forall_mem_cons.mpr ⟨k_926, List.forall_mem_cons.mpr ⟨k_928, List.forall_mem_cons.mpr ⟨k_930, List.forall_mem_cons.mpr ⟨k_932, List.forall_mem_cons.mpr ⟨k_934, List.forall_mem_cons.mpr ⟨k_936, List.forall_mem_cons.mpr ⟨k_938, List.forall_mem_cons.mpr ⟨k_940, List.forall_mem_cons.mpr ⟨k_942, List.forall_mem_cons.mpr ⟨k_944, List.forall_mem_cons.mpr ⟨k_946, List.forall_mem_cons.mpr ⟨k_948, List.forall_mem_cons.mpr ⟨k_950, List.forall_mem_cons.mpr ⟨k_952, List.forall_mem_cons.mpr ⟨k_954, List.forall_mem_cons.mpr ⟨k_956, List.forall_mem_cons.mpr ⟨k_958, List.forall_mem_cons.mpr ⟨k_960, List.forall_mem_cons.mpr ⟨k_962, List.forall_mem_cons.mpr ⟨k_964, List.forall_mem_cons.mpr ⟨k_966, List.forall_mem_cons.mpr ⟨k_968, List.forall_mem_cons.mpr ⟨k_970, List.forall_mem_cons.mpr ⟨k_972, List.forall_mem_cons.mpr ⟨k_974, List.forall_mem_cons.mpr ⟨k_976, List.forall_mem_cons.mpr ⟨k_978, List.forall_mem_cons.mpr ⟨k_980, List.forall_mem_cons.mpr ⟨k_982, List.forall_mem_cons.mpr ⟨k_984, List.forall_mem_cons.mpr ⟨k_986, List.forall_mem_cons.mpr ⟨k_988, List.forall_mem_cons.mpr ⟨k_990, List.forall_mem_cons.mpr ⟨k_992, fun _ h => absurd h List.not_mem_nil⟩⟩⟩⟩⟩⟩⟩⟩⟩⟩⟩⟩⟩⟩⟩⟩⟩⟩⟩⟩⟩⟩⟩⟩⟩⟩⟩⟩⟩⟩⟩⟩⟩⟩⟩⟩
theorem dv_MO : ∀ j, j < 36 → defaultValue (t_MO j) = vp_V [.int 0, .null, .int 0, .int 0, .null, .null, .null, .int 0, .null, .int 0, .int 0, .int 0, .null, .null, .int 0, .int 0, .int 0, .int 0, .null, .null, .null, .null, .null, .null, .null, .null, .int 0, .null, .int 0, .null, .null, .int 0, .null, .int 0, .null, .null] j := fun j hj => by
  rcases (show j = 0 ∨ j = 1 ∨ j = 2 ∨ j = 3 ∨ j = 4 ∨ j = 5 ∨ j = 6 ∨ j = 7 ∨ j = 8 ∨ j = 9 ∨ j = 10 ∨ j = 11 ∨ j = 12 ∨ j = 13 ∨ j = 14 ∨ j = 15 ∨ j = 16 ∨ j = 17 ∨ j = 18 ∨ j = 19 ∨ j = 20 ∨ j = 21 ∨ j = 22 ∨ j = 23 ∨ j = 24 ∨ j = 25 ∨ j = 26 ∨ j = 27 ∨ j = 28 ∨ j = 29 ∨ j = 30 ∨ j = 31 ∨ j = 32 ∨ j = 33 ∨ j = 34 ∨ j = 35 by omega) with rfl | rfl | rfl | rfl | rfl | rfl | rfl | rfl | rfl | rfl | rfl | rfl | rfl | rfl | rfl | rfl | rfl | rfl | rfl | rfl | rfl | rfl | rfl | rfl | rfl | rfl | rfl | rfl | rfl | rfl | rfl | rfl | rfl | rfl | rfl | rfl <;> rfl
def R_LW : String := "LeastSolutionsLaw"
abbrev cls : List vw_C := [(R_LS, T_LS, 16), (R_TX, T_TX, 2), (R_WO, T_WO, 7), (R_BU, T_BU, 8), (R_EQ, T_EQ, 8), (R_LA, T_LA, 9), (R_SE, T_SE, 8), (R_VL, T_VL, 6), (R_CH, T_CH, 5), (R_MO, T_MO, 36)]
end
section
/-! calls of methods that write nothing and make nothing, out of a method that has written and made nothing: the heap is the very same -/
theorem pu_heap {s T' : State} (h : s.sameButNew (T'.setVm s.vm) [] 0 0) : T'.heap = s.heap := by
  obtain ⟨h1, h2⟩ := xt_kept (U := T') (k := 0) (n := 0) h
  obtain ⟨-, -, h3, -⟩ := h
  have h3' : T'.heap.size ≤ s.heap.size + 0 := h3
  apply Array.ext_getElem?
  intro i
  by_cases hi : i < s.heap.size
  · exact h2 i hi id
  · rw [Array.getElem?_eq_none (by omega), Array.getElem?_eq_none (by omega)]
section PU
variable {p : Program} {l : Launch} {e : Env} {R : Room} {s : State} {m : MethodId} {args : Array Value} {below : List Frame} {meth : Method} {c : Code} {Q : State → Prop} {pc : Nat} {ls : Array Slot} {st0 rest : List Value} {a : Array Value}
theorem pu_calli {post : Int32 → Unit → Prop} {B : Unit → State → Prop} (hr : va_Run p l e R s m args below meth c s.heap [] 0 0 0 0 (F0 m pc ls st0) rest (va_Qi post B (fun _ => False) a) (fun _ => False))
    (kk : ∀ r : Int32, post r () → W p l e R s m args below meth c s.heap [] 0 0 Q (F0 m (pc + 3) ls (.int r :: rest))) : W p l e R s m args below meth c s.heap [] 0 0 Q (F0 m pc ls st0) := by
  intro T hT X
  obtain ⟨v, st₀, t, T', L, h0, X', hL, e1, e2, ⟨⟨r, u, hv, hp, hb⟩, hz, hk⟩, st⟩ := hr T hT X
  cases hv
  have hL0 : L = [] := List.eq_nil_iff_forall_not_mem.mpr fun q hq => hL q hq
  subst hL0
  obtain ⟨t2, a1, b1⟩ := kk r hp T' (pu_heap X'.same) X'
  exact ⟨t2, st t2 a1, b1⟩
theorem pu_calll {post : Int64 → Unit → Prop} {B : Unit → State → Prop} (hr : va_Run p l e R s m args below meth c s.heap [] 0 0 0 0 (F0 m pc ls st0) rest (va_Ql post B (fun _ => False) a) (fun _ => False))
    (kk : ∀ r : Int64, post r () → W p l e R s m args below meth c s.heap [] 0 0 Q (F0 m (pc + 3) ls (.long r :: rest))) : W p l e R s m args below meth c s.heap [] 0 0 Q (F0 m pc ls st0) := by
  intro T hT X
  obtain ⟨v, st₀, t, T', L, h0, X', hL, e1, e2, ⟨⟨r, u, hv, hp, hb⟩, hz, hk⟩, st⟩ := hr T hT X
  cases hv
  have hL0 : L = [] := List.eq_nil_iff_forall_not_mem.mpr fun q hq => hL q hq
  subst hL0
  obtain ⟨t2, a1, b1⟩ := kk r hp T' (pu_heap X'.same) X'
  exact ⟨t2, st t2 a1, b1⟩
theorem pu_callv {post : Unit → Prop} {B : Unit → State → Prop} (hr : va_Run p l e R s m args below meth c s.heap [] 0 0 0 0 (F0 m pc ls st0) rest (va_Qv post B (fun _ => False) a) (fun _ => False))
    (kk : W p l e R s m args below meth c s.heap [] 0 0 Q (F0 m (pc + 3) ls rest)) : W p l e R s m args below meth c s.heap [] 0 0 Q (F0 m pc ls st0) := by
  intro T hT X
  obtain ⟨v, st₀, t, T', L, h0, X', hL, e1, e2, ⟨⟨u, hv, hp, hb⟩, hz, hk⟩, st⟩ := hr T hT X
  cases hv
  have hL0 : L = [] := List.eq_nil_iff_forall_not_mem.mpr fun q hq => hL q hq
  subst hL0
  obtain ⟨t2, a1, b1⟩ := kk T' (pu_heap X'.same) X'
  exact ⟨t2, st t2 a1, b1⟩
end PU
end
section
theorem k_1 : (Jvm.Cond.initialized "LeastSolutions") ∈ wd := wd_t (List.mem_of_getElem? (i := 1) (by decide +kernel)) rfl
theorem k_5 : (Jvm.Cond.initialized "LeastSolutions$Equations") ∈ wd := wd_t (List.mem_of_getElem? (i := 5) (by decide +kernel)) rfl
theorem k_17 : (Jvm.Cond.initialized "java/lang/IndexOutOfBoundsException") ∈ wd := wd_t (List.mem_of_getElem? (i := 17) (by decide +kernel)) rfl
theorem k_18 : (Jvm.Cond.initialized "java/lang/IllegalStateException") ∈ wd := wd_t (List.mem_of_getElem? (i := 18) (by decide +kernel)) rfl
theorem k_19 : (Jvm.Cond.initialized "java/lang/IllegalArgumentException") ∈ wd := wd_t (List.mem_of_getElem? (i := 19) (by decide +kernel)) rfl
theorem k_113 : (Jvm.Cond.fieldLink "LeastSolutions$Equations" (33 : Nat) "LeastSolutions$Equations" "variables" "I") ∈ wd := wd_t (List.mem_of_getElem? (i := 113) (by decide +kernel)) rfl
theorem k_115 : (Jvm.Cond.fieldLink "LeastSolutions$Equations" (36 : Nat) "LeastSolutions$Equations" "slacks" "I") ∈ wd := wd_t (List.mem_of_getElem? (i := 115) (by decide +kernel)) rfl
theorem k_268 : (Jvm.Cond.fieldLink "LeastSolutions$VectorList" (15 : Nat) "LeastSolutions$VectorList" "isThere" "Z") ∈ wd := wd_t (List.mem_of_getElem? (i := 268) (by decide +kernel)) rfl
theorem k_292 : (Jvm.Cond.fieldLink "LeastSolutions" (33 : Nat) "LeastSolutions" "lattice" "LLeastSolutions$Lattice;") ∈ wd := wd_t (List.mem_of_getElem? (i := 292) (by decide +kernel)) rfl
theorem k_300 : (Jvm.Cond.fieldLink "LeastSolutions" (73 : Nat) "LeastSolutions" "system" "LLeastSolutions$Equations;") ∈ wd := wd_t (List.mem_of_getElem? (i := 300) (by decide +kernel)) rfl
theorem k_301 : (Jvm.Cond.fieldLink "LeastSolutions" (77 : Nat) "LeastSolutions" "hasSystem" "Z") ∈ wd := wd_t (List.mem_of_getElem? (i := 301) (by decide +kernel)) rfl
theorem k_302 : (Jvm.Cond.fieldLink "LeastSolutions" (81 : Nat) "LeastSolutions" "hasSplit" "Z") ∈ wd := wd_t (List.mem_of_getElem? (i := 302) (by decide +kernel)) rfl
theorem k_303 : (Jvm.Cond.fieldLink "LeastSolutions" (84 : Nat) "LeastSolutions" "hasBest" "Z") ∈ wd := wd_t (List.mem_of_getElem? (i := 303) (by decide +kernel)) rfl
theorem k_304 : (Jvm.Cond.fieldLink "LeastSolutions" (87 : Nat) "LeastSolutions" "faultPlace" "I") ∈ wd := wd_t (List.mem_of_getElem? (i := 304) (by decide +kernel)) rfl
theorem k_438 : (Jvm.Cond.instanceMethod ({ cls := "LeastSolutions$Equations", name := "columns", desc := "()I" } : Jvm.MethodName)) ∈ wd := wd_t (List.mem_of_getElem? (i := 438) (by decide +kernel)) rfl
theorem k_439 : (Jvm.Cond.selects "LeastSolutions$Equations" ({ cls := "LeastSolutions$Equations", name := "columns", desc := "()I" } : Jvm.MethodName) ({ cls := "LeastSolutions$Equations", name := "columns", desc := "()I" } : Jvm.MethodName)) ∈ wd := wd_t (List.mem_of_getElem? (i := 439) (by decide +kernel)) rfl
theorem k_440 : (Jvm.Cond.code ({ cls := "LeastSolutions$Equations", name := "columns", desc := "()I" } : Jvm.MethodName) prog_4_method_3_code (1 : Nat) (Option.some Jvm.ClassFile.FieldType.int)) ∈ wd := wd_t (List.mem_of_getElem? (i := 440) (by decide +kernel)) rfl
theorem k_534 : (Jvm.Cond.methodLink "LeastSolutions" (109 : Nat) ({ cls := "LeastSolutions$Equations", name := "columns", desc := "()I" } : Jvm.MethodName)) ∈ wd := wd_t (List.mem_of_getElem? (i := 534) (by decide +kernel)) rfl
theorem k_594 : (Jvm.Cond.methodLink "LeastSolutions" (228 : Nat) ({ cls := "LeastSolutions", name := "hasColumn", desc := "(I)Z" } : Jvm.MethodName)) ∈ wd := wd_t (List.mem_of_getElem? (i := 594) (by decide +kernel)) rfl
theorem k_596 : (Jvm.Cond.instanceMethod ({ cls := "LeastSolutions", name := "hasColumn", desc := "(I)Z" } : Jvm.MethodName)) ∈ wd := wd_t (List.mem_of_getElem? (i := 596) (by decide +kernel)) rfl
theorem k_597 : (Jvm.Cond.code ({ cls := "LeastSolutions", name := "hasColumn", desc := "(I)Z" } : Jvm.MethodName) prog_1_method_24_code (2 : Nat) (Option.some Jvm.ClassFile.FieldType.boolean)) ∈ wd := wd_t (List.mem_of_getElem? (i := 597) (by decide +kernel)) rfl
theorem k_606 : (Jvm.Cond.classLink "LeastSolutions" (118 : Nat) "java/lang/IndexOutOfBoundsException") ∈ wd := wd_t (List.mem_of_getElem? (i := 606) (by decide +kernel)) rfl
theorem k_678 : (Jvm.Cond.methodLink "LeastSolutions" (128 : Nat) ({ cls := "LeastSolutions", name := "needSystem", desc := "()V" } : Jvm.MethodName)) ∈ wd := wd_t (List.mem_of_getElem? (i := 678) (by decide +kernel)) rfl
theorem k_680 : (Jvm.Cond.instanceMethod ({ cls := "LeastSolutions", name := "needSystem", desc := "()V" } : Jvm.MethodName)) ∈ wd := wd_t (List.mem_of_getElem? (i := 680) (by decide +kernel)) rfl
theorem k_681 : (Jvm.Cond.code ({ cls := "LeastSolutions", name := "needSystem", desc := "()V" } : Jvm.MethodName) prog_1_method_26_code (1 : Nat) (Option.none : Option Jvm.ClassFile.FieldType)) ∈ wd := wd_t (List.mem_of_getElem? (i := 681) (by decide +kernel)) rfl
theorem k_682 : (Jvm.Cond.classLink "LeastSolutions" (266 : Nat) "java/lang/IllegalStateException") ∈ wd := wd_t (List.mem_of_getElem? (i := 682) (by decide +kernel)) rfl
theorem k_719 : (Jvm.Cond.methodLink "LeastSolutions" (138 : Nat) ({ cls := "LeastSolutions", name := "needColumn", desc := "(I)V" } : Jvm.MethodName)) ∈ wd := wd_t (List.mem_of_getElem? (i := 719) (by decide +kernel)) rfl
theorem k_721 : (Jvm.Cond.instanceMethod ({ cls := "LeastSolutions", name := "needColumn", desc := "(I)V" } : Jvm.MethodName)) ∈ wd := wd_t (List.mem_of_getElem? (i := 721) (by decide +kernel)) rfl
theorem k_722 : (Jvm.Cond.code ({ cls := "LeastSolutions", name := "needColumn", desc := "(I)V" } : Jvm.MethodName) prog_1_method_25_code (2 : Nat) (Option.none : Option Jvm.ClassFile.FieldType)) ∈ wd := wd_t (List.mem_of_getElem? (i := 722) (by decide +kernel)) rfl
theorem k_735 : (Jvm.Cond.classLink "LeastSolutions" (146 : Nat) "java/lang/IllegalArgumentException") ∈ wd := wd_t (List.mem_of_getElem? (i := 735) (by decide +kernel)) rfl
theorem k_750 : (Jvm.Cond.methodLink "LeastSolutions" (149 : Nat) ({ cls := "LeastSolutions", name := "needBound", desc := "(II)V" } : Jvm.MethodName)) ∈ wd := wd_t (List.mem_of_getElem? (i := 750) (by decide +kernel)) rfl
theorem k_751 : (Jvm.Cond.static ({ cls := "LeastSolutions", name := "needBound", desc := "(II)V" } : Jvm.MethodName)) ∈ wd := wd_t (List.mem_of_getElem? (i := 751) (by decide +kernel)) rfl
theorem k_752 : (Jvm.Cond.code ({ cls := "LeastSolutions", name := "needBound", desc := "(II)V" } : Jvm.MethodName) prog_1_method_28_code (2 : Nat) (Option.none : Option Jvm.ClassFile.FieldType)) ∈ wd := wd_t (List.mem_of_getElem? (i := 752) (by decide +kernel)) rfl
abbrev y_EQ_columns : MethodName := ⟨"LeastSolutions$Equations", "columns", "()I"⟩
abbrev b_EQ_columns : ByteArray := prog_4_method_3_code
abbrev y_LS_best : MethodName := ⟨"LeastSolutions", "best", "(I)I"⟩
abbrev b_LS_best : ByteArray := prog_1_method_18_code
abbrev y_LS_bestAt : MethodName := ⟨"LeastSolutions", "bestAt", "(I)I"⟩
abbrev b_LS_bestAt : ByteArray := prog_1_method_19_code
abbrev y_LS_cost : MethodName := ⟨"LeastSolutions", "cost", "(II)V"⟩
abbrev b_LS_cost : ByteArray := prog_1_method_17_code
abbrev y_LS_count : MethodName := ⟨"LeastSolutions", "count", "(I)I"⟩
abbrev b_LS_count : ByteArray := prog_1_method_5_code
abbrev y_LS_hasColumn : MethodName := ⟨"LeastSolutions", "hasColumn", "(I)Z"⟩
abbrev b_LS_hasColumn : ByteArray := prog_1_method_24_code
abbrev y_LS_holds : MethodName := ⟨"LeastSolutions", "holds", "()I"⟩
abbrev b_LS_holds : ByteArray := prog_1_method_14_code
abbrev y_LS_kernel : MethodName := ⟨"LeastSolutions", "kernel", "()I"⟩
abbrev b_LS_kernel : ByteArray := prog_1_method_9_code
abbrev y_LS_kernelAt : MethodName := ⟨"LeastSolutions", "kernelAt", "(II)J"⟩
abbrev b_LS_kernelAt : ByteArray := prog_1_method_10_code
abbrev y_LS_letter : MethodName := ⟨"LeastSolutions", "letter", "(I)I"⟩
abbrev b_LS_letter : ByteArray := prog_1_method_6_code
abbrev y_LS_needBound : MethodName := ⟨"LeastSolutions", "needBound", "(II)V"⟩
abbrev b_LS_needBound : ByteArray := prog_1_method_28_code
abbrev y_LS_needColumn : MethodName := ⟨"LeastSolutions", "needColumn", "(I)V"⟩
abbrev b_LS_needColumn : ByteArray := prog_1_method_25_code
abbrev y_LS_needSystem : MethodName := ⟨"LeastSolutions", "needSystem", "()V"⟩
abbrev b_LS_needSystem : ByteArray := prog_1_method_26_code
abbrev y_LS_number : MethodName := ⟨"LeastSolutions", "number", "(II)I"⟩
abbrev b_LS_number : ByteArray := prog_1_method_7_code
abbrev y_LS_place : MethodName := ⟨"LeastSolutions", "place", "()I"⟩
abbrev b_LS_place : ByteArray := prog_1_method_4_code
abbrev y_LS_solvable : MethodName := ⟨"LeastSolutions", "solvable", "()I"⟩
abbrev b_LS_solvable : ByteArray := prog_1_method_8_code
abbrev y_LS_tell : MethodName := ⟨"LeastSolutions", "tell", "(II)V"⟩
abbrev b_LS_tell : ByteArray := prog_1_method_13_code
abbrev y_LS_times : MethodName := ⟨"LeastSolutions", "times", "(I)I"⟩
abbrev b_LS_times : ByteArray := prog_1_method_16_code
abbrev y_LS_work : MethodName := ⟨"LeastSolutions", "work", "(II)I"⟩
abbrev b_LS_work : ByteArray := prog_1_method_11_code
abbrev y_VL_has : MethodName := ⟨"LeastSolutions$VectorList", "has", "(I)Z"⟩
abbrev b_VL_has : ByteArray := prog_9_method_4_code
theorem ks_LS_hasColumn : Cond.selects "LeastSolutions" ({ cls := "LeastSolutions", name := "hasColumn", desc := "(I)Z" } : Jvm.MethodName) ({ cls := "LeastSolutions", name := "hasColumn", desc := "(I)Z" } : Jvm.MethodName) ∈ wd := wd_p (q := (⟨"LeastSolutions", "hasColumn", "(I)Z"⟩, 16)) (List.mem_of_getElem? (i := 23) (by decide +kernel))
theorem ks_LS_needColumn : Cond.selects "LeastSolutions" ({ cls := "LeastSolutions", name := "needColumn", desc := "(I)V" } : Jvm.MethodName) ({ cls := "LeastSolutions", name := "needColumn", desc := "(I)V" } : Jvm.MethodName) ∈ wd := wd_p (q := (⟨"LeastSolutions", "needColumn", "(I)V"⟩, 16)) (List.mem_of_getElem? (i := 27) (by decide +kernel))
theorem ks_LS_needSystem : Cond.selects "LeastSolutions" ({ cls := "LeastSolutions", name := "needSystem", desc := "()V" } : Jvm.MethodName) ({ cls := "LeastSolutions", name := "needSystem", desc := "()V" } : Jvm.MethodName) ∈ wd := wd_p (q := (⟨"LeastSolutions", "needSystem", "()V"⟩, 16)) (List.mem_of_getElem? (i := 25) (by decide +kernel))
theorem d_EQ_columns_0 : decode b_EQ_columns 0 = .ok (.aload_n 0, 1) := by decide +kernel
theorem d_EQ_columns_1 : decode b_EQ_columns 1 = .ok (.getfield 33, 3) := by decide +kernel
theorem d_EQ_columns_4 : decode b_EQ_columns 4 = .ok (.aload_n 0, 1) := by decide +kernel
theorem d_EQ_columns_5 : decode b_EQ_columns 5 = .ok (.getfield 36, 3) := by decide +kernel
theorem d_EQ_columns_8 : decode b_EQ_columns 8 = .ok (.iadd, 1) := by decide +kernel
theorem d_EQ_columns_9 : decode b_EQ_columns 9 = .ok (.ireturn, 1) := by decide +kernel
theorem d_LS_best_0 : decode b_LS_best 0 = .ok (.iload_n 1, 1) := by decide +kernel
theorem d_LS_best_1 : decode b_LS_best 1 = .ok (.bipush 16, 2) := by decide +kernel
theorem d_LS_best_3 : decode b_LS_best 3 = .ok (.invokestatic 149, 3) := by decide +kernel
theorem d_LS_best_6 : decode b_LS_best 6 = .ok (.aload_n 0, 1) := by decide +kernel
theorem d_LS_best_7 : decode b_LS_best 7 = .ok (.invokevirtual 128, 3) := by decide +kernel
theorem d_LS_bestAt_0 : decode b_LS_bestAt 0 = .ok (.aload_n 0, 1) := by decide +kernel
theorem d_LS_bestAt_1 : decode b_LS_bestAt 1 = .ok (.getfield 84, 3) := by decide +kernel
theorem d_LS_bestAt_4 : decode b_LS_bestAt 4 = .ok (.ifCond .eq 20, 3) := by decide +kernel
theorem d_LS_bestAt_24 : decode b_LS_bestAt 24 = .ok (.iconst (-1), 1) := by decide +kernel
theorem d_LS_bestAt_25 : decode b_LS_bestAt 25 = .ok (.ireturn, 1) := by decide +kernel
theorem d_LS_cost_0 : decode b_LS_cost 0 = .ok (.aload_n 0, 1) := by decide +kernel
theorem d_LS_cost_1 : decode b_LS_cost 1 = .ok (.iload_n 1, 1) := by decide +kernel
theorem d_LS_cost_2 : decode b_LS_cost 2 = .ok (.invokevirtual 138, 3) := by decide +kernel
theorem d_LS_count_0 : decode b_LS_count 0 = .ok (.aload_n 0, 1) := by decide +kernel
theorem d_LS_count_1 : decode b_LS_count 1 = .ok (.getfield 77, 3) := by decide +kernel
theorem d_LS_count_4 : decode b_LS_count 4 = .ok (.ifCond .ne 5, 3) := by decide +kernel
theorem d_LS_count_7 : decode b_LS_count 7 = .ok (.iconst (-1), 1) := by decide +kernel
theorem d_LS_count_8 : decode b_LS_count 8 = .ok (.ireturn, 1) := by decide +kernel
theorem d_LS_hasColumn_0 : decode b_LS_hasColumn 0 = .ok (.iload_n 1, 1) := by decide +kernel
theorem d_LS_hasColumn_1 : decode b_LS_hasColumn 1 = .ok (.ifCond .lt 18, 3) := by decide +kernel
theorem d_LS_hasColumn_4 : decode b_LS_hasColumn 4 = .ok (.iload_n 1, 1) := by decide +kernel
theorem d_LS_hasColumn_5 : decode b_LS_hasColumn 5 = .ok (.aload_n 0, 1) := by decide +kernel
theorem d_LS_hasColumn_6 : decode b_LS_hasColumn 6 = .ok (.getfield 73, 3) := by decide +kernel
theorem d_LS_hasColumn_9 : decode b_LS_hasColumn 9 = .ok (.invokevirtual 109, 3) := by decide +kernel
theorem d_LS_hasColumn_12 : decode b_LS_hasColumn 12 = .ok (.if_icmp .ge 7, 3) := by decide +kernel
theorem d_LS_hasColumn_19 : decode b_LS_hasColumn 19 = .ok (.iconst 0, 1) := by decide +kernel
theorem d_LS_hasColumn_20 : decode b_LS_hasColumn 20 = .ok (.ireturn, 1) := by decide +kernel
theorem d_LS_holds_0 : decode b_LS_holds 0 = .ok (.aload_n 0, 1) := by decide +kernel
theorem d_LS_holds_1 : decode b_LS_holds 1 = .ok (.invokevirtual 128, 3) := by decide +kernel
theorem d_LS_kernel_0 : decode b_LS_kernel 0 = .ok (.aload_n 0, 1) := by decide +kernel
theorem d_LS_kernel_1 : decode b_LS_kernel 1 = .ok (.invokevirtual 128, 3) := by decide +kernel
theorem d_LS_kernelAt_0 : decode b_LS_kernelAt 0 = .ok (.iload_n 1, 1) := by decide +kernel
theorem d_LS_kernelAt_1 : decode b_LS_kernelAt 1 = .ok (.ifCond .lt 14, 3) := by decide +kernel
theorem d_LS_kernelAt_4 : decode b_LS_kernelAt 4 = .ok (.iload_n 1, 1) := by decide +kernel
theorem d_LS_kernelAt_5 : decode b_LS_kernelAt 5 = .ok (.aload_n 0, 1) := by decide +kernel
theorem d_LS_kernelAt_6 : decode b_LS_kernelAt 6 = .ok (.getfield 33, 3) := by decide +kernel
theorem d_LS_kernelAt_9 : decode b_LS_kernelAt 9 = .ok (.getfield 135, 3) := by decide +kernel
theorem d_LS_kernelAt_12 : decode b_LS_kernelAt 12 = .ok (.if_icmp .lt 11, 3) := by decide +kernel
theorem d_LS_kernelAt_15 : decode b_LS_kernelAt 15 = .ok (.new 118, 3) := by decide +kernel
theorem d_LS_kernelAt_18 : decode b_LS_kernelAt 18 = .ok (.dup, 1) := by decide +kernel
theorem d_LS_kernelAt_19 : decode b_LS_kernelAt 19 = .ok (.invokespecial 120, 3) := by decide +kernel
theorem d_LS_kernelAt_22 : decode b_LS_kernelAt 22 = .ok (.athrow, 1) := by decide +kernel
theorem d_LS_letter_0 : decode b_LS_letter 0 = .ok (.iload_n 1, 1) := by decide +kernel
theorem d_LS_letter_1 : decode b_LS_letter 1 = .ok (.ifCond .lt 26, 3) := by decide +kernel
theorem d_LS_letter_4 : decode b_LS_letter 4 = .ok (.iload_n 1, 1) := by decide +kernel
theorem d_LS_letter_5 : decode b_LS_letter 5 = .ok (.aload_n 0, 1) := by decide +kernel
theorem d_LS_letter_6 : decode b_LS_letter 6 = .ok (.getfield 73, 3) := by decide +kernel
theorem d_LS_letter_9 : decode b_LS_letter 9 = .ok (.getfield 112, 3) := by decide +kernel
theorem d_LS_letter_12 : decode b_LS_letter 12 = .ok (.if_icmp .ge 15, 3) := by decide +kernel
theorem d_LS_letter_27 : decode b_LS_letter 27 = .ok (.iconst (-1), 1) := by decide +kernel
theorem d_LS_letter_28 : decode b_LS_letter 28 = .ok (.ireturn, 1) := by decide +kernel
theorem d_LS_needBound_0 : decode b_LS_needBound 0 = .ok (.iload_n 0, 1) := by decide +kernel
theorem d_LS_needBound_1 : decode b_LS_needBound 1 = .ok (.ifCond .lt 8, 3) := by decide +kernel
theorem d_LS_needBound_4 : decode b_LS_needBound 4 = .ok (.iload_n 0, 1) := by decide +kernel
theorem d_LS_needBound_5 : decode b_LS_needBound 5 = .ok (.iload_n 1, 1) := by decide +kernel
theorem d_LS_needBound_6 : decode b_LS_needBound 6 = .ok (.if_icmp .le 11, 3) := by decide +kernel
theorem d_LS_needBound_9 : decode b_LS_needBound 9 = .ok (.new 146, 3) := by decide +kernel
theorem d_LS_needBound_12 : decode b_LS_needBound 12 = .ok (.dup, 1) := by decide +kernel
theorem d_LS_needBound_13 : decode b_LS_needBound 13 = .ok (.invokespecial 148, 3) := by decide +kernel
theorem d_LS_needBound_16 : decode b_LS_needBound 16 = .ok (.athrow, 1) := by decide +kernel
theorem d_LS_needBound_17 : decode b_LS_needBound 17 = .ok (.return_, 1) := by decide +kernel
theorem d_LS_needColumn_0 : decode b_LS_needColumn 0 = .ok (.aload_n 0, 1) := by decide +kernel
theorem d_LS_needColumn_1 : decode b_LS_needColumn 1 = .ok (.iload_n 1, 1) := by decide +kernel
theorem d_LS_needColumn_2 : decode b_LS_needColumn 2 = .ok (.invokevirtual 228, 3) := by decide +kernel
theorem d_LS_needColumn_5 : decode b_LS_needColumn 5 = .ok (.ifCond .ne 11, 3) := by decide +kernel
theorem d_LS_needColumn_8 : decode b_LS_needColumn 8 = .ok (.new 118, 3) := by decide +kernel
theorem d_LS_needColumn_11 : decode b_LS_needColumn 11 = .ok (.dup, 1) := by decide +kernel
theorem d_LS_needColumn_12 : decode b_LS_needColumn 12 = .ok (.invokespecial 120, 3) := by decide +kernel
theorem d_LS_needColumn_15 : decode b_LS_needColumn 15 = .ok (.athrow, 1) := by decide +kernel
theorem d_LS_needSystem_0 : decode b_LS_needSystem 0 = .ok (.aload_n 0, 1) := by decide +kernel
theorem d_LS_needSystem_1 : decode b_LS_needSystem 1 = .ok (.getfield 77, 3) := by decide +kernel
theorem d_LS_needSystem_4 : decode b_LS_needSystem 4 = .ok (.ifCond .ne 11, 3) := by decide +kernel
theorem d_LS_needSystem_7 : decode b_LS_needSystem 7 = .ok (.new 266, 3) := by decide +kernel
theorem d_LS_needSystem_10 : decode b_LS_needSystem 10 = .ok (.dup, 1) := by decide +kernel
theorem d_LS_needSystem_11 : decode b_LS_needSystem 11 = .ok (.invokespecial 268, 3) := by decide +kernel
theorem d_LS_needSystem_14 : decode b_LS_needSystem 14 = .ok (.athrow, 1) := by decide +kernel
theorem d_LS_number_0 : decode b_LS_number 0 = .ok (.iload_n 1, 1) := by decide +kernel
theorem d_LS_number_1 : decode b_LS_number 1 = .ok (.ifCond .lt 29, 3) := by decide +kernel
theorem d_LS_number_4 : decode b_LS_number 4 = .ok (.iload_n 1, 1) := by decide +kernel
theorem d_LS_number_5 : decode b_LS_number 5 = .ok (.aload_n 0, 1) := by decide +kernel
theorem d_LS_number_6 : decode b_LS_number 6 = .ok (.getfield 73, 3) := by decide +kernel
theorem d_LS_number_9 : decode b_LS_number 9 = .ok (.getfield 106, 3) := by decide +kernel
theorem d_LS_number_12 : decode b_LS_number 12 = .ok (.if_icmp .ge 18, 3) := by decide +kernel
theorem d_LS_number_30 : decode b_LS_number 30 = .ok (.new 118, 3) := by decide +kernel
theorem d_LS_number_33 : decode b_LS_number 33 = .ok (.dup, 1) := by decide +kernel
theorem d_LS_number_34 : decode b_LS_number 34 = .ok (.invokespecial 120, 3) := by decide +kernel
theorem d_LS_number_37 : decode b_LS_number 37 = .ok (.athrow, 1) := by decide +kernel
theorem d_LS_place_0 : decode b_LS_place 0 = .ok (.aload_n 0, 1) := by decide +kernel
theorem d_LS_place_1 : decode b_LS_place 1 = .ok (.getfield 87, 3) := by decide +kernel
theorem d_LS_place_4 : decode b_LS_place 4 = .ok (.ireturn, 1) := by decide +kernel
theorem d_LS_solvable_0 : decode b_LS_solvable 0 = .ok (.aload_n 0, 1) := by decide +kernel
theorem d_LS_solvable_1 : decode b_LS_solvable 1 = .ok (.invokevirtual 128, 3) := by decide +kernel
theorem d_LS_tell_0 : decode b_LS_tell 0 = .ok (.aload_n 0, 1) := by decide +kernel
theorem d_LS_tell_1 : decode b_LS_tell 1 = .ok (.iload_n 1, 1) := by decide +kernel
theorem d_LS_tell_2 : decode b_LS_tell 2 = .ok (.invokevirtual 138, 3) := by decide +kernel
theorem d_LS_times_0 : decode b_LS_times 0 = .ok (.aload_n 0, 1) := by decide +kernel
theorem d_LS_times_1 : decode b_LS_times 1 = .ok (.getfield 81, 3) := by decide +kernel
theorem d_LS_times_4 : decode b_LS_times 4 = .ok (.ifCond .eq 25, 3) := by decide +kernel
theorem d_LS_times_29 : decode b_LS_times 29 = .ok (.iconst (-1), 1) := by decide +kernel
theorem d_LS_times_30 : decode b_LS_times 30 = .ok (.ireturn, 1) := by decide +kernel
theorem d_LS_work_0 : decode b_LS_work 0 = .ok (.iload_n 1, 1) := by decide +kernel
theorem d_LS_work_1 : decode b_LS_work 1 = .ok (.ifCond .lt 8, 3) := by decide +kernel
theorem d_LS_work_4 : decode b_LS_work 4 = .ok (.iload_n 1, 1) := by decide +kernel
theorem d_LS_work_5 : decode b_LS_work 5 = .ok (.iconst 2, 1) := by decide +kernel
theorem d_LS_work_6 : decode b_LS_work 6 = .ok (.if_icmp .le 11, 3) := by decide +kernel
theorem d_LS_work_9 : decode b_LS_work 9 = .ok (.new 146, 3) := by decide +kernel
theorem d_LS_work_12 : decode b_LS_work 12 = .ok (.dup, 1) := by decide +kernel
theorem d_LS_work_13 : decode b_LS_work 13 = .ok (.invokespecial 148, 3) := by decide +kernel
theorem d_LS_work_16 : decode b_LS_work 16 = .ok (.athrow, 1) := by decide +kernel
theorem d_LS_work_17 : decode b_LS_work 17 = .ok (.iload_n 2, 1) := by decide +kernel
theorem d_LS_work_18 : decode b_LS_work 18 = .ok (.iload_n 1, 1) := by decide +kernel
theorem d_LS_work_19 : decode b_LS_work 19 = .ok (.iconst 2, 1) := by decide +kernel
theorem d_LS_work_20 : decode b_LS_work 20 = .ok (.if_icmp .ne 8, 3) := by decide +kernel
theorem d_LS_work_23 : decode b_LS_work 23 = .ok (.bipush 10, 2) := by decide +kernel
theorem d_LS_work_25 : decode b_LS_work 25 = .ok (.goto 5, 3) := by decide +kernel
theorem d_LS_work_28 : decode b_LS_work 28 = .ok (.bipush 16, 2) := by decide +kernel
theorem d_LS_work_30 : decode b_LS_work 30 = .ok (.invokestatic 149, 3) := by decide +kernel
theorem d_LS_work_33 : decode b_LS_work 33 = .ok (.aload_n 0, 1) := by decide +kernel
theorem d_LS_work_34 : decode b_LS_work 34 = .ok (.invokevirtual 128, 3) := by decide +kernel
theorem d_VL_has_0 : decode b_VL_has 0 = .ok (.aload_n 0, 1) := by decide +kernel
theorem d_VL_has_1 : decode b_VL_has 1 = .ok (.getfield 15, 3) := by decide +kernel
theorem d_VL_has_4 : decode b_VL_has 4 = .ok (.ifCond .eq 19, 3) := by decide +kernel
theorem d_VL_has_23 : decode b_VL_has 23 = .ok (.iconst 0, 1) := by decide +kernel
theorem d_VL_has_24 : decode b_VL_has 24 = .ok (.ireturn, 1) := by decide +kernel
end
section
set_option maxHeartbeats 4000000 in
set_option maxRecDepth 100000 in
theorem c_EQ_columns (l : Launch) (dC : Nat → ClassId) (dI : Nat → Nat → Nat) (h0 : Nat) (e0 : Nat) (e1 : Nat) (e2 : Nat) (e3 : Nat) (e4 : Nat) : Met l y_EQ_columns (Cond.code y_EQ_columns b_EQ_columns 1 (Option.some Jvm.ClassFile.FieldType.int) :: wd) { frames := 0, cells := 0, slots := 0, locals := 0 } (va_Pc [.ref h0] (fun U => va_P (dC, dI) cls [(h0, .inr (4, [.ref e0, .ref e1, .ref e2, .ref e3, .ref e4, .int 0, .int 0, .int 0]))] U.heap ∧ va_K (dC, dI) cls [] U ∧ nw_ok U)) (va_Qi (fun r (_ : Unit) => r = 0) (fun _ _ => True) (fun _ => False)) 0 0 (fun _ => False) := by
  refine Met.ofW (cc := b_EQ_columns) (maxL := 1) (ret := (Option.some Jvm.ClassFile.FieldType.int)) (by decide) rfl ?_
  intro p e s m args below meth c s₁ B hml hv
  obtain ⟨rfl, hP, hK, hN⟩ := hv
  have hx := B.exec
  have hb := B.bytes
  have hr := B.returns
  have hlocks := B.notSynchronized
  have hts : ∀ w ∈ wd, w.before ([.ref h0] : List Value).toArray s = true := fun w hw => atoms_spec (ws := (Cond.code y_EQ_columns b_EQ_columns 1 (Option.some Jvm.ClassFile.FieldType.int) :: wd)) B.pre w (List.mem_cons_of_mem _ hw)
  have hown : s.vm.findClass "LeastSolutions$Equations" = some m.cls := findClass_of_methodNamed B.named
  have hS : va_S (fun _ => False) s.heap s.heap [] := va_S.rf
  have hl := lv_entry ([.ref h0]) (n := 1) (Nat.le_of_ble_eq_true rfl)
  rw [lg_entry_eq]
  generalize (lg_sl ([.ref h0]) ++ List.replicate (1 - (lg_sl ([.ref h0])).length) Slot.unset).toArray = ls at hl ⊢
  have hl : lv_has ls 1 [(0, .ref h0)] := hl
  refine lv_aload_n hx hb d_EQ_columns_0 rfl (lv_at hl 0 rfl) ?_
  refine va_get (D := (dC, dI)) (ci := 4) (v := .int 0) (C := R_EQ) (T := T_EQ) (N := 8) hx hb hts in_EQ hown hK hP 0 rfl rfl 6 (by decide) (hts _ k_113) (fun _ h9 => h9) rfl d_EQ_columns_1 ?_
  refine lv_aload_n hx hb d_EQ_columns_4 rfl (lv_at hl 0 rfl) ?_
  refine va_get (D := (dC, dI)) (ci := 4) (v := .int 0) (C := R_EQ) (T := T_EQ) (N := 8) hx hb hts in_EQ hown hK hP 0 rfl rfl 7 (by decide) (hts _ k_115) (fun _ h9 => h9) rfl d_EQ_columns_5 ?_
  refine lv_iadd hx hb d_EQ_columns_8 ?_
  exact W.iret (v := (0 + 0)) hx hb hr (fun t ht hW => ⟨⟨(0 + 0), (), rfl, by decide, trivial⟩, hS.F ht⟩) hS.2.2 d_EQ_columns_9

set_option maxHeartbeats 4000000 in
set_option maxRecDepth 100000 in
theorem c_VL_has (l : Launch) (dC : Nat → ClassId) (dI : Nat → Nat → Nat) (h0 : Nat) (n0 : Nat) (i : Int32) : Met l y_VL_has (Cond.code y_VL_has b_VL_has 2 (Option.some Jvm.ClassFile.FieldType.boolean) :: wd) { frames := 0, cells := 0, slots := 0, locals := 0 } (va_Pc [.ref h0, .int i] (fun U => va_P (dC, dI) cls [(h0, .inr (7, [.ref n0, .int 0, .int 0, .int 0, .int 0, .int 0]))] U.heap ∧ va_K (dC, dI) cls [] U ∧ nw_ok U)) (va_Qi (fun r (_ : Unit) => r = 0) (fun _ _ => True) (fun _ => False)) 0 0 (fun _ => False) := by
  refine Met.ofW (cc := b_VL_has) (maxL := 2) (ret := (Option.some Jvm.ClassFile.FieldType.boolean)) (by decide) rfl ?_
  intro p e s m args below meth c s₁ B hml hv
  obtain ⟨rfl, hP, hK, hN⟩ := hv
  have hx := B.exec
  have hb := B.bytes
  have hr := B.returns
  have hlocks := B.notSynchronized
  have hts : ∀ w ∈ wd, w.before ([.ref h0, .int i] : List Value).toArray s = true := fun w hw => atoms_spec (ws := (Cond.code y_VL_has b_VL_has 2 (Option.some Jvm.ClassFile.FieldType.boolean) :: wd)) B.pre w (List.mem_cons_of_mem _ hw)
  have hown : s.vm.findClass "LeastSolutions$VectorList" = some m.cls := findClass_of_methodNamed B.named
  have hS : va_S (fun _ => False) s.heap s.heap [] := va_S.rf
  have hl := lv_entry ([.ref h0, .int i]) (n := 2) (Nat.le_of_ble_eq_true rfl)
  rw [lg_entry_eq]
  generalize (lg_sl ([.ref h0, .int i]) ++ List.replicate (2 - (lg_sl ([.ref h0, .int i])).length) Slot.unset).toArray = ls at hl ⊢
  have hl : lv_has ls 2 [(0, .ref h0), (1, .int i)] := hl
  refine lv_aload_n hx hb d_VL_has_0 rfl (lv_at hl 0 rfl) ?_
  refine va_get (D := (dC, dI)) (ci := 7) (v := .int 0) (C := R_VL) (T := T_VL) (N := 6) hx hb hts in_VL hown hK hP 0 rfl rfl 1 (by decide) (hts _ k_268) (fun _ h9 => h9) rfl d_VL_has_1 ?_
  refine lv_if_eq (tgt := 23) hx hb d_VL_has_4 (by decide) (fun _ => ?_) (fun h9 => absurd (by decide) h9)
  refine lv_iconst (v := 0) hx hb d_VL_has_23 (by decide) ?_
  exact W.zret (v := 0) (ty := .boolean) hx hb hr (by decide +kernel) (fun t ht hW => ⟨⟨0, (), rfl, rfl, trivial⟩, hS.F ht⟩) hS.2.2 d_VL_has_24

set_option maxHeartbeats 4000000 in
set_option maxRecDepth 100000 in
theorem c_LS_place (l : Launch) (dC : Nat → ClassId) (dI : Nat → Nat → Nat) (h0 : Nat) (aT : Nat) (aW : Nat) (aB : Nat) (aL : Nat) (aS : Nat) (aV : Nat) (aC : Nat) (a7 : Nat) (a8 : Nat) (a9 : Nat) (a10 : Nat) (aE : Nat) : Met l y_LS_place (Cond.code y_LS_place b_LS_place 1 (Option.some Jvm.ClassFile.FieldType.int) :: wd) { frames := 0, cells := 0, slots := 0, locals := 0 } (va_Pc [.ref h0] (fun U => va_P (dC, dI) cls [(h0, .inr (0, [.ref aT, .ref aW, .ref aB, .ref aL, .ref aS, .ref aV, .ref aC, .ref a7, .ref a8, .ref a9, .ref a10, .ref aE, .int 0, .int 0, .int 0, .int (-1)]))] U.heap ∧ va_K (dC, dI) cls [] U ∧ nw_ok U)) (va_Qi (fun r (_ : Unit) => r = (-1)) (fun _ _ => True) (fun _ => False)) 0 0 (fun _ => False) := by
  refine Met.ofW (cc := b_LS_place) (maxL := 1) (ret := (Option.some Jvm.ClassFile.FieldType.int)) (by decide) rfl ?_
  intro p e s m args below meth c s₁ B hml hv
  obtain ⟨rfl, hP, hK, hN⟩ := hv
  have hx := B.exec
  have hb := B.bytes
  have hr := B.returns
  have hlocks := B.notSynchronized
  have hts : ∀ w ∈ wd, w.before ([.ref h0] : List Value).toArray s = true := fun w hw => atoms_spec (ws := (Cond.code y_LS_place b_LS_place 1 (Option.some Jvm.ClassFile.FieldType.int) :: wd)) B.pre w (List.mem_cons_of_mem _ hw)
  have hown : s.vm.findClass "LeastSolutions" = some m.cls := findClass_of_methodNamed B.named
  have hS : va_S (fun _ => False) s.heap s.heap [] := va_S.rf
  have hl := lv_entry ([.ref h0]) (n := 1) (Nat.le_of_ble_eq_true rfl)
  rw [lg_entry_eq]
  generalize (lg_sl ([.ref h0]) ++ List.replicate (1 - (lg_sl ([.ref h0])).length) Slot.unset).toArray = ls at hl ⊢
  have hl : lv_has ls 1 [(0, .ref h0)] := hl
  refine lv_aload_n hx hb d_LS_place_0 rfl (lv_at hl 0 rfl) ?_
  refine va_get (D := (dC, dI)) (ci := 0) (v := .int (-1)) (C := R_LS) (T := T_LS) (N := 16) hx hb hts in_LS hown hK hP 0 rfl rfl 15 (by decide) (hts _ k_304) (fun _ h9 => h9) rfl d_LS_place_1 ?_
  exact W.iret (v := (-1)) hx hb hr (fun t ht hW => ⟨⟨(-1), (), rfl, rfl, trivial⟩, hS.F ht⟩) hS.2.2 d_LS_place_4

set_option maxHeartbeats 4000000 in
set_option maxRecDepth 100000 in
theorem c_LS_count (l : Launch) (dC : Nat → ClassId) (dI : Nat → Nat → Nat) (h0 : Nat) (aT : Nat) (aW : Nat) (aB : Nat) (aL : Nat) (aS : Nat) (aV : Nat) (aC : Nat) (a7 : Nat) (a8 : Nat) (a9 : Nat) (a10 : Nat) (aE : Nat) (what : Int32) : Met l y_LS_count (Cond.code y_LS_count b_LS_count 2 (Option.some Jvm.ClassFile.FieldType.int) :: wd) { frames := 0, cells := 0, slots := 0, locals := 0 } (va_Pc [.ref h0, .int what] (fun U => va_P (dC, dI) cls [(h0, .inr (0, [.ref aT, .ref aW, .ref aB, .ref aL, .ref aS, .ref aV, .ref aC, .ref a7, .ref a8, .ref a9, .ref a10, .ref aE, .int 0, .int 0, .int 0, .int (-1)]))] U.heap ∧ va_K (dC, dI) cls [] U ∧ nw_ok U)) (va_Qi (fun r (_ : Unit) => r = (-1)) (fun _ _ => True) (fun _ => False)) 0 0 (fun _ => False) := by
  refine Met.ofW (cc := b_LS_count) (maxL := 2) (ret := (Option.some Jvm.ClassFile.FieldType.int)) (by decide) rfl ?_
  intro p e s m args below meth c s₁ B hml hv
  obtain ⟨rfl, hP, hK, hN⟩ := hv
  have hx := B.exec
  have hb := B.bytes
  have hr := B.returns
  have hlocks := B.notSynchronized
  have hts : ∀ w ∈ wd, w.before ([.ref h0, .int what] : List Value).toArray s = true := fun w hw => atoms_spec (ws := (Cond.code y_LS_count b_LS_count 2 (Option.some Jvm.ClassFile.FieldType.int) :: wd)) B.pre w (List.mem_cons_of_mem _ hw)
  have hown : s.vm.findClass "LeastSolutions" = some m.cls := findClass_of_methodNamed B.named
  have hS : va_S (fun _ => False) s.heap s.heap [] := va_S.rf
  have hl := lv_entry ([.ref h0, .int what]) (n := 2) (Nat.le_of_ble_eq_true rfl)
  rw [lg_entry_eq]
  generalize (lg_sl ([.ref h0, .int what]) ++ List.replicate (2 - (lg_sl ([.ref h0, .int what])).length) Slot.unset).toArray = ls at hl ⊢
  have hl : lv_has ls 2 [(0, .ref h0), (1, .int what)] := hl
  refine lv_aload_n hx hb d_LS_count_0 rfl (lv_at hl 0 rfl) ?_
  refine va_get (D := (dC, dI)) (ci := 0) (v := .int 0) (C := R_LS) (T := T_LS) (N := 16) hx hb hts in_LS hown hK hP 0 rfl rfl 12 (by decide) (hts _ k_301) (fun _ h9 => h9) rfl d_LS_count_1 ?_
  refine lv_if_ne (tgt := 9) hx hb d_LS_count_4 (by decide) (fun h9 => absurd (by decide) h9) (fun _ => ?_)
  refine lv_iconst (v := (-1)) hx hb d_LS_count_7 (by decide) ?_
  exact W.iret (v := (-1)) hx hb hr (fun t ht hW => ⟨⟨(-1), (), rfl, rfl, trivial⟩, hS.F ht⟩) hS.2.2 d_LS_count_8

set_option maxHeartbeats 4000000 in
set_option maxRecDepth 100000 in
theorem c_LS_letter (l : Launch) (dC : Nat → ClassId) (dI : Nat → Nat → Nat) (h0 : Nat) (aT : Nat) (aW : Nat) (aB : Nat) (aL : Nat) (aS : Nat) (aV : Nat) (aC : Nat) (a7 : Nat) (a8 : Nat) (a9 : Nat) (a10 : Nat) (aE : Nat) (e0 : Nat) (e1 : Nat) (e2 : Nat) (e3 : Nat) (e4 : Nat) (column : Int32) : Met l y_LS_letter (Cond.code y_LS_letter b_LS_letter 2 (Option.some Jvm.ClassFile.FieldType.int) :: wd) { frames := 0, cells := 0, slots := 0, locals := 0 } (va_Pc [.ref h0, .int column] (fun U => va_P (dC, dI) cls [(h0, .inr (0, [.ref aT, .ref aW, .ref aB, .ref aL, .ref aS, .ref aV, .ref aC, .ref a7, .ref a8, .ref a9, .ref a10, .ref aE, .int 0, .int 0, .int 0, .int (-1)])), (aE, .inr (4, [.ref e0, .ref e1, .ref e2, .ref e3, .ref e4, .int 0, .int 0, .int 0]))] U.heap ∧ va_K (dC, dI) cls [] U ∧ nw_ok U)) (va_Qi (fun r (_ : Unit) => r = (-1)) (fun _ _ => True) (fun _ => False)) 0 0 (fun _ => False) := by
  refine Met.ofW (cc := b_LS_letter) (maxL := 2) (ret := (Option.some Jvm.ClassFile.FieldType.int)) (by decide) rfl ?_
  intro p e s m args below meth c s₁ B hml hv
  obtain ⟨rfl, hP, hK, hN⟩ := hv
  have hx := B.exec
  have hb := B.bytes
  have hr := B.returns
  have hlocks := B.notSynchronized
  have hts : ∀ w ∈ wd, w.before ([.ref h0, .int column] : List Value).toArray s = true := fun w hw => atoms_spec (ws := (Cond.code y_LS_letter b_LS_letter 2 (Option.some Jvm.ClassFile.FieldType.int) :: wd)) B.pre w (List.mem_cons_of_mem _ hw)
  have hown : s.vm.findClass "LeastSolutions" = some m.cls := findClass_of_methodNamed B.named
  have hS : va_S (fun _ => False) s.heap s.heap [] := va_S.rf
  have hl := lv_entry ([.ref h0, .int column]) (n := 2) (Nat.le_of_ble_eq_true rfl)
  rw [lg_entry_eq]
  generalize (lg_sl ([.ref h0, .int column]) ++ List.replicate (2 - (lg_sl ([.ref h0, .int column])).length) Slot.unset).toArray = ls at hl ⊢
  have hl : lv_has ls 2 [(0, .ref h0), (1, .int column)] := hl
  refine lv_iload_n hx hb d_LS_letter_0 rfl (lv_at hl 1 rfl) ?_
  refine lv_if_lt (tgt := 27) hx hb d_LS_letter_1 (by decide) (fun hc1 => ?_) (fun hc1 => ?_)
  · refine lv_iconst (v := (-1)) hx hb d_LS_letter_27 (by decide) ?_
    exact W.iret (v := (-1)) hx hb hr (fun t ht hW => ⟨⟨(-1), (), rfl, rfl, trivial⟩, hS.F ht⟩) hS.2.2 d_LS_letter_28
  · refine lv_iload_n hx hb d_LS_letter_4 rfl (lv_at hl 1 rfl) ?_
    refine lv_aload_n hx hb d_LS_letter_5 rfl (lv_at hl 0 rfl) ?_
    refine va_get (D := (dC, dI)) (ci := 0) (v := .ref aE) (C := R_LS) (T := T_LS) (N := 16) hx hb hts in_LS hown hK hP 0 rfl rfl 11 (by decide) (hts _ k_300) (fun _ h9 => h9) rfl d_LS_letter_6 ?_
    refine va_getN (D := (dC, dI)) (ci := 4) (v := .int 0) (C := R_EQ) (T := T_EQ) (N := 8) hx hb hts in_EQ hown hK hP 1 rfl rfl 6 (by decide) (va_Nw.use rfl (hN.1 (Jvm.Cond.fieldLinkNest "LeastSolutions" (112 : Nat) "LeastSolutions$Equations" "variables" "I" "LeastSolutions") nw_24)) (fun _ h9 => h9) rfl d_LS_letter_9 ?_
    refine lv_icmp_ge (tgt := 27) hx hb d_LS_letter_12 (by decide) (fun _ => ?_) (fun h9 => absurd (Int32.not_lt.mp hc1) h9)
    refine lv_iconst (v := (-1)) hx hb d_LS_letter_27 (by decide) ?_
    exact W.iret (v := (-1)) hx hb hr (fun t ht hW => ⟨⟨(-1), (), rfl, rfl, trivial⟩, hS.F ht⟩) hS.2.2 d_LS_letter_28

set_option maxHeartbeats 4000000 in
set_option maxRecDepth 100000 in
theorem c_LS_times (l : Launch) (dC : Nat → ClassId) (dI : Nat → Nat → Nat) (h0 : Nat) (aT : Nat) (aW : Nat) (aB : Nat) (aL : Nat) (aS : Nat) (aV : Nat) (aC : Nat) (a7 : Nat) (a8 : Nat) (a9 : Nat) (a10 : Nat) (aE : Nat) (i : Int32) : Met l y_LS_times (Cond.code y_LS_times b_LS_times 2 (Option.some Jvm.ClassFile.FieldType.int) :: wd) { frames := 0, cells := 0, slots := 0, locals := 0 } (va_Pc [.ref h0, .int i] (fun U => va_P (dC, dI) cls [(h0, .inr (0, [.ref aT, .ref aW, .ref aB, .ref aL, .ref aS, .ref aV, .ref aC, .ref a7, .ref a8, .ref a9, .ref a10, .ref aE, .int 0, .int 0, .int 0, .int (-1)]))] U.heap ∧ va_K (dC, dI) cls [] U ∧ nw_ok U)) (va_Qi (fun r (_ : Unit) => r = (-1)) (fun _ _ => True) (fun _ => False)) 0 0 (fun _ => False) := by
  refine Met.ofW (cc := b_LS_times) (maxL := 2) (ret := (Option.some Jvm.ClassFile.FieldType.int)) (by decide) rfl ?_
  intro p e s m args below meth c s₁ B hml hv
  obtain ⟨rfl, hP, hK, hN⟩ := hv
  have hx := B.exec
  have hb := B.bytes
  have hr := B.returns
  have hlocks := B.notSynchronized
  have hts : ∀ w ∈ wd, w.before ([.ref h0, .int i] : List Value).toArray s = true := fun w hw => atoms_spec (ws := (Cond.code y_LS_times b_LS_times 2 (Option.some Jvm.ClassFile.FieldType.int) :: wd)) B.pre w (List.mem_cons_of_mem _ hw)
  have hown : s.vm.findClass "LeastSolutions" = some m.cls := findClass_of_methodNamed B.named
  have hS : va_S (fun _ => False) s.heap s.heap [] := va_S.rf
  have hl := lv_entry ([.ref h0, .int i]) (n := 2) (Nat.le_of_ble_eq_true rfl)
  rw [lg_entry_eq]
  generalize (lg_sl ([.ref h0, .int i]) ++ List.replicate (2 - (lg_sl ([.ref h0, .int i])).length) Slot.unset).toArray = ls at hl ⊢
  have hl : lv_has ls 2 [(0, .ref h0), (1, .int i)] := hl
  refine lv_aload_n hx hb d_LS_times_0 rfl (lv_at hl 0 rfl) ?_
  refine va_get (D := (dC, dI)) (ci := 0) (v := .int 0) (C := R_LS) (T := T_LS) (N := 16) hx hb hts in_LS hown hK hP 0 rfl rfl 13 (by decide) (hts _ k_302) (fun _ h9 => h9) rfl d_LS_times_1 ?_
  refine lv_if_eq (tgt := 29) hx hb d_LS_times_4 (by decide) (fun _ => ?_) (fun h9 => absurd (by decide) h9)
  refine lv_iconst (v := (-1)) hx hb d_LS_times_29 (by decide) ?_
  exact W.iret (v := (-1)) hx hb hr (fun t ht hW => ⟨⟨(-1), (), rfl, rfl, trivial⟩, hS.F ht⟩) hS.2.2 d_LS_times_30

set_option maxHeartbeats 4000000 in
set_option maxRecDepth 100000 in
theorem c_LS_bestAt (l : Launch) (dC : Nat → ClassId) (dI : Nat → Nat → Nat) (h0 : Nat) (aT : Nat) (aW : Nat) (aB : Nat) (aL : Nat) (aS : Nat) (aV : Nat) (aC : Nat) (a7 : Nat) (a8 : Nat) (a9 : Nat) (a10 : Nat) (aE : Nat) (column : Int32) : Met l y_LS_bestAt (Cond.code y_LS_bestAt b_LS_bestAt 2 (Option.some Jvm.ClassFile.FieldType.int) :: wd) { frames := 0, cells := 0, slots := 0, locals := 0 } (va_Pc [.ref h0, .int column] (fun U => va_P (dC, dI) cls [(h0, .inr (0, [.ref aT, .ref aW, .ref aB, .ref aL, .ref aS, .ref aV, .ref aC, .ref a7, .ref a8, .ref a9, .ref a10, .ref aE, .int 0, .int 0, .int 0, .int (-1)]))] U.heap ∧ va_K (dC, dI) cls [] U ∧ nw_ok U)) (va_Qi (fun r (_ : Unit) => r = (-1)) (fun _ _ => True) (fun _ => False)) 0 0 (fun _ => False) := by
  refine Met.ofW (cc := b_LS_bestAt) (maxL := 2) (ret := (Option.some Jvm.ClassFile.FieldType.int)) (by decide) rfl ?_
  intro p e s m args below meth c s₁ B hml hv
  obtain ⟨rfl, hP, hK, hN⟩ := hv
  have hx := B.exec
  have hb := B.bytes
  have hr := B.returns
  have hlocks := B.notSynchronized
  have hts : ∀ w ∈ wd, w.before ([.ref h0, .int column] : List Value).toArray s = true := fun w hw => atoms_spec (ws := (Cond.code y_LS_bestAt b_LS_bestAt 2 (Option.some Jvm.ClassFile.FieldType.int) :: wd)) B.pre w (List.mem_cons_of_mem _ hw)
  have hown : s.vm.findClass "LeastSolutions" = some m.cls := findClass_of_methodNamed B.named
  have hS : va_S (fun _ => False) s.heap s.heap [] := va_S.rf
  have hl := lv_entry ([.ref h0, .int column]) (n := 2) (Nat.le_of_ble_eq_true rfl)
  rw [lg_entry_eq]
  generalize (lg_sl ([.ref h0, .int column]) ++ List.replicate (2 - (lg_sl ([.ref h0, .int column])).length) Slot.unset).toArray = ls at hl ⊢
  have hl : lv_has ls 2 [(0, .ref h0), (1, .int column)] := hl
  refine lv_aload_n hx hb d_LS_bestAt_0 rfl (lv_at hl 0 rfl) ?_
  refine va_get (D := (dC, dI)) (ci := 0) (v := .int 0) (C := R_LS) (T := T_LS) (N := 16) hx hb hts in_LS hown hK hP 0 rfl rfl 14 (by decide) (hts _ k_303) (fun _ h9 => h9) rfl d_LS_bestAt_1 ?_
  refine lv_if_eq (tgt := 24) hx hb d_LS_bestAt_4 (by decide) (fun _ => ?_) (fun h9 => absurd (by decide) h9)
  refine lv_iconst (v := (-1)) hx hb d_LS_bestAt_24 (by decide) ?_
  exact W.iret (v := (-1)) hx hb hr (fun t ht hW => ⟨⟨(-1), (), rfl, rfl, trivial⟩, hS.F ht⟩) hS.2.2 d_LS_bestAt_25

set_option maxHeartbeats 4000000 in
set_option maxRecDepth 100000 in
theorem c_LS_hasColumn (l : Launch) (dC : Nat → ClassId) (dI : Nat → Nat → Nat) (h0 : Nat) (aT : Nat) (aW : Nat) (aB : Nat) (aL : Nat) (aS : Nat) (aV : Nat) (aC : Nat) (a7 : Nat) (a8 : Nat) (a9 : Nat) (a10 : Nat) (aE : Nat) (e0 : Nat) (e1 : Nat) (e2 : Nat) (e3 : Nat) (e4 : Nat) (column : Int32) : Met l y_LS_hasColumn (Cond.code y_LS_hasColumn b_LS_hasColumn 2 (Option.some Jvm.ClassFile.FieldType.boolean) :: wd) { frames := 1, cells := 0, slots := 0, locals := 20 } (va_Pc [.ref h0, .int column] (fun U => va_P (dC, dI) cls [(h0, .inr (0, [.ref aT, .ref aW, .ref aB, .ref aL, .ref aS, .ref aV, .ref aC, .ref a7, .ref a8, .ref a9, .ref a10, .ref aE, .int 0, .int 0, .int 0, .int (-1)])), (aE, .inr (4, [.ref e0, .ref e1, .ref e2, .ref e3, .ref e4, .int 0, .int 0, .int 0]))] U.heap ∧ va_K (dC, dI) cls [] U ∧ nw_ok U)) (va_Qi (fun r (_ : Unit) => r = 0) (fun _ _ => True) (fun _ => False)) 0 0 (fun _ => False) := by
  refine Met.ofW (cc := b_LS_hasColumn) (maxL := 2) (ret := (Option.some Jvm.ClassFile.FieldType.boolean)) (by decide) rfl ?_
  intro p e s m args below meth c s₁ B hml hv
  obtain ⟨rfl, hP, hK, hN⟩ := hv
  have hx := B.exec
  have hb := B.bytes
  have hr := B.returns
  have hlocks := B.notSynchronized
  have hts : ∀ w ∈ wd, w.before ([.ref h0, .int column] : List Value).toArray s = true := fun w hw => atoms_spec (ws := (Cond.code y_LS_hasColumn b_LS_hasColumn 2 (Option.some Jvm.ClassFile.FieldType.boolean) :: wd)) B.pre w (List.mem_cons_of_mem _ hw)
  have hown : s.vm.findClass "LeastSolutions" = some m.cls := findClass_of_methodNamed B.named
  have hS : va_S (fun _ => False) s.heap s.heap [] := va_S.rf
  have hl := lv_entry ([.ref h0, .int column]) (n := 2) (Nat.le_of_ble_eq_true rfl)
  rw [lg_entry_eq]
  generalize (lg_sl ([.ref h0, .int column]) ++ List.replicate (2 - (lg_sl ([.ref h0, .int column])).length) Slot.unset).toArray = ls at hl ⊢
  have hl : lv_has ls 2 [(0, .ref h0), (1, .int column)] := hl
  refine lv_iload_n hx hb d_LS_hasColumn_0 rfl (lv_at hl 1 rfl) ?_
  refine lv_if_lt (tgt := 19) hx hb d_LS_hasColumn_1 (by decide) (fun hc1 => ?_) (fun hc1 => ?_)
  · refine lv_iconst (v := 0) hx hb d_LS_hasColumn_19 (by decide) ?_
    exact W.zret (v := 0) (ty := .boolean) hx hb hr (by decide +kernel) (fun t ht hW => ⟨⟨0, (), rfl, rfl, trivial⟩, hS.F ht⟩) hS.2.2 d_LS_hasColumn_20
  · refine lv_iload_n hx hb d_LS_hasColumn_4 rfl (lv_at hl 1 rfl) ?_
    refine lv_aload_n hx hb d_LS_hasColumn_5 rfl (lv_at hl 0 rfl) ?_
    refine va_get (D := (dC, dI)) (ci := 0) (v := .ref aE) (C := R_LS) (T := T_LS) (N := 16) hx hb hts in_LS hown hK hP 0 rfl rfl 11 (by decide) (hts _ k_300) (fun _ h9 => h9) rfl d_LS_hasColumn_6 ?_
    refine pu_calli (va_runV (As := []) (rest := [.int column]) ⟨hx, hb, hml, hown, hts⟩ (c_EQ_columns l dC dI (aE) (e0) (e1) (e2) (e3) (e4)) (wd_V (C := "LeastSolutions$Equations") 0 hts k_440 k_5 k_534 k_438 k_439 rfl rfl (by decide +kernel) ⟨Nat.le_of_ble_eq_true rfl, Nat.le_of_ble_eq_true rfl⟩) ⟨fun a U g mk q => by obtain ⟨q0, qP, qK, qN⟩ := q; exact ⟨q0, qP, va_K.moved (u := U) (U := U.calling g mk a) (Vm.Alike.refl U.vm) qK, nw_ok.same (s := U) (U := U.calling g mk a) rfl qN⟩, va_recv (ci := 4) (q0 := 1) hK hP rfl rfl, fun U hU hW => ⟨rfl, by rw [hU]; exact hP.sub (ws' := [(aE, .inr (4, [.ref e0, .ref e1, .ref e2, .ref e3, .ref e4, .int 0, .int 0, .int 0]))]) [1] rfl, va_K.moved hW.alike (hK.sub (tys' := []) [] rfl), nw_ok.warm hW hN⟩⟩ rfl rfl hl.1 rfl (lv_room (Nat.le_of_ble_eq_true rfl)) d_LS_hasColumn_9 ⟨Nat.le_of_ble_eq_true rfl, Nat.le_of_ble_eq_true rfl⟩) (fun r1 hr1 => ?_)
    try dsimp only at hr1
    subst hr1
    refine lv_icmp_ge (tgt := 19) hx hb d_LS_hasColumn_12 (by decide) (fun _ => ?_) (fun h9 => absurd (Int32.not_lt.mp hc1) h9)
    refine lv_iconst (v := 0) hx hb d_LS_hasColumn_19 (by decide) ?_
    exact W.zret (v := 0) (ty := .boolean) hx hb hr (by decide +kernel) (fun t ht hW => ⟨⟨0, (), rfl, rfl, trivial⟩, hS.F ht⟩) hS.2.2 d_LS_hasColumn_20

set_option maxHeartbeats 4000000 in
set_option maxRecDepth 100000 in
theorem c_LS_needColumn (l : Launch) (htr : l.stackTraces = false) (dC : Nat → ClassId) (dI : Nat → Nat → Nat) (h0 : Nat) (aT : Nat) (aW : Nat) (aB : Nat) (aL : Nat) (aS : Nat) (aV : Nat) (aC : Nat) (a7 : Nat) (a8 : Nat) (a9 : Nat) (a10 : Nat) (aE : Nat) (e0 : Nat) (e1 : Nat) (e2 : Nat) (e3 : Nat) (e4 : Nat) (column : Int32) : xt_Met l y_LS_needColumn (Cond.code y_LS_needColumn b_LS_needColumn 2 (Option.none : Option Jvm.ClassFile.FieldType) :: wd) { frames := 6, cells := 1, slots := 6, locals := 100 } (va_Pc [.ref h0, .int column] (fun U => va_P (dC, dI) cls [(h0, .inr (0, [.ref aT, .ref aW, .ref aB, .ref aL, .ref aS, .ref aV, .ref aC, .ref a7, .ref a8, .ref a9, .ref a10, .ref aE, .int 0, .int 0, .int 0, .int (-1)])), (aE, .inr (4, [.ref e0, .ref e1, .ref e2, .ref e3, .ref e4, .int 0, .int 0, .int 0]))] U.heap ∧ va_K (dC, dI) cls [] U ∧ nw_ok U ∧ xs_ok U)) (fun _ st x t => xt_X "java/lang/IndexOutOfBoundsException" st x t) 1 6 (fun _ => False) := by
  refine xt_ofW (cc := b_LS_needColumn) (maxL := 2) (ret := (Option.none : Option Jvm.ClassFile.FieldType)) (by decide) rfl ?_
  intro p e s m args below meth c s₁ B hml hne hv
  obtain ⟨rfl, hP, hK, hN, hX⟩ := hv
  have hx := B.exec
  have hb := B.bytes
  have hr := B.returns
  have hlocks := B.notSynchronized
  have hts : ∀ w ∈ wd, w.before ([.ref h0, .int column] : List Value).toArray s = true := fun w hw => atoms_spec (ws := (Cond.code y_LS_needColumn b_LS_needColumn 2 (Option.none : Option Jvm.ClassFile.FieldType) :: wd)) B.pre w (List.mem_cons_of_mem _ hw)
  have hown : s.vm.findClass "LeastSolutions" = some m.cls := findClass_of_methodNamed B.named
  have hS : va_S (fun _ => False) s.heap s.heap [] := va_S.rf
  have hl := lv_entry ([.ref h0, .int column]) (n := 2) (Nat.le_of_ble_eq_true rfl)
  rw [lg_entry_eq]
  generalize (lg_sl ([.ref h0, .int column]) ++ List.replicate (2 - (lg_sl ([.ref h0, .int column])).length) Slot.unset).toArray = ls at hl ⊢
  have hl : lv_has ls 2 [(0, .ref h0), (1, .int column)] := hl
  refine lv_aload_n hx hb d_LS_needColumn_0 rfl (lv_at hl 0 rfl) ?_
  refine lv_iload_n hx hb d_LS_needColumn_1 rfl (lv_at hl 1 rfl) ?_
  refine pu_calli (va_runV (As := [.int column]) (rest := []) ⟨hx, hb, hml, hown, hts⟩ (c_LS_hasColumn l dC dI (h0) (aT) (aW) (aB) (aL) (aS) (aV) (aC) (a7) (a8) (a9) (a10) (aE) (e0) (e1) (e2) (e3) (e4) (column)) (wd_V (C := "LeastSolutions") 1 hts k_597 k_1 k_594 k_596 ks_LS_hasColumn rfl rfl (by decide +kernel) ⟨Nat.le_of_ble_eq_true rfl, Nat.le_of_ble_eq_true rfl⟩) ⟨fun a U g mk q => by obtain ⟨q0, qP, qK, qN⟩ := q; exact ⟨q0, qP, va_K.moved (u := U) (U := U.calling g mk a) (Vm.Alike.refl U.vm) qK, nw_ok.same (s := U) (U := U.calling g mk a) rfl qN⟩, va_recv (ci := 0) (q0 := 0) hK hP rfl rfl, fun U hU hW => ⟨rfl, by rw [hU]; exact hP.sub (ws' := [(h0, .inr (0, [.ref aT, .ref aW, .ref aB, .ref aL, .ref aS, .ref aV, .ref aC, .ref a7, .ref a8, .ref a9, .ref a10, .ref aE, .int 0, .int 0, .int 0, .int (-1)])), (aE, .inr (4, [.ref e0, .ref e1, .ref e2, .ref e3, .ref e4, .int 0, .int 0, .int 0]))]) [0, 1] rfl, va_K.moved hW.alike (hK.sub (tys' := []) [] rfl), nw_ok.warm hW hN⟩⟩ rfl rfl hl.1 rfl (lv_room (Nat.le_of_ble_eq_true rfl)) d_LS_needColumn_2 ⟨Nat.le_of_ble_eq_true rfl, Nat.le_of_ble_eq_true rfl⟩) (fun r1 hr1 => ?_)
  try dsimp only at hr1
  subst hr1
  refine lv_if_ne (tgt := 16) hx hb d_LS_needColumn_5 (by decide) (fun h9 => absurd (by decide) h9) (fun _ => ?_)
  exact xt_throw (names := ["java/lang/RuntimeException", "java/lang/Exception"]) (ia := 118) (ic := 120) hx hb htr hml hl hne hlocks hown (by decide +kernel) (by decide +kernel) (hts _ k_606) (hts _ k_17) (oa_IOOBE hts hX) d_LS_needColumn_8 d_LS_needColumn_11 d_LS_needColumn_12 d_LS_needColumn_15 (Nat.le_of_ble_eq_true rfl) (Nat.le_of_ble_eq_true rfl) (Nat.le_of_ble_eq_true rfl) (Nat.le_of_ble_eq_true rfl)

set_option maxHeartbeats 4000000 in
set_option maxRecDepth 100000 in
theorem c_LS_needSystem (l : Launch) (htr : l.stackTraces = false) (dC : Nat → ClassId) (dI : Nat → Nat → Nat) (h0 : Nat) (aT : Nat) (aW : Nat) (aB : Nat) (aL : Nat) (aS : Nat) (aV : Nat) (aC : Nat) (a7 : Nat) (a8 : Nat) (a9 : Nat) (a10 : Nat) (aE : Nat) : xt_Met l y_LS_needSystem (Cond.code y_LS_needSystem b_LS_needSystem 1 (Option.none : Option Jvm.ClassFile.FieldType) :: wd) { frames := 6, cells := 1, slots := 6, locals := 100 } (va_Pc [.ref h0] (fun U => va_P (dC, dI) cls [(h0, .inr (0, [.ref aT, .ref aW, .ref aB, .ref aL, .ref aS, .ref aV, .ref aC, .ref a7, .ref a8, .ref a9, .ref a10, .ref aE, .int 0, .int 0, .int 0, .int (-1)]))] U.heap ∧ va_K (dC, dI) cls [] U ∧ nw_ok U ∧ xs_ok U)) (fun _ st x t => xt_X "java/lang/IllegalStateException" st x t) 1 6 (fun _ => False) := by
  refine xt_ofW (cc := b_LS_needSystem) (maxL := 1) (ret := (Option.none : Option Jvm.ClassFile.FieldType)) (by decide) rfl ?_
  intro p e s m args below meth c s₁ B hml hne hv
  obtain ⟨rfl, hP, hK, hN, hX⟩ := hv
  have hx := B.exec
  have hb := B.bytes
  have hr := B.returns
  have hlocks := B.notSynchronized
  have hts : ∀ w ∈ wd, w.before ([.ref h0] : List Value).toArray s = true := fun w hw => atoms_spec (ws := (Cond.code y_LS_needSystem b_LS_needSystem 1 (Option.none : Option Jvm.ClassFile.FieldType) :: wd)) B.pre w (List.mem_cons_of_mem _ hw)
  have hown : s.vm.findClass "LeastSolutions" = some m.cls := findClass_of_methodNamed B.named
  have hS : va_S (fun _ => False) s.heap s.heap [] := va_S.rf
  have hl := lv_entry ([.ref h0]) (n := 1) (Nat.le_of_ble_eq_true rfl)
  rw [lg_entry_eq]
  generalize (lg_sl ([.ref h0]) ++ List.replicate (1 - (lg_sl ([.ref h0])).length) Slot.unset).toArray = ls at hl ⊢
  have hl : lv_has ls 1 [(0, .ref h0)] := hl
  refine lv_aload_n hx hb d_LS_needSystem_0 rfl (lv_at hl 0 rfl) ?_
  refine va_get (D := (dC, dI)) (ci := 0) (v := .int 0) (C := R_LS) (T := T_LS) (N := 16) hx hb hts in_LS hown hK hP 0 rfl rfl 12 (by decide) (hts _ k_301) (fun _ h9 => h9) rfl d_LS_needSystem_1 ?_
  refine lv_if_ne (tgt := 15) hx hb d_LS_needSystem_4 (by decide) (fun h9 => absurd (by decide) h9) (fun _ => ?_)
  exact xt_throw (names := ["java/lang/RuntimeException", "java/lang/Exception"]) (ia := 266) (ic := 268) hx hb htr hml hl hne hlocks hown (by decide +kernel) (by decide +kernel) (hts _ k_682) (hts _ k_18) (oa_ISE hts hX) d_LS_needSystem_7 d_LS_needSystem_10 d_LS_needSystem_11 d_LS_needSystem_14 (Nat.le_of_ble_eq_true rfl) (Nat.le_of_ble_eq_true rfl) (Nat.le_of_ble_eq_true rfl) (Nat.le_of_ble_eq_true rfl)

set_option maxHeartbeats 4000000 in
set_option maxRecDepth 100000 in
theorem c_LS_solvable (l : Launch) (htr : l.stackTraces = false) (dC : Nat → ClassId) (dI : Nat → Nat → Nat) (h0 : Nat) (aT : Nat) (aW : Nat) (aB : Nat) (aL : Nat) (aS : Nat) (aV : Nat) (aC : Nat) (a7 : Nat) (a8 : Nat) (a9 : Nat) (a10 : Nat) (aE : Nat) : xt_Met l y_LS_solvable (Cond.code y_LS_solvable b_LS_solvable 1 (Option.some Jvm.ClassFile.FieldType.int) :: wd) { frames := 7, cells := 1, slots := 6, locals := 120 } (va_Pc [.ref h0] (fun U => va_P (dC, dI) cls [(h0, .inr (0, [.ref aT, .ref aW, .ref aB, .ref aL, .ref aS, .ref aV, .ref aC, .ref a7, .ref a8, .ref a9, .ref a10, .ref aE, .int 0, .int 0, .int 0, .int (-1)]))] U.heap ∧ va_K (dC, dI) cls [] U ∧ nw_ok U ∧ xs_ok U)) (fun _ st x t => xt_X "java/lang/IllegalStateException" st x t) 1 6 (fun _ => False) := by
  refine xt_ofW (cc := b_LS_solvable) (maxL := 1) (ret := (Option.some Jvm.ClassFile.FieldType.int)) (by decide) rfl ?_
  intro p e s m args below meth c s₁ B hml hne hv
  obtain ⟨rfl, hP, hK, hN, hX⟩ := hv
  have hx := B.exec
  have hb := B.bytes
  have hr := B.returns
  have hlocks := B.notSynchronized
  have hts : ∀ w ∈ wd, w.before ([.ref h0] : List Value).toArray s = true := fun w hw => atoms_spec (ws := (Cond.code y_LS_solvable b_LS_solvable 1 (Option.some Jvm.ClassFile.FieldType.int) :: wd)) B.pre w (List.mem_cons_of_mem _ hw)
  have hown : s.vm.findClass "LeastSolutions" = some m.cls := findClass_of_methodNamed B.named
  have hS : va_S (fun _ => False) s.heap s.heap [] := va_S.rf
  have hl := lv_entry ([.ref h0]) (n := 1) (Nat.le_of_ble_eq_true rfl)
  rw [lg_entry_eq]
  generalize (lg_sl ([.ref h0]) ++ List.replicate (1 - (lg_sl ([.ref h0])).length) Slot.unset).toArray = ls at hl ⊢
  have hl : lv_has ls 1 [(0, .ref h0)] := hl
  refine lv_aload_n hx hb d_LS_solvable_0 rfl (lv_at hl 0 rfl) ?_
  exact xt_out (xt_runV (As := []) (rest := []) ⟨hx, hb, hml, hown, hts⟩ (c_LS_needSystem l htr dC dI (h0) (aT) (aW) (aB) (aL) (aS) (aV) (aC) (a7) (a8) (a9) (a10) (aE)) (wd_V (C := "LeastSolutions") 0 hts k_681 k_1 k_678 k_680 ks_LS_needSystem rfl rfl (by decide +kernel) ⟨Nat.le_of_ble_eq_true rfl, Nat.le_of_ble_eq_true rfl⟩) ⟨fun a U g mk q => by obtain ⟨q0, qP, qK, qN, qX⟩ := q; exact ⟨q0, qP, va_K.moved (u := U) (U := U.calling g mk a) (Vm.Alike.refl U.vm) qK, nw_ok.same (s := U) (U := U.calling g mk a) rfl qN, xs_ok.moved (s := U) (Vm.Alike.refl U.vm) (fun _ _ => rfl) qX⟩, va_recv (ci := 0) (q0 := 0) hK hP rfl rfl, fun U hU hW => ⟨rfl, by rw [hU]; exact hP.sub (ws' := [(h0, .inr (0, [.ref aT, .ref aW, .ref aB, .ref aL, .ref aS, .ref aV, .ref aC, .ref a7, .ref a8, .ref a9, .ref a10, .ref aE, .int 0, .int 0, .int 0, .int (-1)]))]) [0] rfl, va_K.moved hW.alike (hK.sub (tys' := []) [] rfl), nw_ok.warm hW hN, xs_ok.moved hW.alike (fun q _ => by rw [hU]) hX⟩⟩ rfl rfl hl.1 rfl (lv_room (Nat.le_of_ble_eq_true rfl)) d_LS_solvable_1 ⟨Nat.le_of_ble_eq_true rfl, Nat.le_of_ble_eq_true rfl⟩) hne hlocks

set_option maxHeartbeats 4000000 in
set_option maxRecDepth 100000 in
theorem c_LS_kernel (l : Launch) (htr : l.stackTraces = false) (dC : Nat → ClassId) (dI : Nat → Nat → Nat) (h0 : Nat) (aT : Nat) (aW : Nat) (aB : Nat) (aL : Nat) (aS : Nat) (aV : Nat) (aC : Nat) (a7 : Nat) (a8 : Nat) (a9 : Nat) (a10 : Nat) (aE : Nat) : xt_Met l y_LS_kernel (Cond.code y_LS_kernel b_LS_kernel 1 (Option.some Jvm.ClassFile.FieldType.int) :: wd) { frames := 7, cells := 1, slots := 6, locals := 120 } (va_Pc [.ref h0] (fun U => va_P (dC, dI) cls [(h0, .inr (0, [.ref aT, .ref aW, .ref aB, .ref aL, .ref aS, .ref aV, .ref aC, .ref a7, .ref a8, .ref a9, .ref a10, .ref aE, .int 0, .int 0, .int 0, .int (-1)]))] U.heap ∧ va_K (dC, dI) cls [] U ∧ nw_ok U ∧ xs_ok U)) (fun _ st x t => xt_X "java/lang/IllegalStateException" st x t) 1 6 (fun _ => False) := by
  refine xt_ofW (cc := b_LS_kernel) (maxL := 1) (ret := (Option.some Jvm.ClassFile.FieldType.int)) (by decide) rfl ?_
  intro p e s m args below meth c s₁ B hml hne hv
  obtain ⟨rfl, hP, hK, hN, hX⟩ := hv
  have hx := B.exec
  have hb := B.bytes
  have hr := B.returns
  have hlocks := B.notSynchronized
  have hts : ∀ w ∈ wd, w.before ([.ref h0] : List Value).toArray s = true := fun w hw => atoms_spec (ws := (Cond.code y_LS_kernel b_LS_kernel 1 (Option.some Jvm.ClassFile.FieldType.int) :: wd)) B.pre w (List.mem_cons_of_mem _ hw)
  have hown : s.vm.findClass "LeastSolutions" = some m.cls := findClass_of_methodNamed B.named
  have hS : va_S (fun _ => False) s.heap s.heap [] := va_S.rf
  have hl := lv_entry ([.ref h0]) (n := 1) (Nat.le_of_ble_eq_true rfl)
  rw [lg_entry_eq]
  generalize (lg_sl ([.ref h0]) ++ List.replicate (1 - (lg_sl ([.ref h0])).length) Slot.unset).toArray = ls at hl ⊢
  have hl : lv_has ls 1 [(0, .ref h0)] := hl
  refine lv_aload_n hx hb d_LS_kernel_0 rfl (lv_at hl 0 rfl) ?_
  exact xt_out (xt_runV (As := []) (rest := []) ⟨hx, hb, hml, hown, hts⟩ (c_LS_needSystem l htr dC dI (h0) (aT) (aW) (aB) (aL) (aS) (aV) (aC) (a7) (a8) (a9) (a10) (aE)) (wd_V (C := "LeastSolutions") 0 hts k_681 k_1 k_678 k_680 ks_LS_needSystem rfl rfl (by decide +kernel) ⟨Nat.le_of_ble_eq_true rfl, Nat.le_of_ble_eq_true rfl⟩) ⟨fun a U g mk q => by obtain ⟨q0, qP, qK, qN, qX⟩ := q; exact ⟨q0, qP, va_K.moved (u := U) (U := U.calling g mk a) (Vm.Alike.refl U.vm) qK, nw_ok.same (s := U) (U := U.calling g mk a) rfl qN, xs_ok.moved (s := U) (Vm.Alike.refl U.vm) (fun _ _ => rfl) qX⟩, va_recv (ci := 0) (q0 := 0) hK hP rfl rfl, fun U hU hW => ⟨rfl, by rw [hU]; exact hP.sub (ws' := [(h0, .inr (0, [.ref aT, .ref aW, .ref aB, .ref aL, .ref aS, .ref aV, .ref aC, .ref a7, .ref a8, .ref a9, .ref a10, .ref aE, .int 0, .int 0, .int 0, .int (-1)]))]) [0] rfl, va_K.moved hW.alike (hK.sub (tys' := []) [] rfl), nw_ok.warm hW hN, xs_ok.moved hW.alike (fun q _ => by rw [hU]) hX⟩⟩ rfl rfl hl.1 rfl (lv_room (Nat.le_of_ble_eq_true rfl)) d_LS_kernel_1 ⟨Nat.le_of_ble_eq_true rfl, Nat.le_of_ble_eq_true rfl⟩) hne hlocks

set_option maxHeartbeats 4000000 in
set_option maxRecDepth 100000 in
theorem c_LS_holds (l : Launch) (htr : l.stackTraces = false) (dC : Nat → ClassId) (dI : Nat → Nat → Nat) (h0 : Nat) (aT : Nat) (aW : Nat) (aB : Nat) (aL : Nat) (aS : Nat) (aV : Nat) (aC : Nat) (a7 : Nat) (a8 : Nat) (a9 : Nat) (a10 : Nat) (aE : Nat) : xt_Met l y_LS_holds (Cond.code y_LS_holds b_LS_holds 1 (Option.some Jvm.ClassFile.FieldType.int) :: wd) { frames := 7, cells := 1, slots := 6, locals := 120 } (va_Pc [.ref h0] (fun U => va_P (dC, dI) cls [(h0, .inr (0, [.ref aT, .ref aW, .ref aB, .ref aL, .ref aS, .ref aV, .ref aC, .ref a7, .ref a8, .ref a9, .ref a10, .ref aE, .int 0, .int 0, .int 0, .int (-1)]))] U.heap ∧ va_K (dC, dI) cls [] U ∧ nw_ok U ∧ xs_ok U)) (fun _ st x t => xt_X "java/lang/IllegalStateException" st x t) 1 6 (fun _ => False) := by
  refine xt_ofW (cc := b_LS_holds) (maxL := 1) (ret := (Option.some Jvm.ClassFile.FieldType.int)) (by decide) rfl ?_
  intro p e s m args below meth c s₁ B hml hne hv
  obtain ⟨rfl, hP, hK, hN, hX⟩ := hv
  have hx := B.exec
  have hb := B.bytes
  have hr := B.returns
  have hlocks := B.notSynchronized
  have hts : ∀ w ∈ wd, w.before ([.ref h0] : List Value).toArray s = true := fun w hw => atoms_spec (ws := (Cond.code y_LS_holds b_LS_holds 1 (Option.some Jvm.ClassFile.FieldType.int) :: wd)) B.pre w (List.mem_cons_of_mem _ hw)
  have hown : s.vm.findClass "LeastSolutions" = some m.cls := findClass_of_methodNamed B.named
  have hS : va_S (fun _ => False) s.heap s.heap [] := va_S.rf
  have hl := lv_entry ([.ref h0]) (n := 1) (Nat.le_of_ble_eq_true rfl)
  rw [lg_entry_eq]
  generalize (lg_sl ([.ref h0]) ++ List.replicate (1 - (lg_sl ([.ref h0])).length) Slot.unset).toArray = ls at hl ⊢
  have hl : lv_has ls 1 [(0, .ref h0)] := hl
  refine lv_aload_n hx hb d_LS_holds_0 rfl (lv_at hl 0 rfl) ?_
  exact xt_out (xt_runV (As := []) (rest := []) ⟨hx, hb, hml, hown, hts⟩ (c_LS_needSystem l htr dC dI (h0) (aT) (aW) (aB) (aL) (aS) (aV) (aC) (a7) (a8) (a9) (a10) (aE)) (wd_V (C := "LeastSolutions") 0 hts k_681 k_1 k_678 k_680 ks_LS_needSystem rfl rfl (by decide +kernel) ⟨Nat.le_of_ble_eq_true rfl, Nat.le_of_ble_eq_true rfl⟩) ⟨fun a U g mk q => by obtain ⟨q0, qP, qK, qN, qX⟩ := q; exact ⟨q0, qP, va_K.moved (u := U) (U := U.calling g mk a) (Vm.Alike.refl U.vm) qK, nw_ok.same (s := U) (U := U.calling g mk a) rfl qN, xs_ok.moved (s := U) (Vm.Alike.refl U.vm) (fun _ _ => rfl) qX⟩, va_recv (ci := 0) (q0 := 0) hK hP rfl rfl, fun U hU hW => ⟨rfl, by rw [hU]; exact hP.sub (ws' := [(h0, .inr (0, [.ref aT, .ref aW, .ref aB, .ref aL, .ref aS, .ref aV, .ref aC, .ref a7, .ref a8, .ref a9, .ref a10, .ref aE, .int 0, .int 0, .int 0, .int (-1)]))]) [0] rfl, va_K.moved hW.alike (hK.sub (tys' := []) [] rfl), nw_ok.warm hW hN, xs_ok.moved hW.alike (fun q _ => by rw [hU]) hX⟩⟩ rfl rfl hl.1 rfl (lv_room (Nat.le_of_ble_eq_true rfl)) d_LS_holds_1 ⟨Nat.le_of_ble_eq_true rfl, Nat.le_of_ble_eq_true rfl⟩) hne hlocks

set_option maxHeartbeats 4000000 in
set_option maxRecDepth 100000 in
theorem c_LS_tell (l : Launch) (htr : l.stackTraces = false) (dC : Nat → ClassId) (dI : Nat → Nat → Nat) (h0 : Nat) (aT : Nat) (aW : Nat) (aB : Nat) (aL : Nat) (aS : Nat) (aV : Nat) (aC : Nat) (a7 : Nat) (a8 : Nat) (a9 : Nat) (a10 : Nat) (aE : Nat) (e0 : Nat) (e1 : Nat) (e2 : Nat) (e3 : Nat) (e4 : Nat) (column : Int32) (value : Int32) : xt_Met l y_LS_tell (Cond.code y_LS_tell b_LS_tell 3 (Option.none : Option Jvm.ClassFile.FieldType) :: wd) { frames := 7, cells := 1, slots := 6, locals := 121 } (va_Pc [.ref h0, .int column, .int value] (fun U => va_P (dC, dI) cls [(h0, .inr (0, [.ref aT, .ref aW, .ref aB, .ref aL, .ref aS, .ref aV, .ref aC, .ref a7, .ref a8, .ref a9, .ref a10, .ref aE, .int 0, .int 0, .int 0, .int (-1)])), (aE, .inr (4, [.ref e0, .ref e1, .ref e2, .ref e3, .ref e4, .int 0, .int 0, .int 0]))] U.heap ∧ va_K (dC, dI) cls [] U ∧ nw_ok U ∧ xs_ok U)) (fun _ st x t => xt_X "java/lang/IndexOutOfBoundsException" st x t) 1 6 (fun _ => False) := by
  refine xt_ofW (cc := b_LS_tell) (maxL := 3) (ret := (Option.none : Option Jvm.ClassFile.FieldType)) (by decide) rfl ?_
  intro p e s m args below meth c s₁ B hml hne hv
  obtain ⟨rfl, hP, hK, hN, hX⟩ := hv
  have hx := B.exec
  have hb := B.bytes
  have hr := B.returns
  have hlocks := B.notSynchronized
  have hts : ∀ w ∈ wd, w.before ([.ref h0, .int column, .int value] : List Value).toArray s = true := fun w hw => atoms_spec (ws := (Cond.code y_LS_tell b_LS_tell 3 (Option.none : Option Jvm.ClassFile.FieldType) :: wd)) B.pre w (List.mem_cons_of_mem _ hw)
  have hown : s.vm.findClass "LeastSolutions" = some m.cls := findClass_of_methodNamed B.named
  have hS : va_S (fun _ => False) s.heap s.heap [] := va_S.rf
  have hl := lv_entry ([.ref h0, .int column, .int value]) (n := 3) (Nat.le_of_ble_eq_true rfl)
  rw [lg_entry_eq]
  generalize (lg_sl ([.ref h0, .int column, .int value]) ++ List.replicate (3 - (lg_sl ([.ref h0, .int column, .int value])).length) Slot.unset).toArray = ls at hl ⊢
  have hl : lv_has ls 3 [(0, .ref h0), (1, .int column), (2, .int value)] := hl
  refine lv_aload_n hx hb d_LS_tell_0 rfl (lv_at hl 0 rfl) ?_
  refine lv_iload_n hx hb d_LS_tell_1 rfl (lv_at hl 1 rfl) ?_
  exact xt_out (xt_runV (As := [.int column]) (rest := []) ⟨hx, hb, hml, hown, hts⟩ (c_LS_needColumn l htr dC dI (h0) (aT) (aW) (aB) (aL) (aS) (aV) (aC) (a7) (a8) (a9) (a10) (aE) (e0) (e1) (e2) (e3) (e4) (column)) (wd_V (C := "LeastSolutions") 1 hts k_722 k_1 k_719 k_721 ks_LS_needColumn rfl rfl (by decide +kernel) ⟨Nat.le_of_ble_eq_true rfl, Nat.le_of_ble_eq_true rfl⟩) ⟨fun a U g mk q => by obtain ⟨q0, qP, qK, qN, qX⟩ := q; exact ⟨q0, qP, va_K.moved (u := U) (U := U.calling g mk a) (Vm.Alike.refl U.vm) qK, nw_ok.same (s := U) (U := U.calling g mk a) rfl qN, xs_ok.moved (s := U) (Vm.Alike.refl U.vm) (fun _ _ => rfl) qX⟩, va_recv (ci := 0) (q0 := 0) hK hP rfl rfl, fun U hU hW => ⟨rfl, by rw [hU]; exact hP.sub (ws' := [(h0, .inr (0, [.ref aT, .ref aW, .ref aB, .ref aL, .ref aS, .ref aV, .ref aC, .ref a7, .ref a8, .ref a9, .ref a10, .ref aE, .int 0, .int 0, .int 0, .int (-1)])), (aE, .inr (4, [.ref e0, .ref e1, .ref e2, .ref e3, .ref e4, .int 0, .int 0, .int 0]))]) [0, 1] rfl, va_K.moved hW.alike (hK.sub (tys' := []) [] rfl), nw_ok.warm hW hN, xs_ok.moved hW.alike (fun q _ => by rw [hU]) hX⟩⟩ rfl rfl hl.1 rfl (lv_room (Nat.le_of_ble_eq_true rfl)) d_LS_tell_2 ⟨Nat.le_of_ble_eq_true rfl, Nat.le_of_ble_eq_true rfl⟩) hne hlocks

set_option maxHeartbeats 4000000 in
set_option maxRecDepth 100000 in
theorem c_LS_cost (l : Launch) (htr : l.stackTraces = false) (dC : Nat → ClassId) (dI : Nat → Nat → Nat) (h0 : Nat) (aT : Nat) (aW : Nat) (aB : Nat) (aL : Nat) (aS : Nat) (aV : Nat) (aC : Nat) (a7 : Nat) (a8 : Nat) (a9 : Nat) (a10 : Nat) (aE : Nat) (e0 : Nat) (e1 : Nat) (e2 : Nat) (e3 : Nat) (e4 : Nat) (column : Int32) (value : Int32) : xt_Met l y_LS_cost (Cond.code y_LS_cost b_LS_cost 3 (Option.none : Option Jvm.ClassFile.FieldType) :: wd) { frames := 7, cells := 1, slots := 6, locals := 121 } (va_Pc [.ref h0, .int column, .int value] (fun U => va_P (dC, dI) cls [(h0, .inr (0, [.ref aT, .ref aW, .ref aB, .ref aL, .ref aS, .ref aV, .ref aC, .ref a7, .ref a8, .ref a9, .ref a10, .ref aE, .int 0, .int 0, .int 0, .int (-1)])), (aE, .inr (4, [.ref e0, .ref e1, .ref e2, .ref e3, .ref e4, .int 0, .int 0, .int 0]))] U.heap ∧ va_K (dC, dI) cls [] U ∧ nw_ok U ∧ xs_ok U)) (fun _ st x t => xt_X "java/lang/IndexOutOfBoundsException" st x t) 1 6 (fun _ => False) := by
  refine xt_ofW (cc := b_LS_cost) (maxL := 3) (ret := (Option.none : Option Jvm.ClassFile.FieldType)) (by decide) rfl ?_
  intro p e s m args below meth c s₁ B hml hne hv
  obtain ⟨rfl, hP, hK, hN, hX⟩ := hv
  have hx := B.exec
  have hb := B.bytes
  have hr := B.returns
  have hlocks := B.notSynchronized
  have hts : ∀ w ∈ wd, w.before ([.ref h0, .int column, .int value] : List Value).toArray s = true := fun w hw => atoms_spec (ws := (Cond.code y_LS_cost b_LS_cost 3 (Option.none : Option Jvm.ClassFile.FieldType) :: wd)) B.pre w (List.mem_cons_of_mem _ hw)
  have hown : s.vm.findClass "LeastSolutions" = some m.cls := findClass_of_methodNamed B.named
  have hS : va_S (fun _ => False) s.heap s.heap [] := va_S.rf
  have hl := lv_entry ([.ref h0, .int column, .int value]) (n := 3) (Nat.le_of_ble_eq_true rfl)
  rw [lg_entry_eq]
  generalize (lg_sl ([.ref h0, .int column, .int value]) ++ List.replicate (3 - (lg_sl ([.ref h0, .int column, .int value])).length) Slot.unset).toArray = ls at hl ⊢
  have hl : lv_has ls 3 [(0, .ref h0), (1, .int column), (2, .int value)] := hl
  refine lv_aload_n hx hb d_LS_cost_0 rfl (lv_at hl 0 rfl) ?_
  refine lv_iload_n hx hb d_LS_cost_1 rfl (lv_at hl 1 rfl) ?_
  exact xt_out (xt_runV (As := [.int column]) (rest := []) ⟨hx, hb, hml, hown, hts⟩ (c_LS_needColumn l htr dC dI (h0) (aT) (aW) (aB) (aL) (aS) (aV) (aC) (a7) (a8) (a9) (a10) (aE) (e0) (e1) (e2) (e3) (e4) (column)) (wd_V (C := "LeastSolutions") 1 hts k_722 k_1 k_719 k_721 ks_LS_needColumn rfl rfl (by decide +kernel) ⟨Nat.le_of_ble_eq_true rfl, Nat.le_of_ble_eq_true rfl⟩) ⟨fun a U g mk q => by obtain ⟨q0, qP, qK, qN, qX⟩ := q; exact ⟨q0, qP, va_K.moved (u := U) (U := U.calling g mk a) (Vm.Alike.refl U.vm) qK, nw_ok.same (s := U) (U := U.calling g mk a) rfl qN, xs_ok.moved (s := U) (Vm.Alike.refl U.vm) (fun _ _ => rfl) qX⟩, va_recv (ci := 0) (q0 := 0) hK hP rfl rfl, fun U hU hW => ⟨rfl, by rw [hU]; exact hP.sub (ws' := [(h0, .inr (0, [.ref aT, .ref aW, .ref aB, .ref aL, .ref aS, .ref aV, .ref aC, .ref a7, .ref a8, .ref a9, .ref a10, .ref aE, .int 0, .int 0, .int 0, .int (-1)])), (aE, .inr (4, [.ref e0, .ref e1, .ref e2, .ref e3, .ref e4, .int 0, .int 0, .int 0]))]) [0, 1] rfl, va_K.moved hW.alike (hK.sub (tys' := []) [] rfl), nw_ok.warm hW hN, xs_ok.moved hW.alike (fun q _ => by rw [hU]) hX⟩⟩ rfl rfl hl.1 rfl (lv_room (Nat.le_of_ble_eq_true rfl)) d_LS_cost_2 ⟨Nat.le_of_ble_eq_true rfl, Nat.le_of_ble_eq_true rfl⟩) hne hlocks

set_option maxHeartbeats 4000000 in
set_option maxRecDepth 100000 in
theorem c_LS_number (l : Launch) (htr : l.stackTraces = false) (dC : Nat → ClassId) (dI : Nat → Nat → Nat) (h0 : Nat) (aT : Nat) (aW : Nat) (aB : Nat) (aL : Nat) (aS : Nat) (aV : Nat) (aC : Nat) (a7 : Nat) (a8 : Nat) (a9 : Nat) (a10 : Nat) (aE : Nat) (e0 : Nat) (e1 : Nat) (e2 : Nat) (e3 : Nat) (e4 : Nat) (row : Int32) (column : Int32) : xt_Met l y_LS_number (Cond.code y_LS_number b_LS_number 3 (Option.some Jvm.ClassFile.FieldType.int) :: wd) { frames := 6, cells := 1, slots := 6, locals := 100 } (va_Pc [.ref h0, .int row, .int column] (fun U => va_P (dC, dI) cls [(h0, .inr (0, [.ref aT, .ref aW, .ref aB, .ref aL, .ref aS, .ref aV, .ref aC, .ref a7, .ref a8, .ref a9, .ref a10, .ref aE, .int 0, .int 0, .int 0, .int (-1)])), (aE, .inr (4, [.ref e0, .ref e1, .ref e2, .ref e3, .ref e4, .int 0, .int 0, .int 0]))] U.heap ∧ va_K (dC, dI) cls [] U ∧ nw_ok U ∧ xs_ok U)) (fun _ st x t => xt_X "java/lang/IndexOutOfBoundsException" st x t) 1 6 (fun _ => False) := by
  refine xt_ofW (cc := b_LS_number) (maxL := 3) (ret := (Option.some Jvm.ClassFile.FieldType.int)) (by decide) rfl ?_
  intro p e s m args below meth c s₁ B hml hne hv
  obtain ⟨rfl, hP, hK, hN, hX⟩ := hv
  have hx := B.exec
  have hb := B.bytes
  have hr := B.returns
  have hlocks := B.notSynchronized
  have hts : ∀ w ∈ wd, w.before ([.ref h0, .int row, .int column] : List Value).toArray s = true := fun w hw => atoms_spec (ws := (Cond.code y_LS_number b_LS_number 3 (Option.some Jvm.ClassFile.FieldType.int) :: wd)) B.pre w (List.mem_cons_of_mem _ hw)
  have hown : s.vm.findClass "LeastSolutions" = some m.cls := findClass_of_methodNamed B.named
  have hS : va_S (fun _ => False) s.heap s.heap [] := va_S.rf
  have hl := lv_entry ([.ref h0, .int row, .int column]) (n := 3) (Nat.le_of_ble_eq_true rfl)
  rw [lg_entry_eq]
  generalize (lg_sl ([.ref h0, .int row, .int column]) ++ List.replicate (3 - (lg_sl ([.ref h0, .int row, .int column])).length) Slot.unset).toArray = ls at hl ⊢
  have hl : lv_has ls 3 [(0, .ref h0), (1, .int row), (2, .int column)] := hl
  refine lv_iload_n hx hb d_LS_number_0 rfl (lv_at hl 1 rfl) ?_
  refine lv_if_lt (tgt := 30) hx hb d_LS_number_1 (by decide) (fun hc1 => ?_) (fun hc1 => ?_)
  · exact xt_throw (names := ["java/lang/RuntimeException", "java/lang/Exception"]) (ia := 118) (ic := 120) hx hb htr hml hl hne hlocks hown (by decide +kernel) (by decide +kernel) (hts _ k_606) (hts _ k_17) (oa_IOOBE hts hX) d_LS_number_30 d_LS_number_33 d_LS_number_34 d_LS_number_37 (Nat.le_of_ble_eq_true rfl) (Nat.le_of_ble_eq_true rfl) (Nat.le_of_ble_eq_true rfl) (Nat.le_of_ble_eq_true rfl)
  · refine lv_iload_n hx hb d_LS_number_4 rfl (lv_at hl 1 rfl) ?_
    refine lv_aload_n hx hb d_LS_number_5 rfl (lv_at hl 0 rfl) ?_
    refine va_get (D := (dC, dI)) (ci := 0) (v := .ref aE) (C := R_LS) (T := T_LS) (N := 16) hx hb hts in_LS hown hK hP 0 rfl rfl 11 (by decide) (hts _ k_300) (fun _ h9 => h9) rfl d_LS_number_6 ?_
    refine va_getN (D := (dC, dI)) (ci := 4) (v := .int 0) (C := R_EQ) (T := T_EQ) (N := 8) hx hb hts in_EQ hown hK hP 1 rfl rfl 5 (by decide) (va_Nw.use rfl (hN.1 (Jvm.Cond.fieldLinkNest "LeastSolutions" (106 : Nat) "LeastSolutions$Equations" "rows" "I" "LeastSolutions") nw_23)) (fun _ h9 => h9) rfl d_LS_number_9 ?_
    refine lv_icmp_ge (tgt := 30) hx hb d_LS_number_12 (by decide) (fun _ => ?_) (fun h9 => absurd (Int32.not_lt.mp hc1) h9)
    exact xt_throw (names := ["java/lang/RuntimeException", "java/lang/Exception"]) (ia := 118) (ic := 120) hx hb htr hml hl hne hlocks hown (by decide +kernel) (by decide +kernel) (hts _ k_606) (hts _ k_17) (oa_IOOBE hts hX) d_LS_number_30 d_LS_number_33 d_LS_number_34 d_LS_number_37 (Nat.le_of_ble_eq_true rfl) (Nat.le_of_ble_eq_true rfl) (Nat.le_of_ble_eq_true rfl) (Nat.le_of_ble_eq_true rfl)

set_option maxHeartbeats 4000000 in
set_option maxRecDepth 100000 in
theorem c_LS_kernelAt (l : Launch) (htr : l.stackTraces = false) (dC : Nat → ClassId) (dI : Nat → Nat → Nat) (h0 : Nat) (aT : Nat) (aW : Nat) (aB : Nat) (aL : Nat) (aS : Nat) (aV : Nat) (aC : Nat) (a7 : Nat) (a8 : Nat) (a9 : Nat) (a10 : Nat) (aE : Nat) (b0 : Nat) (b1 : Nat) (b2 : Nat) (b3 : Nat) (b4 : Nat) (i : Int32) (column : Int32) : xt_Met l y_LS_kernelAt (Cond.code y_LS_kernelAt b_LS_kernelAt 3 (Option.some Jvm.ClassFile.FieldType.long) :: wd) { frames := 6, cells := 1, slots := 6, locals := 100 } (va_Pc [.ref h0, .int i, .int column] (fun U => va_P (dC, dI) cls [(h0, .inr (0, [.ref aT, .ref aW, .ref aB, .ref aL, .ref aS, .ref aV, .ref aC, .ref a7, .ref a8, .ref a9, .ref a10, .ref aE, .int 0, .int 0, .int 0, .int (-1)])), (aL, .inr (5, [.ref b0, .ref b1, .ref b2, .ref b3, .ref b4, .int 0, .int 0, .int 0, .int 0]))] U.heap ∧ va_K (dC, dI) cls [] U ∧ nw_ok U ∧ xs_ok U)) (fun _ st x t => xt_X "java/lang/IndexOutOfBoundsException" st x t) 1 6 (fun _ => False) := by
  refine xt_ofW (cc := b_LS_kernelAt) (maxL := 3) (ret := (Option.some Jvm.ClassFile.FieldType.long)) (by decide) rfl ?_
  intro p e s m args below meth c s₁ B hml hne hv
  obtain ⟨rfl, hP, hK, hN, hX⟩ := hv
  have hx := B.exec
  have hb := B.bytes
  have hr := B.returns
  have hlocks := B.notSynchronized
  have hts : ∀ w ∈ wd, w.before ([.ref h0, .int i, .int column] : List Value).toArray s = true := fun w hw => atoms_spec (ws := (Cond.code y_LS_kernelAt b_LS_kernelAt 3 (Option.some Jvm.ClassFile.FieldType.long) :: wd)) B.pre w (List.mem_cons_of_mem _ hw)
  have hown : s.vm.findClass "LeastSolutions" = some m.cls := findClass_of_methodNamed B.named
  have hS : va_S (fun _ => False) s.heap s.heap [] := va_S.rf
  have hl := lv_entry ([.ref h0, .int i, .int column]) (n := 3) (Nat.le_of_ble_eq_true rfl)
  rw [lg_entry_eq]
  generalize (lg_sl ([.ref h0, .int i, .int column]) ++ List.replicate (3 - (lg_sl ([.ref h0, .int i, .int column])).length) Slot.unset).toArray = ls at hl ⊢
  have hl : lv_has ls 3 [(0, .ref h0), (1, .int i), (2, .int column)] := hl
  refine lv_iload_n hx hb d_LS_kernelAt_0 rfl (lv_at hl 1 rfl) ?_
  refine lv_if_lt (tgt := 15) hx hb d_LS_kernelAt_1 (by decide) (fun hc1 => ?_) (fun hc1 => ?_)
  · exact xt_throw (names := ["java/lang/RuntimeException", "java/lang/Exception"]) (ia := 118) (ic := 120) hx hb htr hml hl hne hlocks hown (by decide +kernel) (by decide +kernel) (hts _ k_606) (hts _ k_17) (oa_IOOBE hts hX) d_LS_kernelAt_15 d_LS_kernelAt_18 d_LS_kernelAt_19 d_LS_kernelAt_22 (Nat.le_of_ble_eq_true rfl) (Nat.le_of_ble_eq_true rfl) (Nat.le_of_ble_eq_true rfl) (Nat.le_of_ble_eq_true rfl)
  · refine lv_iload_n hx hb d_LS_kernelAt_4 rfl (lv_at hl 1 rfl) ?_
    refine lv_aload_n hx hb d_LS_kernelAt_5 rfl (lv_at hl 0 rfl) ?_
    refine va_get (D := (dC, dI)) (ci := 0) (v := .ref aL) (C := R_LS) (T := T_LS) (N := 16) hx hb hts in_LS hown hK hP 0 rfl rfl 3 (by decide) (hts _ k_292) (fun _ h9 => h9) rfl d_LS_kernelAt_6 ?_
    refine va_getN (D := (dC, dI)) (ci := 5) (v := .int 0) (C := R_LA) (T := T_LA) (N := 9) hx hb hts in_LA hown hK hP 1 rfl rfl 5 (by decide) (va_Nw.use rfl (hN.1 (Jvm.Cond.fieldLinkNest "LeastSolutions" (135 : Nat) "LeastSolutions$Lattice" "kernelVectors" "I" "LeastSolutions") nw_27)) (fun _ h9 => h9) rfl d_LS_kernelAt_9 ?_
    refine lv_icmp_lt (tgt := 23) hx hb d_LS_kernelAt_12 (by decide) (fun h9 => absurd h9 (hc1)) (fun _ => ?_)
    exact xt_throw (names := ["java/lang/RuntimeException", "java/lang/Exception"]) (ia := 118) (ic := 120) hx hb htr hml hl hne hlocks hown (by decide +kernel) (by decide +kernel) (hts _ k_606) (hts _ k_17) (oa_IOOBE hts hX) d_LS_kernelAt_15 d_LS_kernelAt_18 d_LS_kernelAt_19 d_LS_kernelAt_22 (Nat.le_of_ble_eq_true rfl) (Nat.le_of_ble_eq_true rfl) (Nat.le_of_ble_eq_true rfl) (Nat.le_of_ble_eq_true rfl)

set_option maxHeartbeats 4000000 in
set_option maxRecDepth 100000 in
theorem c_LS_needBound (l : Launch) (dC : Nat → ClassId) (dI : Nat → Nat → Nat) (bound : Int32) (most : Int32) (g1 : ¬ bound < 0) (g2 : ¬ most < bound) : Met l y_LS_needBound (Cond.code y_LS_needBound b_LS_needBound 2 (Option.none : Option Jvm.ClassFile.FieldType) :: wd) { frames := 0, cells := 0, slots := 0, locals := 0 } (va_Pc [.int bound, .int most] (fun U => va_P (dC, dI) cls [] U.heap ∧ va_K (dC, dI) cls [] U ∧ nw_ok U)) (va_Qv (fun _ : Unit => True) (fun _ _ => True) (fun _ => False)) 0 0 (fun _ => False) := by
  refine Met.ofW (cc := b_LS_needBound) (maxL := 2) (ret := (Option.none : Option Jvm.ClassFile.FieldType)) (by decide) rfl ?_
  intro p e s m args below meth c s₁ B hml hv
  obtain ⟨rfl, hP, hK, hN⟩ := hv
  have hx := B.exec
  have hb := B.bytes
  have hr := B.returns
  have hlocks := B.notSynchronized
  have hts : ∀ w ∈ wd, w.before ([.int bound, .int most] : List Value).toArray s = true := fun w hw => atoms_spec (ws := (Cond.code y_LS_needBound b_LS_needBound 2 (Option.none : Option Jvm.ClassFile.FieldType) :: wd)) B.pre w (List.mem_cons_of_mem _ hw)
  have hown : s.vm.findClass "LeastSolutions" = some m.cls := findClass_of_methodNamed B.named
  have hS : va_S (fun _ => False) s.heap s.heap [] := va_S.rf
  have hl := lv_entry ([.int bound, .int most]) (n := 2) (Nat.le_of_ble_eq_true rfl)
  rw [lg_entry_eq]
  generalize (lg_sl ([.int bound, .int most]) ++ List.replicate (2 - (lg_sl ([.int bound, .int most])).length) Slot.unset).toArray = ls at hl ⊢
  have hl : lv_has ls 2 [(0, .int bound), (1, .int most)] := hl
  refine lv_iload_n hx hb d_LS_needBound_0 rfl (lv_at hl 0 rfl) ?_
  refine lv_if_lt (tgt := 9) hx hb d_LS_needBound_1 (by decide) (fun h9 => absurd h9 (g1)) (fun _ => ?_)
  refine lv_iload_n hx hb d_LS_needBound_4 rfl (lv_at hl 0 rfl) ?_
  refine lv_iload_n hx hb d_LS_needBound_5 rfl (lv_at hl 1 rfl) ?_
  refine lv_icmp_le (tgt := 17) hx hb d_LS_needBound_6 (by decide) (fun _ => ?_) (fun h9 => absurd (Int32.not_lt.mp g2) h9)
  exact W.vret hx hb hr (fun t ht hW => ⟨⟨(), rfl, trivial, trivial⟩, hS.F ht⟩) hS.2.2 d_LS_needBound_17

set_option maxHeartbeats 4000000 in
set_option maxRecDepth 100000 in
theorem c_LS_needBound_thr (l : Launch) (htr : l.stackTraces = false) (dC : Nat → ClassId) (dI : Nat → Nat → Nat) (bound : Int32) (most : Int32) (g0 : bound < 0 ∨ most < bound) : xt_Met l y_LS_needBound (Cond.code y_LS_needBound b_LS_needBound 2 (Option.none : Option Jvm.ClassFile.FieldType) :: wd) { frames := 6, cells := 1, slots := 6, locals := 100 } (va_Pc [.int bound, .int most] (fun U => va_P (dC, dI) cls [] U.heap ∧ va_K (dC, dI) cls [] U ∧ nw_ok U ∧ xs_ok U)) (fun _ st x t => xt_X "java/lang/IllegalArgumentException" st x t) 1 6 (fun _ => False) := by
  refine xt_ofW (cc := b_LS_needBound) (maxL := 2) (ret := (Option.none : Option Jvm.ClassFile.FieldType)) (by decide) rfl ?_
  intro p e s m args below meth c s₁ B hml hne hv
  obtain ⟨rfl, hP, hK, hN, hX⟩ := hv
  have hx := B.exec
  have hb := B.bytes
  have hr := B.returns
  have hlocks := B.notSynchronized
  have hts : ∀ w ∈ wd, w.before ([.int bound, .int most] : List Value).toArray s = true := fun w hw => atoms_spec (ws := (Cond.code y_LS_needBound b_LS_needBound 2 (Option.none : Option Jvm.ClassFile.FieldType) :: wd)) B.pre w (List.mem_cons_of_mem _ hw)
  have hown : s.vm.findClass "LeastSolutions" = some m.cls := findClass_of_methodNamed B.named
  have hS : va_S (fun _ => False) s.heap s.heap [] := va_S.rf
  have hl := lv_entry ([.int bound, .int most]) (n := 2) (Nat.le_of_ble_eq_true rfl)
  rw [lg_entry_eq]
  generalize (lg_sl ([.int bound, .int most]) ++ List.replicate (2 - (lg_sl ([.int bound, .int most])).length) Slot.unset).toArray = ls at hl ⊢
  have hl : lv_has ls 2 [(0, .int bound), (1, .int most)] := hl
  refine lv_iload_n hx hb d_LS_needBound_0 rfl (lv_at hl 0 rfl) ?_
  refine lv_if_lt (tgt := 9) hx hb d_LS_needBound_1 (by decide) (fun hc1 => ?_) (fun hc1 => ?_)
  · exact xt_throw (names := ["java/lang/RuntimeException", "java/lang/Exception"]) (ia := 146) (ic := 148) hx hb htr hml hl hne hlocks hown (by decide +kernel) (by decide +kernel) (hts _ k_735) (hts _ k_19) (oa_IAE hts hX) d_LS_needBound_9 d_LS_needBound_12 d_LS_needBound_13 d_LS_needBound_16 (Nat.le_of_ble_eq_true rfl) (Nat.le_of_ble_eq_true rfl) (Nat.le_of_ble_eq_true rfl) (Nat.le_of_ble_eq_true rfl)
  · refine lv_iload_n hx hb d_LS_needBound_4 rfl (lv_at hl 0 rfl) ?_
    refine lv_iload_n hx hb d_LS_needBound_5 rfl (lv_at hl 1 rfl) ?_
    refine lv_icmp_le (tgt := 17) hx hb d_LS_needBound_6 (by decide) (fun h9 => absurd h9 (Int32.not_le.mpr (g0.resolve_left hc1))) (fun _ => ?_)
    exact xt_throw (names := ["java/lang/RuntimeException", "java/lang/Exception"]) (ia := 146) (ic := 148) hx hb htr hml hl hne hlocks hown (by decide +kernel) (by decide +kernel) (hts _ k_735) (hts _ k_19) (oa_IAE hts hX) d_LS_needBound_9 d_LS_needBound_12 d_LS_needBound_13 d_LS_needBound_16 (Nat.le_of_ble_eq_true rfl) (Nat.le_of_ble_eq_true rfl) (Nat.le_of_ble_eq_true rfl) (Nat.le_of_ble_eq_true rfl)

set_option maxHeartbeats 4000000 in
set_option maxRecDepth 100000 in
theorem c_LS_best_IA (l : Launch) (htr : l.stackTraces = false) (dC : Nat → ClassId) (dI : Nat → Nat → Nat) (h0 : Nat) (aT : Nat) (aW : Nat) (aB : Nat) (aL : Nat) (aS : Nat) (aV : Nat) (aC : Nat) (a7 : Nat) (a8 : Nat) (a9 : Nat) (a10 : Nat) (aE : Nat) (bound : Int32) (g0 : bound < 0 ∨ 16 < bound) : xt_Met l y_LS_best (Cond.code y_LS_best b_LS_best 2 (Option.some Jvm.ClassFile.FieldType.int) :: wd) { frames := 7, cells := 1, slots := 6, locals := 121 } (va_Pc [.ref h0, .int bound] (fun U => va_P (dC, dI) cls [(h0, .inr (0, [.ref aT, .ref aW, .ref aB, .ref aL, .ref aS, .ref aV, .ref aC, .ref a7, .ref a8, .ref a9, .ref a10, .ref aE, .int 0, .int 0, .int 0, .int (-1)]))] U.heap ∧ va_K (dC, dI) cls [] U ∧ nw_ok U ∧ xs_ok U)) (fun _ st x t => xt_X "java/lang/IllegalArgumentException" st x t) 1 6 (fun _ => False) := by
  refine xt_ofW (cc := b_LS_best) (maxL := 2) (ret := (Option.some Jvm.ClassFile.FieldType.int)) (by decide) rfl ?_
  intro p e s m args below meth c s₁ B hml hne hv
  obtain ⟨rfl, hP, hK, hN, hX⟩ := hv
  have hx := B.exec
  have hb := B.bytes
  have hr := B.returns
  have hlocks := B.notSynchronized
  have hts : ∀ w ∈ wd, w.before ([.ref h0, .int bound] : List Value).toArray s = true := fun w hw => atoms_spec (ws := (Cond.code y_LS_best b_LS_best 2 (Option.some Jvm.ClassFile.FieldType.int) :: wd)) B.pre w (List.mem_cons_of_mem _ hw)
  have hown : s.vm.findClass "LeastSolutions" = some m.cls := findClass_of_methodNamed B.named
  have hS : va_S (fun _ => False) s.heap s.heap [] := va_S.rf
  have hl := lv_entry ([.ref h0, .int bound]) (n := 2) (Nat.le_of_ble_eq_true rfl)
  rw [lg_entry_eq]
  generalize (lg_sl ([.ref h0, .int bound]) ++ List.replicate (2 - (lg_sl ([.ref h0, .int bound])).length) Slot.unset).toArray = ls at hl ⊢
  have hl : lv_has ls 2 [(0, .ref h0), (1, .int bound)] := hl
  refine lv_iload_n hx hb d_LS_best_0 rfl (lv_at hl 1 rfl) ?_
  refine lv_bipush (v := 16) hx hb d_LS_best_1 (by decide) ?_
  exact xt_out (xt_runS (As := [.int bound, .int 16]) (rest := []) ⟨hx, hb, hml, hown, hts⟩ (c_LS_needBound_thr l htr dC dI (bound) (16) (g0)) (wd_S 2 hts k_752 k_1 k_750 k_751 rfl rfl (by decide +kernel) ⟨Nat.le_of_ble_eq_true rfl, Nat.le_of_ble_eq_true rfl⟩) ⟨fun a U g mk q => by obtain ⟨q0, qP, qK, qN, qX⟩ := q; exact ⟨q0, qP, va_K.moved (u := U) (U := U.calling g mk a) (Vm.Alike.refl U.vm) qK, nw_ok.same (s := U) (U := U.calling g mk a) rfl qN, xs_ok.moved (s := U) (Vm.Alike.refl U.vm) (fun _ _ => rfl) qX⟩, fun U hU hW => ⟨rfl, by rw [hU]; exact hP.sub (ws' := []) [] rfl, va_K.moved hW.alike (hK.sub (tys' := []) [] rfl), nw_ok.warm hW hN, xs_ok.moved hW.alike (fun q _ => by rw [hU]) hX⟩⟩ rfl rfl hl.1 rfl (lv_room (Nat.le_of_ble_eq_true rfl)) d_LS_best_3 ⟨Nat.le_of_ble_eq_true rfl, Nat.le_of_ble_eq_true rfl⟩) hne hlocks

set_option maxHeartbeats 4000000 in
set_option maxRecDepth 100000 in
theorem c_LS_best_IS (l : Launch) (htr : l.stackTraces = false) (dC : Nat → ClassId) (dI : Nat → Nat → Nat) (h0 : Nat) (aT : Nat) (aW : Nat) (aB : Nat) (aL : Nat) (aS : Nat) (aV : Nat) (aC : Nat) (a7 : Nat) (a8 : Nat) (a9 : Nat) (a10 : Nat) (aE : Nat) (bound : Int32) (g1 : ¬ bound < 0) (g2 : ¬ 16 < bound) : xt_Met l y_LS_best (Cond.code y_LS_best b_LS_best 2 (Option.some Jvm.ClassFile.FieldType.int) :: wd) { frames := 7, cells := 1, slots := 6, locals := 120 } (va_Pc [.ref h0, .int bound] (fun U => va_P (dC, dI) cls [(h0, .inr (0, [.ref aT, .ref aW, .ref aB, .ref aL, .ref aS, .ref aV, .ref aC, .ref a7, .ref a8, .ref a9, .ref a10, .ref aE, .int 0, .int 0, .int 0, .int (-1)]))] U.heap ∧ va_K (dC, dI) cls [] U ∧ nw_ok U ∧ xs_ok U)) (fun _ st x t => xt_X "java/lang/IllegalStateException" st x t) 1 6 (fun _ => False) := by
  refine xt_ofW (cc := b_LS_best) (maxL := 2) (ret := (Option.some Jvm.ClassFile.FieldType.int)) (by decide) rfl ?_
  intro p e s m args below meth c s₁ B hml hne hv
  obtain ⟨rfl, hP, hK, hN, hX⟩ := hv
  have hx := B.exec
  have hb := B.bytes
  have hr := B.returns
  have hlocks := B.notSynchronized
  have hts : ∀ w ∈ wd, w.before ([.ref h0, .int bound] : List Value).toArray s = true := fun w hw => atoms_spec (ws := (Cond.code y_LS_best b_LS_best 2 (Option.some Jvm.ClassFile.FieldType.int) :: wd)) B.pre w (List.mem_cons_of_mem _ hw)
  have hown : s.vm.findClass "LeastSolutions" = some m.cls := findClass_of_methodNamed B.named
  have hS : va_S (fun _ => False) s.heap s.heap [] := va_S.rf
  have hl := lv_entry ([.ref h0, .int bound]) (n := 2) (Nat.le_of_ble_eq_true rfl)
  rw [lg_entry_eq]
  generalize (lg_sl ([.ref h0, .int bound]) ++ List.replicate (2 - (lg_sl ([.ref h0, .int bound])).length) Slot.unset).toArray = ls at hl ⊢
  have hl : lv_has ls 2 [(0, .ref h0), (1, .int bound)] := hl
  refine lv_iload_n hx hb d_LS_best_0 rfl (lv_at hl 1 rfl) ?_
  refine lv_bipush (v := 16) hx hb d_LS_best_1 (by decide) ?_
  refine pu_callv (va_runS (As := [.int bound, .int 16]) (rest := []) ⟨hx, hb, hml, hown, hts⟩ (c_LS_needBound l dC dI (bound) (16) (g1) (g2)) (wd_S 2 hts k_752 k_1 k_750 k_751 rfl rfl (by decide +kernel) ⟨Nat.le_of_ble_eq_true rfl, Nat.le_of_ble_eq_true rfl⟩) ⟨fun a U g mk q => by obtain ⟨q0, qP, qK, qN⟩ := q; exact ⟨q0, qP, va_K.moved (u := U) (U := U.calling g mk a) (Vm.Alike.refl U.vm) qK, nw_ok.same (s := U) (U := U.calling g mk a) rfl qN⟩, fun U hU hW => ⟨rfl, by rw [hU]; exact hP.sub (ws' := []) [] rfl, va_K.moved hW.alike (hK.sub (tys' := []) [] rfl), nw_ok.warm hW hN⟩⟩ rfl rfl hl.1 rfl (lv_room (Nat.le_of_ble_eq_true rfl)) d_LS_best_3 ⟨Nat.le_of_ble_eq_true rfl, Nat.le_of_ble_eq_true rfl⟩) ?_
  refine lv_aload_n hx hb d_LS_best_6 rfl (lv_at hl 0 rfl) ?_
  exact xt_out (xt_runV (As := []) (rest := []) ⟨hx, hb, hml, hown, hts⟩ (c_LS_needSystem l htr dC dI (h0) (aT) (aW) (aB) (aL) (aS) (aV) (aC) (a7) (a8) (a9) (a10) (aE)) (wd_V (C := "LeastSolutions") 0 hts k_681 k_1 k_678 k_680 ks_LS_needSystem rfl rfl (by decide +kernel) ⟨Nat.le_of_ble_eq_true rfl, Nat.le_of_ble_eq_true rfl⟩) ⟨fun a U g mk q => by obtain ⟨q0, qP, qK, qN, qX⟩ := q; exact ⟨q0, qP, va_K.moved (u := U) (U := U.calling g mk a) (Vm.Alike.refl U.vm) qK, nw_ok.same (s := U) (U := U.calling g mk a) rfl qN, xs_ok.moved (s := U) (Vm.Alike.refl U.vm) (fun _ _ => rfl) qX⟩, va_recv (ci := 0) (q0 := 0) hK hP rfl rfl, fun U hU hW => ⟨rfl, by rw [hU]; exact hP.sub (ws' := [(h0, .inr (0, [.ref aT, .ref aW, .ref aB, .ref aL, .ref aS, .ref aV, .ref aC, .ref a7, .ref a8, .ref a9, .ref a10, .ref aE, .int 0, .int 0, .int 0, .int (-1)]))]) [0] rfl, va_K.moved hW.alike (hK.sub (tys' := []) [] rfl), nw_ok.warm hW hN, xs_ok.moved hW.alike (fun q _ => by rw [hU]) hX⟩⟩ rfl rfl hl.1 rfl (lv_room (Nat.le_of_ble_eq_true rfl)) d_LS_best_7 ⟨Nat.le_of_ble_eq_true rfl, Nat.le_of_ble_eq_true rfl⟩) hne hlocks

set_option maxHeartbeats 4000000 in
set_option maxRecDepth 100000 in
theorem c_LS_work_IA (l : Launch) (htr : l.stackTraces = false) (dC : Nat → ClassId) (dI : Nat → Nat → Nat) (h0 : Nat) (aT : Nat) (aW : Nat) (aB : Nat) (aL : Nat) (aS : Nat) (aV : Nat) (aC : Nat) (a7 : Nat) (a8 : Nat) (a9 : Nat) (a10 : Nat) (aE : Nat) (what : Int32) (bound : Int32) (g0 : what < 0 ∨ 2 < what ∨ bound < 0 ∨ (if what = 2 then (10 : Int32) else 16) < bound) : xt_Met l y_LS_work (Cond.code y_LS_work b_LS_work 4 (Option.some Jvm.ClassFile.FieldType.int) :: wd) { frames := 7, cells := 1, slots := 6, locals := 121 } (va_Pc [.ref h0, .int what, .int bound] (fun U => va_P (dC, dI) cls [(h0, .inr (0, [.ref aT, .ref aW, .ref aB, .ref aL, .ref aS, .ref aV, .ref aC, .ref a7, .ref a8, .ref a9, .ref a10, .ref aE, .int 0, .int 0, .int 0, .int (-1)]))] U.heap ∧ va_K (dC, dI) cls [] U ∧ nw_ok U ∧ xs_ok U)) (fun _ st x t => xt_X "java/lang/IllegalArgumentException" st x t) 1 6 (fun _ => False) := by
  refine xt_ofW (cc := b_LS_work) (maxL := 4) (ret := (Option.some Jvm.ClassFile.FieldType.int)) (by decide) rfl ?_
  intro p e s m args below meth c s₁ B hml hne hv
  obtain ⟨rfl, hP, hK, hN, hX⟩ := hv
  have hx := B.exec
  have hb := B.bytes
  have hr := B.returns
  have hlocks := B.notSynchronized
  have hts : ∀ w ∈ wd, w.before ([.ref h0, .int what, .int bound] : List Value).toArray s = true := fun w hw => atoms_spec (ws := (Cond.code y_LS_work b_LS_work 4 (Option.some Jvm.ClassFile.FieldType.int) :: wd)) B.pre w (List.mem_cons_of_mem _ hw)
  have hown : s.vm.findClass "LeastSolutions" = some m.cls := findClass_of_methodNamed B.named
  have hS : va_S (fun _ => False) s.heap s.heap [] := va_S.rf
  have hl := lv_entry ([.ref h0, .int what, .int bound]) (n := 4) (Nat.le_of_ble_eq_true rfl)
  rw [lg_entry_eq]
  generalize (lg_sl ([.ref h0, .int what, .int bound]) ++ List.replicate (4 - (lg_sl ([.ref h0, .int what, .int bound])).length) Slot.unset).toArray = ls at hl ⊢
  have hl : lv_has ls 4 [(0, .ref h0), (1, .int what), (2, .int bound)] := hl
  refine lv_iload_n hx hb d_LS_work_0 rfl (lv_at hl 1 rfl) ?_
  refine lv_if_lt (tgt := 9) hx hb d_LS_work_1 (by decide) (fun hc1 => ?_) (fun hc1 => ?_)
  · exact xt_throw (names := ["java/lang/RuntimeException", "java/lang/Exception"]) (ia := 146) (ic := 148) hx hb htr hml hl hne hlocks hown (by decide +kernel) (by decide +kernel) (hts _ k_735) (hts _ k_19) (oa_IAE hts hX) d_LS_work_9 d_LS_work_12 d_LS_work_13 d_LS_work_16 (Nat.le_of_ble_eq_true rfl) (Nat.le_of_ble_eq_true rfl) (Nat.le_of_ble_eq_true rfl) (Nat.le_of_ble_eq_true rfl)
  · refine lv_iload_n hx hb d_LS_work_4 rfl (lv_at hl 1 rfl) ?_
    refine lv_iconst (v := 2) hx hb d_LS_work_5 (by decide) ?_
    refine lv_icmp_le (tgt := 17) hx hb d_LS_work_6 (by decide) (fun hc2 => ?_) (fun hc2 => ?_)
    · refine lv_iload_n hx hb d_LS_work_17 rfl (lv_at hl 2 rfl) ?_
      refine lv_iload_n hx hb d_LS_work_18 rfl (lv_at hl 1 rfl) ?_
      refine lv_iconst (v := 2) hx hb d_LS_work_19 (by decide) ?_
      refine lv_icmp_ne (tgt := 28) hx hb d_LS_work_20 (by decide) (fun hc3 => ?_) (fun hc3 => ?_)
      · refine lv_bipush (v := 16) hx hb d_LS_work_28 (by decide) ?_
        exact xt_out (xt_runS (As := [.int bound, .int 16]) (rest := []) ⟨hx, hb, hml, hown, hts⟩ (c_LS_needBound_thr l htr dC dI (bound) (16) (((g0.resolve_left hc1).resolve_left (Int32.not_lt.mpr hc2)).imp id (fun g => by simpa [hc3] using g))) (wd_S 2 hts k_752 k_1 k_750 k_751 rfl rfl (by decide +kernel) ⟨Nat.le_of_ble_eq_true rfl, Nat.le_of_ble_eq_true rfl⟩) ⟨fun a U g mk q => by obtain ⟨q0, qP, qK, qN, qX⟩ := q; exact ⟨q0, qP, va_K.moved (u := U) (U := U.calling g mk a) (Vm.Alike.refl U.vm) qK, nw_ok.same (s := U) (U := U.calling g mk a) rfl qN, xs_ok.moved (s := U) (Vm.Alike.refl U.vm) (fun _ _ => rfl) qX⟩, fun U hU hW => ⟨rfl, by rw [hU]; exact hP.sub (ws' := []) [] rfl, va_K.moved hW.alike (hK.sub (tys' := []) [] rfl), nw_ok.warm hW hN, xs_ok.moved hW.alike (fun q _ => by rw [hU]) hX⟩⟩ rfl rfl hl.1 rfl (lv_room (Nat.le_of_ble_eq_true rfl)) d_LS_work_30 ⟨Nat.le_of_ble_eq_true rfl, Nat.le_of_ble_eq_true rfl⟩) hne hlocks
      · refine lv_bipush (v := 10) hx hb d_LS_work_23 (by decide) ?_
        refine lv_goto (tgt := 30) hx hb d_LS_work_25 (by decide) ?_
        exact xt_out (xt_runS (As := [.int bound, .int 10]) (rest := []) ⟨hx, hb, hml, hown, hts⟩ (c_LS_needBound_thr l htr dC dI (bound) (10) (((g0.resolve_left hc1).resolve_left (Int32.not_lt.mpr hc2)).imp id (fun g => by simpa [hc3] using g))) (wd_S 2 hts k_752 k_1 k_750 k_751 rfl rfl (by decide +kernel) ⟨Nat.le_of_ble_eq_true rfl, Nat.le_of_ble_eq_true rfl⟩) ⟨fun a U g mk q => by obtain ⟨q0, qP, qK, qN, qX⟩ := q; exact ⟨q0, qP, va_K.moved (u := U) (U := U.calling g mk a) (Vm.Alike.refl U.vm) qK, nw_ok.same (s := U) (U := U.calling g mk a) rfl qN, xs_ok.moved (s := U) (Vm.Alike.refl U.vm) (fun _ _ => rfl) qX⟩, fun U hU hW => ⟨rfl, by rw [hU]; exact hP.sub (ws' := []) [] rfl, va_K.moved hW.alike (hK.sub (tys' := []) [] rfl), nw_ok.warm hW hN, xs_ok.moved hW.alike (fun q _ => by rw [hU]) hX⟩⟩ rfl rfl hl.1 rfl (lv_room (Nat.le_of_ble_eq_true rfl)) d_LS_work_30 ⟨Nat.le_of_ble_eq_true rfl, Nat.le_of_ble_eq_true rfl⟩) hne hlocks
    · exact xt_throw (names := ["java/lang/RuntimeException", "java/lang/Exception"]) (ia := 146) (ic := 148) hx hb htr hml hl hne hlocks hown (by decide +kernel) (by decide +kernel) (hts _ k_735) (hts _ k_19) (oa_IAE hts hX) d_LS_work_9 d_LS_work_12 d_LS_work_13 d_LS_work_16 (Nat.le_of_ble_eq_true rfl) (Nat.le_of_ble_eq_true rfl) (Nat.le_of_ble_eq_true rfl) (Nat.le_of_ble_eq_true rfl)

set_option maxHeartbeats 4000000 in
set_option maxRecDepth 100000 in
theorem c_LS_work_IS (l : Launch) (htr : l.stackTraces = false) (dC : Nat → ClassId) (dI : Nat → Nat → Nat) (h0 : Nat) (aT : Nat) (aW : Nat) (aB : Nat) (aL : Nat) (aS : Nat) (aV : Nat) (aC : Nat) (a7 : Nat) (a8 : Nat) (a9 : Nat) (a10 : Nat) (aE : Nat) (what : Int32) (bound : Int32) (g1 : ¬ what < 0) (g2 : ¬ 2 < what) (g3 : ¬ bound < 0) (g4 : ¬ (if what = 2 then (10 : Int32) else 16) < bound) : xt_Met l y_LS_work (Cond.code y_LS_work b_LS_work 4 (Option.some Jvm.ClassFile.FieldType.int) :: wd) { frames := 7, cells := 1, slots := 6, locals := 120 } (va_Pc [.ref h0, .int what, .int bound] (fun U => va_P (dC, dI) cls [(h0, .inr (0, [.ref aT, .ref aW, .ref aB, .ref aL, .ref aS, .ref aV, .ref aC, .ref a7, .ref a8, .ref a9, .ref a10, .ref aE, .int 0, .int 0, .int 0, .int (-1)]))] U.heap ∧ va_K (dC, dI) cls [] U ∧ nw_ok U ∧ xs_ok U)) (fun _ st x t => xt_X "java/lang/IllegalStateException" st x t) 1 6 (fun _ => False) := by
  refine xt_ofW (cc := b_LS_work) (maxL := 4) (ret := (Option.some Jvm.ClassFile.FieldType.int)) (by decide) rfl ?_
  intro p e s m args below meth c s₁ B hml hne hv
  obtain ⟨rfl, hP, hK, hN, hX⟩ := hv
  have hx := B.exec
  have hb := B.bytes
  have hr := B.returns
  have hlocks := B.notSynchronized
  have hts : ∀ w ∈ wd, w.before ([.ref h0, .int what, .int bound] : List Value).toArray s = true := fun w hw => atoms_spec (ws := (Cond.code y_LS_work b_LS_work 4 (Option.some Jvm.ClassFile.FieldType.int) :: wd)) B.pre w (List.mem_cons_of_mem _ hw)
  have hown : s.vm.findClass "LeastSolutions" = some m.cls := findClass_of_methodNamed B.named
  have hS : va_S (fun _ => False) s.heap s.heap [] := va_S.rf
  have hl := lv_entry ([.ref h0, .int what, .int bound]) (n := 4) (Nat.le_of_ble_eq_true rfl)
  rw [lg_entry_eq]
  generalize (lg_sl ([.ref h0, .int what, .int bound]) ++ List.replicate (4 - (lg_sl ([.ref h0, .int what, .int bound])).length) Slot.unset).toArray = ls at hl ⊢
  have hl : lv_has ls 4 [(0, .ref h0), (1, .int what), (2, .int bound)] := hl
  refine lv_iload_n hx hb d_LS_work_0 rfl (lv_at hl 1 rfl) ?_
  refine lv_if_lt (tgt := 9) hx hb d_LS_work_1 (by decide) (fun h9 => absurd h9 (g1)) (fun _ => ?_)
  refine lv_iload_n hx hb d_LS_work_4 rfl (lv_at hl 1 rfl) ?_
  refine lv_iconst (v := 2) hx hb d_LS_work_5 (by decide) ?_
  refine lv_icmp_le (tgt := 17) hx hb d_LS_work_6 (by decide) (fun _ => ?_) (fun h9 => absurd (Int32.not_lt.mp g2) h9)
  refine lv_iload_n hx hb d_LS_work_17 rfl (lv_at hl 2 rfl) ?_
  refine lv_iload_n hx hb d_LS_work_18 rfl (lv_at hl 1 rfl) ?_
  refine lv_iconst (v := 2) hx hb d_LS_work_19 (by decide) ?_
  refine lv_icmp_ne (tgt := 28) hx hb d_LS_work_20 (by decide) (fun hc1 => ?_) (fun hc1 => ?_)
  · refine lv_bipush (v := 16) hx hb d_LS_work_28 (by decide) ?_
    refine pu_callv (va_runS (As := [.int bound, .int 16]) (rest := []) ⟨hx, hb, hml, hown, hts⟩ (c_LS_needBound l dC dI (bound) (16) (g3) (by simpa [hc1] using g4)) (wd_S 2 hts k_752 k_1 k_750 k_751 rfl rfl (by decide +kernel) ⟨Nat.le_of_ble_eq_true rfl, Nat.le_of_ble_eq_true rfl⟩) ⟨fun a U g mk q => by obtain ⟨q0, qP, qK, qN⟩ := q; exact ⟨q0, qP, va_K.moved (u := U) (U := U.calling g mk a) (Vm.Alike.refl U.vm) qK, nw_ok.same (s := U) (U := U.calling g mk a) rfl qN⟩, fun U hU hW => ⟨rfl, by rw [hU]; exact hP.sub (ws' := []) [] rfl, va_K.moved hW.alike (hK.sub (tys' := []) [] rfl), nw_ok.warm hW hN⟩⟩ rfl rfl hl.1 rfl (lv_room (Nat.le_of_ble_eq_true rfl)) d_LS_work_30 ⟨Nat.le_of_ble_eq_true rfl, Nat.le_of_ble_eq_true rfl⟩) ?_
    refine lv_aload_n hx hb d_LS_work_33 rfl (lv_at hl 0 rfl) ?_
    exact xt_out (xt_runV (As := []) (rest := []) ⟨hx, hb, hml, hown, hts⟩ (c_LS_needSystem l htr dC dI (h0) (aT) (aW) (aB) (aL) (aS) (aV) (aC) (a7) (a8) (a9) (a10) (aE)) (wd_V (C := "LeastSolutions") 0 hts k_681 k_1 k_678 k_680 ks_LS_needSystem rfl rfl (by decide +kernel) ⟨Nat.le_of_ble_eq_true rfl, Nat.le_of_ble_eq_true rfl⟩) ⟨fun a U g mk q => by obtain ⟨q0, qP, qK, qN, qX⟩ := q; exact ⟨q0, qP, va_K.moved (u := U) (U := U.calling g mk a) (Vm.Alike.refl U.vm) qK, nw_ok.same (s := U) (U := U.calling g mk a) rfl qN, xs_ok.moved (s := U) (Vm.Alike.refl U.vm) (fun _ _ => rfl) qX⟩, va_recv (ci := 0) (q0 := 0) hK hP rfl rfl, fun U hU hW => ⟨rfl, by rw [hU]; exact hP.sub (ws' := [(h0, .inr (0, [.ref aT, .ref aW, .ref aB, .ref aL, .ref aS, .ref aV, .ref aC, .ref a7, .ref a8, .ref a9, .ref a10, .ref aE, .int 0, .int 0, .int 0, .int (-1)]))]) [0] rfl, va_K.moved hW.alike (hK.sub (tys' := []) [] rfl), nw_ok.warm hW hN, xs_ok.moved hW.alike (fun q _ => by rw [hU]) hX⟩⟩ rfl rfl hl.1 rfl (lv_room (Nat.le_of_ble_eq_true rfl)) d_LS_work_34 ⟨Nat.le_of_ble_eq_true rfl, Nat.le_of_ble_eq_true rfl⟩) hne hlocks
  · refine lv_bipush (v := 10) hx hb d_LS_work_23 (by decide) ?_
    refine lv_goto (tgt := 30) hx hb d_LS_work_25 (by decide) ?_
    refine pu_callv (va_runS (As := [.int bound, .int 10]) (rest := []) ⟨hx, hb, hml, hown, hts⟩ (c_LS_needBound l dC dI (bound) (10) (g3) (by simpa [hc1] using g4)) (wd_S 2 hts k_752 k_1 k_750 k_751 rfl rfl (by decide +kernel) ⟨Nat.le_of_ble_eq_true rfl, Nat.le_of_ble_eq_true rfl⟩) ⟨fun a U g mk q => by obtain ⟨q0, qP, qK, qN⟩ := q; exact ⟨q0, qP, va_K.moved (u := U) (U := U.calling g mk a) (Vm.Alike.refl U.vm) qK, nw_ok.same (s := U) (U := U.calling g mk a) rfl qN⟩, fun U hU hW => ⟨rfl, by rw [hU]; exact hP.sub (ws' := []) [] rfl, va_K.moved hW.alike (hK.sub (tys' := []) [] rfl), nw_ok.warm hW hN⟩⟩ rfl rfl hl.1 rfl (lv_room (Nat.le_of_ble_eq_true rfl)) d_LS_work_30 ⟨Nat.le_of_ble_eq_true rfl, Nat.le_of_ble_eq_true rfl⟩) ?_
    refine lv_aload_n hx hb d_LS_work_33 rfl (lv_at hl 0 rfl) ?_
    exact xt_out (xt_runV (As := []) (rest := []) ⟨hx, hb, hml, hown, hts⟩ (c_LS_needSystem l htr dC dI (h0) (aT) (aW) (aB) (aL) (aS) (aV) (aC) (a7) (a8) (a9) (a10) (aE)) (wd_V (C := "LeastSolutions") 0 hts k_681 k_1 k_678 k_680 ks_LS_needSystem rfl rfl (by decide +kernel) ⟨Nat.le_of_ble_eq_true rfl, Nat.le_of_ble_eq_true rfl⟩) ⟨fun a U g mk q => by obtain ⟨q0, qP, qK, qN, qX⟩ := q; exact ⟨q0, qP, va_K.moved (u := U) (U := U.calling g mk a) (Vm.Alike.refl U.vm) qK, nw_ok.same (s := U) (U := U.calling g mk a) rfl qN, xs_ok.moved (s := U) (Vm.Alike.refl U.vm) (fun _ _ => rfl) qX⟩, va_recv (ci := 0) (q0 := 0) hK hP rfl rfl, fun U hU hW => ⟨rfl, by rw [hU]; exact hP.sub (ws' := [(h0, .inr (0, [.ref aT, .ref aW, .ref aB, .ref aL, .ref aS, .ref aV, .ref aC, .ref a7, .ref a8, .ref a9, .ref a10, .ref aE, .int 0, .int 0, .int 0, .int (-1)]))]) [0] rfl, va_K.moved hW.alike (hK.sub (tys' := []) [] rfl), nw_ok.warm hW hN, xs_ok.moved hW.alike (fun q _ => by rw [hU]) hX⟩⟩ rfl rfl hl.1 rfl (lv_room (Nat.le_of_ble_eq_true rfl)) d_LS_work_34 ⟨Nat.le_of_ble_eq_true rfl, Nat.le_of_ble_eq_true rfl⟩) hne hlocks
end
section
theorem k_11 : (Jvm.Cond.initialized "LeastSolutionsModel") ∈ wd := wd_t (List.mem_of_getElem? (i := 11) (by decide +kernel)) rfl
theorem k_886 : (Jvm.Cond.fieldLink "LeastSolutionsModel" (81 : Nat) "LeastSolutionsModel" "thrown" "I") ∈ wd := wd_t (List.mem_of_getElem? (i := 886) (by decide +kernel)) rfl
theorem k_889 : (Jvm.Cond.fieldLink "LeastSolutionsModel" (13 : Nat) "LeastSolutionsModel" "wrong" "I") ∈ wd := wd_t (List.mem_of_getElem? (i := 889) (by decide +kernel)) rfl
theorem k_900 : (Jvm.Cond.fieldLink "LeastSolutionsModel" (133 : Nat) "LeastSolutionsModel" "known" "Z") ∈ wd := wd_t (List.mem_of_getElem? (i := 900) (by decide +kernel)) rfl
theorem k_912 : (Jvm.Cond.fieldLink "LeastSolutionsModel" (146 : Nat) "LeastSolutionsModel" "isSplit" "Z") ∈ wd := wd_t (List.mem_of_getElem? (i := 912) (by decide +kernel)) rfl
theorem k_914 : (Jvm.Cond.fieldLink "LeastSolutionsModel" (149 : Nat) "LeastSolutionsModel" "isBest" "Z") ∈ wd := wd_t (List.mem_of_getElem? (i := 914) (by decide +kernel)) rfl
theorem k_1110 : (Jvm.Cond.methodLink "LeastSolutionsModel" (194 : Nat) ({ cls := "LeastSolutionsModel", name := "isColumn", desc := "(I)Z" } : Jvm.MethodName)) ∈ wd := wd_t (List.mem_of_getElem? (i := 1110) (by decide +kernel)) rfl
theorem k_1112 : (Jvm.Cond.instanceMethod ({ cls := "LeastSolutionsModel", name := "isColumn", desc := "(I)Z" } : Jvm.MethodName)) ∈ wd := wd_t (List.mem_of_getElem? (i := 1112) (by decide +kernel)) rfl
theorem k_1113 : (Jvm.Cond.code ({ cls := "LeastSolutionsModel", name := "isColumn", desc := "(I)Z" } : Jvm.MethodName) prog_12_method_16_code (2 : Nat) (Option.some Jvm.ClassFile.FieldType.boolean)) ∈ wd := wd_t (List.mem_of_getElem? (i := 1113) (by decide +kernel)) rfl
abbrev y_MO_at : MethodName := ⟨"LeastSolutionsModel", "at", "(III)I"⟩
abbrev b_MO_at : ByteArray := prog_12_method_40_code
abbrev y_MO_best : MethodName := ⟨"LeastSolutionsModel", "best", "(I)I"⟩
abbrev b_MO_best : ByteArray := prog_12_method_48_code
abbrev y_MO_bestAt : MethodName := ⟨"LeastSolutionsModel", "bestAt", "(I)I"⟩
abbrev b_MO_bestAt : ByteArray := prog_12_method_49_code
abbrev y_MO_cost : MethodName := ⟨"LeastSolutionsModel", "cost", "(II)V"⟩
abbrev b_MO_cost : ByteArray := prog_12_method_46_code
abbrev y_MO_count : MethodName := ⟨"LeastSolutionsModel", "count", "(I)I"⟩
abbrev b_MO_count : ByteArray := prog_12_method_14_code
abbrev y_MO_holds : MethodName := ⟨"LeastSolutionsModel", "holds", "()I"⟩
abbrev b_MO_holds : ByteArray := prog_12_method_43_code
abbrev y_MO_isColumn : MethodName := ⟨"LeastSolutionsModel", "isColumn", "(I)Z"⟩
abbrev b_MO_isColumn : ByteArray := prog_12_method_16_code
abbrev y_MO_kernel : MethodName := ⟨"LeastSolutionsModel", "kernel", "()I"⟩
abbrev b_MO_kernel : ByteArray := prog_12_method_29_code
abbrev y_MO_kernelAt : MethodName := ⟨"LeastSolutionsModel", "kernelAt", "(II)J"⟩
abbrev b_MO_kernelAt : ByteArray := prog_12_method_30_code
abbrev y_MO_letter : MethodName := ⟨"LeastSolutionsModel", "letter", "(I)I"⟩
abbrev b_MO_letter : ByteArray := prog_12_method_15_code
abbrev y_MO_number : MethodName := ⟨"LeastSolutionsModel", "number", "(II)I"⟩
abbrev b_MO_number : ByteArray := prog_12_method_17_code
abbrev y_MO_place : MethodName := ⟨"LeastSolutionsModel", "place", "()I"⟩
abbrev b_MO_place : ByteArray := prog_12_method_13_code
abbrev y_MO_solvable : MethodName := ⟨"LeastSolutionsModel", "solvable", "()I"⟩
abbrev b_MO_solvable : ByteArray := prog_12_method_28_code
abbrev y_MO_tell : MethodName := ⟨"LeastSolutionsModel", "tell", "(II)V"⟩
abbrev b_MO_tell : ByteArray := prog_12_method_41_code
abbrev y_MO_thrown : MethodName := ⟨"LeastSolutionsModel", "thrown", "()I"⟩
abbrev b_MO_thrown : ByteArray := prog_12_method_2_code
abbrev y_MO_times : MethodName := ⟨"LeastSolutionsModel", "times", "(I)I"⟩
abbrev b_MO_times : ByteArray := prog_12_method_45_code
abbrev y_MO_work : MethodName := ⟨"LeastSolutionsModel", "work", "(II)I"⟩
abbrev b_MO_work : ByteArray := prog_12_method_38_code
theorem ks_MO_isColumn : Cond.selects "LeastSolutionsModel" ({ cls := "LeastSolutionsModel", name := "isColumn", desc := "(I)Z" } : Jvm.MethodName) ({ cls := "LeastSolutionsModel", name := "isColumn", desc := "(I)Z" } : Jvm.MethodName) ∈ wd := wd_p (q := (⟨"LeastSolutionsModel", "isColumn", "(I)Z"⟩, 36)) (List.mem_of_getElem? (i := 52) (by decide +kernel))
theorem d_MO_at_0 : decode b_MO_at 0 = .ok (.iload_n 1, 1) := by decide +kernel
theorem d_MO_at_1 : decode b_MO_at 1 = .ok (.ifCond .lt 43, 3) := by decide +kernel
theorem d_MO_at_4 : decode b_MO_at 4 = .ok (.iload_n 1, 1) := by decide +kernel
theorem d_MO_at_5 : decode b_MO_at 5 = .ok (.iconst 2, 1) := by decide +kernel
theorem d_MO_at_6 : decode b_MO_at 6 = .ok (.if_icmp .gt 38, 3) := by decide +kernel
theorem d_MO_at_9 : decode b_MO_at 9 = .ok (.aload_n 0, 1) := by decide +kernel
theorem d_MO_at_10 : decode b_MO_at 10 = .ok (.iload_n 3, 1) := by decide +kernel
theorem d_MO_at_11 : decode b_MO_at 11 = .ok (.invokevirtual 194, 3) := by decide +kernel
theorem d_MO_at_14 : decode b_MO_at 14 = .ok (.ifCond .eq 30, 3) := by decide +kernel
theorem d_MO_at_44 : decode b_MO_at 44 = .ok (.iconst 0, 1) := by decide +kernel
theorem d_MO_at_45 : decode b_MO_at 45 = .ok (.istore 4, 2) := by decide +kernel
theorem d_MO_at_47 : decode b_MO_at 47 = .ok (.aload_n 0, 1) := by decide +kernel
theorem d_MO_at_48 : decode b_MO_at 48 = .ok (.iload 4, 2) := by decide +kernel
theorem d_MO_at_50 : decode b_MO_at 50 = .ok (.ifCond .eq 7, 3) := by decide +kernel
theorem d_MO_at_57 : decode b_MO_at 57 = .ok (.iconst 1, 1) := by decide +kernel
theorem d_MO_at_58 : decode b_MO_at 58 = .ok (.putfield 81, 3) := by decide +kernel
theorem d_MO_at_61 : decode b_MO_at 61 = .ok (.iload 4, 2) := by decide +kernel
theorem d_MO_at_63 : decode b_MO_at 63 = .ok (.ifCond .eq 23, 3) := by decide +kernel
theorem d_MO_at_86 : decode b_MO_at 86 = .ok (.iconst 0, 1) := by decide +kernel
theorem d_MO_at_87 : decode b_MO_at 87 = .ok (.ireturn, 1) := by decide +kernel
theorem d_MO_best_0 : decode b_MO_best 0 = .ok (.aload_n 0, 1) := by decide +kernel
theorem d_MO_best_1 : decode b_MO_best 1 = .ok (.iload_n 1, 1) := by decide +kernel
theorem d_MO_best_2 : decode b_MO_best 2 = .ok (.ifCond .lt 9, 3) := by decide +kernel
theorem d_MO_best_5 : decode b_MO_best 5 = .ok (.iload_n 1, 1) := by decide +kernel
theorem d_MO_best_6 : decode b_MO_best 6 = .ok (.bipush 16, 2) := by decide +kernel
theorem d_MO_best_8 : decode b_MO_best 8 = .ok (.if_icmp .le 7, 3) := by decide +kernel
theorem d_MO_best_11 : decode b_MO_best 11 = .ok (.iconst 1, 1) := by decide +kernel
theorem d_MO_best_12 : decode b_MO_best 12 = .ok (.goto 15, 3) := by decide +kernel
theorem d_MO_best_15 : decode b_MO_best 15 = .ok (.aload_n 0, 1) := by decide +kernel
theorem d_MO_best_16 : decode b_MO_best 16 = .ok (.getfield 133, 3) := by decide +kernel
theorem d_MO_best_19 : decode b_MO_best 19 = .ok (.ifCond .ne 7, 3) := by decide +kernel
theorem d_MO_best_22 : decode b_MO_best 22 = .ok (.iconst 2, 1) := by decide +kernel
theorem d_MO_best_23 : decode b_MO_best 23 = .ok (.goto 4, 3) := by decide +kernel
theorem d_MO_best_27 : decode b_MO_best 27 = .ok (.putfield 81, 3) := by decide +kernel
theorem d_MO_best_30 : decode b_MO_best 30 = .ok (.aload_n 0, 1) := by decide +kernel
theorem d_MO_best_31 : decode b_MO_best 31 = .ok (.getfield 81, 3) := by decide +kernel
theorem d_MO_best_34 : decode b_MO_best 34 = .ok (.ifCond .le 5, 3) := by decide +kernel
theorem d_MO_best_37 : decode b_MO_best 37 = .ok (.iconst 0, 1) := by decide +kernel
theorem d_MO_best_38 : decode b_MO_best 38 = .ok (.ireturn, 1) := by decide +kernel
theorem d_MO_bestAt_0 : decode b_MO_bestAt 0 = .ok (.aload_n 0, 1) := by decide +kernel
theorem d_MO_bestAt_1 : decode b_MO_bestAt 1 = .ok (.iconst 0, 1) := by decide +kernel
theorem d_MO_bestAt_2 : decode b_MO_bestAt 2 = .ok (.putfield 81, 3) := by decide +kernel
theorem d_MO_bestAt_5 : decode b_MO_bestAt 5 = .ok (.aload_n 0, 1) := by decide +kernel
theorem d_MO_bestAt_6 : decode b_MO_bestAt 6 = .ok (.getfield 149, 3) := by decide +kernel
theorem d_MO_bestAt_9 : decode b_MO_bestAt 9 = .ok (.ifCond .eq 20, 3) := by decide +kernel
theorem d_MO_bestAt_29 : decode b_MO_bestAt 29 = .ok (.iconst (-1), 1) := by decide +kernel
theorem d_MO_bestAt_30 : decode b_MO_bestAt 30 = .ok (.ireturn, 1) := by decide +kernel
theorem d_MO_cost_0 : decode b_MO_cost 0 = .ok (.aload_n 0, 1) := by decide +kernel
theorem d_MO_cost_1 : decode b_MO_cost 1 = .ok (.aload_n 0, 1) := by decide +kernel
theorem d_MO_cost_2 : decode b_MO_cost 2 = .ok (.iload_n 1, 1) := by decide +kernel
theorem d_MO_cost_3 : decode b_MO_cost 3 = .ok (.invokevirtual 194, 3) := by decide +kernel
theorem d_MO_cost_6 : decode b_MO_cost 6 = .ok (.ifCond .ne 7, 3) := by decide +kernel
theorem d_MO_cost_9 : decode b_MO_cost 9 = .ok (.iconst 1, 1) := by decide +kernel
theorem d_MO_cost_10 : decode b_MO_cost 10 = .ok (.goto 20, 3) := by decide +kernel
theorem d_MO_cost_30 : decode b_MO_cost 30 = .ok (.putfield 81, 3) := by decide +kernel
theorem d_MO_cost_33 : decode b_MO_cost 33 = .ok (.aload_n 0, 1) := by decide +kernel
theorem d_MO_cost_34 : decode b_MO_cost 34 = .ok (.getfield 81, 3) := by decide +kernel
theorem d_MO_cost_37 : decode b_MO_cost 37 = .ok (.ifCond .ne 10, 3) := by decide +kernel
theorem d_MO_cost_47 : decode b_MO_cost 47 = .ok (.return_, 1) := by decide +kernel
theorem d_MO_count_0 : decode b_MO_count 0 = .ok (.aload_n 0, 1) := by decide +kernel
theorem d_MO_count_1 : decode b_MO_count 1 = .ok (.iconst 0, 1) := by decide +kernel
theorem d_MO_count_2 : decode b_MO_count 2 = .ok (.putfield 81, 3) := by decide +kernel
theorem d_MO_count_5 : decode b_MO_count 5 = .ok (.aload_n 0, 1) := by decide +kernel
theorem d_MO_count_6 : decode b_MO_count 6 = .ok (.getfield 133, 3) := by decide +kernel
theorem d_MO_count_9 : decode b_MO_count 9 = .ok (.ifCond .ne 7, 3) := by decide +kernel
theorem d_MO_count_12 : decode b_MO_count 12 = .ok (.iconst (-1), 1) := by decide +kernel
theorem d_MO_count_13 : decode b_MO_count 13 = .ok (.goto 39, 3) := by decide +kernel
theorem d_MO_count_52 : decode b_MO_count 52 = .ok (.ireturn, 1) := by decide +kernel
theorem d_MO_holds_0 : decode b_MO_holds 0 = .ok (.aload_n 0, 1) := by decide +kernel
theorem d_MO_holds_1 : decode b_MO_holds 1 = .ok (.aload_n 0, 1) := by decide +kernel
theorem d_MO_holds_2 : decode b_MO_holds 2 = .ok (.getfield 133, 3) := by decide +kernel
theorem d_MO_holds_5 : decode b_MO_holds 5 = .ok (.ifCond .eq 7, 3) := by decide +kernel
theorem d_MO_holds_12 : decode b_MO_holds 12 = .ok (.iconst 1, 1) := by decide +kernel
theorem d_MO_holds_13 : decode b_MO_holds 13 = .ok (.putfield 81, 3) := by decide +kernel
theorem d_MO_holds_16 : decode b_MO_holds 16 = .ok (.aload_n 0, 1) := by decide +kernel
theorem d_MO_holds_17 : decode b_MO_holds 17 = .ok (.getfield 81, 3) := by decide +kernel
theorem d_MO_holds_20 : decode b_MO_holds 20 = .ok (.ifCond .le 7, 3) := by decide +kernel
theorem d_MO_holds_23 : decode b_MO_holds 23 = .ok (.iconst 0, 1) := by decide +kernel
theorem d_MO_holds_24 : decode b_MO_holds 24 = .ok (.goto 51, 3) := by decide +kernel
theorem d_MO_holds_75 : decode b_MO_holds 75 = .ok (.ireturn, 1) := by decide +kernel
theorem d_MO_isColumn_0 : decode b_MO_isColumn 0 = .ok (.aload_n 0, 1) := by decide +kernel
theorem d_MO_isColumn_1 : decode b_MO_isColumn 1 = .ok (.getfield 133, 3) := by decide +kernel
theorem d_MO_isColumn_4 : decode b_MO_isColumn 4 = .ok (.ifCond .eq 19, 3) := by decide +kernel
theorem d_MO_isColumn_23 : decode b_MO_isColumn 23 = .ok (.iconst 0, 1) := by decide +kernel
theorem d_MO_isColumn_24 : decode b_MO_isColumn 24 = .ok (.ireturn, 1) := by decide +kernel
theorem d_MO_kernel_0 : decode b_MO_kernel 0 = .ok (.aload_n 0, 1) := by decide +kernel
theorem d_MO_kernel_1 : decode b_MO_kernel 1 = .ok (.aload_n 0, 1) := by decide +kernel
theorem d_MO_kernel_2 : decode b_MO_kernel 2 = .ok (.getfield 133, 3) := by decide +kernel
theorem d_MO_kernel_5 : decode b_MO_kernel 5 = .ok (.ifCond .eq 7, 3) := by decide +kernel
theorem d_MO_kernel_12 : decode b_MO_kernel 12 = .ok (.iconst 1, 1) := by decide +kernel
theorem d_MO_kernel_13 : decode b_MO_kernel 13 = .ok (.putfield 81, 3) := by decide +kernel
theorem d_MO_kernel_16 : decode b_MO_kernel 16 = .ok (.aload_n 0, 1) := by decide +kernel
theorem d_MO_kernel_17 : decode b_MO_kernel 17 = .ok (.getfield 81, 3) := by decide +kernel
theorem d_MO_kernel_20 : decode b_MO_kernel 20 = .ok (.ifCond .le 5, 3) := by decide +kernel
theorem d_MO_kernel_23 : decode b_MO_kernel 23 = .ok (.iconst 0, 1) := by decide +kernel
theorem d_MO_kernel_24 : decode b_MO_kernel 24 = .ok (.ireturn, 1) := by decide +kernel
theorem d_MO_kernelAt_0 : decode b_MO_kernelAt 0 = .ok (.aload_n 0, 1) := by decide +kernel
theorem d_MO_kernelAt_1 : decode b_MO_kernelAt 1 = .ok (.iconst 1, 1) := by decide +kernel
theorem d_MO_kernelAt_2 : decode b_MO_kernelAt 2 = .ok (.putfield 81, 3) := by decide +kernel
theorem d_MO_kernelAt_5 : decode b_MO_kernelAt 5 = .ok (.aload_n 0, 1) := by decide +kernel
theorem d_MO_kernelAt_6 : decode b_MO_kernelAt 6 = .ok (.iload_n 2, 1) := by decide +kernel
theorem d_MO_kernelAt_7 : decode b_MO_kernelAt 7 = .ok (.invokevirtual 194, 3) := by decide +kernel
theorem d_MO_kernelAt_10 : decode b_MO_kernelAt 10 = .ok (.ifCond .eq 7, 3) := by decide +kernel
theorem d_MO_kernelAt_17 : decode b_MO_kernelAt 17 = .ok (.lconst 0, 1) := by decide +kernel
theorem d_MO_kernelAt_18 : decode b_MO_kernelAt 18 = .ok (.lreturn, 1) := by decide +kernel
theorem d_MO_letter_0 : decode b_MO_letter 0 = .ok (.aload_n 0, 1) := by decide +kernel
theorem d_MO_letter_1 : decode b_MO_letter 1 = .ok (.iconst 0, 1) := by decide +kernel
theorem d_MO_letter_2 : decode b_MO_letter 2 = .ok (.putfield 81, 3) := by decide +kernel
theorem d_MO_letter_5 : decode b_MO_letter 5 = .ok (.aload_n 0, 1) := by decide +kernel
theorem d_MO_letter_6 : decode b_MO_letter 6 = .ok (.getfield 133, 3) := by decide +kernel
theorem d_MO_letter_9 : decode b_MO_letter 9 = .ok (.ifCond .eq 24, 3) := by decide +kernel
theorem d_MO_letter_33 : decode b_MO_letter 33 = .ok (.iconst (-1), 1) := by decide +kernel
theorem d_MO_letter_34 : decode b_MO_letter 34 = .ok (.ireturn, 1) := by decide +kernel
theorem d_MO_number_0 : decode b_MO_number 0 = .ok (.aload_n 0, 1) := by decide +kernel
theorem d_MO_number_1 : decode b_MO_number 1 = .ok (.aload_n 0, 1) := by decide +kernel
theorem d_MO_number_2 : decode b_MO_number 2 = .ok (.getfield 133, 3) := by decide +kernel
theorem d_MO_number_5 : decode b_MO_number 5 = .ok (.ifCond .eq 31, 3) := by decide +kernel
theorem d_MO_number_36 : decode b_MO_number 36 = .ok (.iconst 1, 1) := by decide +kernel
theorem d_MO_number_37 : decode b_MO_number 37 = .ok (.putfield 81, 3) := by decide +kernel
theorem d_MO_number_40 : decode b_MO_number 40 = .ok (.aload_n 0, 1) := by decide +kernel
theorem d_MO_number_41 : decode b_MO_number 41 = .ok (.getfield 81, 3) := by decide +kernel
theorem d_MO_number_44 : decode b_MO_number 44 = .ok (.ifCond .ne 17, 3) := by decide +kernel
theorem d_MO_number_61 : decode b_MO_number 61 = .ok (.iconst 0, 1) := by decide +kernel
theorem d_MO_number_62 : decode b_MO_number 62 = .ok (.ireturn, 1) := by decide +kernel
theorem d_MO_place_0 : decode b_MO_place 0 = .ok (.aload_n 0, 1) := by decide +kernel
theorem d_MO_place_1 : decode b_MO_place 1 = .ok (.iconst 0, 1) := by decide +kernel
theorem d_MO_place_2 : decode b_MO_place 2 = .ok (.putfield 81, 3) := by decide +kernel
theorem d_MO_place_5 : decode b_MO_place 5 = .ok (.aload_n 0, 1) := by decide +kernel
theorem d_MO_place_6 : decode b_MO_place 6 = .ok (.getfield 13, 3) := by decide +kernel
theorem d_MO_place_9 : decode b_MO_place 9 = .ok (.ireturn, 1) := by decide +kernel
theorem d_MO_solvable_0 : decode b_MO_solvable 0 = .ok (.aload_n 0, 1) := by decide +kernel
theorem d_MO_solvable_1 : decode b_MO_solvable 1 = .ok (.aload_n 0, 1) := by decide +kernel
theorem d_MO_solvable_2 : decode b_MO_solvable 2 = .ok (.getfield 133, 3) := by decide +kernel
theorem d_MO_solvable_5 : decode b_MO_solvable 5 = .ok (.ifCond .eq 7, 3) := by decide +kernel
theorem d_MO_solvable_12 : decode b_MO_solvable 12 = .ok (.iconst 1, 1) := by decide +kernel
theorem d_MO_solvable_13 : decode b_MO_solvable 13 = .ok (.putfield 81, 3) := by decide +kernel
theorem d_MO_solvable_16 : decode b_MO_solvable 16 = .ok (.aload_n 0, 1) := by decide +kernel
theorem d_MO_solvable_17 : decode b_MO_solvable 17 = .ok (.getfield 81, 3) := by decide +kernel
theorem d_MO_solvable_20 : decode b_MO_solvable 20 = .ok (.ifCond .le 5, 3) := by decide +kernel
theorem d_MO_solvable_23 : decode b_MO_solvable 23 = .ok (.iconst 0, 1) := by decide +kernel
theorem d_MO_solvable_24 : decode b_MO_solvable 24 = .ok (.ireturn, 1) := by decide +kernel
theorem d_MO_tell_0 : decode b_MO_tell 0 = .ok (.aload_n 0, 1) := by decide +kernel
theorem d_MO_tell_1 : decode b_MO_tell 1 = .ok (.aload_n 0, 1) := by decide +kernel
theorem d_MO_tell_2 : decode b_MO_tell 2 = .ok (.iload_n 1, 1) := by decide +kernel
theorem d_MO_tell_3 : decode b_MO_tell 3 = .ok (.invokevirtual 194, 3) := by decide +kernel
theorem d_MO_tell_6 : decode b_MO_tell 6 = .ok (.ifCond .ne 7, 3) := by decide +kernel
theorem d_MO_tell_9 : decode b_MO_tell 9 = .ok (.iconst 1, 1) := by decide +kernel
theorem d_MO_tell_10 : decode b_MO_tell 10 = .ok (.goto 20, 3) := by decide +kernel
theorem d_MO_tell_30 : decode b_MO_tell 30 = .ok (.putfield 81, 3) := by decide +kernel
theorem d_MO_tell_33 : decode b_MO_tell 33 = .ok (.aload_n 0, 1) := by decide +kernel
theorem d_MO_tell_34 : decode b_MO_tell 34 = .ok (.getfield 81, 3) := by decide +kernel
theorem d_MO_tell_37 : decode b_MO_tell 37 = .ok (.ifCond .ne 10, 3) := by decide +kernel
theorem d_MO_tell_47 : decode b_MO_tell 47 = .ok (.return_, 1) := by decide +kernel
theorem d_MO_thrown_0 : decode b_MO_thrown 0 = .ok (.aload_n 0, 1) := by decide +kernel
theorem d_MO_thrown_1 : decode b_MO_thrown 1 = .ok (.getfield 81, 3) := by decide +kernel
theorem d_MO_thrown_4 : decode b_MO_thrown 4 = .ok (.ireturn, 1) := by decide +kernel
theorem d_MO_times_0 : decode b_MO_times 0 = .ok (.aload_n 0, 1) := by decide +kernel
theorem d_MO_times_1 : decode b_MO_times 1 = .ok (.iconst 0, 1) := by decide +kernel
theorem d_MO_times_2 : decode b_MO_times 2 = .ok (.putfield 81, 3) := by decide +kernel
theorem d_MO_times_5 : decode b_MO_times 5 = .ok (.aload_n 0, 1) := by decide +kernel
theorem d_MO_times_6 : decode b_MO_times 6 = .ok (.getfield 146, 3) := by decide +kernel
theorem d_MO_times_9 : decode b_MO_times 9 = .ok (.ifCond .eq 26, 3) := by decide +kernel
theorem d_MO_times_35 : decode b_MO_times 35 = .ok (.iconst (-1), 1) := by decide +kernel
theorem d_MO_times_36 : decode b_MO_times 36 = .ok (.ireturn, 1) := by decide +kernel
theorem d_MO_work_0 : decode b_MO_work 0 = .ok (.aload_n 0, 1) := by decide +kernel
theorem d_MO_work_1 : decode b_MO_work 1 = .ok (.iload_n 1, 1) := by decide +kernel
theorem d_MO_work_2 : decode b_MO_work 2 = .ok (.ifCond .lt 28, 3) := by decide +kernel
theorem d_MO_work_5 : decode b_MO_work 5 = .ok (.iload_n 1, 1) := by decide +kernel
theorem d_MO_work_6 : decode b_MO_work 6 = .ok (.iconst 2, 1) := by decide +kernel
theorem d_MO_work_7 : decode b_MO_work 7 = .ok (.if_icmp .gt 23, 3) := by decide +kernel
theorem d_MO_work_10 : decode b_MO_work 10 = .ok (.iload_n 2, 1) := by decide +kernel
theorem d_MO_work_11 : decode b_MO_work 11 = .ok (.ifCond .lt 19, 3) := by decide +kernel
theorem d_MO_work_14 : decode b_MO_work 14 = .ok (.iload_n 2, 1) := by decide +kernel
theorem d_MO_work_15 : decode b_MO_work 15 = .ok (.iload_n 1, 1) := by decide +kernel
theorem d_MO_work_16 : decode b_MO_work 16 = .ok (.iconst 2, 1) := by decide +kernel
theorem d_MO_work_17 : decode b_MO_work 17 = .ok (.if_icmp .ne 8, 3) := by decide +kernel
theorem d_MO_work_20 : decode b_MO_work 20 = .ok (.bipush 10, 2) := by decide +kernel
theorem d_MO_work_22 : decode b_MO_work 22 = .ok (.goto 5, 3) := by decide +kernel
theorem d_MO_work_25 : decode b_MO_work 25 = .ok (.bipush 16, 2) := by decide +kernel
theorem d_MO_work_27 : decode b_MO_work 27 = .ok (.if_icmp .le 7, 3) := by decide +kernel
theorem d_MO_work_30 : decode b_MO_work 30 = .ok (.iconst 1, 1) := by decide +kernel
theorem d_MO_work_31 : decode b_MO_work 31 = .ok (.goto 15, 3) := by decide +kernel
theorem d_MO_work_34 : decode b_MO_work 34 = .ok (.aload_n 0, 1) := by decide +kernel
theorem d_MO_work_35 : decode b_MO_work 35 = .ok (.getfield 133, 3) := by decide +kernel
theorem d_MO_work_38 : decode b_MO_work 38 = .ok (.ifCond .eq 7, 3) := by decide +kernel
theorem d_MO_work_45 : decode b_MO_work 45 = .ok (.iconst 2, 1) := by decide +kernel
theorem d_MO_work_46 : decode b_MO_work 46 = .ok (.putfield 81, 3) := by decide +kernel
theorem d_MO_work_49 : decode b_MO_work 49 = .ok (.aload_n 0, 1) := by decide +kernel
theorem d_MO_work_50 : decode b_MO_work 50 = .ok (.getfield 81, 3) := by decide +kernel
theorem d_MO_work_53 : decode b_MO_work 53 = .ok (.ifCond .le 5, 3) := by decide +kernel
theorem d_MO_work_56 : decode b_MO_work 56 = .ok (.iconst 0, 1) := by decide +kernel
theorem d_MO_work_57 : decode b_MO_work 57 = .ok (.ireturn, 1) := by decide +kernel
end
section
set_option maxHeartbeats 4000000 in
set_option maxRecDepth 100000 in
theorem c_MO_thrown (l : Launch) (dC : Nat → ClassId) (dI : Nat → Nat → Nat) (m0 : Nat) (f_text : Nat) (f_kinds : Nat) (f_places : Nat) (f_values : Nat) (f_draftLetters : Nat) (f_draftNumbers : Nat) (f_draftSigns : Nat) (f_letters : Nat) (f_numbers : Nat) (f_isList : Nat) (f_bounds : Nat) (f_sizes : Nat) (f_lists : Nat) (f_told : Nat) (f_costs : Nat) (f_times : Nat) (f_bestOne : Nat) (f_basis : Nat) (f_one : Nat) (f_along : Nat) (f_now : Nat) (th : Int32) : Met l y_MO_thrown (Cond.code y_MO_thrown b_MO_thrown 1 (Option.some Jvm.ClassFile.FieldType.int) :: wd) { frames := 0, cells := 0, slots := 0, locals := 0 } (va_Pc [.ref m0] (fun U => va_P (dC, dI) cls [(m0, .inr (9, [.int th, .ref f_text, .int 0, .int (-1), .ref f_kinds, .ref f_places, .ref f_values, .int 0, .ref f_draftLetters, .int 0, .int 0, .int 0, .ref f_draftNumbers, .ref f_draftSigns, .int 0, .int 0, .int 0, .int 0, .ref f_letters, .ref f_numbers, .ref f_isList, .ref f_bounds, .ref f_sizes, .ref f_lists, .ref f_told, .ref f_costs, .int 0, .ref f_times, .int 0, .ref f_bestOne, .ref f_basis, .int 0, .ref f_one, .int 0, .ref f_along, .ref f_now]))] U.heap ∧ va_K (dC, dI) cls [] U ∧ nw_ok U)) (va_Qi (fun r (_ : Unit) => r = th) (fun _ _ => True) (fun _ => False)) 0 0 (fun _ => False) := by
  refine Met.ofW (cc := b_MO_thrown) (maxL := 1) (ret := (Option.some Jvm.ClassFile.FieldType.int)) (by decide) rfl ?_
  intro p e s m args below meth c s₁ B hml hv
  obtain ⟨rfl, hP, hK, hN⟩ := hv
  have hx := B.exec
  have hb := B.bytes
  have hr := B.returns
  have hlocks := B.notSynchronized
  have hts : ∀ w ∈ wd, w.before ([.ref m0] : List Value).toArray s = true := fun w hw => atoms_spec (ws := (Cond.code y_MO_thrown b_MO_thrown 1 (Option.some Jvm.ClassFile.FieldType.int) :: wd)) B.pre w (List.mem_cons_of_mem _ hw)
  have hown : s.vm.findClass "LeastSolutionsModel" = some m.cls := findClass_of_methodNamed B.named
  have hS : va_S (fun _ => False) s.heap s.heap [] := va_S.rf
  have hl := lv_entry ([.ref m0]) (n := 1) (Nat.le_of_ble_eq_true rfl)
  rw [lg_entry_eq]
  generalize (lg_sl ([.ref m0]) ++ List.replicate (1 - (lg_sl ([.ref m0])).length) Slot.unset).toArray = ls at hl ⊢
  have hl : lv_has ls 1 [(0, .ref m0)] := hl
  refine lv_aload_n hx hb d_MO_thrown_0 rfl (lv_at hl 0 rfl) ?_
  refine va_get (D := (dC, dI)) (ci := 9) (v := .int th) (C := R_MO) (T := T_MO) (N := 36) hx hb hts in_MO hown hK hP 0 rfl rfl 0 (by decide) (hts _ k_886) (fun _ h9 => h9) rfl d_MO_thrown_1 ?_
  exact W.iret (v := th) hx hb hr (fun t ht hW => ⟨⟨th, (), rfl, rfl, trivial⟩, hS.F ht⟩) hS.2.2 d_MO_thrown_4

set_option maxHeartbeats 4000000 in
set_option maxRecDepth 100000 in
theorem c_MO_isColumn (l : Launch) (dC : Nat → ClassId) (dI : Nat → Nat → Nat) (m0 : Nat) (f_text : Nat) (f_kinds : Nat) (f_places : Nat) (f_values : Nat) (f_draftLetters : Nat) (f_draftNumbers : Nat) (f_draftSigns : Nat) (f_letters : Nat) (f_numbers : Nat) (f_isList : Nat) (f_bounds : Nat) (f_sizes : Nat) (f_lists : Nat) (f_told : Nat) (f_costs : Nat) (f_times : Nat) (f_bestOne : Nat) (f_basis : Nat) (f_one : Nat) (f_along : Nat) (f_now : Nat) (th : Int32) (col : Int32) : Met l y_MO_isColumn (Cond.code y_MO_isColumn b_MO_isColumn 2 (Option.some Jvm.ClassFile.FieldType.boolean) :: wd) { frames := 0, cells := 0, slots := 0, locals := 0 } (va_Pc [.ref m0, .int col] (fun U => va_P (dC, dI) cls [(m0, .inr (9, [.int th, .ref f_text, .int 0, .int (-1), .ref f_kinds, .ref f_places, .ref f_values, .int 0, .ref f_draftLetters, .int 0, .int 0, .int 0, .ref f_draftNumbers, .ref f_draftSigns, .int 0, .int 0, .int 0, .int 0, .ref f_letters, .ref f_numbers, .ref f_isList, .ref f_bounds, .ref f_sizes, .ref f_lists, .ref f_told, .ref f_costs, .int 0, .ref f_times, .int 0, .ref f_bestOne, .ref f_basis, .int 0, .ref f_one, .int 0, .ref f_along, .ref f_now]))] U.heap ∧ va_K (dC, dI) cls [] U ∧ nw_ok U)) (va_Qi (fun r (_ : Unit) => r = 0) (fun _ _ => True) (fun _ => False)) 0 0 (fun _ => False) := by
  refine Met.ofW (cc := b_MO_isColumn) (maxL := 2) (ret := (Option.some Jvm.ClassFile.FieldType.boolean)) (by decide) rfl ?_
  intro p e s m args below meth c s₁ B hml hv
  obtain ⟨rfl, hP, hK, hN⟩ := hv
  have hx := B.exec
  have hb := B.bytes
  have hr := B.returns
  have hlocks := B.notSynchronized
  have hts : ∀ w ∈ wd, w.before ([.ref m0, .int col] : List Value).toArray s = true := fun w hw => atoms_spec (ws := (Cond.code y_MO_isColumn b_MO_isColumn 2 (Option.some Jvm.ClassFile.FieldType.boolean) :: wd)) B.pre w (List.mem_cons_of_mem _ hw)
  have hown : s.vm.findClass "LeastSolutionsModel" = some m.cls := findClass_of_methodNamed B.named
  have hS : va_S (fun _ => False) s.heap s.heap [] := va_S.rf
  have hl := lv_entry ([.ref m0, .int col]) (n := 2) (Nat.le_of_ble_eq_true rfl)
  rw [lg_entry_eq]
  generalize (lg_sl ([.ref m0, .int col]) ++ List.replicate (2 - (lg_sl ([.ref m0, .int col])).length) Slot.unset).toArray = ls at hl ⊢
  have hl : lv_has ls 2 [(0, .ref m0), (1, .int col)] := hl
  refine lv_aload_n hx hb d_MO_isColumn_0 rfl (lv_at hl 0 rfl) ?_
  refine va_get (D := (dC, dI)) (ci := 9) (v := .int 0) (C := R_MO) (T := T_MO) (N := 36) hx hb hts in_MO hown hK hP 0 rfl rfl 14 (by decide) (hts _ k_900) (fun _ h9 => h9) rfl d_MO_isColumn_1 ?_
  refine lv_if_eq (tgt := 23) hx hb d_MO_isColumn_4 (by decide) (fun _ => ?_) (fun h9 => absurd (by decide) h9)
  refine lv_iconst (v := 0) hx hb d_MO_isColumn_23 (by decide) ?_
  exact W.zret (v := 0) (ty := .boolean) hx hb hr (by decide +kernel) (fun t ht hW => ⟨⟨0, (), rfl, rfl, trivial⟩, hS.F ht⟩) hS.2.2 d_MO_isColumn_24

set_option maxHeartbeats 4000000 in
set_option maxRecDepth 100000 in
theorem c_MO_place (l : Launch) (dC : Nat → ClassId) (dI : Nat → Nat → Nat) (m0 : Nat) (f_text : Nat) (f_kinds : Nat) (f_places : Nat) (f_values : Nat) (f_draftLetters : Nat) (f_draftNumbers : Nat) (f_draftSigns : Nat) (f_letters : Nat) (f_numbers : Nat) (f_isList : Nat) (f_bounds : Nat) (f_sizes : Nat) (f_lists : Nat) (f_told : Nat) (f_costs : Nat) (f_times : Nat) (f_bestOne : Nat) (f_basis : Nat) (f_one : Nat) (f_along : Nat) (f_now : Nat) (th : Int32) (sz : Nat) : Met l y_MO_place (Cond.code y_MO_place b_MO_place 1 (Option.some Jvm.ClassFile.FieldType.int) :: wd) { frames := 0, cells := 0, slots := 0, locals := 0 } (va_Pc [.ref m0] (fun U => U.heap.size = sz ∧ va_P (dC, dI) cls [(m0, .inr (9, [.int th, .ref f_text, .int 0, .int (-1), .ref f_kinds, .ref f_places, .ref f_values, .int 0, .ref f_draftLetters, .int 0, .int 0, .int 0, .ref f_draftNumbers, .ref f_draftSigns, .int 0, .int 0, .int 0, .int 0, .ref f_letters, .ref f_numbers, .ref f_isList, .ref f_bounds, .ref f_sizes, .ref f_lists, .ref f_told, .ref f_costs, .int 0, .ref f_times, .int 0, .ref f_bestOne, .ref f_basis, .int 0, .ref f_one, .int 0, .ref f_along, .ref f_now]))] U.heap ∧ va_K (dC, dI) cls [] U ∧ va_D (fun _ => True) [(m0, .inr (9, [.int th, .ref f_text, .int 0, .int (-1), .ref f_kinds, .ref f_places, .ref f_values, .int 0, .ref f_draftLetters, .int 0, .int 0, .int 0, .ref f_draftNumbers, .ref f_draftSigns, .int 0, .int 0, .int 0, .int 0, .ref f_letters, .ref f_numbers, .ref f_isList, .ref f_bounds, .ref f_sizes, .ref f_lists, .ref f_told, .ref f_costs, .int 0, .ref f_times, .int 0, .ref f_bestOne, .ref f_basis, .int 0, .ref f_one, .int 0, .ref f_along, .ref f_now]))] ∧ nw_ok U)) (va_Qi (fun r (_ : Unit) => r = (-1)) (fun (_ : Unit) t => va_P (dC, dI) cls [(m0, .inr (9, [.int 0, .ref f_text, .int 0, .int (-1), .ref f_kinds, .ref f_places, .ref f_values, .int 0, .ref f_draftLetters, .int 0, .int 0, .int 0, .ref f_draftNumbers, .ref f_draftSigns, .int 0, .int 0, .int 0, .int 0, .ref f_letters, .ref f_numbers, .ref f_isList, .ref f_bounds, .ref f_sizes, .ref f_lists, .ref f_told, .ref f_costs, .int 0, .ref f_times, .int 0, .ref f_bestOne, .ref f_basis, .int 0, .ref f_one, .int 0, .ref f_along, .ref f_now]))] t.heap ∧ va_K (dC, dI) cls [] t ∧ va_D (va_A [(m0, .inr (9, [.int th, .ref f_text, .int 0, .int (-1), .ref f_kinds, .ref f_places, .ref f_values, .int 0, .ref f_draftLetters, .int 0, .int 0, .int 0, .ref f_draftNumbers, .ref f_draftSigns, .int 0, .int 0, .int 0, .int 0, .ref f_letters, .ref f_numbers, .ref f_isList, .ref f_bounds, .ref f_sizes, .ref f_lists, .ref f_told, .ref f_costs, .int 0, .ref f_times, .int 0, .ref f_bestOne, .ref f_basis, .int 0, .ref f_one, .int 0, .ref f_along, .ref f_now]))] sz) [(m0, .inr (9, [.int 0, .ref f_text, .int 0, .int (-1), .ref f_kinds, .ref f_places, .ref f_values, .int 0, .ref f_draftLetters, .int 0, .int 0, .int 0, .ref f_draftNumbers, .ref f_draftSigns, .int 0, .int 0, .int 0, .int 0, .ref f_letters, .ref f_numbers, .ref f_isList, .ref f_bounds, .ref f_sizes, .ref f_lists, .ref f_told, .ref f_costs, .int 0, .ref f_times, .int 0, .ref f_bestOne, .ref f_basis, .int 0, .ref f_one, .int 0, .ref f_along, .ref f_now]))]) (va_A [(m0, .inr (9, [.int th, .ref f_text, .int 0, .int (-1), .ref f_kinds, .ref f_places, .ref f_values, .int 0, .ref f_draftLetters, .int 0, .int 0, .int 0, .ref f_draftNumbers, .ref f_draftSigns, .int 0, .int 0, .int 0, .int 0, .ref f_letters, .ref f_numbers, .ref f_isList, .ref f_bounds, .ref f_sizes, .ref f_lists, .ref f_told, .ref f_costs, .int 0, .ref f_times, .int 0, .ref f_bestOne, .ref f_basis, .int 0, .ref f_one, .int 0, .ref f_along, .ref f_now]))] sz)) 0 0 (va_A [(m0, .inr (9, [.int th, .ref f_text, .int 0, .int (-1), .ref f_kinds, .ref f_places, .ref f_values, .int 0, .ref f_draftLetters, .int 0, .int 0, .int 0, .ref f_draftNumbers, .ref f_draftSigns, .int 0, .int 0, .int 0, .int 0, .ref f_letters, .ref f_numbers, .ref f_isList, .ref f_bounds, .ref f_sizes, .ref f_lists, .ref f_told, .ref f_costs, .int 0, .ref f_times, .int 0, .ref f_bestOne, .ref f_basis, .int 0, .ref f_one, .int 0, .ref f_along, .ref f_now]))] sz) := by
  refine Met.ofW (cc := b_MO_place) (maxL := 1) (ret := (Option.some Jvm.ClassFile.FieldType.int)) (by decide) rfl ?_
  intro p e s m args below meth c s₁ B hml hv
  obtain ⟨rfl, hsz, hP, hK, hD0, hN⟩ := hv
  have hx := B.exec
  have hb := B.bytes
  have hr := B.returns
  have hlocks := B.notSynchronized
  have hts : ∀ w ∈ wd, w.before ([.ref m0] : List Value).toArray s = true := fun w hw => atoms_spec (ws := (Cond.code y_MO_place b_MO_place 1 (Option.some Jvm.ClassFile.FieldType.int) :: wd)) B.pre w (List.mem_cons_of_mem _ hw)
  have hown : s.vm.findClass "LeastSolutionsModel" = some m.cls := findClass_of_methodNamed B.named
  subst hsz
  have hD := hD0.self (sz := s.heap.size)
  generalize hAe : va_A [(m0, .inr (9, [.int th, .ref f_text, .int 0, .int (-1), .ref f_kinds, .ref f_places, .ref f_values, .int 0, .ref f_draftLetters, .int 0, .int 0, .int 0, .ref f_draftNumbers, .ref f_draftSigns, .int 0, .int 0, .int 0, .int 0, .ref f_letters, .ref f_numbers, .ref f_isList, .ref f_bounds, .ref f_sizes, .ref f_lists, .ref f_told, .ref f_costs, .int 0, .ref f_times, .int 0, .ref f_bestOne, .ref f_basis, .int 0, .ref f_one, .int 0, .ref f_along, .ref f_now]))] s.heap.size = A at hD ⊢
  have hA : ∀ q : Nat, s.heap.size ≤ q → A q := fun q h => by rw [← hAe]; exact Or.inr h
  have hS : va_S A s.heap s.heap [] := va_S.rf
  have hl := lv_entry ([.ref m0]) (n := 1) (Nat.le_of_ble_eq_true rfl)
  rw [lg_entry_eq]
  generalize (lg_sl ([.ref m0]) ++ List.replicate (1 - (lg_sl ([.ref m0])).length) Slot.unset).toArray = ls at hl ⊢
  have hl : lv_has ls 1 [(0, .ref m0)] := hl
  refine lv_aload_n hx hb d_MO_place_0 rfl (lv_at hl 0 rfl) ?_
  refine lv_iconst (v := 0) hx hb d_MO_place_1 (by decide) ?_
  refine va_put (D := (dC, dI)) (ci := 9) (v := .int 0) (ty := .int) (C := R_MO) (T := T_MO) (N := 36) hx hb hts in_MO t_MO t_MO_ok n_MO hown hK hP hD hS 0 rfl rfl 0 (by decide) (hts _ k_886) (fun _ h9 => h9) rfl (by decide +kernel) rfl rfl (Nat.le_of_ble_eq_true rfl) d_MO_place_2 (fun H1 locs hP hD hS => ?_)
  have hP : va_P (dC, dI) cls [(m0, .inr (9, [.int 0, .ref f_text, .int 0, .int (-1), .ref f_kinds, .ref f_places, .ref f_values, .int 0, .ref f_draftLetters, .int 0, .int 0, .int 0, .ref f_draftNumbers, .ref f_draftSigns, .int 0, .int 0, .int 0, .int 0, .ref f_letters, .ref f_numbers, .ref f_isList, .ref f_bounds, .ref f_sizes, .ref f_lists, .ref f_told, .ref f_costs, .int 0, .ref f_times, .int 0, .ref f_bestOne, .ref f_basis, .int 0, .ref f_one, .int 0, .ref f_along, .ref f_now]))] H1 := hP
  have hD : va_D A [(m0, .inr (9, [.int 0, .ref f_text, .int 0, .int (-1), .ref f_kinds, .ref f_places, .ref f_values, .int 0, .ref f_draftLetters, .int 0, .int 0, .int 0, .ref f_draftNumbers, .ref f_draftSigns, .int 0, .int 0, .int 0, .int 0, .ref f_letters, .ref f_numbers, .ref f_isList, .ref f_bounds, .ref f_sizes, .ref f_lists, .ref f_told, .ref f_costs, .int 0, .ref f_times, .int 0, .ref f_bestOne, .ref f_basis, .int 0, .ref f_one, .int 0, .ref f_along, .ref f_now]))] := hD
  refine lv_aload_n hx hb d_MO_place_5 rfl (lv_at hl 0 rfl) ?_
  refine va_get (D := (dC, dI)) (ci := 9) (v := .int (-1)) (C := R_MO) (T := T_MO) (N := 36) hx hb hts in_MO hown hK hP 0 rfl rfl 3 (by decide) (hts _ k_889) (fun _ h9 => h9) rfl d_MO_place_6 ?_
  have hP9 := hP.sub (ws' := [(m0, .inr (9, [.int 0, .ref f_text, .int 0, .int (-1), .ref f_kinds, .ref f_places, .ref f_values, .int 0, .ref f_draftLetters, .int 0, .int 0, .int 0, .ref f_draftNumbers, .ref f_draftSigns, .int 0, .int 0, .int 0, .int 0, .ref f_letters, .ref f_numbers, .ref f_isList, .ref f_bounds, .ref f_sizes, .ref f_lists, .ref f_told, .ref f_costs, .int 0, .ref f_times, .int 0, .ref f_bestOne, .ref f_basis, .int 0, .ref f_one, .int 0, .ref f_along, .ref f_now]))]) [0] rfl
  have hD9 := hD.sub (ws' := [(m0, .inr (9, [.int 0, .ref f_text, .int 0, .int (-1), .ref f_kinds, .ref f_places, .ref f_values, .int 0, .ref f_draftLetters, .int 0, .int 0, .int 0, .ref f_draftNumbers, .ref f_draftSigns, .int 0, .int 0, .int 0, .int 0, .ref f_letters, .ref f_numbers, .ref f_isList, .ref f_bounds, .ref f_sizes, .ref f_lists, .ref f_told, .ref f_costs, .int 0, .ref f_times, .int 0, .ref f_bestOne, .ref f_basis, .int 0, .ref f_one, .int 0, .ref f_along, .ref f_now]))]) [0] (by decide) rfl
  have hK9 := hK.sub (tys' := []) [] rfl
  exact W.iret (v := (-1)) hx hb hr (fun t ht hW => ⟨⟨(-1), (), rfl, rfl, by rw [ht]; exact hP9, va_K.moved hW.alike hK9, hD9⟩, hS.F ht⟩) hS.2.2 d_MO_place_9

set_option maxHeartbeats 4000000 in
set_option maxRecDepth 100000 in
theorem c_MO_count (l : Launch) (dC : Nat → ClassId) (dI : Nat → Nat → Nat) (m0 : Nat) (f_text : Nat) (f_kinds : Nat) (f_places : Nat) (f_values : Nat) (f_draftLetters : Nat) (f_draftNumbers : Nat) (f_draftSigns : Nat) (f_letters : Nat) (f_numbers : Nat) (f_isList : Nat) (f_bounds : Nat) (f_sizes : Nat) (f_lists : Nat) (f_told : Nat) (f_costs : Nat) (f_times : Nat) (f_bestOne : Nat) (f_basis : Nat) (f_one : Nat) (f_along : Nat) (f_now : Nat) (th : Int32) (what : Int32) (sz : Nat) : Met l y_MO_count (Cond.code y_MO_count b_MO_count 2 (Option.some Jvm.ClassFile.FieldType.int) :: wd) { frames := 0, cells := 0, slots := 0, locals := 0 } (va_Pc [.ref m0, .int what] (fun U => U.heap.size = sz ∧ va_P (dC, dI) cls [(m0, .inr (9, [.int th, .ref f_text, .int 0, .int (-1), .ref f_kinds, .ref f_places, .ref f_values, .int 0, .ref f_draftLetters, .int 0, .int 0, .int 0, .ref f_draftNumbers, .ref f_draftSigns, .int 0, .int 0, .int 0, .int 0, .ref f_letters, .ref f_numbers, .ref f_isList, .ref f_bounds, .ref f_sizes, .ref f_lists, .ref f_told, .ref f_costs, .int 0, .ref f_times, .int 0, .ref f_bestOne, .ref f_basis, .int 0, .ref f_one, .int 0, .ref f_along, .ref f_now]))] U.heap ∧ va_K (dC, dI) cls [] U ∧ va_D (fun _ => True) [(m0, .inr (9, [.int th, .ref f_text, .int 0, .int (-1), .ref f_kinds, .ref f_places, .ref f_values, .int 0, .ref f_draftLetters, .int 0, .int 0, .int 0, .ref f_draftNumbers, .ref f_draftSigns, .int 0, .int 0, .int 0, .int 0, .ref f_letters, .ref f_numbers, .ref f_isList, .ref f_bounds, .ref f_sizes, .ref f_lists, .ref f_told, .ref f_costs, .int 0, .ref f_times, .int 0, .ref f_bestOne, .ref f_basis, .int 0, .ref f_one, .int 0, .ref f_along, .ref f_now]))] ∧ nw_ok U)) (va_Qi (fun r (_ : Unit) => r = (-1)) (fun (_ : Unit) t => va_P (dC, dI) cls [(m0, .inr (9, [.int 0, .ref f_text, .int 0, .int (-1), .ref f_kinds, .ref f_places, .ref f_values, .int 0, .ref f_draftLetters, .int 0, .int 0, .int 0, .ref f_draftNumbers, .ref f_draftSigns, .int 0, .int 0, .int 0, .int 0, .ref f_letters, .ref f_numbers, .ref f_isList, .ref f_bounds, .ref f_sizes, .ref f_lists, .ref f_told, .ref f_costs, .int 0, .ref f_times, .int 0, .ref f_bestOne, .ref f_basis, .int 0, .ref f_one, .int 0, .ref f_along, .ref f_now]))] t.heap ∧ va_K (dC, dI) cls [] t ∧ va_D (va_A [(m0, .inr (9, [.int th, .ref f_text, .int 0, .int (-1), .ref f_kinds, .ref f_places, .ref f_values, .int 0, .ref f_draftLetters, .int 0, .int 0, .int 0, .ref f_draftNumbers, .ref f_draftSigns, .int 0, .int 0, .int 0, .int 0, .ref f_letters, .ref f_numbers, .ref f_isList, .ref f_bounds, .ref f_sizes, .ref f_lists, .ref f_told, .ref f_costs, .int 0, .ref f_times, .int 0, .ref f_bestOne, .ref f_basis, .int 0, .ref f_one, .int 0, .ref f_along, .ref f_now]))] sz) [(m0, .inr (9, [.int 0, .ref f_text, .int 0, .int (-1), .ref f_kinds, .ref f_places, .ref f_values, .int 0, .ref f_draftLetters, .int 0, .int 0, .int 0, .ref f_draftNumbers, .ref f_draftSigns, .int 0, .int 0, .int 0, .int 0, .ref f_letters, .ref f_numbers, .ref f_isList, .ref f_bounds, .ref f_sizes, .ref f_lists, .ref f_told, .ref f_costs, .int 0, .ref f_times, .int 0, .ref f_bestOne, .ref f_basis, .int 0, .ref f_one, .int 0, .ref f_along, .ref f_now]))]) (va_A [(m0, .inr (9, [.int th, .ref f_text, .int 0, .int (-1), .ref f_kinds, .ref f_places, .ref f_values, .int 0, .ref f_draftLetters, .int 0, .int 0, .int 0, .ref f_draftNumbers, .ref f_draftSigns, .int 0, .int 0, .int 0, .int 0, .ref f_letters, .ref f_numbers, .ref f_isList, .ref f_bounds, .ref f_sizes, .ref f_lists, .ref f_told, .ref f_costs, .int 0, .ref f_times, .int 0, .ref f_bestOne, .ref f_basis, .int 0, .ref f_one, .int 0, .ref f_along, .ref f_now]))] sz)) 0 0 (va_A [(m0, .inr (9, [.int th, .ref f_text, .int 0, .int (-1), .ref f_kinds, .ref f_places, .ref f_values, .int 0, .ref f_draftLetters, .int 0, .int 0, .int 0, .ref f_draftNumbers, .ref f_draftSigns, .int 0, .int 0, .int 0, .int 0, .ref f_letters, .ref f_numbers, .ref f_isList, .ref f_bounds, .ref f_sizes, .ref f_lists, .ref f_told, .ref f_costs, .int 0, .ref f_times, .int 0, .ref f_bestOne, .ref f_basis, .int 0, .ref f_one, .int 0, .ref f_along, .ref f_now]))] sz) := by
  refine Met.ofW (cc := b_MO_count) (maxL := 2) (ret := (Option.some Jvm.ClassFile.FieldType.int)) (by decide) rfl ?_
  intro p e s m args below meth c s₁ B hml hv
  obtain ⟨rfl, hsz, hP, hK, hD0, hN⟩ := hv
  have hx := B.exec
  have hb := B.bytes
  have hr := B.returns
  have hlocks := B.notSynchronized
  have hts : ∀ w ∈ wd, w.before ([.ref m0, .int what] : List Value).toArray s = true := fun w hw => atoms_spec (ws := (Cond.code y_MO_count b_MO_count 2 (Option.some Jvm.ClassFile.FieldType.int) :: wd)) B.pre w (List.mem_cons_of_mem _ hw)
  have hown : s.vm.findClass "LeastSolutionsModel" = some m.cls := findClass_of_methodNamed B.named
  subst hsz
  have hD := hD0.self (sz := s.heap.size)
  generalize hAe : va_A [(m0, .inr (9, [.int th, .ref f_text, .int 0, .int (-1), .ref f_kinds, .ref f_places, .ref f_values, .int 0, .ref f_draftLetters, .int 0, .int 0, .int 0, .ref f_draftNumbers, .ref f_draftSigns, .int 0, .int 0, .int 0, .int 0, .ref f_letters, .ref f_numbers, .ref f_isList, .ref f_bounds, .ref f_sizes, .ref f_lists, .ref f_told, .ref f_costs, .int 0, .ref f_times, .int 0, .ref f_bestOne, .ref f_basis, .int 0, .ref f_one, .int 0, .ref f_along, .ref f_now]))] s.heap.size = A at hD ⊢
  have hA : ∀ q : Nat, s.heap.size ≤ q → A q := fun q h => by rw [← hAe]; exact Or.inr h
  have hS : va_S A s.heap s.heap [] := va_S.rf
  have hl := lv_entry ([.ref m0, .int what]) (n := 2) (Nat.le_of_ble_eq_true rfl)
  rw [lg_entry_eq]
  generalize (lg_sl ([.ref m0, .int what]) ++ List.replicate (2 - (lg_sl ([.ref m0, .int what])).length) Slot.unset).toArray = ls at hl ⊢
  have hl : lv_has ls 2 [(0, .ref m0), (1, .int what)] := hl
  refine lv_aload_n hx hb d_MO_count_0 rfl (lv_at hl 0 rfl) ?_
  refine lv_iconst (v := 0) hx hb d_MO_count_1 (by decide) ?_
  refine va_put (D := (dC, dI)) (ci := 9) (v := .int 0) (ty := .int) (C := R_MO) (T := T_MO) (N := 36) hx hb hts in_MO t_MO t_MO_ok n_MO hown hK hP hD hS 0 rfl rfl 0 (by decide) (hts _ k_886) (fun _ h9 => h9) rfl (by decide +kernel) rfl rfl (Nat.le_of_ble_eq_true rfl) d_MO_count_2 (fun H1 locs hP hD hS => ?_)
  have hP : va_P (dC, dI) cls [(m0, .inr (9, [.int 0, .ref f_text, .int 0, .int (-1), .ref f_kinds, .ref f_places, .ref f_values, .int 0, .ref f_draftLetters, .int 0, .int 0, .int 0, .ref f_draftNumbers, .ref f_draftSigns, .int 0, .int 0, .int 0, .int 0, .ref f_letters, .ref f_numbers, .ref f_isList, .ref f_bounds, .ref f_sizes, .ref f_lists, .ref f_told, .ref f_costs, .int 0, .ref f_times, .int 0, .ref f_bestOne, .ref f_basis, .int 0, .ref f_one, .int 0, .ref f_along, .ref f_now]))] H1 := hP
  have hD : va_D A [(m0, .inr (9, [.int 0, .ref f_text, .int 0, .int (-1), .ref f_kinds, .ref f_places, .ref f_values, .int 0, .ref f_draftLetters, .int 0, .int 0, .int 0, .ref f_draftNumbers, .ref f_draftSigns, .int 0, .int 0, .int 0, .int 0, .ref f_letters, .ref f_numbers, .ref f_isList, .ref f_bounds, .ref f_sizes, .ref f_lists, .ref f_told, .ref f_costs, .int 0, .ref f_times, .int 0, .ref f_bestOne, .ref f_basis, .int 0, .ref f_one, .int 0, .ref f_along, .ref f_now]))] := hD
  refine lv_aload_n hx hb d_MO_count_5 rfl (lv_at hl 0 rfl) ?_
  refine va_get (D := (dC, dI)) (ci := 9) (v := .int 0) (C := R_MO) (T := T_MO) (N := 36) hx hb hts in_MO hown hK hP 0 rfl rfl 14 (by decide) (hts _ k_900) (fun _ h9 => h9) rfl d_MO_count_6 ?_
  refine lv_if_ne (tgt := 16) hx hb d_MO_count_9 (by decide) (fun h9 => absurd (by decide) h9) (fun _ => ?_)
  refine lv_iconst (v := (-1)) hx hb d_MO_count_12 (by decide) ?_
  refine lv_goto (tgt := 52) hx hb d_MO_count_13 (by decide) ?_
  have hP9 := hP.sub (ws' := [(m0, .inr (9, [.int 0, .ref f_text, .int 0, .int (-1), .ref f_kinds, .ref f_places, .ref f_values, .int 0, .ref f_draftLetters, .int 0, .int 0, .int 0, .ref f_draftNumbers, .ref f_draftSigns, .int 0, .int 0, .int 0, .int 0, .ref f_letters, .ref f_numbers, .ref f_isList, .ref f_bounds, .ref f_sizes, .ref f_lists, .ref f_told, .ref f_costs, .int 0, .ref f_times, .int 0, .ref f_bestOne, .ref f_basis, .int 0, .ref f_one, .int 0, .ref f_along, .ref f_now]))]) [0] rfl
  have hD9 := hD.sub (ws' := [(m0, .inr (9, [.int 0, .ref f_text, .int 0, .int (-1), .ref f_kinds, .ref f_places, .ref f_values, .int 0, .ref f_draftLetters, .int 0, .int 0, .int 0, .ref f_draftNumbers, .ref f_draftSigns, .int 0, .int 0, .int 0, .int 0, .ref f_letters, .ref f_numbers, .ref f_isList, .ref f_bounds, .ref f_sizes, .ref f_lists, .ref f_told, .ref f_costs, .int 0, .ref f_times, .int 0, .ref f_bestOne, .ref f_basis, .int 0, .ref f_one, .int 0, .ref f_along, .ref f_now]))]) [0] (by decide) rfl
  have hK9 := hK.sub (tys' := []) [] rfl
  exact W.iret (v := (-1)) hx hb hr (fun t ht hW => ⟨⟨(-1), (), rfl, rfl, by rw [ht]; exact hP9, va_K.moved hW.alike hK9, hD9⟩, hS.F ht⟩) hS.2.2 d_MO_count_52

set_option maxHeartbeats 4000000 in
set_option maxRecDepth 100000 in
theorem c_MO_letter (l : Launch) (dC : Nat → ClassId) (dI : Nat → Nat → Nat) (m0 : Nat) (f_text : Nat) (f_kinds : Nat) (f_places : Nat) (f_values : Nat) (f_draftLetters : Nat) (f_draftNumbers : Nat) (f_draftSigns : Nat) (f_letters : Nat) (f_numbers : Nat) (f_isList : Nat) (f_bounds : Nat) (f_sizes : Nat) (f_lists : Nat) (f_told : Nat) (f_costs : Nat) (f_times : Nat) (f_bestOne : Nat) (f_basis : Nat) (f_one : Nat) (f_along : Nat) (f_now : Nat) (th : Int32) (column : Int32) (sz : Nat) : Met l y_MO_letter (Cond.code y_MO_letter b_MO_letter 2 (Option.some Jvm.ClassFile.FieldType.int) :: wd) { frames := 0, cells := 0, slots := 0, locals := 0 } (va_Pc [.ref m0, .int column] (fun U => U.heap.size = sz ∧ va_P (dC, dI) cls [(m0, .inr (9, [.int th, .ref f_text, .int 0, .int (-1), .ref f_kinds, .ref f_places, .ref f_values, .int 0, .ref f_draftLetters, .int 0, .int 0, .int 0, .ref f_draftNumbers, .ref f_draftSigns, .int 0, .int 0, .int 0, .int 0, .ref f_letters, .ref f_numbers, .ref f_isList, .ref f_bounds, .ref f_sizes, .ref f_lists, .ref f_told, .ref f_costs, .int 0, .ref f_times, .int 0, .ref f_bestOne, .ref f_basis, .int 0, .ref f_one, .int 0, .ref f_along, .ref f_now]))] U.heap ∧ va_K (dC, dI) cls [] U ∧ va_D (fun _ => True) [(m0, .inr (9, [.int th, .ref f_text, .int 0, .int (-1), .ref f_kinds, .ref f_places, .ref f_values, .int 0, .ref f_draftLetters, .int 0, .int 0, .int 0, .ref f_draftNumbers, .ref f_draftSigns, .int 0, .int 0, .int 0, .int 0, .ref f_letters, .ref f_numbers, .ref f_isList, .ref f_bounds, .ref f_sizes, .ref f_lists, .ref f_told, .ref f_costs, .int 0, .ref f_times, .int 0, .ref f_bestOne, .ref f_basis, .int 0, .ref f_one, .int 0, .ref f_along, .ref f_now]))] ∧ nw_ok U)) (va_Qi (fun r (_ : Unit) => r = (-1)) (fun (_ : Unit) t => va_P (dC, dI) cls [(m0, .inr (9, [.int 0, .ref f_text, .int 0, .int (-1), .ref f_kinds, .ref f_places, .ref f_values, .int 0, .ref f_draftLetters, .int 0, .int 0, .int 0, .ref f_draftNumbers, .ref f_draftSigns, .int 0, .int 0, .int 0, .int 0, .ref f_letters, .ref f_numbers, .ref f_isList, .ref f_bounds, .ref f_sizes, .ref f_lists, .ref f_told, .ref f_costs, .int 0, .ref f_times, .int 0, .ref f_bestOne, .ref f_basis, .int 0, .ref f_one, .int 0, .ref f_along, .ref f_now]))] t.heap ∧ va_K (dC, dI) cls [] t ∧ va_D (va_A [(m0, .inr (9, [.int th, .ref f_text, .int 0, .int (-1), .ref f_kinds, .ref f_places, .ref f_values, .int 0, .ref f_draftLetters, .int 0, .int 0, .int 0, .ref f_draftNumbers, .ref f_draftSigns, .int 0, .int 0, .int 0, .int 0, .ref f_letters, .ref f_numbers, .ref f_isList, .ref f_bounds, .ref f_sizes, .ref f_lists, .ref f_told, .ref f_costs, .int 0, .ref f_times, .int 0, .ref f_bestOne, .ref f_basis, .int 0, .ref f_one, .int 0, .ref f_along, .ref f_now]))] sz) [(m0, .inr (9, [.int 0, .ref f_text, .int 0, .int (-1), .ref f_kinds, .ref f_places, .ref f_values, .int 0, .ref f_draftLetters, .int 0, .int 0, .int 0, .ref f_draftNumbers, .ref f_draftSigns, .int 0, .int 0, .int 0, .int 0, .ref f_letters, .ref f_numbers, .ref f_isList, .ref f_bounds, .ref f_sizes, .ref f_lists, .ref f_told, .ref f_costs, .int 0, .ref f_times, .int 0, .ref f_bestOne, .ref f_basis, .int 0, .ref f_one, .int 0, .ref f_along, .ref f_now]))]) (va_A [(m0, .inr (9, [.int th, .ref f_text, .int 0, .int (-1), .ref f_kinds, .ref f_places, .ref f_values, .int 0, .ref f_draftLetters, .int 0, .int 0, .int 0, .ref f_draftNumbers, .ref f_draftSigns, .int 0, .int 0, .int 0, .int 0, .ref f_letters, .ref f_numbers, .ref f_isList, .ref f_bounds, .ref f_sizes, .ref f_lists, .ref f_told, .ref f_costs, .int 0, .ref f_times, .int 0, .ref f_bestOne, .ref f_basis, .int 0, .ref f_one, .int 0, .ref f_along, .ref f_now]))] sz)) 0 0 (va_A [(m0, .inr (9, [.int th, .ref f_text, .int 0, .int (-1), .ref f_kinds, .ref f_places, .ref f_values, .int 0, .ref f_draftLetters, .int 0, .int 0, .int 0, .ref f_draftNumbers, .ref f_draftSigns, .int 0, .int 0, .int 0, .int 0, .ref f_letters, .ref f_numbers, .ref f_isList, .ref f_bounds, .ref f_sizes, .ref f_lists, .ref f_told, .ref f_costs, .int 0, .ref f_times, .int 0, .ref f_bestOne, .ref f_basis, .int 0, .ref f_one, .int 0, .ref f_along, .ref f_now]))] sz) := by
  refine Met.ofW (cc := b_MO_letter) (maxL := 2) (ret := (Option.some Jvm.ClassFile.FieldType.int)) (by decide) rfl ?_
  intro p e s m args below meth c s₁ B hml hv
  obtain ⟨rfl, hsz, hP, hK, hD0, hN⟩ := hv
  have hx := B.exec
  have hb := B.bytes
  have hr := B.returns
  have hlocks := B.notSynchronized
  have hts : ∀ w ∈ wd, w.before ([.ref m0, .int column] : List Value).toArray s = true := fun w hw => atoms_spec (ws := (Cond.code y_MO_letter b_MO_letter 2 (Option.some Jvm.ClassFile.FieldType.int) :: wd)) B.pre w (List.mem_cons_of_mem _ hw)
  have hown : s.vm.findClass "LeastSolutionsModel" = some m.cls := findClass_of_methodNamed B.named
  subst hsz
  have hD := hD0.self (sz := s.heap.size)
  generalize hAe : va_A [(m0, .inr (9, [.int th, .ref f_text, .int 0, .int (-1), .ref f_kinds, .ref f_places, .ref f_values, .int 0, .ref f_draftLetters, .int 0, .int 0, .int 0, .ref f_draftNumbers, .ref f_draftSigns, .int 0, .int 0, .int 0, .int 0, .ref f_letters, .ref f_numbers, .ref f_isList, .ref f_bounds, .ref f_sizes, .ref f_lists, .ref f_told, .ref f_costs, .int 0, .ref f_times, .int 0, .ref f_bestOne, .ref f_basis, .int 0, .ref f_one, .int 0, .ref f_along, .ref f_now]))] s.heap.size = A at hD ⊢
  have hA : ∀ q : Nat, s.heap.size ≤ q → A q := fun q h => by rw [← hAe]; exact Or.inr h
  have hS : va_S A s.heap s.heap [] := va_S.rf
  have hl := lv_entry ([.ref m0, .int column]) (n := 2) (Nat.le_of_ble_eq_true rfl)
  rw [lg_entry_eq]
  generalize (lg_sl ([.ref m0, .int column]) ++ List.replicate (2 - (lg_sl ([.ref m0, .int column])).length) Slot.unset).toArray = ls at hl ⊢
  have hl : lv_has ls 2 [(0, .ref m0), (1, .int column)] := hl
  refine lv_aload_n hx hb d_MO_letter_0 rfl (lv_at hl 0 rfl) ?_
  refine lv_iconst (v := 0) hx hb d_MO_letter_1 (by decide) ?_
  refine va_put (D := (dC, dI)) (ci := 9) (v := .int 0) (ty := .int) (C := R_MO) (T := T_MO) (N := 36) hx hb hts in_MO t_MO t_MO_ok n_MO hown hK hP hD hS 0 rfl rfl 0 (by decide) (hts _ k_886) (fun _ h9 => h9) rfl (by decide +kernel) rfl rfl (Nat.le_of_ble_eq_true rfl) d_MO_letter_2 (fun H1 locs hP hD hS => ?_)
  have hP : va_P (dC, dI) cls [(m0, .inr (9, [.int 0, .ref f_text, .int 0, .int (-1), .ref f_kinds, .ref f_places, .ref f_values, .int 0, .ref f_draftLetters, .int 0, .int 0, .int 0, .ref f_draftNumbers, .ref f_draftSigns, .int 0, .int 0, .int 0, .int 0, .ref f_letters, .ref f_numbers, .ref f_isList, .ref f_bounds, .ref f_sizes, .ref f_lists, .ref f_told, .ref f_costs, .int 0, .ref f_times, .int 0, .ref f_bestOne, .ref f_basis, .int 0, .ref f_one, .int 0, .ref f_along, .ref f_now]))] H1 := hP
  have hD : va_D A [(m0, .inr (9, [.int 0, .ref f_text, .int 0, .int (-1), .ref f_kinds, .ref f_places, .ref f_values, .int 0, .ref f_draftLetters, .int 0, .int 0, .int 0, .ref f_draftNumbers, .ref f_draftSigns, .int 0, .int 0, .int 0, .int 0, .ref f_letters, .ref f_numbers, .ref f_isList, .ref f_bounds, .ref f_sizes, .ref f_lists, .ref f_told, .ref f_costs, .int 0, .ref f_times, .int 0, .ref f_bestOne, .ref f_basis, .int 0, .ref f_one, .int 0, .ref f_along, .ref f_now]))] := hD
  refine lv_aload_n hx hb d_MO_letter_5 rfl (lv_at hl 0 rfl) ?_
  refine va_get (D := (dC, dI)) (ci := 9) (v := .int 0) (C := R_MO) (T := T_MO) (N := 36) hx hb hts in_MO hown hK hP 0 rfl rfl 14 (by decide) (hts _ k_900) (fun _ h9 => h9) rfl d_MO_letter_6 ?_
  refine lv_if_eq (tgt := 33) hx hb d_MO_letter_9 (by decide) (fun _ => ?_) (fun h9 => absurd (by decide) h9)
  refine lv_iconst (v := (-1)) hx hb d_MO_letter_33 (by decide) ?_
  have hP9 := hP.sub (ws' := [(m0, .inr (9, [.int 0, .ref f_text, .int 0, .int (-1), .ref f_kinds, .ref f_places, .ref f_values, .int 0, .ref f_draftLetters, .int 0, .int 0, .int 0, .ref f_draftNumbers, .ref f_draftSigns, .int 0, .int 0, .int 0, .int 0, .ref f_letters, .ref f_numbers, .ref f_isList, .ref f_bounds, .ref f_sizes, .ref f_lists, .ref f_told, .ref f_costs, .int 0, .ref f_times, .int 0, .ref f_bestOne, .ref f_basis, .int 0, .ref f_one, .int 0, .ref f_along, .ref f_now]))]) [0] rfl
  have hD9 := hD.sub (ws' := [(m0, .inr (9, [.int 0, .ref f_text, .int 0, .int (-1), .ref f_kinds, .ref f_places, .ref f_values, .int 0, .ref f_draftLetters, .int 0, .int 0, .int 0, .ref f_draftNumbers, .ref f_draftSigns, .int 0, .int 0, .int 0, .int 0, .ref f_letters, .ref f_numbers, .ref f_isList, .ref f_bounds, .ref f_sizes, .ref f_lists, .ref f_told, .ref f_costs, .int 0, .ref f_times, .int 0, .ref f_bestOne, .ref f_basis, .int 0, .ref f_one, .int 0, .ref f_along, .ref f_now]))]) [0] (by decide) rfl
  have hK9 := hK.sub (tys' := []) [] rfl
  exact W.iret (v := (-1)) hx hb hr (fun t ht hW => ⟨⟨(-1), (), rfl, rfl, by rw [ht]; exact hP9, va_K.moved hW.alike hK9, hD9⟩, hS.F ht⟩) hS.2.2 d_MO_letter_34

set_option maxHeartbeats 4000000 in
set_option maxRecDepth 100000 in
theorem c_MO_number (l : Launch) (dC : Nat → ClassId) (dI : Nat → Nat → Nat) (m0 : Nat) (f_text : Nat) (f_kinds : Nat) (f_places : Nat) (f_values : Nat) (f_draftLetters : Nat) (f_draftNumbers : Nat) (f_draftSigns : Nat) (f_letters : Nat) (f_numbers : Nat) (f_isList : Nat) (f_bounds : Nat) (f_sizes : Nat) (f_lists : Nat) (f_told : Nat) (f_costs : Nat) (f_times : Nat) (f_bestOne : Nat) (f_basis : Nat) (f_one : Nat) (f_along : Nat) (f_now : Nat) (th : Int32) (row : Int32) (column : Int32) (sz : Nat) : Met l y_MO_number (Cond.code y_MO_number b_MO_number 3 (Option.some Jvm.ClassFile.FieldType.int) :: wd) { frames := 0, cells := 0, slots := 0, locals := 0 } (va_Pc [.ref m0, .int row, .int column] (fun U => U.heap.size = sz ∧ va_P (dC, dI) cls [(m0, .inr (9, [.int th, .ref f_text, .int 0, .int (-1), .ref f_kinds, .ref f_places, .ref f_values, .int 0, .ref f_draftLetters, .int 0, .int 0, .int 0, .ref f_draftNumbers, .ref f_draftSigns, .int 0, .int 0, .int 0, .int 0, .ref f_letters, .ref f_numbers, .ref f_isList, .ref f_bounds, .ref f_sizes, .ref f_lists, .ref f_told, .ref f_costs, .int 0, .ref f_times, .int 0, .ref f_bestOne, .ref f_basis, .int 0, .ref f_one, .int 0, .ref f_along, .ref f_now]))] U.heap ∧ va_K (dC, dI) cls [] U ∧ va_D (fun _ => True) [(m0, .inr (9, [.int th, .ref f_text, .int 0, .int (-1), .ref f_kinds, .ref f_places, .ref f_values, .int 0, .ref f_draftLetters, .int 0, .int 0, .int 0, .ref f_draftNumbers, .ref f_draftSigns, .int 0, .int 0, .int 0, .int 0, .ref f_letters, .ref f_numbers, .ref f_isList, .ref f_bounds, .ref f_sizes, .ref f_lists, .ref f_told, .ref f_costs, .int 0, .ref f_times, .int 0, .ref f_bestOne, .ref f_basis, .int 0, .ref f_one, .int 0, .ref f_along, .ref f_now]))] ∧ nw_ok U)) (va_Qi (fun r (_ : Unit) => r = 0) (fun (_ : Unit) t => va_P (dC, dI) cls [(m0, .inr (9, [.int 1, .ref f_text, .int 0, .int (-1), .ref f_kinds, .ref f_places, .ref f_values, .int 0, .ref f_draftLetters, .int 0, .int 0, .int 0, .ref f_draftNumbers, .ref f_draftSigns, .int 0, .int 0, .int 0, .int 0, .ref f_letters, .ref f_numbers, .ref f_isList, .ref f_bounds, .ref f_sizes, .ref f_lists, .ref f_told, .ref f_costs, .int 0, .ref f_times, .int 0, .ref f_bestOne, .ref f_basis, .int 0, .ref f_one, .int 0, .ref f_along, .ref f_now]))] t.heap ∧ va_K (dC, dI) cls [] t ∧ va_D (va_A [(m0, .inr (9, [.int th, .ref f_text, .int 0, .int (-1), .ref f_kinds, .ref f_places, .ref f_values, .int 0, .ref f_draftLetters, .int 0, .int 0, .int 0, .ref f_draftNumbers, .ref f_draftSigns, .int 0, .int 0, .int 0, .int 0, .ref f_letters, .ref f_numbers, .ref f_isList, .ref f_bounds, .ref f_sizes, .ref f_lists, .ref f_told, .ref f_costs, .int 0, .ref f_times, .int 0, .ref f_bestOne, .ref f_basis, .int 0, .ref f_one, .int 0, .ref f_along, .ref f_now]))] sz) [(m0, .inr (9, [.int 1, .ref f_text, .int 0, .int (-1), .ref f_kinds, .ref f_places, .ref f_values, .int 0, .ref f_draftLetters, .int 0, .int 0, .int 0, .ref f_draftNumbers, .ref f_draftSigns, .int 0, .int 0, .int 0, .int 0, .ref f_letters, .ref f_numbers, .ref f_isList, .ref f_bounds, .ref f_sizes, .ref f_lists, .ref f_told, .ref f_costs, .int 0, .ref f_times, .int 0, .ref f_bestOne, .ref f_basis, .int 0, .ref f_one, .int 0, .ref f_along, .ref f_now]))]) (va_A [(m0, .inr (9, [.int th, .ref f_text, .int 0, .int (-1), .ref f_kinds, .ref f_places, .ref f_values, .int 0, .ref f_draftLetters, .int 0, .int 0, .int 0, .ref f_draftNumbers, .ref f_draftSigns, .int 0, .int 0, .int 0, .int 0, .ref f_letters, .ref f_numbers, .ref f_isList, .ref f_bounds, .ref f_sizes, .ref f_lists, .ref f_told, .ref f_costs, .int 0, .ref f_times, .int 0, .ref f_bestOne, .ref f_basis, .int 0, .ref f_one, .int 0, .ref f_along, .ref f_now]))] sz)) 0 0 (va_A [(m0, .inr (9, [.int th, .ref f_text, .int 0, .int (-1), .ref f_kinds, .ref f_places, .ref f_values, .int 0, .ref f_draftLetters, .int 0, .int 0, .int 0, .ref f_draftNumbers, .ref f_draftSigns, .int 0, .int 0, .int 0, .int 0, .ref f_letters, .ref f_numbers, .ref f_isList, .ref f_bounds, .ref f_sizes, .ref f_lists, .ref f_told, .ref f_costs, .int 0, .ref f_times, .int 0, .ref f_bestOne, .ref f_basis, .int 0, .ref f_one, .int 0, .ref f_along, .ref f_now]))] sz) := by
  refine Met.ofW (cc := b_MO_number) (maxL := 3) (ret := (Option.some Jvm.ClassFile.FieldType.int)) (by decide) rfl ?_
  intro p e s m args below meth c s₁ B hml hv
  obtain ⟨rfl, hsz, hP, hK, hD0, hN⟩ := hv
  have hx := B.exec
  have hb := B.bytes
  have hr := B.returns
  have hlocks := B.notSynchronized
  have hts : ∀ w ∈ wd, w.before ([.ref m0, .int row, .int column] : List Value).toArray s = true := fun w hw => atoms_spec (ws := (Cond.code y_MO_number b_MO_number 3 (Option.some Jvm.ClassFile.FieldType.int) :: wd)) B.pre w (List.mem_cons_of_mem _ hw)
  have hown : s.vm.findClass "LeastSolutionsModel" = some m.cls := findClass_of_methodNamed B.named
  subst hsz
  have hD := hD0.self (sz := s.heap.size)
  generalize hAe : va_A [(m0, .inr (9, [.int th, .ref f_text, .int 0, .int (-1), .ref f_kinds, .ref f_places, .ref f_values, .int 0, .ref f_draftLetters, .int 0, .int 0, .int 0, .ref f_draftNumbers, .ref f_draftSigns, .int 0, .int 0, .int 0, .int 0, .ref f_letters, .ref f_numbers, .ref f_isList, .ref f_bounds, .ref f_sizes, .ref f_lists, .ref f_told, .ref f_costs, .int 0, .ref f_times, .int 0, .ref f_bestOne, .ref f_basis, .int 0, .ref f_one, .int 0, .ref f_along, .ref f_now]))] s.heap.size = A at hD ⊢
  have hA : ∀ q : Nat, s.heap.size ≤ q → A q := fun q h => by rw [← hAe]; exact Or.inr h
  have hS : va_S A s.heap s.heap [] := va_S.rf
  have hl := lv_entry ([.ref m0, .int row, .int column]) (n := 3) (Nat.le_of_ble_eq_true rfl)
  rw [lg_entry_eq]
  generalize (lg_sl ([.ref m0, .int row, .int column]) ++ List.replicate (3 - (lg_sl ([.ref m0, .int row, .int column])).length) Slot.unset).toArray = ls at hl ⊢
  have hl : lv_has ls 3 [(0, .ref m0), (1, .int row), (2, .int column)] := hl
  refine lv_aload_n hx hb d_MO_number_0 rfl (lv_at hl 0 rfl) ?_
  refine lv_aload_n hx hb d_MO_number_1 rfl (lv_at hl 0 rfl) ?_
  refine va_get (D := (dC, dI)) (ci := 9) (v := .int 0) (C := R_MO) (T := T_MO) (N := 36) hx hb hts in_MO hown hK hP 0 rfl rfl 14 (by decide) (hts _ k_900) (fun _ h9 => h9) rfl d_MO_number_2 ?_
  refine lv_if_eq (tgt := 36) hx hb d_MO_number_5 (by decide) (fun _ => ?_) (fun h9 => absurd (by decide) h9)
  refine lv_iconst (v := 1) hx hb d_MO_number_36 (by decide) ?_
  refine va_put (D := (dC, dI)) (ci := 9) (v := .int 1) (ty := .int) (C := R_MO) (T := T_MO) (N := 36) hx hb hts in_MO t_MO t_MO_ok n_MO hown hK hP hD hS 0 rfl rfl 0 (by decide) (hts _ k_886) (fun _ h9 => h9) rfl (by decide +kernel) rfl rfl (Nat.le_of_ble_eq_true rfl) d_MO_number_37 (fun H1 locs hP hD hS => ?_)
  have hP : va_P (dC, dI) cls [(m0, .inr (9, [.int 1, .ref f_text, .int 0, .int (-1), .ref f_kinds, .ref f_places, .ref f_values, .int 0, .ref f_draftLetters, .int 0, .int 0, .int 0, .ref f_draftNumbers, .ref f_draftSigns, .int 0, .int 0, .int 0, .int 0, .ref f_letters, .ref f_numbers, .ref f_isList, .ref f_bounds, .ref f_sizes, .ref f_lists, .ref f_told, .ref f_costs, .int 0, .ref f_times, .int 0, .ref f_bestOne, .ref f_basis, .int 0, .ref f_one, .int 0, .ref f_along, .ref f_now]))] H1 := hP
  have hD : va_D A [(m0, .inr (9, [.int 1, .ref f_text, .int 0, .int (-1), .ref f_kinds, .ref f_places, .ref f_values, .int 0, .ref f_draftLetters, .int 0, .int 0, .int 0, .ref f_draftNumbers, .ref f_draftSigns, .int 0, .int 0, .int 0, .int 0, .ref f_letters, .ref f_numbers, .ref f_isList, .ref f_bounds, .ref f_sizes, .ref f_lists, .ref f_told, .ref f_costs, .int 0, .ref f_times, .int 0, .ref f_bestOne, .ref f_basis, .int 0, .ref f_one, .int 0, .ref f_along, .ref f_now]))] := hD
  refine lv_aload_n hx hb d_MO_number_40 rfl (lv_at hl 0 rfl) ?_
  refine va_get (D := (dC, dI)) (ci := 9) (v := .int 1) (C := R_MO) (T := T_MO) (N := 36) hx hb hts in_MO hown hK hP 0 rfl rfl 0 (by decide) (hts _ k_886) (fun _ h9 => h9) rfl d_MO_number_41 ?_
  refine lv_if_ne (tgt := 61) hx hb d_MO_number_44 (by decide) (fun _ => ?_) (fun h9 => absurd h9 (by decide))
  refine lv_iconst (v := 0) hx hb d_MO_number_61 (by decide) ?_
  have hP9 := hP.sub (ws' := [(m0, .inr (9, [.int 1, .ref f_text, .int 0, .int (-1), .ref f_kinds, .ref f_places, .ref f_values, .int 0, .ref f_draftLetters, .int 0, .int 0, .int 0, .ref f_draftNumbers, .ref f_draftSigns, .int 0, .int 0, .int 0, .int 0, .ref f_letters, .ref f_numbers, .ref f_isList, .ref f_bounds, .ref f_sizes, .ref f_lists, .ref f_told, .ref f_costs, .int 0, .ref f_times, .int 0, .ref f_bestOne, .ref f_basis, .int 0, .ref f_one, .int 0, .ref f_along, .ref f_now]))]) [0] rfl
  have hD9 := hD.sub (ws' := [(m0, .inr (9, [.int 1, .ref f_text, .int 0, .int (-1), .ref f_kinds, .ref f_places, .ref f_values, .int 0, .ref f_draftLetters, .int 0, .int 0, .int 0, .ref f_draftNumbers, .ref f_draftSigns, .int 0, .int 0, .int 0, .int 0, .ref f_letters, .ref f_numbers, .ref f_isList, .ref f_bounds, .ref f_sizes, .ref f_lists, .ref f_told, .ref f_costs, .int 0, .ref f_times, .int 0, .ref f_bestOne, .ref f_basis, .int 0, .ref f_one, .int 0, .ref f_along, .ref f_now]))]) [0] (by decide) rfl
  have hK9 := hK.sub (tys' := []) [] rfl
  exact W.iret (v := 0) hx hb hr (fun t ht hW => ⟨⟨0, (), rfl, rfl, by rw [ht]; exact hP9, va_K.moved hW.alike hK9, hD9⟩, hS.F ht⟩) hS.2.2 d_MO_number_62

set_option maxHeartbeats 4000000 in
set_option maxRecDepth 100000 in
theorem c_MO_solvable (l : Launch) (dC : Nat → ClassId) (dI : Nat → Nat → Nat) (m0 : Nat) (f_text : Nat) (f_kinds : Nat) (f_places : Nat) (f_values : Nat) (f_draftLetters : Nat) (f_draftNumbers : Nat) (f_draftSigns : Nat) (f_letters : Nat) (f_numbers : Nat) (f_isList : Nat) (f_bounds : Nat) (f_sizes : Nat) (f_lists : Nat) (f_told : Nat) (f_costs : Nat) (f_times : Nat) (f_bestOne : Nat) (f_basis : Nat) (f_one : Nat) (f_along : Nat) (f_now : Nat) (th : Int32) (sz : Nat) : Met l y_MO_solvable (Cond.code y_MO_solvable b_MO_solvable 1 (Option.some Jvm.ClassFile.FieldType.int) :: wd) { frames := 0, cells := 0, slots := 0, locals := 0 } (va_Pc [.ref m0] (fun U => U.heap.size = sz ∧ va_P (dC, dI) cls [(m0, .inr (9, [.int th, .ref f_text, .int 0, .int (-1), .ref f_kinds, .ref f_places, .ref f_values, .int 0, .ref f_draftLetters, .int 0, .int 0, .int 0, .ref f_draftNumbers, .ref f_draftSigns, .int 0, .int 0, .int 0, .int 0, .ref f_letters, .ref f_numbers, .ref f_isList, .ref f_bounds, .ref f_sizes, .ref f_lists, .ref f_told, .ref f_costs, .int 0, .ref f_times, .int 0, .ref f_bestOne, .ref f_basis, .int 0, .ref f_one, .int 0, .ref f_along, .ref f_now]))] U.heap ∧ va_K (dC, dI) cls [] U ∧ va_D (fun _ => True) [(m0, .inr (9, [.int th, .ref f_text, .int 0, .int (-1), .ref f_kinds, .ref f_places, .ref f_values, .int 0, .ref f_draftLetters, .int 0, .int 0, .int 0, .ref f_draftNumbers, .ref f_draftSigns, .int 0, .int 0, .int 0, .int 0, .ref f_letters, .ref f_numbers, .ref f_isList, .ref f_bounds, .ref f_sizes, .ref f_lists, .ref f_told, .ref f_costs, .int 0, .ref f_times, .int 0, .ref f_bestOne, .ref f_basis, .int 0, .ref f_one, .int 0, .ref f_along, .ref f_now]))] ∧ nw_ok U)) (va_Qi (fun r (_ : Unit) => r = 0) (fun (_ : Unit) t => va_P (dC, dI) cls [(m0, .inr (9, [.int 1, .ref f_text, .int 0, .int (-1), .ref f_kinds, .ref f_places, .ref f_values, .int 0, .ref f_draftLetters, .int 0, .int 0, .int 0, .ref f_draftNumbers, .ref f_draftSigns, .int 0, .int 0, .int 0, .int 0, .ref f_letters, .ref f_numbers, .ref f_isList, .ref f_bounds, .ref f_sizes, .ref f_lists, .ref f_told, .ref f_costs, .int 0, .ref f_times, .int 0, .ref f_bestOne, .ref f_basis, .int 0, .ref f_one, .int 0, .ref f_along, .ref f_now]))] t.heap ∧ va_K (dC, dI) cls [] t ∧ va_D (va_A [(m0, .inr (9, [.int th, .ref f_text, .int 0, .int (-1), .ref f_kinds, .ref f_places, .ref f_values, .int 0, .ref f_draftLetters, .int 0, .int 0, .int 0, .ref f_draftNumbers, .ref f_draftSigns, .int 0, .int 0, .int 0, .int 0, .ref f_letters, .ref f_numbers, .ref f_isList, .ref f_bounds, .ref f_sizes, .ref f_lists, .ref f_told, .ref f_costs, .int 0, .ref f_times, .int 0, .ref f_bestOne, .ref f_basis, .int 0, .ref f_one, .int 0, .ref f_along, .ref f_now]))] sz) [(m0, .inr (9, [.int 1, .ref f_text, .int 0, .int (-1), .ref f_kinds, .ref f_places, .ref f_values, .int 0, .ref f_draftLetters, .int 0, .int 0, .int 0, .ref f_draftNumbers, .ref f_draftSigns, .int 0, .int 0, .int 0, .int 0, .ref f_letters, .ref f_numbers, .ref f_isList, .ref f_bounds, .ref f_sizes, .ref f_lists, .ref f_told, .ref f_costs, .int 0, .ref f_times, .int 0, .ref f_bestOne, .ref f_basis, .int 0, .ref f_one, .int 0, .ref f_along, .ref f_now]))]) (va_A [(m0, .inr (9, [.int th, .ref f_text, .int 0, .int (-1), .ref f_kinds, .ref f_places, .ref f_values, .int 0, .ref f_draftLetters, .int 0, .int 0, .int 0, .ref f_draftNumbers, .ref f_draftSigns, .int 0, .int 0, .int 0, .int 0, .ref f_letters, .ref f_numbers, .ref f_isList, .ref f_bounds, .ref f_sizes, .ref f_lists, .ref f_told, .ref f_costs, .int 0, .ref f_times, .int 0, .ref f_bestOne, .ref f_basis, .int 0, .ref f_one, .int 0, .ref f_along, .ref f_now]))] sz)) 0 0 (va_A [(m0, .inr (9, [.int th, .ref f_text, .int 0, .int (-1), .ref f_kinds, .ref f_places, .ref f_values, .int 0, .ref f_draftLetters, .int 0, .int 0, .int 0, .ref f_draftNumbers, .ref f_draftSigns, .int 0, .int 0, .int 0, .int 0, .ref f_letters, .ref f_numbers, .ref f_isList, .ref f_bounds, .ref f_sizes, .ref f_lists, .ref f_told, .ref f_costs, .int 0, .ref f_times, .int 0, .ref f_bestOne, .ref f_basis, .int 0, .ref f_one, .int 0, .ref f_along, .ref f_now]))] sz) := by
  refine Met.ofW (cc := b_MO_solvable) (maxL := 1) (ret := (Option.some Jvm.ClassFile.FieldType.int)) (by decide) rfl ?_
  intro p e s m args below meth c s₁ B hml hv
  obtain ⟨rfl, hsz, hP, hK, hD0, hN⟩ := hv
  have hx := B.exec
  have hb := B.bytes
  have hr := B.returns
  have hlocks := B.notSynchronized
  have hts : ∀ w ∈ wd, w.before ([.ref m0] : List Value).toArray s = true := fun w hw => atoms_spec (ws := (Cond.code y_MO_solvable b_MO_solvable 1 (Option.some Jvm.ClassFile.FieldType.int) :: wd)) B.pre w (List.mem_cons_of_mem _ hw)
  have hown : s.vm.findClass "LeastSolutionsModel" = some m.cls := findClass_of_methodNamed B.named
  subst hsz
  have hD := hD0.self (sz := s.heap.size)
  generalize hAe : va_A [(m0, .inr (9, [.int th, .ref f_text, .int 0, .int (-1), .ref f_kinds, .ref f_places, .ref f_values, .int 0, .ref f_draftLetters, .int 0, .int 0, .int 0, .ref f_draftNumbers, .ref f_draftSigns, .int 0, .int 0, .int 0, .int 0, .ref f_letters, .ref f_numbers, .ref f_isList, .ref f_bounds, .ref f_sizes, .ref f_lists, .ref f_told, .ref f_costs, .int 0, .ref f_times, .int 0, .ref f_bestOne, .ref f_basis, .int 0, .ref f_one, .int 0, .ref f_along, .ref f_now]))] s.heap.size = A at hD ⊢
  have hA : ∀ q : Nat, s.heap.size ≤ q → A q := fun q h => by rw [← hAe]; exact Or.inr h
  have hS : va_S A s.heap s.heap [] := va_S.rf
  have hl := lv_entry ([.ref m0]) (n := 1) (Nat.le_of_ble_eq_true rfl)
  rw [lg_entry_eq]
  generalize (lg_sl ([.ref m0]) ++ List.replicate (1 - (lg_sl ([.ref m0])).length) Slot.unset).toArray = ls at hl ⊢
  have hl : lv_has ls 1 [(0, .ref m0)] := hl
  refine lv_aload_n hx hb d_MO_solvable_0 rfl (lv_at hl 0 rfl) ?_
  refine lv_aload_n hx hb d_MO_solvable_1 rfl (lv_at hl 0 rfl) ?_
  refine va_get (D := (dC, dI)) (ci := 9) (v := .int 0) (C := R_MO) (T := T_MO) (N := 36) hx hb hts in_MO hown hK hP 0 rfl rfl 14 (by decide) (hts _ k_900) (fun _ h9 => h9) rfl d_MO_solvable_2 ?_
  refine lv_if_eq (tgt := 12) hx hb d_MO_solvable_5 (by decide) (fun _ => ?_) (fun h9 => absurd (by decide) h9)
  refine lv_iconst (v := 1) hx hb d_MO_solvable_12 (by decide) ?_
  refine va_put (D := (dC, dI)) (ci := 9) (v := .int 1) (ty := .int) (C := R_MO) (T := T_MO) (N := 36) hx hb hts in_MO t_MO t_MO_ok n_MO hown hK hP hD hS 0 rfl rfl 0 (by decide) (hts _ k_886) (fun _ h9 => h9) rfl (by decide +kernel) rfl rfl (Nat.le_of_ble_eq_true rfl) d_MO_solvable_13 (fun H1 locs hP hD hS => ?_)
  have hP : va_P (dC, dI) cls [(m0, .inr (9, [.int 1, .ref f_text, .int 0, .int (-1), .ref f_kinds, .ref f_places, .ref f_values, .int 0, .ref f_draftLetters, .int 0, .int 0, .int 0, .ref f_draftNumbers, .ref f_draftSigns, .int 0, .int 0, .int 0, .int 0, .ref f_letters, .ref f_numbers, .ref f_isList, .ref f_bounds, .ref f_sizes, .ref f_lists, .ref f_told, .ref f_costs, .int 0, .ref f_times, .int 0, .ref f_bestOne, .ref f_basis, .int 0, .ref f_one, .int 0, .ref f_along, .ref f_now]))] H1 := hP
  have hD : va_D A [(m0, .inr (9, [.int 1, .ref f_text, .int 0, .int (-1), .ref f_kinds, .ref f_places, .ref f_values, .int 0, .ref f_draftLetters, .int 0, .int 0, .int 0, .ref f_draftNumbers, .ref f_draftSigns, .int 0, .int 0, .int 0, .int 0, .ref f_letters, .ref f_numbers, .ref f_isList, .ref f_bounds, .ref f_sizes, .ref f_lists, .ref f_told, .ref f_costs, .int 0, .ref f_times, .int 0, .ref f_bestOne, .ref f_basis, .int 0, .ref f_one, .int 0, .ref f_along, .ref f_now]))] := hD
  refine lv_aload_n hx hb d_MO_solvable_16 rfl (lv_at hl 0 rfl) ?_
  refine va_get (D := (dC, dI)) (ci := 9) (v := .int 1) (C := R_MO) (T := T_MO) (N := 36) hx hb hts in_MO hown hK hP 0 rfl rfl 0 (by decide) (hts _ k_886) (fun _ h9 => h9) rfl d_MO_solvable_17 ?_
  refine lv_if_le (tgt := 25) hx hb d_MO_solvable_20 (by decide) (fun h9 => absurd h9 (by decide)) (fun _ => ?_)
  refine lv_iconst (v := 0) hx hb d_MO_solvable_23 (by decide) ?_
  have hP9 := hP.sub (ws' := [(m0, .inr (9, [.int 1, .ref f_text, .int 0, .int (-1), .ref f_kinds, .ref f_places, .ref f_values, .int 0, .ref f_draftLetters, .int 0, .int 0, .int 0, .ref f_draftNumbers, .ref f_draftSigns, .int 0, .int 0, .int 0, .int 0, .ref f_letters, .ref f_numbers, .ref f_isList, .ref f_bounds, .ref f_sizes, .ref f_lists, .ref f_told, .ref f_costs, .int 0, .ref f_times, .int 0, .ref f_bestOne, .ref f_basis, .int 0, .ref f_one, .int 0, .ref f_along, .ref f_now]))]) [0] rfl
  have hD9 := hD.sub (ws' := [(m0, .inr (9, [.int 1, .ref f_text, .int 0, .int (-1), .ref f_kinds, .ref f_places, .ref f_values, .int 0, .ref f_draftLetters, .int 0, .int 0, .int 0, .ref f_draftNumbers, .ref f_draftSigns, .int 0, .int 0, .int 0, .int 0, .ref f_letters, .ref f_numbers, .ref f_isList, .ref f_bounds, .ref f_sizes, .ref f_lists, .ref f_told, .ref f_costs, .int 0, .ref f_times, .int 0, .ref f_bestOne, .ref f_basis, .int 0, .ref f_one, .int 0, .ref f_along, .ref f_now]))]) [0] (by decide) rfl
  have hK9 := hK.sub (tys' := []) [] rfl
  exact W.iret (v := 0) hx hb hr (fun t ht hW => ⟨⟨0, (), rfl, rfl, by rw [ht]; exact hP9, va_K.moved hW.alike hK9, hD9⟩, hS.F ht⟩) hS.2.2 d_MO_solvable_24

set_option maxHeartbeats 4000000 in
set_option maxRecDepth 100000 in
theorem c_MO_kernel (l : Launch) (dC : Nat → ClassId) (dI : Nat → Nat → Nat) (m0 : Nat) (f_text : Nat) (f_kinds : Nat) (f_places : Nat) (f_values : Nat) (f_draftLetters : Nat) (f_draftNumbers : Nat) (f_draftSigns : Nat) (f_letters : Nat) (f_numbers : Nat) (f_isList : Nat) (f_bounds : Nat) (f_sizes : Nat) (f_lists : Nat) (f_told : Nat) (f_costs : Nat) (f_times : Nat) (f_bestOne : Nat) (f_basis : Nat) (f_one : Nat) (f_along : Nat) (f_now : Nat) (th : Int32) (sz : Nat) : Met l y_MO_kernel (Cond.code y_MO_kernel b_MO_kernel 1 (Option.some Jvm.ClassFile.FieldType.int) :: wd) { frames := 0, cells := 0, slots := 0, locals := 0 } (va_Pc [.ref m0] (fun U => U.heap.size = sz ∧ va_P (dC, dI) cls [(m0, .inr (9, [.int th, .ref f_text, .int 0, .int (-1), .ref f_kinds, .ref f_places, .ref f_values, .int 0, .ref f_draftLetters, .int 0, .int 0, .int 0, .ref f_draftNumbers, .ref f_draftSigns, .int 0, .int 0, .int 0, .int 0, .ref f_letters, .ref f_numbers, .ref f_isList, .ref f_bounds, .ref f_sizes, .ref f_lists, .ref f_told, .ref f_costs, .int 0, .ref f_times, .int 0, .ref f_bestOne, .ref f_basis, .int 0, .ref f_one, .int 0, .ref f_along, .ref f_now]))] U.heap ∧ va_K (dC, dI) cls [] U ∧ va_D (fun _ => True) [(m0, .inr (9, [.int th, .ref f_text, .int 0, .int (-1), .ref f_kinds, .ref f_places, .ref f_values, .int 0, .ref f_draftLetters, .int 0, .int 0, .int 0, .ref f_draftNumbers, .ref f_draftSigns, .int 0, .int 0, .int 0, .int 0, .ref f_letters, .ref f_numbers, .ref f_isList, .ref f_bounds, .ref f_sizes, .ref f_lists, .ref f_told, .ref f_costs, .int 0, .ref f_times, .int 0, .ref f_bestOne, .ref f_basis, .int 0, .ref f_one, .int 0, .ref f_along, .ref f_now]))] ∧ nw_ok U)) (va_Qi (fun r (_ : Unit) => r = 0) (fun (_ : Unit) t => va_P (dC, dI) cls [(m0, .inr (9, [.int 1, .ref f_text, .int 0, .int (-1), .ref f_kinds, .ref f_places, .ref f_values, .int 0, .ref f_draftLetters, .int 0, .int 0, .int 0, .ref f_draftNumbers, .ref f_draftSigns, .int 0, .int 0, .int 0, .int 0, .ref f_letters, .ref f_numbers, .ref f_isList, .ref f_bounds, .ref f_sizes, .ref f_lists, .ref f_told, .ref f_costs, .int 0, .ref f_times, .int 0, .ref f_bestOne, .ref f_basis, .int 0, .ref f_one, .int 0, .ref f_along, .ref f_now]))] t.heap ∧ va_K (dC, dI) cls [] t ∧ va_D (va_A [(m0, .inr (9, [.int th, .ref f_text, .int 0, .int (-1), .ref f_kinds, .ref f_places, .ref f_values, .int 0, .ref f_draftLetters, .int 0, .int 0, .int 0, .ref f_draftNumbers, .ref f_draftSigns, .int 0, .int 0, .int 0, .int 0, .ref f_letters, .ref f_numbers, .ref f_isList, .ref f_bounds, .ref f_sizes, .ref f_lists, .ref f_told, .ref f_costs, .int 0, .ref f_times, .int 0, .ref f_bestOne, .ref f_basis, .int 0, .ref f_one, .int 0, .ref f_along, .ref f_now]))] sz) [(m0, .inr (9, [.int 1, .ref f_text, .int 0, .int (-1), .ref f_kinds, .ref f_places, .ref f_values, .int 0, .ref f_draftLetters, .int 0, .int 0, .int 0, .ref f_draftNumbers, .ref f_draftSigns, .int 0, .int 0, .int 0, .int 0, .ref f_letters, .ref f_numbers, .ref f_isList, .ref f_bounds, .ref f_sizes, .ref f_lists, .ref f_told, .ref f_costs, .int 0, .ref f_times, .int 0, .ref f_bestOne, .ref f_basis, .int 0, .ref f_one, .int 0, .ref f_along, .ref f_now]))]) (va_A [(m0, .inr (9, [.int th, .ref f_text, .int 0, .int (-1), .ref f_kinds, .ref f_places, .ref f_values, .int 0, .ref f_draftLetters, .int 0, .int 0, .int 0, .ref f_draftNumbers, .ref f_draftSigns, .int 0, .int 0, .int 0, .int 0, .ref f_letters, .ref f_numbers, .ref f_isList, .ref f_bounds, .ref f_sizes, .ref f_lists, .ref f_told, .ref f_costs, .int 0, .ref f_times, .int 0, .ref f_bestOne, .ref f_basis, .int 0, .ref f_one, .int 0, .ref f_along, .ref f_now]))] sz)) 0 0 (va_A [(m0, .inr (9, [.int th, .ref f_text, .int 0, .int (-1), .ref f_kinds, .ref f_places, .ref f_values, .int 0, .ref f_draftLetters, .int 0, .int 0, .int 0, .ref f_draftNumbers, .ref f_draftSigns, .int 0, .int 0, .int 0, .int 0, .ref f_letters, .ref f_numbers, .ref f_isList, .ref f_bounds, .ref f_sizes, .ref f_lists, .ref f_told, .ref f_costs, .int 0, .ref f_times, .int 0, .ref f_bestOne, .ref f_basis, .int 0, .ref f_one, .int 0, .ref f_along, .ref f_now]))] sz) := by
  refine Met.ofW (cc := b_MO_kernel) (maxL := 1) (ret := (Option.some Jvm.ClassFile.FieldType.int)) (by decide) rfl ?_
  intro p e s m args below meth c s₁ B hml hv
  obtain ⟨rfl, hsz, hP, hK, hD0, hN⟩ := hv
  have hx := B.exec
  have hb := B.bytes
  have hr := B.returns
  have hlocks := B.notSynchronized
  have hts : ∀ w ∈ wd, w.before ([.ref m0] : List Value).toArray s = true := fun w hw => atoms_spec (ws := (Cond.code y_MO_kernel b_MO_kernel 1 (Option.some Jvm.ClassFile.FieldType.int) :: wd)) B.pre w (List.mem_cons_of_mem _ hw)
  have hown : s.vm.findClass "LeastSolutionsModel" = some m.cls := findClass_of_methodNamed B.named
  subst hsz
  have hD := hD0.self (sz := s.heap.size)
  generalize hAe : va_A [(m0, .inr (9, [.int th, .ref f_text, .int 0, .int (-1), .ref f_kinds, .ref f_places, .ref f_values, .int 0, .ref f_draftLetters, .int 0, .int 0, .int 0, .ref f_draftNumbers, .ref f_draftSigns, .int 0, .int 0, .int 0, .int 0, .ref f_letters, .ref f_numbers, .ref f_isList, .ref f_bounds, .ref f_sizes, .ref f_lists, .ref f_told, .ref f_costs, .int 0, .ref f_times, .int 0, .ref f_bestOne, .ref f_basis, .int 0, .ref f_one, .int 0, .ref f_along, .ref f_now]))] s.heap.size = A at hD ⊢
  have hA : ∀ q : Nat, s.heap.size ≤ q → A q := fun q h => by rw [← hAe]; exact Or.inr h
  have hS : va_S A s.heap s.heap [] := va_S.rf
  have hl := lv_entry ([.ref m0]) (n := 1) (Nat.le_of_ble_eq_true rfl)
  rw [lg_entry_eq]
  generalize (lg_sl ([.ref m0]) ++ List.replicate (1 - (lg_sl ([.ref m0])).length) Slot.unset).toArray = ls at hl ⊢
  have hl : lv_has ls 1 [(0, .ref m0)] := hl
  refine lv_aload_n hx hb d_MO_kernel_0 rfl (lv_at hl 0 rfl) ?_
  refine lv_aload_n hx hb d_MO_kernel_1 rfl (lv_at hl 0 rfl) ?_
  refine va_get (D := (dC, dI)) (ci := 9) (v := .int 0) (C := R_MO) (T := T_MO) (N := 36) hx hb hts in_MO hown hK hP 0 rfl rfl 14 (by decide) (hts _ k_900) (fun _ h9 => h9) rfl d_MO_kernel_2 ?_
  refine lv_if_eq (tgt := 12) hx hb d_MO_kernel_5 (by decide) (fun _ => ?_) (fun h9 => absurd (by decide) h9)
  refine lv_iconst (v := 1) hx hb d_MO_kernel_12 (by decide) ?_
  refine va_put (D := (dC, dI)) (ci := 9) (v := .int 1) (ty := .int) (C := R_MO) (T := T_MO) (N := 36) hx hb hts in_MO t_MO t_MO_ok n_MO hown hK hP hD hS 0 rfl rfl 0 (by decide) (hts _ k_886) (fun _ h9 => h9) rfl (by decide +kernel) rfl rfl (Nat.le_of_ble_eq_true rfl) d_MO_kernel_13 (fun H1 locs hP hD hS => ?_)
  have hP : va_P (dC, dI) cls [(m0, .inr (9, [.int 1, .ref f_text, .int 0, .int (-1), .ref f_kinds, .ref f_places, .ref f_values, .int 0, .ref f_draftLetters, .int 0, .int 0, .int 0, .ref f_draftNumbers, .ref f_draftSigns, .int 0, .int 0, .int 0, .int 0, .ref f_letters, .ref f_numbers, .ref f_isList, .ref f_bounds, .ref f_sizes, .ref f_lists, .ref f_told, .ref f_costs, .int 0, .ref f_times, .int 0, .ref f_bestOne, .ref f_basis, .int 0, .ref f_one, .int 0, .ref f_along, .ref f_now]))] H1 := hP
  have hD : va_D A [(m0, .inr (9, [.int 1, .ref f_text, .int 0, .int (-1), .ref f_kinds, .ref f_places, .ref f_values, .int 0, .ref f_draftLetters, .int 0, .int 0, .int 0, .ref f_draftNumbers, .ref f_draftSigns, .int 0, .int 0, .int 0, .int 0, .ref f_letters, .ref f_numbers, .ref f_isList, .ref f_bounds, .ref f_sizes, .ref f_lists, .ref f_told, .ref f_costs, .int 0, .ref f_times, .int 0, .ref f_bestOne, .ref f_basis, .int 0, .ref f_one, .int 0, .ref f_along, .ref f_now]))] := hD
  refine lv_aload_n hx hb d_MO_kernel_16 rfl (lv_at hl 0 rfl) ?_
  refine va_get (D := (dC, dI)) (ci := 9) (v := .int 1) (C := R_MO) (T := T_MO) (N := 36) hx hb hts in_MO hown hK hP 0 rfl rfl 0 (by decide) (hts _ k_886) (fun _ h9 => h9) rfl d_MO_kernel_17 ?_
  refine lv_if_le (tgt := 25) hx hb d_MO_kernel_20 (by decide) (fun h9 => absurd h9 (by decide)) (fun _ => ?_)
  refine lv_iconst (v := 0) hx hb d_MO_kernel_23 (by decide) ?_
  have hP9 := hP.sub (ws' := [(m0, .inr (9, [.int 1, .ref f_text, .int 0, .int (-1), .ref f_kinds, .ref f_places, .ref f_values, .int 0, .ref f_draftLetters, .int 0, .int 0, .int 0, .ref f_draftNumbers, .ref f_draftSigns, .int 0, .int 0, .int 0, .int 0, .ref f_letters, .ref f_numbers, .ref f_isList, .ref f_bounds, .ref f_sizes, .ref f_lists, .ref f_told, .ref f_costs, .int 0, .ref f_times, .int 0, .ref f_bestOne, .ref f_basis, .int 0, .ref f_one, .int 0, .ref f_along, .ref f_now]))]) [0] rfl
  have hD9 := hD.sub (ws' := [(m0, .inr (9, [.int 1, .ref f_text, .int 0, .int (-1), .ref f_kinds, .ref f_places, .ref f_values, .int 0, .ref f_draftLetters, .int 0, .int 0, .int 0, .ref f_draftNumbers, .ref f_draftSigns, .int 0, .int 0, .int 0, .int 0, .ref f_letters, .ref f_numbers, .ref f_isList, .ref f_bounds, .ref f_sizes, .ref f_lists, .ref f_told, .ref f_costs, .int 0, .ref f_times, .int 0, .ref f_bestOne, .ref f_basis, .int 0, .ref f_one, .int 0, .ref f_along, .ref f_now]))]) [0] (by decide) rfl
  have hK9 := hK.sub (tys' := []) [] rfl
  exact W.iret (v := 0) hx hb hr (fun t ht hW => ⟨⟨0, (), rfl, rfl, by rw [ht]; exact hP9, va_K.moved hW.alike hK9, hD9⟩, hS.F ht⟩) hS.2.2 d_MO_kernel_24

set_option maxHeartbeats 4000000 in
set_option maxRecDepth 100000 in
theorem c_MO_holds (l : Launch) (dC : Nat → ClassId) (dI : Nat → Nat → Nat) (m0 : Nat) (f_text : Nat) (f_kinds : Nat) (f_places : Nat) (f_values : Nat) (f_draftLetters : Nat) (f_draftNumbers : Nat) (f_draftSigns : Nat) (f_letters : Nat) (f_numbers : Nat) (f_isList : Nat) (f_bounds : Nat) (f_sizes : Nat) (f_lists : Nat) (f_told : Nat) (f_costs : Nat) (f_times : Nat) (f_bestOne : Nat) (f_basis : Nat) (f_one : Nat) (f_along : Nat) (f_now : Nat) (th : Int32) (sz : Nat) : Met l y_MO_holds (Cond.code y_MO_holds b_MO_holds 1 (Option.some Jvm.ClassFile.FieldType.int) :: wd) { frames := 0, cells := 0, slots := 0, locals := 0 } (va_Pc [.ref m0] (fun U => U.heap.size = sz ∧ va_P (dC, dI) cls [(m0, .inr (9, [.int th, .ref f_text, .int 0, .int (-1), .ref f_kinds, .ref f_places, .ref f_values, .int 0, .ref f_draftLetters, .int 0, .int 0, .int 0, .ref f_draftNumbers, .ref f_draftSigns, .int 0, .int 0, .int 0, .int 0, .ref f_letters, .ref f_numbers, .ref f_isList, .ref f_bounds, .ref f_sizes, .ref f_lists, .ref f_told, .ref f_costs, .int 0, .ref f_times, .int 0, .ref f_bestOne, .ref f_basis, .int 0, .ref f_one, .int 0, .ref f_along, .ref f_now]))] U.heap ∧ va_K (dC, dI) cls [] U ∧ va_D (fun _ => True) [(m0, .inr (9, [.int th, .ref f_text, .int 0, .int (-1), .ref f_kinds, .ref f_places, .ref f_values, .int 0, .ref f_draftLetters, .int 0, .int 0, .int 0, .ref f_draftNumbers, .ref f_draftSigns, .int 0, .int 0, .int 0, .int 0, .ref f_letters, .ref f_numbers, .ref f_isList, .ref f_bounds, .ref f_sizes, .ref f_lists, .ref f_told, .ref f_costs, .int 0, .ref f_times, .int 0, .ref f_bestOne, .ref f_basis, .int 0, .ref f_one, .int 0, .ref f_along, .ref f_now]))] ∧ nw_ok U)) (va_Qi (fun r (_ : Unit) => r = 0) (fun (_ : Unit) t => va_P (dC, dI) cls [(m0, .inr (9, [.int 1, .ref f_text, .int 0, .int (-1), .ref f_kinds, .ref f_places, .ref f_values, .int 0, .ref f_draftLetters, .int 0, .int 0, .int 0, .ref f_draftNumbers, .ref f_draftSigns, .int 0, .int 0, .int 0, .int 0, .ref f_letters, .ref f_numbers, .ref f_isList, .ref f_bounds, .ref f_sizes, .ref f_lists, .ref f_told, .ref f_costs, .int 0, .ref f_times, .int 0, .ref f_bestOne, .ref f_basis, .int 0, .ref f_one, .int 0, .ref f_along, .ref f_now]))] t.heap ∧ va_K (dC, dI) cls [] t ∧ va_D (va_A [(m0, .inr (9, [.int th, .ref f_text, .int 0, .int (-1), .ref f_kinds, .ref f_places, .ref f_values, .int 0, .ref f_draftLetters, .int 0, .int 0, .int 0, .ref f_draftNumbers, .ref f_draftSigns, .int 0, .int 0, .int 0, .int 0, .ref f_letters, .ref f_numbers, .ref f_isList, .ref f_bounds, .ref f_sizes, .ref f_lists, .ref f_told, .ref f_costs, .int 0, .ref f_times, .int 0, .ref f_bestOne, .ref f_basis, .int 0, .ref f_one, .int 0, .ref f_along, .ref f_now]))] sz) [(m0, .inr (9, [.int 1, .ref f_text, .int 0, .int (-1), .ref f_kinds, .ref f_places, .ref f_values, .int 0, .ref f_draftLetters, .int 0, .int 0, .int 0, .ref f_draftNumbers, .ref f_draftSigns, .int 0, .int 0, .int 0, .int 0, .ref f_letters, .ref f_numbers, .ref f_isList, .ref f_bounds, .ref f_sizes, .ref f_lists, .ref f_told, .ref f_costs, .int 0, .ref f_times, .int 0, .ref f_bestOne, .ref f_basis, .int 0, .ref f_one, .int 0, .ref f_along, .ref f_now]))]) (va_A [(m0, .inr (9, [.int th, .ref f_text, .int 0, .int (-1), .ref f_kinds, .ref f_places, .ref f_values, .int 0, .ref f_draftLetters, .int 0, .int 0, .int 0, .ref f_draftNumbers, .ref f_draftSigns, .int 0, .int 0, .int 0, .int 0, .ref f_letters, .ref f_numbers, .ref f_isList, .ref f_bounds, .ref f_sizes, .ref f_lists, .ref f_told, .ref f_costs, .int 0, .ref f_times, .int 0, .ref f_bestOne, .ref f_basis, .int 0, .ref f_one, .int 0, .ref f_along, .ref f_now]))] sz)) 0 0 (va_A [(m0, .inr (9, [.int th, .ref f_text, .int 0, .int (-1), .ref f_kinds, .ref f_places, .ref f_values, .int 0, .ref f_draftLetters, .int 0, .int 0, .int 0, .ref f_draftNumbers, .ref f_draftSigns, .int 0, .int 0, .int 0, .int 0, .ref f_letters, .ref f_numbers, .ref f_isList, .ref f_bounds, .ref f_sizes, .ref f_lists, .ref f_told, .ref f_costs, .int 0, .ref f_times, .int 0, .ref f_bestOne, .ref f_basis, .int 0, .ref f_one, .int 0, .ref f_along, .ref f_now]))] sz) := by
  refine Met.ofW (cc := b_MO_holds) (maxL := 1) (ret := (Option.some Jvm.ClassFile.FieldType.int)) (by decide) rfl ?_
  intro p e s m args below meth c s₁ B hml hv
  obtain ⟨rfl, hsz, hP, hK, hD0, hN⟩ := hv
  have hx := B.exec
  have hb := B.bytes
  have hr := B.returns
  have hlocks := B.notSynchronized
  have hts : ∀ w ∈ wd, w.before ([.ref m0] : List Value).toArray s = true := fun w hw => atoms_spec (ws := (Cond.code y_MO_holds b_MO_holds 1 (Option.some Jvm.ClassFile.FieldType.int) :: wd)) B.pre w (List.mem_cons_of_mem _ hw)
  have hown : s.vm.findClass "LeastSolutionsModel" = some m.cls := findClass_of_methodNamed B.named
  subst hsz
  have hD := hD0.self (sz := s.heap.size)
  generalize hAe : va_A [(m0, .inr (9, [.int th, .ref f_text, .int 0, .int (-1), .ref f_kinds, .ref f_places, .ref f_values, .int 0, .ref f_draftLetters, .int 0, .int 0, .int 0, .ref f_draftNumbers, .ref f_draftSigns, .int 0, .int 0, .int 0, .int 0, .ref f_letters, .ref f_numbers, .ref f_isList, .ref f_bounds, .ref f_sizes, .ref f_lists, .ref f_told, .ref f_costs, .int 0, .ref f_times, .int 0, .ref f_bestOne, .ref f_basis, .int 0, .ref f_one, .int 0, .ref f_along, .ref f_now]))] s.heap.size = A at hD ⊢
  have hA : ∀ q : Nat, s.heap.size ≤ q → A q := fun q h => by rw [← hAe]; exact Or.inr h
  have hS : va_S A s.heap s.heap [] := va_S.rf
  have hl := lv_entry ([.ref m0]) (n := 1) (Nat.le_of_ble_eq_true rfl)
  rw [lg_entry_eq]
  generalize (lg_sl ([.ref m0]) ++ List.replicate (1 - (lg_sl ([.ref m0])).length) Slot.unset).toArray = ls at hl ⊢
  have hl : lv_has ls 1 [(0, .ref m0)] := hl
  refine lv_aload_n hx hb d_MO_holds_0 rfl (lv_at hl 0 rfl) ?_
  refine lv_aload_n hx hb d_MO_holds_1 rfl (lv_at hl 0 rfl) ?_
  refine va_get (D := (dC, dI)) (ci := 9) (v := .int 0) (C := R_MO) (T := T_MO) (N := 36) hx hb hts in_MO hown hK hP 0 rfl rfl 14 (by decide) (hts _ k_900) (fun _ h9 => h9) rfl d_MO_holds_2 ?_
  refine lv_if_eq (tgt := 12) hx hb d_MO_holds_5 (by decide) (fun _ => ?_) (fun h9 => absurd (by decide) h9)
  refine lv_iconst (v := 1) hx hb d_MO_holds_12 (by decide) ?_
  refine va_put (D := (dC, dI)) (ci := 9) (v := .int 1) (ty := .int) (C := R_MO) (T := T_MO) (N := 36) hx hb hts in_MO t_MO t_MO_ok n_MO hown hK hP hD hS 0 rfl rfl 0 (by decide) (hts _ k_886) (fun _ h9 => h9) rfl (by decide +kernel) rfl rfl (Nat.le_of_ble_eq_true rfl) d_MO_holds_13 (fun H1 locs hP hD hS => ?_)
  have hP : va_P (dC, dI) cls [(m0, .inr (9, [.int 1, .ref f_text, .int 0, .int (-1), .ref f_kinds, .ref f_places, .ref f_values, .int 0, .ref f_draftLetters, .int 0, .int 0, .int 0, .ref f_draftNumbers, .ref f_draftSigns, .int 0, .int 0, .int 0, .int 0, .ref f_letters, .ref f_numbers, .ref f_isList, .ref f_bounds, .ref f_sizes, .ref f_lists, .ref f_told, .ref f_costs, .int 0, .ref f_times, .int 0, .ref f_bestOne, .ref f_basis, .int 0, .ref f_one, .int 0, .ref f_along, .ref f_now]))] H1 := hP
  have hD : va_D A [(m0, .inr (9, [.int 1, .ref f_text, .int 0, .int (-1), .ref f_kinds, .ref f_places, .ref f_values, .int 0, .ref f_draftLetters, .int 0, .int 0, .int 0, .ref f_draftNumbers, .ref f_draftSigns, .int 0, .int 0, .int 0, .int 0, .ref f_letters, .ref f_numbers, .ref f_isList, .ref f_bounds, .ref f_sizes, .ref f_lists, .ref f_told, .ref f_costs, .int 0, .ref f_times, .int 0, .ref f_bestOne, .ref f_basis, .int 0, .ref f_one, .int 0, .ref f_along, .ref f_now]))] := hD
  refine lv_aload_n hx hb d_MO_holds_16 rfl (lv_at hl 0 rfl) ?_
  refine va_get (D := (dC, dI)) (ci := 9) (v := .int 1) (C := R_MO) (T := T_MO) (N := 36) hx hb hts in_MO hown hK hP 0 rfl rfl 0 (by decide) (hts _ k_886) (fun _ h9 => h9) rfl d_MO_holds_17 ?_
  refine lv_if_le (tgt := 27) hx hb d_MO_holds_20 (by decide) (fun h9 => absurd h9 (by decide)) (fun _ => ?_)
  refine lv_iconst (v := 0) hx hb d_MO_holds_23 (by decide) ?_
  refine lv_goto (tgt := 75) hx hb d_MO_holds_24 (by decide) ?_
  have hP9 := hP.sub (ws' := [(m0, .inr (9, [.int 1, .ref f_text, .int 0, .int (-1), .ref f_kinds, .ref f_places, .ref f_values, .int 0, .ref f_draftLetters, .int 0, .int 0, .int 0, .ref f_draftNumbers, .ref f_draftSigns, .int 0, .int 0, .int 0, .int 0, .ref f_letters, .ref f_numbers, .ref f_isList, .ref f_bounds, .ref f_sizes, .ref f_lists, .ref f_told, .ref f_costs, .int 0, .ref f_times, .int 0, .ref f_bestOne, .ref f_basis, .int 0, .ref f_one, .int 0, .ref f_along, .ref f_now]))]) [0] rfl
  have hD9 := hD.sub (ws' := [(m0, .inr (9, [.int 1, .ref f_text, .int 0, .int (-1), .ref f_kinds, .ref f_places, .ref f_values, .int 0, .ref f_draftLetters, .int 0, .int 0, .int 0, .ref f_draftNumbers, .ref f_draftSigns, .int 0, .int 0, .int 0, .int 0, .ref f_letters, .ref f_numbers, .ref f_isList, .ref f_bounds, .ref f_sizes, .ref f_lists, .ref f_told, .ref f_costs, .int 0, .ref f_times, .int 0, .ref f_bestOne, .ref f_basis, .int 0, .ref f_one, .int 0, .ref f_along, .ref f_now]))]) [0] (by decide) rfl
  have hK9 := hK.sub (tys' := []) [] rfl
  exact W.iret (v := 0) hx hb hr (fun t ht hW => ⟨⟨0, (), rfl, rfl, by rw [ht]; exact hP9, va_K.moved hW.alike hK9, hD9⟩, hS.F ht⟩) hS.2.2 d_MO_holds_75

set_option maxHeartbeats 4000000 in
set_option maxRecDepth 100000 in
theorem c_MO_kernelAt (l : Launch) (dC : Nat → ClassId) (dI : Nat → Nat → Nat) (m0 : Nat) (f_text : Nat) (f_kinds : Nat) (f_places : Nat) (f_values : Nat) (f_draftLetters : Nat) (f_draftNumbers : Nat) (f_draftSigns : Nat) (f_letters : Nat) (f_numbers : Nat) (f_isList : Nat) (f_bounds : Nat) (f_sizes : Nat) (f_lists : Nat) (f_told : Nat) (f_costs : Nat) (f_times : Nat) (f_bestOne : Nat) (f_basis : Nat) (f_one : Nat) (f_along : Nat) (f_now : Nat) (th : Int32) (i : Int32) (column : Int32) (sz : Nat) : Met l y_MO_kernelAt (Cond.code y_MO_kernelAt b_MO_kernelAt 3 (Option.some Jvm.ClassFile.FieldType.long) :: wd) { frames := 1, cells := 0, slots := 0, locals := 21 } (va_Pc [.ref m0, .int i, .int column] (fun U => U.heap.size = sz ∧ va_P (dC, dI) cls [(m0, .inr (9, [.int th, .ref f_text, .int 0, .int (-1), .ref f_kinds, .ref f_places, .ref f_values, .int 0, .ref f_draftLetters, .int 0, .int 0, .int 0, .ref f_draftNumbers, .ref f_draftSigns, .int 0, .int 0, .int 0, .int 0, .ref f_letters, .ref f_numbers, .ref f_isList, .ref f_bounds, .ref f_sizes, .ref f_lists, .ref f_told, .ref f_costs, .int 0, .ref f_times, .int 0, .ref f_bestOne, .ref f_basis, .int 0, .ref f_one, .int 0, .ref f_along, .ref f_now]))] U.heap ∧ va_K (dC, dI) cls [] U ∧ va_D (fun _ => True) [(m0, .inr (9, [.int th, .ref f_text, .int 0, .int (-1), .ref f_kinds, .ref f_places, .ref f_values, .int 0, .ref f_draftLetters, .int 0, .int 0, .int 0, .ref f_draftNumbers, .ref f_draftSigns, .int 0, .int 0, .int 0, .int 0, .ref f_letters, .ref f_numbers, .ref f_isList, .ref f_bounds, .ref f_sizes, .ref f_lists, .ref f_told, .ref f_costs, .int 0, .ref f_times, .int 0, .ref f_bestOne, .ref f_basis, .int 0, .ref f_one, .int 0, .ref f_along, .ref f_now]))] ∧ nw_ok U)) (va_Ql (fun r (_ : Unit) => r = 0) (fun (_ : Unit) t => va_P (dC, dI) cls [(m0, .inr (9, [.int 1, .ref f_text, .int 0, .int (-1), .ref f_kinds, .ref f_places, .ref f_values, .int 0, .ref f_draftLetters, .int 0, .int 0, .int 0, .ref f_draftNumbers, .ref f_draftSigns, .int 0, .int 0, .int 0, .int 0, .ref f_letters, .ref f_numbers, .ref f_isList, .ref f_bounds, .ref f_sizes, .ref f_lists, .ref f_told, .ref f_costs, .int 0, .ref f_times, .int 0, .ref f_bestOne, .ref f_basis, .int 0, .ref f_one, .int 0, .ref f_along, .ref f_now]))] t.heap ∧ va_K (dC, dI) cls [] t ∧ va_D (va_A [(m0, .inr (9, [.int th, .ref f_text, .int 0, .int (-1), .ref f_kinds, .ref f_places, .ref f_values, .int 0, .ref f_draftLetters, .int 0, .int 0, .int 0, .ref f_draftNumbers, .ref f_draftSigns, .int 0, .int 0, .int 0, .int 0, .ref f_letters, .ref f_numbers, .ref f_isList, .ref f_bounds, .ref f_sizes, .ref f_lists, .ref f_told, .ref f_costs, .int 0, .ref f_times, .int 0, .ref f_bestOne, .ref f_basis, .int 0, .ref f_one, .int 0, .ref f_along, .ref f_now]))] sz) [(m0, .inr (9, [.int 1, .ref f_text, .int 0, .int (-1), .ref f_kinds, .ref f_places, .ref f_values, .int 0, .ref f_draftLetters, .int 0, .int 0, .int 0, .ref f_draftNumbers, .ref f_draftSigns, .int 0, .int 0, .int 0, .int 0, .ref f_letters, .ref f_numbers, .ref f_isList, .ref f_bounds, .ref f_sizes, .ref f_lists, .ref f_told, .ref f_costs, .int 0, .ref f_times, .int 0, .ref f_bestOne, .ref f_basis, .int 0, .ref f_one, .int 0, .ref f_along, .ref f_now]))]) (va_A [(m0, .inr (9, [.int th, .ref f_text, .int 0, .int (-1), .ref f_kinds, .ref f_places, .ref f_values, .int 0, .ref f_draftLetters, .int 0, .int 0, .int 0, .ref f_draftNumbers, .ref f_draftSigns, .int 0, .int 0, .int 0, .int 0, .ref f_letters, .ref f_numbers, .ref f_isList, .ref f_bounds, .ref f_sizes, .ref f_lists, .ref f_told, .ref f_costs, .int 0, .ref f_times, .int 0, .ref f_bestOne, .ref f_basis, .int 0, .ref f_one, .int 0, .ref f_along, .ref f_now]))] sz)) 0 0 (va_A [(m0, .inr (9, [.int th, .ref f_text, .int 0, .int (-1), .ref f_kinds, .ref f_places, .ref f_values, .int 0, .ref f_draftLetters, .int 0, .int 0, .int 0, .ref f_draftNumbers, .ref f_draftSigns, .int 0, .int 0, .int 0, .int 0, .ref f_letters, .ref f_numbers, .ref f_isList, .ref f_bounds, .ref f_sizes, .ref f_lists, .ref f_told, .ref f_costs, .int 0, .ref f_times, .int 0, .ref f_bestOne, .ref f_basis, .int 0, .ref f_one, .int 0, .ref f_along, .ref f_now]))] sz) := by
  refine Met.ofW (cc := b_MO_kernelAt) (maxL := 3) (ret := (Option.some Jvm.ClassFile.FieldType.long)) (by decide) rfl ?_
  intro p e s m args below meth c s₁ B hml hv
  obtain ⟨rfl, hsz, hP, hK, hD0, hN⟩ := hv
  have hx := B.exec
  have hb := B.bytes
  have hr := B.returns
  have hlocks := B.notSynchronized
  have hts : ∀ w ∈ wd, w.before ([.ref m0, .int i, .int column] : List Value).toArray s = true := fun w hw => atoms_spec (ws := (Cond.code y_MO_kernelAt b_MO_kernelAt 3 (Option.some Jvm.ClassFile.FieldType.long) :: wd)) B.pre w (List.mem_cons_of_mem _ hw)
  have hown : s.vm.findClass "LeastSolutionsModel" = some m.cls := findClass_of_methodNamed B.named
  subst hsz
  have hD := hD0.self (sz := s.heap.size)
  generalize hAe : va_A [(m0, .inr (9, [.int th, .ref f_text, .int 0, .int (-1), .ref f_kinds, .ref f_places, .ref f_values, .int 0, .ref f_draftLetters, .int 0, .int 0, .int 0, .ref f_draftNumbers, .ref f_draftSigns, .int 0, .int 0, .int 0, .int 0, .ref f_letters, .ref f_numbers, .ref f_isList, .ref f_bounds, .ref f_sizes, .ref f_lists, .ref f_told, .ref f_costs, .int 0, .ref f_times, .int 0, .ref f_bestOne, .ref f_basis, .int 0, .ref f_one, .int 0, .ref f_along, .ref f_now]))] s.heap.size = A at hD ⊢
  have hA : ∀ q : Nat, s.heap.size ≤ q → A q := fun q h => by rw [← hAe]; exact Or.inr h
  have hS : va_S A s.heap s.heap [] := va_S.rf
  have hl := lv_entry ([.ref m0, .int i, .int column]) (n := 3) (Nat.le_of_ble_eq_true rfl)
  rw [lg_entry_eq]
  generalize (lg_sl ([.ref m0, .int i, .int column]) ++ List.replicate (3 - (lg_sl ([.ref m0, .int i, .int column])).length) Slot.unset).toArray = ls at hl ⊢
  have hl : lv_has ls 3 [(0, .ref m0), (1, .int i), (2, .int column)] := hl
  refine lv_aload_n hx hb d_MO_kernelAt_0 rfl (lv_at hl 0 rfl) ?_
  refine lv_iconst (v := 1) hx hb d_MO_kernelAt_1 (by decide) ?_
  refine va_put (D := (dC, dI)) (ci := 9) (v := .int 1) (ty := .int) (C := R_MO) (T := T_MO) (N := 36) hx hb hts in_MO t_MO t_MO_ok n_MO hown hK hP hD hS 0 rfl rfl 0 (by decide) (hts _ k_886) (fun _ h9 => h9) rfl (by decide +kernel) rfl rfl (Nat.le_of_ble_eq_true rfl) d_MO_kernelAt_2 (fun H1 locs hP hD hS => ?_)
  have hP : va_P (dC, dI) cls [(m0, .inr (9, [.int 1, .ref f_text, .int 0, .int (-1), .ref f_kinds, .ref f_places, .ref f_values, .int 0, .ref f_draftLetters, .int 0, .int 0, .int 0, .ref f_draftNumbers, .ref f_draftSigns, .int 0, .int 0, .int 0, .int 0, .ref f_letters, .ref f_numbers, .ref f_isList, .ref f_bounds, .ref f_sizes, .ref f_lists, .ref f_told, .ref f_costs, .int 0, .ref f_times, .int 0, .ref f_bestOne, .ref f_basis, .int 0, .ref f_one, .int 0, .ref f_along, .ref f_now]))] H1 := hP
  have hD : va_D A [(m0, .inr (9, [.int 1, .ref f_text, .int 0, .int (-1), .ref f_kinds, .ref f_places, .ref f_values, .int 0, .ref f_draftLetters, .int 0, .int 0, .int 0, .ref f_draftNumbers, .ref f_draftSigns, .int 0, .int 0, .int 0, .int 0, .ref f_letters, .ref f_numbers, .ref f_isList, .ref f_bounds, .ref f_sizes, .ref f_lists, .ref f_told, .ref f_costs, .int 0, .ref f_times, .int 0, .ref f_bestOne, .ref f_basis, .int 0, .ref f_one, .int 0, .ref f_along, .ref f_now]))] := hD
  refine lv_aload_n hx hb d_MO_kernelAt_5 rfl (lv_at hl 0 rfl) ?_
  refine lv_iload_n hx hb d_MO_kernelAt_6 rfl (lv_at hl 2 rfl) ?_
  refine va_calli (va_runV (As := [.int column]) (rest := []) ⟨hx, hb, hml, hown, hts⟩ (c_MO_isColumn l dC dI (m0) (f_text) (f_kinds) (f_places) (f_values) (f_draftLetters) (f_draftNumbers) (f_draftSigns) (f_letters) (f_numbers) (f_isList) (f_bounds) (f_sizes) (f_lists) (f_told) (f_costs) (f_times) (f_bestOne) (f_basis) (f_one) (f_along) (f_now) (1) (column)) (wd_V (C := "LeastSolutionsModel") 1 hts k_1113 k_11 k_1110 k_1112 ks_MO_isColumn rfl rfl (by decide +kernel) ⟨Nat.le_of_ble_eq_true rfl, Nat.le_of_ble_eq_true rfl⟩) ⟨fun a U g mk q => by obtain ⟨q0, qP, qK, qN⟩ := q; exact ⟨q0, qP, va_K.moved (u := U) (U := U.calling g mk a) (Vm.Alike.refl U.vm) qK, nw_ok.same (s := U) (U := U.calling g mk a) rfl qN⟩, va_recv (ci := 9) (q0 := 0) hK hP rfl rfl, fun U hU hW => ⟨rfl, by rw [hU]; exact hP.sub (ws' := [(m0, .inr (9, [.int 1, .ref f_text, .int 0, .int (-1), .ref f_kinds, .ref f_places, .ref f_values, .int 0, .ref f_draftLetters, .int 0, .int 0, .int 0, .ref f_draftNumbers, .ref f_draftSigns, .int 0, .int 0, .int 0, .int 0, .ref f_letters, .ref f_numbers, .ref f_isList, .ref f_bounds, .ref f_sizes, .ref f_lists, .ref f_told, .ref f_costs, .int 0, .ref f_times, .int 0, .ref f_bestOne, .ref f_basis, .int 0, .ref f_one, .int 0, .ref f_along, .ref f_now]))]) [0] rfl, va_K.moved hW.alike (hK.sub (tys' := []) [] rfl), nw_ok.warm hW hN⟩⟩ rfl rfl hl.1 rfl (lv_room (Nat.le_of_ble_eq_true rfl)) d_MO_kernelAt_7 ⟨Nat.le_of_ble_eq_true rfl, Nat.le_of_ble_eq_true rfl⟩) hS (fun q _ h => h.elim) (fun q h => h.elim) (fun r1 u t H2 locs ht hvm hr1 hB hz1 hk1 hS => ?_)
  try dsimp only at hr1
  subst hr1
  have hP : va_P (dC, dI) cls [(m0, .inr (9, [.int 1, .ref f_text, .int 0, .int (-1), .ref f_kinds, .ref f_places, .ref f_values, .int 0, .ref f_draftLetters, .int 0, .int 0, .int 0, .ref f_draftNumbers, .ref f_draftSigns, .int 0, .int 0, .int 0, .int 0, .ref f_letters, .ref f_numbers, .ref f_isList, .ref f_bounds, .ref f_sizes, .ref f_lists, .ref f_told, .ref f_costs, .int 0, .ref f_times, .int 0, .ref f_bestOne, .ref f_basis, .int 0, .ref f_one, .int 0, .ref f_along, .ref f_now]))] H2 := hP.kept (fun k q hq => hk1 q.1 (hP k q hq).lt id)
  have hP : va_P (dC, dI) cls [(m0, .inr (9, [.int 1, .ref f_text, .int 0, .int (-1), .ref f_kinds, .ref f_places, .ref f_values, .int 0, .ref f_draftLetters, .int 0, .int 0, .int 0, .ref f_draftNumbers, .ref f_draftSigns, .int 0, .int 0, .int 0, .int 0, .ref f_letters, .ref f_numbers, .ref f_isList, .ref f_bounds, .ref f_sizes, .ref f_lists, .ref f_told, .ref f_costs, .int 0, .ref f_times, .int 0, .ref f_bestOne, .ref f_basis, .int 0, .ref f_one, .int 0, .ref f_along, .ref f_now]))] H2 := hP
  have hD : va_D A [(m0, .inr (9, [.int 1, .ref f_text, .int 0, .int (-1), .ref f_kinds, .ref f_places, .ref f_values, .int 0, .ref f_draftLetters, .int 0, .int 0, .int 0, .ref f_draftNumbers, .ref f_draftSigns, .int 0, .int 0, .int 0, .int 0, .ref f_letters, .ref f_numbers, .ref f_isList, .ref f_bounds, .ref f_sizes, .ref f_lists, .ref f_told, .ref f_costs, .int 0, .ref f_times, .int 0, .ref f_bestOne, .ref f_basis, .int 0, .ref f_one, .int 0, .ref f_along, .ref f_now]))] := hD
  refine lv_if_eq (tgt := 17) hx hb d_MO_kernelAt_10 (by decide) (fun _ => ?_) (fun h9 => absurd (by decide) h9)
  refine lv_lconst (v := 0) hx hb d_MO_kernelAt_17 (by decide) ?_
  have hP9 := hP.sub (ws' := [(m0, .inr (9, [.int 1, .ref f_text, .int 0, .int (-1), .ref f_kinds, .ref f_places, .ref f_values, .int 0, .ref f_draftLetters, .int 0, .int 0, .int 0, .ref f_draftNumbers, .ref f_draftSigns, .int 0, .int 0, .int 0, .int 0, .ref f_letters, .ref f_numbers, .ref f_isList, .ref f_bounds, .ref f_sizes, .ref f_lists, .ref f_told, .ref f_costs, .int 0, .ref f_times, .int 0, .ref f_bestOne, .ref f_basis, .int 0, .ref f_one, .int 0, .ref f_along, .ref f_now]))]) [0] rfl
  have hD9 := hD.sub (ws' := [(m0, .inr (9, [.int 1, .ref f_text, .int 0, .int (-1), .ref f_kinds, .ref f_places, .ref f_values, .int 0, .ref f_draftLetters, .int 0, .int 0, .int 0, .ref f_draftNumbers, .ref f_draftSigns, .int 0, .int 0, .int 0, .int 0, .ref f_letters, .ref f_numbers, .ref f_isList, .ref f_bounds, .ref f_sizes, .ref f_lists, .ref f_told, .ref f_costs, .int 0, .ref f_times, .int 0, .ref f_bestOne, .ref f_basis, .int 0, .ref f_one, .int 0, .ref f_along, .ref f_now]))]) [0] (by decide) rfl
  have hK9 := hK.sub (tys' := []) [] rfl
  exact W.lret (v := 0) hx hb hr (fun t ht hW => ⟨⟨0, (), rfl, rfl, by rw [ht]; exact hP9, va_K.moved hW.alike hK9, hD9⟩, hS.F ht⟩) hS.2.2 d_MO_kernelAt_18

set_option maxHeartbeats 4000000 in
set_option maxRecDepth 100000 in
theorem c_MO_at (l : Launch) (dC : Nat → ClassId) (dI : Nat → Nat → Nat) (m0 : Nat) (f_text : Nat) (f_kinds : Nat) (f_places : Nat) (f_values : Nat) (f_draftLetters : Nat) (f_draftNumbers : Nat) (f_draftSigns : Nat) (f_letters : Nat) (f_numbers : Nat) (f_isList : Nat) (f_bounds : Nat) (f_sizes : Nat) (f_lists : Nat) (f_told : Nat) (f_costs : Nat) (f_times : Nat) (f_bestOne : Nat) (f_basis : Nat) (f_one : Nat) (f_along : Nat) (f_now : Nat) (th : Int32) (what : Int32) (i : Int32) (column : Int32) (sz : Nat) : Met l y_MO_at (Cond.code y_MO_at b_MO_at 5 (Option.some Jvm.ClassFile.FieldType.int) :: wd) { frames := 1, cells := 0, slots := 0, locals := 21 } (va_Pc [.ref m0, .int what, .int i, .int column] (fun U => U.heap.size = sz ∧ va_P (dC, dI) cls [(m0, .inr (9, [.int th, .ref f_text, .int 0, .int (-1), .ref f_kinds, .ref f_places, .ref f_values, .int 0, .ref f_draftLetters, .int 0, .int 0, .int 0, .ref f_draftNumbers, .ref f_draftSigns, .int 0, .int 0, .int 0, .int 0, .ref f_letters, .ref f_numbers, .ref f_isList, .ref f_bounds, .ref f_sizes, .ref f_lists, .ref f_told, .ref f_costs, .int 0, .ref f_times, .int 0, .ref f_bestOne, .ref f_basis, .int 0, .ref f_one, .int 0, .ref f_along, .ref f_now]))] U.heap ∧ va_K (dC, dI) cls [] U ∧ va_D (fun _ => True) [(m0, .inr (9, [.int th, .ref f_text, .int 0, .int (-1), .ref f_kinds, .ref f_places, .ref f_values, .int 0, .ref f_draftLetters, .int 0, .int 0, .int 0, .ref f_draftNumbers, .ref f_draftSigns, .int 0, .int 0, .int 0, .int 0, .ref f_letters, .ref f_numbers, .ref f_isList, .ref f_bounds, .ref f_sizes, .ref f_lists, .ref f_told, .ref f_costs, .int 0, .ref f_times, .int 0, .ref f_bestOne, .ref f_basis, .int 0, .ref f_one, .int 0, .ref f_along, .ref f_now]))] ∧ nw_ok U)) (va_Qi (fun r (_ : Unit) => r = 0) (fun (_ : Unit) t => va_P (dC, dI) cls [(m0, .inr (9, [.int 1, .ref f_text, .int 0, .int (-1), .ref f_kinds, .ref f_places, .ref f_values, .int 0, .ref f_draftLetters, .int 0, .int 0, .int 0, .ref f_draftNumbers, .ref f_draftSigns, .int 0, .int 0, .int 0, .int 0, .ref f_letters, .ref f_numbers, .ref f_isList, .ref f_bounds, .ref f_sizes, .ref f_lists, .ref f_told, .ref f_costs, .int 0, .ref f_times, .int 0, .ref f_bestOne, .ref f_basis, .int 0, .ref f_one, .int 0, .ref f_along, .ref f_now]))] t.heap ∧ va_K (dC, dI) cls [] t ∧ va_D (va_A [(m0, .inr (9, [.int th, .ref f_text, .int 0, .int (-1), .ref f_kinds, .ref f_places, .ref f_values, .int 0, .ref f_draftLetters, .int 0, .int 0, .int 0, .ref f_draftNumbers, .ref f_draftSigns, .int 0, .int 0, .int 0, .int 0, .ref f_letters, .ref f_numbers, .ref f_isList, .ref f_bounds, .ref f_sizes, .ref f_lists, .ref f_told, .ref f_costs, .int 0, .ref f_times, .int 0, .ref f_bestOne, .ref f_basis, .int 0, .ref f_one, .int 0, .ref f_along, .ref f_now]))] sz) [(m0, .inr (9, [.int 1, .ref f_text, .int 0, .int (-1), .ref f_kinds, .ref f_places, .ref f_values, .int 0, .ref f_draftLetters, .int 0, .int 0, .int 0, .ref f_draftNumbers, .ref f_draftSigns, .int 0, .int 0, .int 0, .int 0, .ref f_letters, .ref f_numbers, .ref f_isList, .ref f_bounds, .ref f_sizes, .ref f_lists, .ref f_told, .ref f_costs, .int 0, .ref f_times, .int 0, .ref f_bestOne, .ref f_basis, .int 0, .ref f_one, .int 0, .ref f_along, .ref f_now]))]) (va_A [(m0, .inr (9, [.int th, .ref f_text, .int 0, .int (-1), .ref f_kinds, .ref f_places, .ref f_values, .int 0, .ref f_draftLetters, .int 0, .int 0, .int 0, .ref f_draftNumbers, .ref f_draftSigns, .int 0, .int 0, .int 0, .int 0, .ref f_letters, .ref f_numbers, .ref f_isList, .ref f_bounds, .ref f_sizes, .ref f_lists, .ref f_told, .ref f_costs, .int 0, .ref f_times, .int 0, .ref f_bestOne, .ref f_basis, .int 0, .ref f_one, .int 0, .ref f_along, .ref f_now]))] sz)) 0 0 (va_A [(m0, .inr (9, [.int th, .ref f_text, .int 0, .int (-1), .ref f_kinds, .ref f_places, .ref f_values, .int 0, .ref f_draftLetters, .int 0, .int 0, .int 0, .ref f_draftNumbers, .ref f_draftSigns, .int 0, .int 0, .int 0, .int 0, .ref f_letters, .ref f_numbers, .ref f_isList, .ref f_bounds, .ref f_sizes, .ref f_lists, .ref f_told, .ref f_costs, .int 0, .ref f_times, .int 0, .ref f_bestOne, .ref f_basis, .int 0, .ref f_one, .int 0, .ref f_along, .ref f_now]))] sz) := by
  refine Met.ofW (cc := b_MO_at) (maxL := 5) (ret := (Option.some Jvm.ClassFile.FieldType.int)) (by decide) rfl ?_
  intro p e s m args below meth c s₁ B hml hv
  obtain ⟨rfl, hsz, hP, hK, hD0, hN⟩ := hv
  have hx := B.exec
  have hb := B.bytes
  have hr := B.returns
  have hlocks := B.notSynchronized
  have hts : ∀ w ∈ wd, w.before ([.ref m0, .int what, .int i, .int column] : List Value).toArray s = true := fun w hw => atoms_spec (ws := (Cond.code y_MO_at b_MO_at 5 (Option.some Jvm.ClassFile.FieldType.int) :: wd)) B.pre w (List.mem_cons_of_mem _ hw)
  have hown : s.vm.findClass "LeastSolutionsModel" = some m.cls := findClass_of_methodNamed B.named
  subst hsz
  have hD := hD0.self (sz := s.heap.size)
  generalize hAe : va_A [(m0, .inr (9, [.int th, .ref f_text, .int 0, .int (-1), .ref f_kinds, .ref f_places, .ref f_values, .int 0, .ref f_draftLetters, .int 0, .int 0, .int 0, .ref f_draftNumbers, .ref f_draftSigns, .int 0, .int 0, .int 0, .int 0, .ref f_letters, .ref f_numbers, .ref f_isList, .ref f_bounds, .ref f_sizes, .ref f_lists, .ref f_told, .ref f_costs, .int 0, .ref f_times, .int 0, .ref f_bestOne, .ref f_basis, .int 0, .ref f_one, .int 0, .ref f_along, .ref f_now]))] s.heap.size = A at hD ⊢
  have hA : ∀ q : Nat, s.heap.size ≤ q → A q := fun q h => by rw [← hAe]; exact Or.inr h
  have hS : va_S A s.heap s.heap [] := va_S.rf
  have hl := lv_entry ([.ref m0, .int what, .int i, .int column]) (n := 5) (Nat.le_of_ble_eq_true rfl)
  rw [lg_entry_eq]
  generalize (lg_sl ([.ref m0, .int what, .int i, .int column]) ++ List.replicate (5 - (lg_sl ([.ref m0, .int what, .int i, .int column])).length) Slot.unset).toArray = ls at hl ⊢
  have hl : lv_has ls 5 [(0, .ref m0), (1, .int what), (2, .int i), (3, .int column)] := hl
  refine lv_iload_n hx hb d_MO_at_0 rfl (lv_at hl 1 rfl) ?_
  refine lv_if_lt (tgt := 44) hx hb d_MO_at_1 (by decide) (fun hc1 => ?_) (fun hc1 => ?_)
  · refine lv_iconst (v := 0) hx hb d_MO_at_44 (by decide) ?_
    refine lv_istore hx hb d_MO_at_45 hl (by decide) rfl (fun ls hl => ?_)
    have hl : lv_has ls 5 [(4, .int 0), (0, .ref m0), (1, .int what), (2, .int i), (3, .int column)] := hl
    refine lv_aload_n hx hb d_MO_at_47 rfl (lv_at hl 1 rfl) ?_
    refine lv_iload hx hb d_MO_at_48 (lv_at hl 0 rfl) ?_
    refine lv_if_eq (tgt := 57) hx hb d_MO_at_50 (by decide) (fun _ => ?_) (fun h9 => absurd (by decide) h9)
    refine lv_iconst (v := 1) hx hb d_MO_at_57 (by decide) ?_
    refine va_put (D := (dC, dI)) (ci := 9) (v := .int 1) (ty := .int) (C := R_MO) (T := T_MO) (N := 36) hx hb hts in_MO t_MO t_MO_ok n_MO hown hK hP hD hS 0 rfl rfl 0 (by decide) (hts _ k_886) (fun _ h9 => h9) rfl (by decide +kernel) rfl rfl (Nat.le_of_ble_eq_true rfl) d_MO_at_58 (fun H1 locs hP hD hS => ?_)
    have hP : va_P (dC, dI) cls [(m0, .inr (9, [.int 1, .ref f_text, .int 0, .int (-1), .ref f_kinds, .ref f_places, .ref f_values, .int 0, .ref f_draftLetters, .int 0, .int 0, .int 0, .ref f_draftNumbers, .ref f_draftSigns, .int 0, .int 0, .int 0, .int 0, .ref f_letters, .ref f_numbers, .ref f_isList, .ref f_bounds, .ref f_sizes, .ref f_lists, .ref f_told, .ref f_costs, .int 0, .ref f_times, .int 0, .ref f_bestOne, .ref f_basis, .int 0, .ref f_one, .int 0, .ref f_along, .ref f_now]))] H1 := hP
    have hD : va_D A [(m0, .inr (9, [.int 1, .ref f_text, .int 0, .int (-1), .ref f_kinds, .ref f_places, .ref f_values, .int 0, .ref f_draftLetters, .int 0, .int 0, .int 0, .ref f_draftNumbers, .ref f_draftSigns, .int 0, .int 0, .int 0, .int 0, .ref f_letters, .ref f_numbers, .ref f_isList, .ref f_bounds, .ref f_sizes, .ref f_lists, .ref f_told, .ref f_costs, .int 0, .ref f_times, .int 0, .ref f_bestOne, .ref f_basis, .int 0, .ref f_one, .int 0, .ref f_along, .ref f_now]))] := hD
    refine lv_iload hx hb d_MO_at_61 (lv_at hl 0 rfl) ?_
    refine lv_if_eq (tgt := 86) hx hb d_MO_at_63 (by decide) (fun _ => ?_) (fun h9 => absurd (by decide) h9)
    refine lv_iconst (v := 0) hx hb d_MO_at_86 (by decide) ?_
    have hP9 := hP.sub (ws' := [(m0, .inr (9, [.int 1, .ref f_text, .int 0, .int (-1), .ref f_kinds, .ref f_places, .ref f_values, .int 0, .ref f_draftLetters, .int 0, .int 0, .int 0, .ref f_draftNumbers, .ref f_draftSigns, .int 0, .int 0, .int 0, .int 0, .ref f_letters, .ref f_numbers, .ref f_isList, .ref f_bounds, .ref f_sizes, .ref f_lists, .ref f_told, .ref f_costs, .int 0, .ref f_times, .int 0, .ref f_bestOne, .ref f_basis, .int 0, .ref f_one, .int 0, .ref f_along, .ref f_now]))]) [0] rfl
    have hD9 := hD.sub (ws' := [(m0, .inr (9, [.int 1, .ref f_text, .int 0, .int (-1), .ref f_kinds, .ref f_places, .ref f_values, .int 0, .ref f_draftLetters, .int 0, .int 0, .int 0, .ref f_draftNumbers, .ref f_draftSigns, .int 0, .int 0, .int 0, .int 0, .ref f_letters, .ref f_numbers, .ref f_isList, .ref f_bounds, .ref f_sizes, .ref f_lists, .ref f_told, .ref f_costs, .int 0, .ref f_times, .int 0, .ref f_bestOne, .ref f_basis, .int 0, .ref f_one, .int 0, .ref f_along, .ref f_now]))]) [0] (by decide) rfl
    have hK9 := hK.sub (tys' := []) [] rfl
    exact W.iret (v := 0) hx hb hr (fun t ht hW => ⟨⟨0, (), rfl, rfl, by rw [ht]; exact hP9, va_K.moved hW.alike hK9, hD9⟩, hS.F ht⟩) hS.2.2 d_MO_at_87
  · refine lv_iload_n hx hb d_MO_at_4 rfl (lv_at hl 1 rfl) ?_
    refine lv_iconst (v := 2) hx hb d_MO_at_5 (by decide) ?_
    refine lv_icmp_gt (tgt := 44) hx hb d_MO_at_6 (by decide) (fun hc2 => ?_) (fun hc2 => ?_)
    · refine lv_iconst (v := 0) hx hb d_MO_at_44 (by decide) ?_
      refine lv_istore hx hb d_MO_at_45 hl (by decide) rfl (fun ls hl => ?_)
      have hl : lv_has ls 5 [(4, .int 0), (0, .ref m0), (1, .int what), (2, .int i), (3, .int column)] := hl
      refine lv_aload_n hx hb d_MO_at_47 rfl (lv_at hl 1 rfl) ?_
      refine lv_iload hx hb d_MO_at_48 (lv_at hl 0 rfl) ?_
      refine lv_if_eq (tgt := 57) hx hb d_MO_at_50 (by decide) (fun _ => ?_) (fun h9 => absurd (by decide) h9)
      refine lv_iconst (v := 1) hx hb d_MO_at_57 (by decide) ?_
      refine va_put (D := (dC, dI)) (ci := 9) (v := .int 1) (ty := .int) (C := R_MO) (T := T_MO) (N := 36) hx hb hts in_MO t_MO t_MO_ok n_MO hown hK hP hD hS 0 rfl rfl 0 (by decide) (hts _ k_886) (fun _ h9 => h9) rfl (by decide +kernel) rfl rfl (Nat.le_of_ble_eq_true rfl) d_MO_at_58 (fun H2 locs hP hD hS => ?_)
      have hP : va_P (dC, dI) cls [(m0, .inr (9, [.int 1, .ref f_text, .int 0, .int (-1), .ref f_kinds, .ref f_places, .ref f_values, .int 0, .ref f_draftLetters, .int 0, .int 0, .int 0, .ref f_draftNumbers, .ref f_draftSigns, .int 0, .int 0, .int 0, .int 0, .ref f_letters, .ref f_numbers, .ref f_isList, .ref f_bounds, .ref f_sizes, .ref f_lists, .ref f_told, .ref f_costs, .int 0, .ref f_times, .int 0, .ref f_bestOne, .ref f_basis, .int 0, .ref f_one, .int 0, .ref f_along, .ref f_now]))] H2 := hP
      have hD : va_D A [(m0, .inr (9, [.int 1, .ref f_text, .int 0, .int (-1), .ref f_kinds, .ref f_places, .ref f_values, .int 0, .ref f_draftLetters, .int 0, .int 0, .int 0, .ref f_draftNumbers, .ref f_draftSigns, .int 0, .int 0, .int 0, .int 0, .ref f_letters, .ref f_numbers, .ref f_isList, .ref f_bounds, .ref f_sizes, .ref f_lists, .ref f_told, .ref f_costs, .int 0, .ref f_times, .int 0, .ref f_bestOne, .ref f_basis, .int 0, .ref f_one, .int 0, .ref f_along, .ref f_now]))] := hD
      refine lv_iload hx hb d_MO_at_61 (lv_at hl 0 rfl) ?_
      refine lv_if_eq (tgt := 86) hx hb d_MO_at_63 (by decide) (fun _ => ?_) (fun h9 => absurd (by decide) h9)
      refine lv_iconst (v := 0) hx hb d_MO_at_86 (by decide) ?_
      have hP9 := hP.sub (ws' := [(m0, .inr (9, [.int 1, .ref f_text, .int 0, .int (-1), .ref f_kinds, .ref f_places, .ref f_values, .int 0, .ref f_draftLetters, .int 0, .int 0, .int 0, .ref f_draftNumbers, .ref f_draftSigns, .int 0, .int 0, .int 0, .int 0, .ref f_letters, .ref f_numbers, .ref f_isList, .ref f_bounds, .ref f_sizes, .ref f_lists, .ref f_told, .ref f_costs, .int 0, .ref f_times, .int 0, .ref f_bestOne, .ref f_basis, .int 0, .ref f_one, .int 0, .ref f_along, .ref f_now]))]) [0] rfl
      have hD9 := hD.sub (ws' := [(m0, .inr (9, [.int 1, .ref f_text, .int 0, .int (-1), .ref f_kinds, .ref f_places, .ref f_values, .int 0, .ref f_draftLetters, .int 0, .int 0, .int 0, .ref f_draftNumbers, .ref f_draftSigns, .int 0, .int 0, .int 0, .int 0, .ref f_letters, .ref f_numbers, .ref f_isList, .ref f_bounds, .ref f_sizes, .ref f_lists, .ref f_told, .ref f_costs, .int 0, .ref f_times, .int 0, .ref f_bestOne, .ref f_basis, .int 0, .ref f_one, .int 0, .ref f_along, .ref f_now]))]) [0] (by decide) rfl
      have hK9 := hK.sub (tys' := []) [] rfl
      exact W.iret (v := 0) hx hb hr (fun t ht hW => ⟨⟨0, (), rfl, rfl, by rw [ht]; exact hP9, va_K.moved hW.alike hK9, hD9⟩, hS.F ht⟩) hS.2.2 d_MO_at_87
    · refine lv_aload_n hx hb d_MO_at_9 rfl (lv_at hl 0 rfl) ?_
      refine lv_iload_n hx hb d_MO_at_10 rfl (lv_at hl 3 rfl) ?_
      refine va_calli (va_runV (As := [.int column]) (rest := []) ⟨hx, hb, hml, hown, hts⟩ (c_MO_isColumn l dC dI (m0) (f_text) (f_kinds) (f_places) (f_values) (f_draftLetters) (f_draftNumbers) (f_draftSigns) (f_letters) (f_numbers) (f_isList) (f_bounds) (f_sizes) (f_lists) (f_told) (f_costs) (f_times) (f_bestOne) (f_basis) (f_one) (f_along) (f_now) (th) (column)) (wd_V (C := "LeastSolutionsModel") 1 hts k_1113 k_11 k_1110 k_1112 ks_MO_isColumn rfl rfl (by decide +kernel) ⟨Nat.le_of_ble_eq_true rfl, Nat.le_of_ble_eq_true rfl⟩) ⟨fun a U g mk q => by obtain ⟨q0, qP, qK, qN⟩ := q; exact ⟨q0, qP, va_K.moved (u := U) (U := U.calling g mk a) (Vm.Alike.refl U.vm) qK, nw_ok.same (s := U) (U := U.calling g mk a) rfl qN⟩, va_recv (ci := 9) (q0 := 0) hK hP rfl rfl, fun U hU hW => ⟨rfl, by rw [hU]; exact hP.sub (ws' := [(m0, .inr (9, [.int th, .ref f_text, .int 0, .int (-1), .ref f_kinds, .ref f_places, .ref f_values, .int 0, .ref f_draftLetters, .int 0, .int 0, .int 0, .ref f_draftNumbers, .ref f_draftSigns, .int 0, .int 0, .int 0, .int 0, .ref f_letters, .ref f_numbers, .ref f_isList, .ref f_bounds, .ref f_sizes, .ref f_lists, .ref f_told, .ref f_costs, .int 0, .ref f_times, .int 0, .ref f_bestOne, .ref f_basis, .int 0, .ref f_one, .int 0, .ref f_along, .ref f_now]))]) [0] rfl, va_K.moved hW.alike (hK.sub (tys' := []) [] rfl), nw_ok.warm hW hN⟩⟩ rfl rfl hl.1 rfl (lv_room (Nat.le_of_ble_eq_true rfl)) d_MO_at_11 ⟨Nat.le_of_ble_eq_true rfl, Nat.le_of_ble_eq_true rfl⟩) hS (fun q _ h => h.elim) (fun q h => h.elim) (fun r1 u t H3 locs ht hvm hr1 hB hz1 hk1 hS => ?_)
      try dsimp only at hr1
      subst hr1
      have hP : va_P (dC, dI) cls [(m0, .inr (9, [.int th, .ref f_text, .int 0, .int (-1), .ref f_kinds, .ref f_places, .ref f_values, .int 0, .ref f_draftLetters, .int 0, .int 0, .int 0, .ref f_draftNumbers, .ref f_draftSigns, .int 0, .int 0, .int 0, .int 0, .ref f_letters, .ref f_numbers, .ref f_isList, .ref f_bounds, .ref f_sizes, .ref f_lists, .ref f_told, .ref f_costs, .int 0, .ref f_times, .int 0, .ref f_bestOne, .ref f_basis, .int 0, .ref f_one, .int 0, .ref f_along, .ref f_now]))] H3 := hP.kept (fun k q hq => hk1 q.1 (hP k q hq).lt id)
      have hP : va_P (dC, dI) cls [(m0, .inr (9, [.int th, .ref f_text, .int 0, .int (-1), .ref f_kinds, .ref f_places, .ref f_values, .int 0, .ref f_draftLetters, .int 0, .int 0, .int 0, .ref f_draftNumbers, .ref f_draftSigns, .int 0, .int 0, .int 0, .int 0, .ref f_letters, .ref f_numbers, .ref f_isList, .ref f_bounds, .ref f_sizes, .ref f_lists, .ref f_told, .ref f_costs, .int 0, .ref f_times, .int 0, .ref f_bestOne, .ref f_basis, .int 0, .ref f_one, .int 0, .ref f_along, .ref f_now]))] H3 := hP
      have hD : va_D A [(m0, .inr (9, [.int th, .ref f_text, .int 0, .int (-1), .ref f_kinds, .ref f_places, .ref f_values, .int 0, .ref f_draftLetters, .int 0, .int 0, .int 0, .ref f_draftNumbers, .ref f_draftSigns, .int 0, .int 0, .int 0, .int 0, .ref f_letters, .ref f_numbers, .ref f_isList, .ref f_bounds, .ref f_sizes, .ref f_lists, .ref f_told, .ref f_costs, .int 0, .ref f_times, .int 0, .ref f_bestOne, .ref f_basis, .int 0, .ref f_one, .int 0, .ref f_along, .ref f_now]))] := hD
      refine lv_if_eq (tgt := 44) hx hb d_MO_at_14 (by decide) (fun _ => ?_) (fun h9 => absurd (by decide) h9)
      refine lv_iconst (v := 0) hx hb d_MO_at_44 (by decide) ?_
      refine lv_istore hx hb d_MO_at_45 hl (by decide) rfl (fun ls hl => ?_)
      have hl : lv_has ls 5 [(4, .int 0), (0, .ref m0), (1, .int what), (2, .int i), (3, .int column)] := hl
      refine lv_aload_n hx hb d_MO_at_47 rfl (lv_at hl 1 rfl) ?_
      refine lv_iload hx hb d_MO_at_48 (lv_at hl 0 rfl) ?_
      refine lv_if_eq (tgt := 57) hx hb d_MO_at_50 (by decide) (fun _ => ?_) (fun h9 => absurd (by decide) h9)
      refine lv_iconst (v := 1) hx hb d_MO_at_57 (by decide) ?_
      refine va_put (D := (dC, dI)) (ci := 9) (v := .int 1) (ty := .int) (C := R_MO) (T := T_MO) (N := 36) hx hb hts in_MO t_MO t_MO_ok n_MO hown hK hP hD hS 0 rfl rfl 0 (by decide) (hts _ k_886) (fun _ h9 => h9) rfl (by decide +kernel) rfl rfl (Nat.le_of_ble_eq_true rfl) d_MO_at_58 (fun H4 locs hP hD hS => ?_)
      have hP : va_P (dC, dI) cls [(m0, .inr (9, [.int 1, .ref f_text, .int 0, .int (-1), .ref f_kinds, .ref f_places, .ref f_values, .int 0, .ref f_draftLetters, .int 0, .int 0, .int 0, .ref f_draftNumbers, .ref f_draftSigns, .int 0, .int 0, .int 0, .int 0, .ref f_letters, .ref f_numbers, .ref f_isList, .ref f_bounds, .ref f_sizes, .ref f_lists, .ref f_told, .ref f_costs, .int 0, .ref f_times, .int 0, .ref f_bestOne, .ref f_basis, .int 0, .ref f_one, .int 0, .ref f_along, .ref f_now]))] H4 := hP
      have hD : va_D A [(m0, .inr (9, [.int 1, .ref f_text, .int 0, .int (-1), .ref f_kinds, .ref f_places, .ref f_values, .int 0, .ref f_draftLetters, .int 0, .int 0, .int 0, .ref f_draftNumbers, .ref f_draftSigns, .int 0, .int 0, .int 0, .int 0, .ref f_letters, .ref f_numbers, .ref f_isList, .ref f_bounds, .ref f_sizes, .ref f_lists, .ref f_told, .ref f_costs, .int 0, .ref f_times, .int 0, .ref f_bestOne, .ref f_basis, .int 0, .ref f_one, .int 0, .ref f_along, .ref f_now]))] := hD
      refine lv_iload hx hb d_MO_at_61 (lv_at hl 0 rfl) ?_
      refine lv_if_eq (tgt := 86) hx hb d_MO_at_63 (by decide) (fun _ => ?_) (fun h9 => absurd (by decide) h9)
      refine lv_iconst (v := 0) hx hb d_MO_at_86 (by decide) ?_
      have hP9 := hP.sub (ws' := [(m0, .inr (9, [.int 1, .ref f_text, .int 0, .int (-1), .ref f_kinds, .ref f_places, .ref f_values, .int 0, .ref f_draftLetters, .int 0, .int 0, .int 0, .ref f_draftNumbers, .ref f_draftSigns, .int 0, .int 0, .int 0, .int 0, .ref f_letters, .ref f_numbers, .ref f_isList, .ref f_bounds, .ref f_sizes, .ref f_lists, .ref f_told, .ref f_costs, .int 0, .ref f_times, .int 0, .ref f_bestOne, .ref f_basis, .int 0, .ref f_one, .int 0, .ref f_along, .ref f_now]))]) [0] rfl
      have hD9 := hD.sub (ws' := [(m0, .inr (9, [.int 1, .ref f_text, .int 0, .int (-1), .ref f_kinds, .ref f_places, .ref f_values, .int 0, .ref f_draftLetters, .int 0, .int 0, .int 0, .ref f_draftNumbers, .ref f_draftSigns, .int 0, .int 0, .int 0, .int 0, .ref f_letters, .ref f_numbers, .ref f_isList, .ref f_bounds, .ref f_sizes, .ref f_lists, .ref f_told, .ref f_costs, .int 0, .ref f_times, .int 0, .ref f_bestOne, .ref f_basis, .int 0, .ref f_one, .int 0, .ref f_along, .ref f_now]))]) [0] (by decide) rfl
      have hK9 := hK.sub (tys' := []) [] rfl
      exact W.iret (v := 0) hx hb hr (fun t ht hW => ⟨⟨0, (), rfl, rfl, by rw [ht]; exact hP9, va_K.moved hW.alike hK9, hD9⟩, hS.F ht⟩) hS.2.2 d_MO_at_87

set_option maxHeartbeats 4000000 in
set_option maxRecDepth 100000 in
theorem c_MO_tell (l : Launch) (dC : Nat → ClassId) (dI : Nat → Nat → Nat) (m0 : Nat) (f_text : Nat) (f_kinds : Nat) (f_places : Nat) (f_values : Nat) (f_draftLetters : Nat) (f_draftNumbers : Nat) (f_draftSigns : Nat) (f_letters : Nat) (f_numbers : Nat) (f_isList : Nat) (f_bounds : Nat) (f_sizes : Nat) (f_lists : Nat) (f_told : Nat) (f_costs : Nat) (f_times : Nat) (f_bestOne : Nat) (f_basis : Nat) (f_one : Nat) (f_along : Nat) (f_now : Nat) (th : Int32) (column : Int32) (value : Int32) (sz : Nat) : Met l y_MO_tell (Cond.code y_MO_tell b_MO_tell 3 (Option.none : Option Jvm.ClassFile.FieldType) :: wd) { frames := 1, cells := 0, slots := 0, locals := 21 } (va_Pc [.ref m0, .int column, .int value] (fun U => U.heap.size = sz ∧ va_P (dC, dI) cls [(m0, .inr (9, [.int th, .ref f_text, .int 0, .int (-1), .ref f_kinds, .ref f_places, .ref f_values, .int 0, .ref f_draftLetters, .int 0, .int 0, .int 0, .ref f_draftNumbers, .ref f_draftSigns, .int 0, .int 0, .int 0, .int 0, .ref f_letters, .ref f_numbers, .ref f_isList, .ref f_bounds, .ref f_sizes, .ref f_lists, .ref f_told, .ref f_costs, .int 0, .ref f_times, .int 0, .ref f_bestOne, .ref f_basis, .int 0, .ref f_one, .int 0, .ref f_along, .ref f_now]))] U.heap ∧ va_K (dC, dI) cls [] U ∧ va_D (fun _ => True) [(m0, .inr (9, [.int th, .ref f_text, .int 0, .int (-1), .ref f_kinds, .ref f_places, .ref f_values, .int 0, .ref f_draftLetters, .int 0, .int 0, .int 0, .ref f_draftNumbers, .ref f_draftSigns, .int 0, .int 0, .int 0, .int 0, .ref f_letters, .ref f_numbers, .ref f_isList, .ref f_bounds, .ref f_sizes, .ref f_lists, .ref f_told, .ref f_costs, .int 0, .ref f_times, .int 0, .ref f_bestOne, .ref f_basis, .int 0, .ref f_one, .int 0, .ref f_along, .ref f_now]))] ∧ nw_ok U)) (va_Qv (fun _ : Unit => True) (fun (_ : Unit) t => va_P (dC, dI) cls [(m0, .inr (9, [.int 1, .ref f_text, .int 0, .int (-1), .ref f_kinds, .ref f_places, .ref f_values, .int 0, .ref f_draftLetters, .int 0, .int 0, .int 0, .ref f_draftNumbers, .ref f_draftSigns, .int 0, .int 0, .int 0, .int 0, .ref f_letters, .ref f_numbers, .ref f_isList, .ref f_bounds, .ref f_sizes, .ref f_lists, .ref f_told, .ref f_costs, .int 0, .ref f_times, .int 0, .ref f_bestOne, .ref f_basis, .int 0, .ref f_one, .int 0, .ref f_along, .ref f_now]))] t.heap ∧ va_K (dC, dI) cls [] t ∧ va_D (va_A [(m0, .inr (9, [.int th, .ref f_text, .int 0, .int (-1), .ref f_kinds, .ref f_places, .ref f_values, .int 0, .ref f_draftLetters, .int 0, .int 0, .int 0, .ref f_draftNumbers, .ref f_draftSigns, .int 0, .int 0, .int 0, .int 0, .ref f_letters, .ref f_numbers, .ref f_isList, .ref f_bounds, .ref f_sizes, .ref f_lists, .ref f_told, .ref f_costs, .int 0, .ref f_times, .int 0, .ref f_bestOne, .ref f_basis, .int 0, .ref f_one, .int 0, .ref f_along, .ref f_now]))] sz) [(m0, .inr (9, [.int 1, .ref f_text, .int 0, .int (-1), .ref f_kinds, .ref f_places, .ref f_values, .int 0, .ref f_draftLetters, .int 0, .int 0, .int 0, .ref f_draftNumbers, .ref f_draftSigns, .int 0, .int 0, .int 0, .int 0, .ref f_letters, .ref f_numbers, .ref f_isList, .ref f_bounds, .ref f_sizes, .ref f_lists, .ref f_told, .ref f_costs, .int 0, .ref f_times, .int 0, .ref f_bestOne, .ref f_basis, .int 0, .ref f_one, .int 0, .ref f_along, .ref f_now]))]) (va_A [(m0, .inr (9, [.int th, .ref f_text, .int 0, .int (-1), .ref f_kinds, .ref f_places, .ref f_values, .int 0, .ref f_draftLetters, .int 0, .int 0, .int 0, .ref f_draftNumbers, .ref f_draftSigns, .int 0, .int 0, .int 0, .int 0, .ref f_letters, .ref f_numbers, .ref f_isList, .ref f_bounds, .ref f_sizes, .ref f_lists, .ref f_told, .ref f_costs, .int 0, .ref f_times, .int 0, .ref f_bestOne, .ref f_basis, .int 0, .ref f_one, .int 0, .ref f_along, .ref f_now]))] sz)) 0 0 (va_A [(m0, .inr (9, [.int th, .ref f_text, .int 0, .int (-1), .ref f_kinds, .ref f_places, .ref f_values, .int 0, .ref f_draftLetters, .int 0, .int 0, .int 0, .ref f_draftNumbers, .ref f_draftSigns, .int 0, .int 0, .int 0, .int 0, .ref f_letters, .ref f_numbers, .ref f_isList, .ref f_bounds, .ref f_sizes, .ref f_lists, .ref f_told, .ref f_costs, .int 0, .ref f_times, .int 0, .ref f_bestOne, .ref f_basis, .int 0, .ref f_one, .int 0, .ref f_along, .ref f_now]))] sz) := by
  refine Met.ofW (cc := b_MO_tell) (maxL := 3) (ret := (Option.none : Option Jvm.ClassFile.FieldType)) (by decide) rfl ?_
  intro p e s m args below meth c s₁ B hml hv
  obtain ⟨rfl, hsz, hP, hK, hD0, hN⟩ := hv
  have hx := B.exec
  have hb := B.bytes
  have hr := B.returns
  have hlocks := B.notSynchronized
  have hts : ∀ w ∈ wd, w.before ([.ref m0, .int column, .int value] : List Value).toArray s = true := fun w hw => atoms_spec (ws := (Cond.code y_MO_tell b_MO_tell 3 (Option.none : Option Jvm.ClassFile.FieldType) :: wd)) B.pre w (List.mem_cons_of_mem _ hw)
  have hown : s.vm.findClass "LeastSolutionsModel" = some m.cls := findClass_of_methodNamed B.named
  subst hsz
  have hD := hD0.self (sz := s.heap.size)
  generalize hAe : va_A [(m0, .inr (9, [.int th, .ref f_text, .int 0, .int (-1), .ref f_kinds, .ref f_places, .ref f_values, .int 0, .ref f_draftLetters, .int 0, .int 0, .int 0, .ref f_draftNumbers, .ref f_draftSigns, .int 0, .int 0, .int 0, .int 0, .ref f_letters, .ref f_numbers, .ref f_isList, .ref f_bounds, .ref f_sizes, .ref f_lists, .ref f_told, .ref f_costs, .int 0, .ref f_times, .int 0, .ref f_bestOne, .ref f_basis, .int 0, .ref f_one, .int 0, .ref f_along, .ref f_now]))] s.heap.size = A at hD ⊢
  have hA : ∀ q : Nat, s.heap.size ≤ q → A q := fun q h => by rw [← hAe]; exact Or.inr h
  have hS : va_S A s.heap s.heap [] := va_S.rf
  have hl := lv_entry ([.ref m0, .int column, .int value]) (n := 3) (Nat.le_of_ble_eq_true rfl)
  rw [lg_entry_eq]
  generalize (lg_sl ([.ref m0, .int column, .int value]) ++ List.replicate (3 - (lg_sl ([.ref m0, .int column, .int value])).length) Slot.unset).toArray = ls at hl ⊢
  have hl : lv_has ls 3 [(0, .ref m0), (1, .int column), (2, .int value)] := hl
  refine lv_aload_n hx hb d_MO_tell_0 rfl (lv_at hl 0 rfl) ?_
  refine lv_aload_n hx hb d_MO_tell_1 rfl (lv_at hl 0 rfl) ?_
  refine lv_iload_n hx hb d_MO_tell_2 rfl (lv_at hl 1 rfl) ?_
  refine va_calli (va_runV (As := [.int column]) (rest := [.ref m0]) ⟨hx, hb, hml, hown, hts⟩ (c_MO_isColumn l dC dI (m0) (f_text) (f_kinds) (f_places) (f_values) (f_draftLetters) (f_draftNumbers) (f_draftSigns) (f_letters) (f_numbers) (f_isList) (f_bounds) (f_sizes) (f_lists) (f_told) (f_costs) (f_times) (f_bestOne) (f_basis) (f_one) (f_along) (f_now) (th) (column)) (wd_V (C := "LeastSolutionsModel") 1 hts k_1113 k_11 k_1110 k_1112 ks_MO_isColumn rfl rfl (by decide +kernel) ⟨Nat.le_of_ble_eq_true rfl, Nat.le_of_ble_eq_true rfl⟩) ⟨fun a U g mk q => by obtain ⟨q0, qP, qK, qN⟩ := q; exact ⟨q0, qP, va_K.moved (u := U) (U := U.calling g mk a) (Vm.Alike.refl U.vm) qK, nw_ok.same (s := U) (U := U.calling g mk a) rfl qN⟩, va_recv (ci := 9) (q0 := 0) hK hP rfl rfl, fun U hU hW => ⟨rfl, by rw [hU]; exact hP.sub (ws' := [(m0, .inr (9, [.int th, .ref f_text, .int 0, .int (-1), .ref f_kinds, .ref f_places, .ref f_values, .int 0, .ref f_draftLetters, .int 0, .int 0, .int 0, .ref f_draftNumbers, .ref f_draftSigns, .int 0, .int 0, .int 0, .int 0, .ref f_letters, .ref f_numbers, .ref f_isList, .ref f_bounds, .ref f_sizes, .ref f_lists, .ref f_told, .ref f_costs, .int 0, .ref f_times, .int 0, .ref f_bestOne, .ref f_basis, .int 0, .ref f_one, .int 0, .ref f_along, .ref f_now]))]) [0] rfl, va_K.moved hW.alike (hK.sub (tys' := []) [] rfl), nw_ok.warm hW hN⟩⟩ rfl rfl hl.1 rfl (lv_room (Nat.le_of_ble_eq_true rfl)) d_MO_tell_3 ⟨Nat.le_of_ble_eq_true rfl, Nat.le_of_ble_eq_true rfl⟩) hS (fun q _ h => h.elim) (fun q h => h.elim) (fun r1 u t H1 locs ht hvm hr1 hB hz1 hk1 hS => ?_)
  try dsimp only at hr1
  subst hr1
  have hP : va_P (dC, dI) cls [(m0, .inr (9, [.int th, .ref f_text, .int 0, .int (-1), .ref f_kinds, .ref f_places, .ref f_values, .int 0, .ref f_draftLetters, .int 0, .int 0, .int 0, .ref f_draftNumbers, .ref f_draftSigns, .int 0, .int 0, .int 0, .int 0, .ref f_letters, .ref f_numbers, .ref f_isList, .ref f_bounds, .ref f_sizes, .ref f_lists, .ref f_told, .ref f_costs, .int 0, .ref f_times, .int 0, .ref f_bestOne, .ref f_basis, .int 0, .ref f_one, .int 0, .ref f_along, .ref f_now]))] H1 := hP.kept (fun k q hq => hk1 q.1 (hP k q hq).lt id)
  have hP : va_P (dC, dI) cls [(m0, .inr (9, [.int th, .ref f_text, .int 0, .int (-1), .ref f_kinds, .ref f_places, .ref f_values, .int 0, .ref f_draftLetters, .int 0, .int 0, .int 0, .ref f_draftNumbers, .ref f_draftSigns, .int 0, .int 0, .int 0, .int 0, .ref f_letters, .ref f_numbers, .ref f_isList, .ref f_bounds, .ref f_sizes, .ref f_lists, .ref f_told, .ref f_costs, .int 0, .ref f_times, .int 0, .ref f_bestOne, .ref f_basis, .int 0, .ref f_one, .int 0, .ref f_along, .ref f_now]))] H1 := hP
  have hD : va_D A [(m0, .inr (9, [.int th, .ref f_text, .int 0, .int (-1), .ref f_kinds, .ref f_places, .ref f_values, .int 0, .ref f_draftLetters, .int 0, .int 0, .int 0, .ref f_draftNumbers, .ref f_draftSigns, .int 0, .int 0, .int 0, .int 0, .ref f_letters, .ref f_numbers, .ref f_isList, .ref f_bounds, .ref f_sizes, .ref f_lists, .ref f_told, .ref f_costs, .int 0, .ref f_times, .int 0, .ref f_bestOne, .ref f_basis, .int 0, .ref f_one, .int 0, .ref f_along, .ref f_now]))] := hD
  refine lv_if_ne (tgt := 13) hx hb d_MO_tell_6 (by decide) (fun h9 => absurd (by decide) h9) (fun _ => ?_)
  refine lv_iconst (v := 1) hx hb d_MO_tell_9 (by decide) ?_
  refine lv_goto (tgt := 30) hx hb d_MO_tell_10 (by decide) ?_
  refine va_put (D := (dC, dI)) (ci := 9) (v := .int 1) (ty := .int) (C := R_MO) (T := T_MO) (N := 36) hx hb hts in_MO t_MO t_MO_ok n_MO hown hK hP hD hS 0 rfl rfl 0 (by decide) (hts _ k_886) (fun _ h9 => h9) rfl (by decide +kernel) rfl rfl (Nat.le_of_ble_eq_true rfl) d_MO_tell_30 (fun H2 locs hP hD hS => ?_)
  have hP : va_P (dC, dI) cls [(m0, .inr (9, [.int 1, .ref f_text, .int 0, .int (-1), .ref f_kinds, .ref f_places, .ref f_values, .int 0, .ref f_draftLetters, .int 0, .int 0, .int 0, .ref f_draftNumbers, .ref f_draftSigns, .int 0, .int 0, .int 0, .int 0, .ref f_letters, .ref f_numbers, .ref f_isList, .ref f_bounds, .ref f_sizes, .ref f_lists, .ref f_told, .ref f_costs, .int 0, .ref f_times, .int 0, .ref f_bestOne, .ref f_basis, .int 0, .ref f_one, .int 0, .ref f_along, .ref f_now]))] H2 := hP
  have hD : va_D A [(m0, .inr (9, [.int 1, .ref f_text, .int 0, .int (-1), .ref f_kinds, .ref f_places, .ref f_values, .int 0, .ref f_draftLetters, .int 0, .int 0, .int 0, .ref f_draftNumbers, .ref f_draftSigns, .int 0, .int 0, .int 0, .int 0, .ref f_letters, .ref f_numbers, .ref f_isList, .ref f_bounds, .ref f_sizes, .ref f_lists, .ref f_told, .ref f_costs, .int 0, .ref f_times, .int 0, .ref f_bestOne, .ref f_basis, .int 0, .ref f_one, .int 0, .ref f_along, .ref f_now]))] := hD
  refine lv_aload_n hx hb d_MO_tell_33 rfl (lv_at hl 0 rfl) ?_
  refine va_get (D := (dC, dI)) (ci := 9) (v := .int 1) (C := R_MO) (T := T_MO) (N := 36) hx hb hts in_MO hown hK hP 0 rfl rfl 0 (by decide) (hts _ k_886) (fun _ h9 => h9) rfl d_MO_tell_34 ?_
  refine lv_if_ne (tgt := 47) hx hb d_MO_tell_37 (by decide) (fun _ => ?_) (fun h9 => absurd h9 (by decide))
  have hP9 := hP.sub (ws' := [(m0, .inr (9, [.int 1, .ref f_text, .int 0, .int (-1), .ref f_kinds, .ref f_places, .ref f_values, .int 0, .ref f_draftLetters, .int 0, .int 0, .int 0, .ref f_draftNumbers, .ref f_draftSigns, .int 0, .int 0, .int 0, .int 0, .ref f_letters, .ref f_numbers, .ref f_isList, .ref f_bounds, .ref f_sizes, .ref f_lists, .ref f_told, .ref f_costs, .int 0, .ref f_times, .int 0, .ref f_bestOne, .ref f_basis, .int 0, .ref f_one, .int 0, .ref f_along, .ref f_now]))]) [0] rfl
  have hD9 := hD.sub (ws' := [(m0, .inr (9, [.int 1, .ref f_text, .int 0, .int (-1), .ref f_kinds, .ref f_places, .ref f_values, .int 0, .ref f_draftLetters, .int 0, .int 0, .int 0, .ref f_draftNumbers, .ref f_draftSigns, .int 0, .int 0, .int 0, .int 0, .ref f_letters, .ref f_numbers, .ref f_isList, .ref f_bounds, .ref f_sizes, .ref f_lists, .ref f_told, .ref f_costs, .int 0, .ref f_times, .int 0, .ref f_bestOne, .ref f_basis, .int 0, .ref f_one, .int 0, .ref f_along, .ref f_now]))]) [0] (by decide) rfl
  have hK9 := hK.sub (tys' := []) [] rfl
  exact W.vret hx hb hr (fun t ht hW => ⟨⟨(), rfl, trivial, by rw [ht]; exact hP9, va_K.moved hW.alike hK9, hD9⟩, hS.F ht⟩) hS.2.2 d_MO_tell_47

set_option maxHeartbeats 4000000 in
set_option maxRecDepth 100000 in
theorem c_MO_cost (l : Launch) (dC : Nat → ClassId) (dI : Nat → Nat → Nat) (m0 : Nat) (f_text : Nat) (f_kinds : Nat) (f_places : Nat) (f_values : Nat) (f_draftLetters : Nat) (f_draftNumbers : Nat) (f_draftSigns : Nat) (f_letters : Nat) (f_numbers : Nat) (f_isList : Nat) (f_bounds : Nat) (f_sizes : Nat) (f_lists : Nat) (f_told : Nat) (f_costs : Nat) (f_times : Nat) (f_bestOne : Nat) (f_basis : Nat) (f_one : Nat) (f_along : Nat) (f_now : Nat) (th : Int32) (column : Int32) (value : Int32) (sz : Nat) : Met l y_MO_cost (Cond.code y_MO_cost b_MO_cost 3 (Option.none : Option Jvm.ClassFile.FieldType) :: wd) { frames := 1, cells := 0, slots := 0, locals := 21 } (va_Pc [.ref m0, .int column, .int value] (fun U => U.heap.size = sz ∧ va_P (dC, dI) cls [(m0, .inr (9, [.int th, .ref f_text, .int 0, .int (-1), .ref f_kinds, .ref f_places, .ref f_values, .int 0, .ref f_draftLetters, .int 0, .int 0, .int 0, .ref f_draftNumbers, .ref f_draftSigns, .int 0, .int 0, .int 0, .int 0, .ref f_letters, .ref f_numbers, .ref f_isList, .ref f_bounds, .ref f_sizes, .ref f_lists, .ref f_told, .ref f_costs, .int 0, .ref f_times, .int 0, .ref f_bestOne, .ref f_basis, .int 0, .ref f_one, .int 0, .ref f_along, .ref f_now]))] U.heap ∧ va_K (dC, dI) cls [] U ∧ va_D (fun _ => True) [(m0, .inr (9, [.int th, .ref f_text, .int 0, .int (-1), .ref f_kinds, .ref f_places, .ref f_values, .int 0, .ref f_draftLetters, .int 0, .int 0, .int 0, .ref f_draftNumbers, .ref f_draftSigns, .int 0, .int 0, .int 0, .int 0, .ref f_letters, .ref f_numbers, .ref f_isList, .ref f_bounds, .ref f_sizes, .ref f_lists, .ref f_told, .ref f_costs, .int 0, .ref f_times, .int 0, .ref f_bestOne, .ref f_basis, .int 0, .ref f_one, .int 0, .ref f_along, .ref f_now]))] ∧ nw_ok U)) (va_Qv (fun _ : Unit => True) (fun (_ : Unit) t => va_P (dC, dI) cls [(m0, .inr (9, [.int 1, .ref f_text, .int 0, .int (-1), .ref f_kinds, .ref f_places, .ref f_values, .int 0, .ref f_draftLetters, .int 0, .int 0, .int 0, .ref f_draftNumbers, .ref f_draftSigns, .int 0, .int 0, .int 0, .int 0, .ref f_letters, .ref f_numbers, .ref f_isList, .ref f_bounds, .ref f_sizes, .ref f_lists, .ref f_told, .ref f_costs, .int 0, .ref f_times, .int 0, .ref f_bestOne, .ref f_basis, .int 0, .ref f_one, .int 0, .ref f_along, .ref f_now]))] t.heap ∧ va_K (dC, dI) cls [] t ∧ va_D (va_A [(m0, .inr (9, [.int th, .ref f_text, .int 0, .int (-1), .ref f_kinds, .ref f_places, .ref f_values, .int 0, .ref f_draftLetters, .int 0, .int 0, .int 0, .ref f_draftNumbers, .ref f_draftSigns, .int 0, .int 0, .int 0, .int 0, .ref f_letters, .ref f_numbers, .ref f_isList, .ref f_bounds, .ref f_sizes, .ref f_lists, .ref f_told, .ref f_costs, .int 0, .ref f_times, .int 0, .ref f_bestOne, .ref f_basis, .int 0, .ref f_one, .int 0, .ref f_along, .ref f_now]))] sz) [(m0, .inr (9, [.int 1, .ref f_text, .int 0, .int (-1), .ref f_kinds, .ref f_places, .ref f_values, .int 0, .ref f_draftLetters, .int 0, .int 0, .int 0, .ref f_draftNumbers, .ref f_draftSigns, .int 0, .int 0, .int 0, .int 0, .ref f_letters, .ref f_numbers, .ref f_isList, .ref f_bounds, .ref f_sizes, .ref f_lists, .ref f_told, .ref f_costs, .int 0, .ref f_times, .int 0, .ref f_bestOne, .ref f_basis, .int 0, .ref f_one, .int 0, .ref f_along, .ref f_now]))]) (va_A [(m0, .inr (9, [.int th, .ref f_text, .int 0, .int (-1), .ref f_kinds, .ref f_places, .ref f_values, .int 0, .ref f_draftLetters, .int 0, .int 0, .int 0, .ref f_draftNumbers, .ref f_draftSigns, .int 0, .int 0, .int 0, .int 0, .ref f_letters, .ref f_numbers, .ref f_isList, .ref f_bounds, .ref f_sizes, .ref f_lists, .ref f_told, .ref f_costs, .int 0, .ref f_times, .int 0, .ref f_bestOne, .ref f_basis, .int 0, .ref f_one, .int 0, .ref f_along, .ref f_now]))] sz)) 0 0 (va_A [(m0, .inr (9, [.int th, .ref f_text, .int 0, .int (-1), .ref f_kinds, .ref f_places, .ref f_values, .int 0, .ref f_draftLetters, .int 0, .int 0, .int 0, .ref f_draftNumbers, .ref f_draftSigns, .int 0, .int 0, .int 0, .int 0, .ref f_letters, .ref f_numbers, .ref f_isList, .ref f_bounds, .ref f_sizes, .ref f_lists, .ref f_told, .ref f_costs, .int 0, .ref f_times, .int 0, .ref f_bestOne, .ref f_basis, .int 0, .ref f_one, .int 0, .ref f_along, .ref f_now]))] sz) := by
  refine Met.ofW (cc := b_MO_cost) (maxL := 3) (ret := (Option.none : Option Jvm.ClassFile.FieldType)) (by decide) rfl ?_
  intro p e s m args below meth c s₁ B hml hv
  obtain ⟨rfl, hsz, hP, hK, hD0, hN⟩ := hv
  have hx := B.exec
  have hb := B.bytes
  have hr := B.returns
  have hlocks := B.notSynchronized
  have hts : ∀ w ∈ wd, w.before ([.ref m0, .int column, .int value] : List Value).toArray s = true := fun w hw => atoms_spec (ws := (Cond.code y_MO_cost b_MO_cost 3 (Option.none : Option Jvm.ClassFile.FieldType) :: wd)) B.pre w (List.mem_cons_of_mem _ hw)
  have hown : s.vm.findClass "LeastSolutionsModel" = some m.cls := findClass_of_methodNamed B.named
  subst hsz
  have hD := hD0.self (sz := s.heap.size)
  generalize hAe : va_A [(m0, .inr (9, [.int th, .ref f_text, .int 0, .int (-1), .ref f_kinds, .ref f_places, .ref f_values, .int 0, .ref f_draftLetters, .int 0, .int 0, .int 0, .ref f_draftNumbers, .ref f_draftSigns, .int 0, .int 0, .int 0, .int 0, .ref f_letters, .ref f_numbers, .ref f_isList, .ref f_bounds, .ref f_sizes, .ref f_lists, .ref f_told, .ref f_costs, .int 0, .ref f_times, .int 0, .ref f_bestOne, .ref f_basis, .int 0, .ref f_one, .int 0, .ref f_along, .ref f_now]))] s.heap.size = A at hD ⊢
  have hA : ∀ q : Nat, s.heap.size ≤ q → A q := fun q h => by rw [← hAe]; exact Or.inr h
  have hS : va_S A s.heap s.heap [] := va_S.rf
  have hl := lv_entry ([.ref m0, .int column, .int value]) (n := 3) (Nat.le_of_ble_eq_true rfl)
  rw [lg_entry_eq]
  generalize (lg_sl ([.ref m0, .int column, .int value]) ++ List.replicate (3 - (lg_sl ([.ref m0, .int column, .int value])).length) Slot.unset).toArray = ls at hl ⊢
  have hl : lv_has ls 3 [(0, .ref m0), (1, .int column), (2, .int value)] := hl
  refine lv_aload_n hx hb d_MO_cost_0 rfl (lv_at hl 0 rfl) ?_
  refine lv_aload_n hx hb d_MO_cost_1 rfl (lv_at hl 0 rfl) ?_
  refine lv_iload_n hx hb d_MO_cost_2 rfl (lv_at hl 1 rfl) ?_
  refine va_calli (va_runV (As := [.int column]) (rest := [.ref m0]) ⟨hx, hb, hml, hown, hts⟩ (c_MO_isColumn l dC dI (m0) (f_text) (f_kinds) (f_places) (f_values) (f_draftLetters) (f_draftNumbers) (f_draftSigns) (f_letters) (f_numbers) (f_isList) (f_bounds) (f_sizes) (f_lists) (f_told) (f_costs) (f_times) (f_bestOne) (f_basis) (f_one) (f_along) (f_now) (th) (column)) (wd_V (C := "LeastSolutionsModel") 1 hts k_1113 k_11 k_1110 k_1112 ks_MO_isColumn rfl rfl (by decide +kernel) ⟨Nat.le_of_ble_eq_true rfl, Nat.le_of_ble_eq_true rfl⟩) ⟨fun a U g mk q => by obtain ⟨q0, qP, qK, qN⟩ := q; exact ⟨q0, qP, va_K.moved (u := U) (U := U.calling g mk a) (Vm.Alike.refl U.vm) qK, nw_ok.same (s := U) (U := U.calling g mk a) rfl qN⟩, va_recv (ci := 9) (q0 := 0) hK hP rfl rfl, fun U hU hW => ⟨rfl, by rw [hU]; exact hP.sub (ws' := [(m0, .inr (9, [.int th, .ref f_text, .int 0, .int (-1), .ref f_kinds, .ref f_places, .ref f_values, .int 0, .ref f_draftLetters, .int 0, .int 0, .int 0, .ref f_draftNumbers, .ref f_draftSigns, .int 0, .int 0, .int 0, .int 0, .ref f_letters, .ref f_numbers, .ref f_isList, .ref f_bounds, .ref f_sizes, .ref f_lists, .ref f_told, .ref f_costs, .int 0, .ref f_times, .int 0, .ref f_bestOne, .ref f_basis, .int 0, .ref f_one, .int 0, .ref f_along, .ref f_now]))]) [0] rfl, va_K.moved hW.alike (hK.sub (tys' := []) [] rfl), nw_ok.warm hW hN⟩⟩ rfl rfl hl.1 rfl (lv_room (Nat.le_of_ble_eq_true rfl)) d_MO_cost_3 ⟨Nat.le_of_ble_eq_true rfl, Nat.le_of_ble_eq_true rfl⟩) hS (fun q _ h => h.elim) (fun q h => h.elim) (fun r1 u t H1 locs ht hvm hr1 hB hz1 hk1 hS => ?_)
  try dsimp only at hr1
  subst hr1
  have hP : va_P (dC, dI) cls [(m0, .inr (9, [.int th, .ref f_text, .int 0, .int (-1), .ref f_kinds, .ref f_places, .ref f_values, .int 0, .ref f_draftLetters, .int 0, .int 0, .int 0, .ref f_draftNumbers, .ref f_draftSigns, .int 0, .int 0, .int 0, .int 0, .ref f_letters, .ref f_numbers, .ref f_isList, .ref f_bounds, .ref f_sizes, .ref f_lists, .ref f_told, .ref f_costs, .int 0, .ref f_times, .int 0, .ref f_bestOne, .ref f_basis, .int 0, .ref f_one, .int 0, .ref f_along, .ref f_now]))] H1 := hP.kept (fun k q hq => hk1 q.1 (hP k q hq).lt id)
  have hP : va_P (dC, dI) cls [(m0, .inr (9, [.int th, .ref f_text, .int 0, .int (-1), .ref f_kinds, .ref f_places, .ref f_values, .int 0, .ref f_draftLetters, .int 0, .int 0, .int 0, .ref f_draftNumbers, .ref f_draftSigns, .int 0, .int 0, .int 0, .int 0, .ref f_letters, .ref f_numbers, .ref f_isList, .ref f_bounds, .ref f_sizes, .ref f_lists, .ref f_told, .ref f_costs, .int 0, .ref f_times, .int 0, .ref f_bestOne, .ref f_basis, .int 0, .ref f_one, .int 0, .ref f_along, .ref f_now]))] H1 := hP
  have hD : va_D A [(m0, .inr (9, [.int th, .ref f_text, .int 0, .int (-1), .ref f_kinds, .ref f_places, .ref f_values, .int 0, .ref f_draftLetters, .int 0, .int 0, .int 0, .ref f_draftNumbers, .ref f_draftSigns, .int 0, .int 0, .int 0, .int 0, .ref f_letters, .ref f_numbers, .ref f_isList, .ref f_bounds, .ref f_sizes, .ref f_lists, .ref f_told, .ref f_costs, .int 0, .ref f_times, .int 0, .ref f_bestOne, .ref f_basis, .int 0, .ref f_one, .int 0, .ref f_along, .ref f_now]))] := hD
  refine lv_if_ne (tgt := 13) hx hb d_MO_cost_6 (by decide) (fun h9 => absurd (by decide) h9) (fun _ => ?_)
  refine lv_iconst (v := 1) hx hb d_MO_cost_9 (by decide) ?_
  refine lv_goto (tgt := 30) hx hb d_MO_cost_10 (by decide) ?_
  refine va_put (D := (dC, dI)) (ci := 9) (v := .int 1) (ty := .int) (C := R_MO) (T := T_MO) (N := 36) hx hb hts in_MO t_MO t_MO_ok n_MO hown hK hP hD hS 0 rfl rfl 0 (by decide) (hts _ k_886) (fun _ h9 => h9) rfl (by decide +kernel) rfl rfl (Nat.le_of_ble_eq_true rfl) d_MO_cost_30 (fun H2 locs hP hD hS => ?_)
  have hP : va_P (dC, dI) cls [(m0, .inr (9, [.int 1, .ref f_text, .int 0, .int (-1), .ref f_kinds, .ref f_places, .ref f_values, .int 0, .ref f_draftLetters, .int 0, .int 0, .int 0, .ref f_draftNumbers, .ref f_draftSigns, .int 0, .int 0, .int 0, .int 0, .ref f_letters, .ref f_numbers, .ref f_isList, .ref f_bounds, .ref f_sizes, .ref f_lists, .ref f_told, .ref f_costs, .int 0, .ref f_times, .int 0, .ref f_bestOne, .ref f_basis, .int 0, .ref f_one, .int 0, .ref f_along, .ref f_now]))] H2 := hP
  have hD : va_D A [(m0, .inr (9, [.int 1, .ref f_text, .int 0, .int (-1), .ref f_kinds, .ref f_places, .ref f_values, .int 0, .ref f_draftLetters, .int 0, .int 0, .int 0, .ref f_draftNumbers, .ref f_draftSigns, .int 0, .int 0, .int 0, .int 0, .ref f_letters, .ref f_numbers, .ref f_isList, .ref f_bounds, .ref f_sizes, .ref f_lists, .ref f_told, .ref f_costs, .int 0, .ref f_times, .int 0, .ref f_bestOne, .ref f_basis, .int 0, .ref f_one, .int 0, .ref f_along, .ref f_now]))] := hD
  refine lv_aload_n hx hb d_MO_cost_33 rfl (lv_at hl 0 rfl) ?_
  refine va_get (D := (dC, dI)) (ci := 9) (v := .int 1) (C := R_MO) (T := T_MO) (N := 36) hx hb hts in_MO hown hK hP 0 rfl rfl 0 (by decide) (hts _ k_886) (fun _ h9 => h9) rfl d_MO_cost_34 ?_
  refine lv_if_ne (tgt := 47) hx hb d_MO_cost_37 (by decide) (fun _ => ?_) (fun h9 => absurd h9 (by decide))
  have hP9 := hP.sub (ws' := [(m0, .inr (9, [.int 1, .ref f_text, .int 0, .int (-1), .ref f_kinds, .ref f_places, .ref f_values, .int 0, .ref f_draftLetters, .int 0, .int 0, .int 0, .ref f_draftNumbers, .ref f_draftSigns, .int 0, .int 0, .int 0, .int 0, .ref f_letters, .ref f_numbers, .ref f_isList, .ref f_bounds, .ref f_sizes, .ref f_lists, .ref f_told, .ref f_costs, .int 0, .ref f_times, .int 0, .ref f_bestOne, .ref f_basis, .int 0, .ref f_one, .int 0, .ref f_along, .ref f_now]))]) [0] rfl
  have hD9 := hD.sub (ws' := [(m0, .inr (9, [.int 1, .ref f_text, .int 0, .int (-1), .ref f_kinds, .ref f_places, .ref f_values, .int 0, .ref f_draftLetters, .int 0, .int 0, .int 0, .ref f_draftNumbers, .ref f_draftSigns, .int 0, .int 0, .int 0, .int 0, .ref f_letters, .ref f_numbers, .ref f_isList, .ref f_bounds, .ref f_sizes, .ref f_lists, .ref f_told, .ref f_costs, .int 0, .ref f_times, .int 0, .ref f_bestOne, .ref f_basis, .int 0, .ref f_one, .int 0, .ref f_along, .ref f_now]))]) [0] (by decide) rfl
  have hK9 := hK.sub (tys' := []) [] rfl
  exact W.vret hx hb hr (fun t ht hW => ⟨⟨(), rfl, trivial, by rw [ht]; exact hP9, va_K.moved hW.alike hK9, hD9⟩, hS.F ht⟩) hS.2.2 d_MO_cost_47

set_option maxHeartbeats 4000000 in
set_option maxRecDepth 100000 in
theorem c_MO_times (l : Launch) (dC : Nat → ClassId) (dI : Nat → Nat → Nat) (m0 : Nat) (f_text : Nat) (f_kinds : Nat) (f_places : Nat) (f_values : Nat) (f_draftLetters : Nat) (f_draftNumbers : Nat) (f_draftSigns : Nat) (f_letters : Nat) (f_numbers : Nat) (f_isList : Nat) (f_bounds : Nat) (f_sizes : Nat) (f_lists : Nat) (f_told : Nat) (f_costs : Nat) (f_times : Nat) (f_bestOne : Nat) (f_basis : Nat) (f_one : Nat) (f_along : Nat) (f_now : Nat) (th : Int32) (i : Int32) (sz : Nat) : Met l y_MO_times (Cond.code y_MO_times b_MO_times 2 (Option.some Jvm.ClassFile.FieldType.int) :: wd) { frames := 0, cells := 0, slots := 0, locals := 0 } (va_Pc [.ref m0, .int i] (fun U => U.heap.size = sz ∧ va_P (dC, dI) cls [(m0, .inr (9, [.int th, .ref f_text, .int 0, .int (-1), .ref f_kinds, .ref f_places, .ref f_values, .int 0, .ref f_draftLetters, .int 0, .int 0, .int 0, .ref f_draftNumbers, .ref f_draftSigns, .int 0, .int 0, .int 0, .int 0, .ref f_letters, .ref f_numbers, .ref f_isList, .ref f_bounds, .ref f_sizes, .ref f_lists, .ref f_told, .ref f_costs, .int 0, .ref f_times, .int 0, .ref f_bestOne, .ref f_basis, .int 0, .ref f_one, .int 0, .ref f_along, .ref f_now]))] U.heap ∧ va_K (dC, dI) cls [] U ∧ va_D (fun _ => True) [(m0, .inr (9, [.int th, .ref f_text, .int 0, .int (-1), .ref f_kinds, .ref f_places, .ref f_values, .int 0, .ref f_draftLetters, .int 0, .int 0, .int 0, .ref f_draftNumbers, .ref f_draftSigns, .int 0, .int 0, .int 0, .int 0, .ref f_letters, .ref f_numbers, .ref f_isList, .ref f_bounds, .ref f_sizes, .ref f_lists, .ref f_told, .ref f_costs, .int 0, .ref f_times, .int 0, .ref f_bestOne, .ref f_basis, .int 0, .ref f_one, .int 0, .ref f_along, .ref f_now]))] ∧ nw_ok U)) (va_Qi (fun r (_ : Unit) => r = (-1)) (fun (_ : Unit) t => va_P (dC, dI) cls [(m0, .inr (9, [.int 0, .ref f_text, .int 0, .int (-1), .ref f_kinds, .ref f_places, .ref f_values, .int 0, .ref f_draftLetters, .int 0, .int 0, .int 0, .ref f_draftNumbers, .ref f_draftSigns, .int 0, .int 0, .int 0, .int 0, .ref f_letters, .ref f_numbers, .ref f_isList, .ref f_bounds, .ref f_sizes, .ref f_lists, .ref f_told, .ref f_costs, .int 0, .ref f_times, .int 0, .ref f_bestOne, .ref f_basis, .int 0, .ref f_one, .int 0, .ref f_along, .ref f_now]))] t.heap ∧ va_K (dC, dI) cls [] t ∧ va_D (va_A [(m0, .inr (9, [.int th, .ref f_text, .int 0, .int (-1), .ref f_kinds, .ref f_places, .ref f_values, .int 0, .ref f_draftLetters, .int 0, .int 0, .int 0, .ref f_draftNumbers, .ref f_draftSigns, .int 0, .int 0, .int 0, .int 0, .ref f_letters, .ref f_numbers, .ref f_isList, .ref f_bounds, .ref f_sizes, .ref f_lists, .ref f_told, .ref f_costs, .int 0, .ref f_times, .int 0, .ref f_bestOne, .ref f_basis, .int 0, .ref f_one, .int 0, .ref f_along, .ref f_now]))] sz) [(m0, .inr (9, [.int 0, .ref f_text, .int 0, .int (-1), .ref f_kinds, .ref f_places, .ref f_values, .int 0, .ref f_draftLetters, .int 0, .int 0, .int 0, .ref f_draftNumbers, .ref f_draftSigns, .int 0, .int 0, .int 0, .int 0, .ref f_letters, .ref f_numbers, .ref f_isList, .ref f_bounds, .ref f_sizes, .ref f_lists, .ref f_told, .ref f_costs, .int 0, .ref f_times, .int 0, .ref f_bestOne, .ref f_basis, .int 0, .ref f_one, .int 0, .ref f_along, .ref f_now]))]) (va_A [(m0, .inr (9, [.int th, .ref f_text, .int 0, .int (-1), .ref f_kinds, .ref f_places, .ref f_values, .int 0, .ref f_draftLetters, .int 0, .int 0, .int 0, .ref f_draftNumbers, .ref f_draftSigns, .int 0, .int 0, .int 0, .int 0, .ref f_letters, .ref f_numbers, .ref f_isList, .ref f_bounds, .ref f_sizes, .ref f_lists, .ref f_told, .ref f_costs, .int 0, .ref f_times, .int 0, .ref f_bestOne, .ref f_basis, .int 0, .ref f_one, .int 0, .ref f_along, .ref f_now]))] sz)) 0 0 (va_A [(m0, .inr (9, [.int th, .ref f_text, .int 0, .int (-1), .ref f_kinds, .ref f_places, .ref f_values, .int 0, .ref f_draftLetters, .int 0, .int 0, .int 0, .ref f_draftNumbers, .ref f_draftSigns, .int 0, .int 0, .int 0, .int 0, .ref f_letters, .ref f_numbers, .ref f_isList, .ref f_bounds, .ref f_sizes, .ref f_lists, .ref f_told, .ref f_costs, .int 0, .ref f_times, .int 0, .ref f_bestOne, .ref f_basis, .int 0, .ref f_one, .int 0, .ref f_along, .ref f_now]))] sz) := by
  refine Met.ofW (cc := b_MO_times) (maxL := 2) (ret := (Option.some Jvm.ClassFile.FieldType.int)) (by decide) rfl ?_
  intro p e s m args below meth c s₁ B hml hv
  obtain ⟨rfl, hsz, hP, hK, hD0, hN⟩ := hv
  have hx := B.exec
  have hb := B.bytes
  have hr := B.returns
  have hlocks := B.notSynchronized
  have hts : ∀ w ∈ wd, w.before ([.ref m0, .int i] : List Value).toArray s = true := fun w hw => atoms_spec (ws := (Cond.code y_MO_times b_MO_times 2 (Option.some Jvm.ClassFile.FieldType.int) :: wd)) B.pre w (List.mem_cons_of_mem _ hw)
  have hown : s.vm.findClass "LeastSolutionsModel" = some m.cls := findClass_of_methodNamed B.named
  subst hsz
  have hD := hD0.self (sz := s.heap.size)
  generalize hAe : va_A [(m0, .inr (9, [.int th, .ref f_text, .int 0, .int (-1), .ref f_kinds, .ref f_places, .ref f_values, .int 0, .ref f_draftLetters, .int 0, .int 0, .int 0, .ref f_draftNumbers, .ref f_draftSigns, .int 0, .int 0, .int 0, .int 0, .ref f_letters, .ref f_numbers, .ref f_isList, .ref f_bounds, .ref f_sizes, .ref f_lists, .ref f_told, .ref f_costs, .int 0, .ref f_times, .int 0, .ref f_bestOne, .ref f_basis, .int 0, .ref f_one, .int 0, .ref f_along, .ref f_now]))] s.heap.size = A at hD ⊢
  have hA : ∀ q : Nat, s.heap.size ≤ q → A q := fun q h => by rw [← hAe]; exact Or.inr h
  have hS : va_S A s.heap s.heap [] := va_S.rf
  have hl := lv_entry ([.ref m0, .int i]) (n := 2) (Nat.le_of_ble_eq_true rfl)
  rw [lg_entry_eq]
  generalize (lg_sl ([.ref m0, .int i]) ++ List.replicate (2 - (lg_sl ([.ref m0, .int i])).length) Slot.unset).toArray = ls at hl ⊢
  have hl : lv_has ls 2 [(0, .ref m0), (1, .int i)] := hl
  refine lv_aload_n hx hb d_MO_times_0 rfl (lv_at hl 0 rfl) ?_
  refine lv_iconst (v := 0) hx hb d_MO_times_1 (by decide) ?_
  refine va_put (D := (dC, dI)) (ci := 9) (v := .int 0) (ty := .int) (C := R_MO) (T := T_MO) (N := 36) hx hb hts in_MO t_MO t_MO_ok n_MO hown hK hP hD hS 0 rfl rfl 0 (by decide) (hts _ k_886) (fun _ h9 => h9) rfl (by decide +kernel) rfl rfl (Nat.le_of_ble_eq_true rfl) d_MO_times_2 (fun H1 locs hP hD hS => ?_)
  have hP : va_P (dC, dI) cls [(m0, .inr (9, [.int 0, .ref f_text, .int 0, .int (-1), .ref f_kinds, .ref f_places, .ref f_values, .int 0, .ref f_draftLetters, .int 0, .int 0, .int 0, .ref f_draftNumbers, .ref f_draftSigns, .int 0, .int 0, .int 0, .int 0, .ref f_letters, .ref f_numbers, .ref f_isList, .ref f_bounds, .ref f_sizes, .ref f_lists, .ref f_told, .ref f_costs, .int 0, .ref f_times, .int 0, .ref f_bestOne, .ref f_basis, .int 0, .ref f_one, .int 0, .ref f_along, .ref f_now]))] H1 := hP
  have hD : va_D A [(m0, .inr (9, [.int 0, .ref f_text, .int 0, .int (-1), .ref f_kinds, .ref f_places, .ref f_values, .int 0, .ref f_draftLetters, .int 0, .int 0, .int 0, .ref f_draftNumbers, .ref f_draftSigns, .int 0, .int 0, .int 0, .int 0, .ref f_letters, .ref f_numbers, .ref f_isList, .ref f_bounds, .ref f_sizes, .ref f_lists, .ref f_told, .ref f_costs, .int 0, .ref f_times, .int 0, .ref f_bestOne, .ref f_basis, .int 0, .ref f_one, .int 0, .ref f_along, .ref f_now]))] := hD
  refine lv_aload_n hx hb d_MO_times_5 rfl (lv_at hl 0 rfl) ?_
  refine va_get (D := (dC, dI)) (ci := 9) (v := .int 0) (C := R_MO) (T := T_MO) (N := 36) hx hb hts in_MO hown hK hP 0 rfl rfl 26 (by decide) (hts _ k_912) (fun _ h9 => h9) rfl d_MO_times_6 ?_
  refine lv_if_eq (tgt := 35) hx hb d_MO_times_9 (by decide) (fun _ => ?_) (fun h9 => absurd (by decide) h9)
  refine lv_iconst (v := (-1)) hx hb d_MO_times_35 (by decide) ?_
  have hP9 := hP.sub (ws' := [(m0, .inr (9, [.int 0, .ref f_text, .int 0, .int (-1), .ref f_kinds, .ref f_places, .ref f_values, .int 0, .ref f_draftLetters, .int 0, .int 0, .int 0, .ref f_draftNumbers, .ref f_draftSigns, .int 0, .int 0, .int 0, .int 0, .ref f_letters, .ref f_numbers, .ref f_isList, .ref f_bounds, .ref f_sizes, .ref f_lists, .ref f_told, .ref f_costs, .int 0, .ref f_times, .int 0, .ref f_bestOne, .ref f_basis, .int 0, .ref f_one, .int 0, .ref f_along, .ref f_now]))]) [0] rfl
  have hD9 := hD.sub (ws' := [(m0, .inr (9, [.int 0, .ref f_text, .int 0, .int (-1), .ref f_kinds, .ref f_places, .ref f_values, .int 0, .ref f_draftLetters, .int 0, .int 0, .int 0, .ref f_draftNumbers, .ref f_draftSigns, .int 0, .int 0, .int 0, .int 0, .ref f_letters, .ref f_numbers, .ref f_isList, .ref f_bounds, .ref f_sizes, .ref f_lists, .ref f_told, .ref f_costs, .int 0, .ref f_times, .int 0, .ref f_bestOne, .ref f_basis, .int 0, .ref f_one, .int 0, .ref f_along, .ref f_now]))]) [0] (by decide) rfl
  have hK9 := hK.sub (tys' := []) [] rfl
  exact W.iret (v := (-1)) hx hb hr (fun t ht hW => ⟨⟨(-1), (), rfl, rfl, by rw [ht]; exact hP9, va_K.moved hW.alike hK9, hD9⟩, hS.F ht⟩) hS.2.2 d_MO_times_36

set_option maxHeartbeats 4000000 in
set_option maxRecDepth 100000 in
theorem c_MO_bestAt (l : Launch) (dC : Nat → ClassId) (dI : Nat → Nat → Nat) (m0 : Nat) (f_text : Nat) (f_kinds : Nat) (f_places : Nat) (f_values : Nat) (f_draftLetters : Nat) (f_draftNumbers : Nat) (f_draftSigns : Nat) (f_letters : Nat) (f_numbers : Nat) (f_isList : Nat) (f_bounds : Nat) (f_sizes : Nat) (f_lists : Nat) (f_told : Nat) (f_costs : Nat) (f_times : Nat) (f_bestOne : Nat) (f_basis : Nat) (f_one : Nat) (f_along : Nat) (f_now : Nat) (th : Int32) (column : Int32) (sz : Nat) : Met l y_MO_bestAt (Cond.code y_MO_bestAt b_MO_bestAt 2 (Option.some Jvm.ClassFile.FieldType.int) :: wd) { frames := 0, cells := 0, slots := 0, locals := 0 } (va_Pc [.ref m0, .int column] (fun U => U.heap.size = sz ∧ va_P (dC, dI) cls [(m0, .inr (9, [.int th, .ref f_text, .int 0, .int (-1), .ref f_kinds, .ref f_places, .ref f_values, .int 0, .ref f_draftLetters, .int 0, .int 0, .int 0, .ref f_draftNumbers, .ref f_draftSigns, .int 0, .int 0, .int 0, .int 0, .ref f_letters, .ref f_numbers, .ref f_isList, .ref f_bounds, .ref f_sizes, .ref f_lists, .ref f_told, .ref f_costs, .int 0, .ref f_times, .int 0, .ref f_bestOne, .ref f_basis, .int 0, .ref f_one, .int 0, .ref f_along, .ref f_now]))] U.heap ∧ va_K (dC, dI) cls [] U ∧ va_D (fun _ => True) [(m0, .inr (9, [.int th, .ref f_text, .int 0, .int (-1), .ref f_kinds, .ref f_places, .ref f_values, .int 0, .ref f_draftLetters, .int 0, .int 0, .int 0, .ref f_draftNumbers, .ref f_draftSigns, .int 0, .int 0, .int 0, .int 0, .ref f_letters, .ref f_numbers, .ref f_isList, .ref f_bounds, .ref f_sizes, .ref f_lists, .ref f_told, .ref f_costs, .int 0, .ref f_times, .int 0, .ref f_bestOne, .ref f_basis, .int 0, .ref f_one, .int 0, .ref f_along, .ref f_now]))] ∧ nw_ok U)) (va_Qi (fun r (_ : Unit) => r = (-1)) (fun (_ : Unit) t => va_P (dC, dI) cls [(m0, .inr (9, [.int 0, .ref f_text, .int 0, .int (-1), .ref f_kinds, .ref f_places, .ref f_values, .int 0, .ref f_draftLetters, .int 0, .int 0, .int 0, .ref f_draftNumbers, .ref f_draftSigns, .int 0, .int 0, .int 0, .int 0, .ref f_letters, .ref f_numbers, .ref f_isList, .ref f_bounds, .ref f_sizes, .ref f_lists, .ref f_told, .ref f_costs, .int 0, .ref f_times, .int 0, .ref f_bestOne, .ref f_basis, .int 0, .ref f_one, .int 0, .ref f_along, .ref f_now]))] t.heap ∧ va_K (dC, dI) cls [] t ∧ va_D (va_A [(m0, .inr (9, [.int th, .ref f_text, .int 0, .int (-1), .ref f_kinds, .ref f_places, .ref f_values, .int 0, .ref f_draftLetters, .int 0, .int 0, .int 0, .ref f_draftNumbers, .ref f_draftSigns, .int 0, .int 0, .int 0, .int 0, .ref f_letters, .ref f_numbers, .ref f_isList, .ref f_bounds, .ref f_sizes, .ref f_lists, .ref f_told, .ref f_costs, .int 0, .ref f_times, .int 0, .ref f_bestOne, .ref f_basis, .int 0, .ref f_one, .int 0, .ref f_along, .ref f_now]))] sz) [(m0, .inr (9, [.int 0, .ref f_text, .int 0, .int (-1), .ref f_kinds, .ref f_places, .ref f_values, .int 0, .ref f_draftLetters, .int 0, .int 0, .int 0, .ref f_draftNumbers, .ref f_draftSigns, .int 0, .int 0, .int 0, .int 0, .ref f_letters, .ref f_numbers, .ref f_isList, .ref f_bounds, .ref f_sizes, .ref f_lists, .ref f_told, .ref f_costs, .int 0, .ref f_times, .int 0, .ref f_bestOne, .ref f_basis, .int 0, .ref f_one, .int 0, .ref f_along, .ref f_now]))]) (va_A [(m0, .inr (9, [.int th, .ref f_text, .int 0, .int (-1), .ref f_kinds, .ref f_places, .ref f_values, .int 0, .ref f_draftLetters, .int 0, .int 0, .int 0, .ref f_draftNumbers, .ref f_draftSigns, .int 0, .int 0, .int 0, .int 0, .ref f_letters, .ref f_numbers, .ref f_isList, .ref f_bounds, .ref f_sizes, .ref f_lists, .ref f_told, .ref f_costs, .int 0, .ref f_times, .int 0, .ref f_bestOne, .ref f_basis, .int 0, .ref f_one, .int 0, .ref f_along, .ref f_now]))] sz)) 0 0 (va_A [(m0, .inr (9, [.int th, .ref f_text, .int 0, .int (-1), .ref f_kinds, .ref f_places, .ref f_values, .int 0, .ref f_draftLetters, .int 0, .int 0, .int 0, .ref f_draftNumbers, .ref f_draftSigns, .int 0, .int 0, .int 0, .int 0, .ref f_letters, .ref f_numbers, .ref f_isList, .ref f_bounds, .ref f_sizes, .ref f_lists, .ref f_told, .ref f_costs, .int 0, .ref f_times, .int 0, .ref f_bestOne, .ref f_basis, .int 0, .ref f_one, .int 0, .ref f_along, .ref f_now]))] sz) := by
  refine Met.ofW (cc := b_MO_bestAt) (maxL := 2) (ret := (Option.some Jvm.ClassFile.FieldType.int)) (by decide) rfl ?_
  intro p e s m args below meth c s₁ B hml hv
  obtain ⟨rfl, hsz, hP, hK, hD0, hN⟩ := hv
  have hx := B.exec
  have hb := B.bytes
  have hr := B.returns
  have hlocks := B.notSynchronized
  have hts : ∀ w ∈ wd, w.before ([.ref m0, .int column] : List Value).toArray s = true := fun w hw => atoms_spec (ws := (Cond.code y_MO_bestAt b_MO_bestAt 2 (Option.some Jvm.ClassFile.FieldType.int) :: wd)) B.pre w (List.mem_cons_of_mem _ hw)
  have hown : s.vm.findClass "LeastSolutionsModel" = some m.cls := findClass_of_methodNamed B.named
  subst hsz
  have hD := hD0.self (sz := s.heap.size)
  generalize hAe : va_A [(m0, .inr (9, [.int th, .ref f_text, .int 0, .int (-1), .ref f_kinds, .ref f_places, .ref f_values, .int 0, .ref f_draftLetters, .int 0, .int 0, .int 0, .ref f_draftNumbers, .ref f_draftSigns, .int 0, .int 0, .int 0, .int 0, .ref f_letters, .ref f_numbers, .ref f_isList, .ref f_bounds, .ref f_sizes, .ref f_lists, .ref f_told, .ref f_costs, .int 0, .ref f_times, .int 0, .ref f_bestOne, .ref f_basis, .int 0, .ref f_one, .int 0, .ref f_along, .ref f_now]))] s.heap.size = A at hD ⊢
  have hA : ∀ q : Nat, s.heap.size ≤ q → A q := fun q h => by rw [← hAe]; exact Or.inr h
  have hS : va_S A s.heap s.heap [] := va_S.rf
  have hl := lv_entry ([.ref m0, .int column]) (n := 2) (Nat.le_of_ble_eq_true rfl)
  rw [lg_entry_eq]
  generalize (lg_sl ([.ref m0, .int column]) ++ List.replicate (2 - (lg_sl ([.ref m0, .int column])).length) Slot.unset).toArray = ls at hl ⊢
  have hl : lv_has ls 2 [(0, .ref m0), (1, .int column)] := hl
  refine lv_aload_n hx hb d_MO_bestAt_0 rfl (lv_at hl 0 rfl) ?_
  refine lv_iconst (v := 0) hx hb d_MO_bestAt_1 (by decide) ?_
  refine va_put (D := (dC, dI)) (ci := 9) (v := .int 0) (ty := .int) (C := R_MO) (T := T_MO) (N := 36) hx hb hts in_MO t_MO t_MO_ok n_MO hown hK hP hD hS 0 rfl rfl 0 (by decide) (hts _ k_886) (fun _ h9 => h9) rfl (by decide +kernel) rfl rfl (Nat.le_of_ble_eq_true rfl) d_MO_bestAt_2 (fun H1 locs hP hD hS => ?_)
  have hP : va_P (dC, dI) cls [(m0, .inr (9, [.int 0, .ref f_text, .int 0, .int (-1), .ref f_kinds, .ref f_places, .ref f_values, .int 0, .ref f_draftLetters, .int 0, .int 0, .int 0, .ref f_draftNumbers, .ref f_draftSigns, .int 0, .int 0, .int 0, .int 0, .ref f_letters, .ref f_numbers, .ref f_isList, .ref f_bounds, .ref f_sizes, .ref f_lists, .ref f_told, .ref f_costs, .int 0, .ref f_times, .int 0, .ref f_bestOne, .ref f_basis, .int 0, .ref f_one, .int 0, .ref f_along, .ref f_now]))] H1 := hP
  have hD : va_D A [(m0, .inr (9, [.int 0, .ref f_text, .int 0, .int (-1), .ref f_kinds, .ref f_places, .ref f_values, .int 0, .ref f_draftLetters, .int 0, .int 0, .int 0, .ref f_draftNumbers, .ref f_draftSigns, .int 0, .int 0, .int 0, .int 0, .ref f_letters, .ref f_numbers, .ref f_isList, .ref f_bounds, .ref f_sizes, .ref f_lists, .ref f_told, .ref f_costs, .int 0, .ref f_times, .int 0, .ref f_bestOne, .ref f_basis, .int 0, .ref f_one, .int 0, .ref f_along, .ref f_now]))] := hD
  refine lv_aload_n hx hb d_MO_bestAt_5 rfl (lv_at hl 0 rfl) ?_
  refine va_get (D := (dC, dI)) (ci := 9) (v := .int 0) (C := R_MO) (T := T_MO) (N := 36) hx hb hts in_MO hown hK hP 0 rfl rfl 28 (by decide) (hts _ k_914) (fun _ h9 => h9) rfl d_MO_bestAt_6 ?_
  refine lv_if_eq (tgt := 29) hx hb d_MO_bestAt_9 (by decide) (fun _ => ?_) (fun h9 => absurd (by decide) h9)
  refine lv_iconst (v := (-1)) hx hb d_MO_bestAt_29 (by decide) ?_
  have hP9 := hP.sub (ws' := [(m0, .inr (9, [.int 0, .ref f_text, .int 0, .int (-1), .ref f_kinds, .ref f_places, .ref f_values, .int 0, .ref f_draftLetters, .int 0, .int 0, .int 0, .ref f_draftNumbers, .ref f_draftSigns, .int 0, .int 0, .int 0, .int 0, .ref f_letters, .ref f_numbers, .ref f_isList, .ref f_bounds, .ref f_sizes, .ref f_lists, .ref f_told, .ref f_costs, .int 0, .ref f_times, .int 0, .ref f_bestOne, .ref f_basis, .int 0, .ref f_one, .int 0, .ref f_along, .ref f_now]))]) [0] rfl
  have hD9 := hD.sub (ws' := [(m0, .inr (9, [.int 0, .ref f_text, .int 0, .int (-1), .ref f_kinds, .ref f_places, .ref f_values, .int 0, .ref f_draftLetters, .int 0, .int 0, .int 0, .ref f_draftNumbers, .ref f_draftSigns, .int 0, .int 0, .int 0, .int 0, .ref f_letters, .ref f_numbers, .ref f_isList, .ref f_bounds, .ref f_sizes, .ref f_lists, .ref f_told, .ref f_costs, .int 0, .ref f_times, .int 0, .ref f_bestOne, .ref f_basis, .int 0, .ref f_one, .int 0, .ref f_along, .ref f_now]))]) [0] (by decide) rfl
  have hK9 := hK.sub (tys' := []) [] rfl
  exact W.iret (v := (-1)) hx hb hr (fun t ht hW => ⟨⟨(-1), (), rfl, rfl, by rw [ht]; exact hP9, va_K.moved hW.alike hK9, hD9⟩, hS.F ht⟩) hS.2.2 d_MO_bestAt_30

set_option maxHeartbeats 4000000 in
set_option maxRecDepth 100000 in
theorem c_MO_best_1 (l : Launch) (dC : Nat → ClassId) (dI : Nat → Nat → Nat) (m0 : Nat) (f_text : Nat) (f_kinds : Nat) (f_places : Nat) (f_values : Nat) (f_draftLetters : Nat) (f_draftNumbers : Nat) (f_draftSigns : Nat) (f_letters : Nat) (f_numbers : Nat) (f_isList : Nat) (f_bounds : Nat) (f_sizes : Nat) (f_lists : Nat) (f_told : Nat) (f_costs : Nat) (f_times : Nat) (f_bestOne : Nat) (f_basis : Nat) (f_one : Nat) (f_along : Nat) (f_now : Nat) (th : Int32) (bound : Int32) (sz : Nat) (g0 : bound < 0 ∨ 16 < bound) : Met l y_MO_best (Cond.code y_MO_best b_MO_best 8 (Option.some Jvm.ClassFile.FieldType.int) :: wd) { frames := 0, cells := 0, slots := 0, locals := 0 } (va_Pc [.ref m0, .int bound] (fun U => U.heap.size = sz ∧ va_P (dC, dI) cls [(m0, .inr (9, [.int th, .ref f_text, .int 0, .int (-1), .ref f_kinds, .ref f_places, .ref f_values, .int 0, .ref f_draftLetters, .int 0, .int 0, .int 0, .ref f_draftNumbers, .ref f_draftSigns, .int 0, .int 0, .int 0, .int 0, .ref f_letters, .ref f_numbers, .ref f_isList, .ref f_bounds, .ref f_sizes, .ref f_lists, .ref f_told, .ref f_costs, .int 0, .ref f_times, .int 0, .ref f_bestOne, .ref f_basis, .int 0, .ref f_one, .int 0, .ref f_along, .ref f_now]))] U.heap ∧ va_K (dC, dI) cls [] U ∧ va_D (fun _ => True) [(m0, .inr (9, [.int th, .ref f_text, .int 0, .int (-1), .ref f_kinds, .ref f_places, .ref f_values, .int 0, .ref f_draftLetters, .int 0, .int 0, .int 0, .ref f_draftNumbers, .ref f_draftSigns, .int 0, .int 0, .int 0, .int 0, .ref f_letters, .ref f_numbers, .ref f_isList, .ref f_bounds, .ref f_sizes, .ref f_lists, .ref f_told, .ref f_costs, .int 0, .ref f_times, .int 0, .ref f_bestOne, .ref f_basis, .int 0, .ref f_one, .int 0, .ref f_along, .ref f_now]))] ∧ nw_ok U)) (va_Qi (fun r (_ : Unit) => r = 0) (fun (_ : Unit) t => va_P (dC, dI) cls [(m0, .inr (9, [.int 1, .ref f_text, .int 0, .int (-1), .ref f_kinds, .ref f_places, .ref f_values, .int 0, .ref f_draftLetters, .int 0, .int 0, .int 0, .ref f_draftNumbers, .ref f_draftSigns, .int 0, .int 0, .int 0, .int 0, .ref f_letters, .ref f_numbers, .ref f_isList, .ref f_bounds, .ref f_sizes, .ref f_lists, .ref f_told, .ref f_costs, .int 0, .ref f_times, .int 0, .ref f_bestOne, .ref f_basis, .int 0, .ref f_one, .int 0, .ref f_along, .ref f_now]))] t.heap ∧ va_K (dC, dI) cls [] t ∧ va_D (va_A [(m0, .inr (9, [.int th, .ref f_text, .int 0, .int (-1), .ref f_kinds, .ref f_places, .ref f_values, .int 0, .ref f_draftLetters, .int 0, .int 0, .int 0, .ref f_draftNumbers, .ref f_draftSigns, .int 0, .int 0, .int 0, .int 0, .ref f_letters, .ref f_numbers, .ref f_isList, .ref f_bounds, .ref f_sizes, .ref f_lists, .ref f_told, .ref f_costs, .int 0, .ref f_times, .int 0, .ref f_bestOne, .ref f_basis, .int 0, .ref f_one, .int 0, .ref f_along, .ref f_now]))] sz) [(m0, .inr (9, [.int 1, .ref f_text, .int 0, .int (-1), .ref f_kinds, .ref f_places, .ref f_values, .int 0, .ref f_draftLetters, .int 0, .int 0, .int 0, .ref f_draftNumbers, .ref f_draftSigns, .int 0, .int 0, .int 0, .int 0, .ref f_letters, .ref f_numbers, .ref f_isList, .ref f_bounds, .ref f_sizes, .ref f_lists, .ref f_told, .ref f_costs, .int 0, .ref f_times, .int 0, .ref f_bestOne, .ref f_basis, .int 0, .ref f_one, .int 0, .ref f_along, .ref f_now]))]) (va_A [(m0, .inr (9, [.int th, .ref f_text, .int 0, .int (-1), .ref f_kinds, .ref f_places, .ref f_values, .int 0, .ref f_draftLetters, .int 0, .int 0, .int 0, .ref f_draftNumbers, .ref f_draftSigns, .int 0, .int 0, .int 0, .int 0, .ref f_letters, .ref f_numbers, .ref f_isList, .ref f_bounds, .ref f_sizes, .ref f_lists, .ref f_told, .ref f_costs, .int 0, .ref f_times, .int 0, .ref f_bestOne, .ref f_basis, .int 0, .ref f_one, .int 0, .ref f_along, .ref f_now]))] sz)) 0 0 (va_A [(m0, .inr (9, [.int th, .ref f_text, .int 0, .int (-1), .ref f_kinds, .ref f_places, .ref f_values, .int 0, .ref f_draftLetters, .int 0, .int 0, .int 0, .ref f_draftNumbers, .ref f_draftSigns, .int 0, .int 0, .int 0, .int 0, .ref f_letters, .ref f_numbers, .ref f_isList, .ref f_bounds, .ref f_sizes, .ref f_lists, .ref f_told, .ref f_costs, .int 0, .ref f_times, .int 0, .ref f_bestOne, .ref f_basis, .int 0, .ref f_one, .int 0, .ref f_along, .ref f_now]))] sz) := by
  refine Met.ofW (cc := b_MO_best) (maxL := 8) (ret := (Option.some Jvm.ClassFile.FieldType.int)) (by decide) rfl ?_
  intro p e s m args below meth c s₁ B hml hv
  obtain ⟨rfl, hsz, hP, hK, hD0, hN⟩ := hv
  have hx := B.exec
  have hb := B.bytes
  have hr := B.returns
  have hlocks := B.notSynchronized
  have hts : ∀ w ∈ wd, w.before ([.ref m0, .int bound] : List Value).toArray s = true := fun w hw => atoms_spec (ws := (Cond.code y_MO_best b_MO_best 8 (Option.some Jvm.ClassFile.FieldType.int) :: wd)) B.pre w (List.mem_cons_of_mem _ hw)
  have hown : s.vm.findClass "LeastSolutionsModel" = some m.cls := findClass_of_methodNamed B.named
  subst hsz
  have hD := hD0.self (sz := s.heap.size)
  generalize hAe : va_A [(m0, .inr (9, [.int th, .ref f_text, .int 0, .int (-1), .ref f_kinds, .ref f_places, .ref f_values, .int 0, .ref f_draftLetters, .int 0, .int 0, .int 0, .ref f_draftNumbers, .ref f_draftSigns, .int 0, .int 0, .int 0, .int 0, .ref f_letters, .ref f_numbers, .ref f_isList, .ref f_bounds, .ref f_sizes, .ref f_lists, .ref f_told, .ref f_costs, .int 0, .ref f_times, .int 0, .ref f_bestOne, .ref f_basis, .int 0, .ref f_one, .int 0, .ref f_along, .ref f_now]))] s.heap.size = A at hD ⊢
  have hA : ∀ q : Nat, s.heap.size ≤ q → A q := fun q h => by rw [← hAe]; exact Or.inr h
  have hS : va_S A s.heap s.heap [] := va_S.rf
  have hl := lv_entry ([.ref m0, .int bound]) (n := 8) (Nat.le_of_ble_eq_true rfl)
  rw [lg_entry_eq]
  generalize (lg_sl ([.ref m0, .int bound]) ++ List.replicate (8 - (lg_sl ([.ref m0, .int bound])).length) Slot.unset).toArray = ls at hl ⊢
  have hl : lv_has ls 8 [(0, .ref m0), (1, .int bound)] := hl
  refine lv_aload_n hx hb d_MO_best_0 rfl (lv_at hl 0 rfl) ?_
  refine lv_iload_n hx hb d_MO_best_1 rfl (lv_at hl 1 rfl) ?_
  refine lv_if_lt (tgt := 11) hx hb d_MO_best_2 (by decide) (fun hc1 => ?_) (fun hc1 => ?_)
  · refine lv_iconst (v := 1) hx hb d_MO_best_11 (by decide) ?_
    refine lv_goto (tgt := 27) hx hb d_MO_best_12 (by decide) ?_
    refine va_put (D := (dC, dI)) (ci := 9) (v := .int 1) (ty := .int) (C := R_MO) (T := T_MO) (N := 36) hx hb hts in_MO t_MO t_MO_ok n_MO hown hK hP hD hS 0 rfl rfl 0 (by decide) (hts _ k_886) (fun _ h9 => h9) rfl (by decide +kernel) rfl rfl (Nat.le_of_ble_eq_true rfl) d_MO_best_27 (fun H1 locs hP hD hS => ?_)
    have hP : va_P (dC, dI) cls [(m0, .inr (9, [.int 1, .ref f_text, .int 0, .int (-1), .ref f_kinds, .ref f_places, .ref f_values, .int 0, .ref f_draftLetters, .int 0, .int 0, .int 0, .ref f_draftNumbers, .ref f_draftSigns, .int 0, .int 0, .int 0, .int 0, .ref f_letters, .ref f_numbers, .ref f_isList, .ref f_bounds, .ref f_sizes, .ref f_lists, .ref f_told, .ref f_costs, .int 0, .ref f_times, .int 0, .ref f_bestOne, .ref f_basis, .int 0, .ref f_one, .int 0, .ref f_along, .ref f_now]))] H1 := hP
    have hD : va_D A [(m0, .inr (9, [.int 1, .ref f_text, .int 0, .int (-1), .ref f_kinds, .ref f_places, .ref f_values, .int 0, .ref f_draftLetters, .int 0, .int 0, .int 0, .ref f_draftNumbers, .ref f_draftSigns, .int 0, .int 0, .int 0, .int 0, .ref f_letters, .ref f_numbers, .ref f_isList, .ref f_bounds, .ref f_sizes, .ref f_lists, .ref f_told, .ref f_costs, .int 0, .ref f_times, .int 0, .ref f_bestOne, .ref f_basis, .int 0, .ref f_one, .int 0, .ref f_along, .ref f_now]))] := hD
    refine lv_aload_n hx hb d_MO_best_30 rfl (lv_at hl 0 rfl) ?_
    refine va_get (D := (dC, dI)) (ci := 9) (v := .int 1) (C := R_MO) (T := T_MO) (N := 36) hx hb hts in_MO hown hK hP 0 rfl rfl 0 (by decide) (hts _ k_886) (fun _ h9 => h9) rfl d_MO_best_31 ?_
    refine lv_if_le (tgt := 39) hx hb d_MO_best_34 (by decide) (fun h9 => absurd h9 (by decide)) (fun _ => ?_)
    refine lv_iconst (v := 0) hx hb d_MO_best_37 (by decide) ?_
    have hP9 := hP.sub (ws' := [(m0, .inr (9, [.int 1, .ref f_text, .int 0, .int (-1), .ref f_kinds, .ref f_places, .ref f_values, .int 0, .ref f_draftLetters, .int 0, .int 0, .int 0, .ref f_draftNumbers, .ref f_draftSigns, .int 0, .int 0, .int 0, .int 0, .ref f_letters, .ref f_numbers, .ref f_isList, .ref f_bounds, .ref f_sizes, .ref f_lists, .ref f_told, .ref f_costs, .int 0, .ref f_times, .int 0, .ref f_bestOne, .ref f_basis, .int 0, .ref f_one, .int 0, .ref f_along, .ref f_now]))]) [0] rfl
    have hD9 := hD.sub (ws' := [(m0, .inr (9, [.int 1, .ref f_text, .int 0, .int (-1), .ref f_kinds, .ref f_places, .ref f_values, .int 0, .ref f_draftLetters, .int 0, .int 0, .int 0, .ref f_draftNumbers, .ref f_draftSigns, .int 0, .int 0, .int 0, .int 0, .ref f_letters, .ref f_numbers, .ref f_isList, .ref f_bounds, .ref f_sizes, .ref f_lists, .ref f_told, .ref f_costs, .int 0, .ref f_times, .int 0, .ref f_bestOne, .ref f_basis, .int 0, .ref f_one, .int 0, .ref f_along, .ref f_now]))]) [0] (by decide) rfl
    have hK9 := hK.sub (tys' := []) [] rfl
    exact W.iret (v := 0) hx hb hr (fun t ht hW => ⟨⟨0, (), rfl, rfl, by rw [ht]; exact hP9, va_K.moved hW.alike hK9, hD9⟩, hS.F ht⟩) hS.2.2 d_MO_best_38
  · refine lv_iload_n hx hb d_MO_best_5 rfl (lv_at hl 1 rfl) ?_
    refine lv_bipush (v := 16) hx hb d_MO_best_6 (by decide) ?_
    refine lv_icmp_le (tgt := 15) hx hb d_MO_best_8 (by decide) (fun h9 => absurd h9 (Int32.not_le.mpr (g0.resolve_left hc1))) (fun _ => ?_)
    refine lv_iconst (v := 1) hx hb d_MO_best_11 (by decide) ?_
    refine lv_goto (tgt := 27) hx hb d_MO_best_12 (by decide) ?_
    refine va_put (D := (dC, dI)) (ci := 9) (v := .int 1) (ty := .int) (C := R_MO) (T := T_MO) (N := 36) hx hb hts in_MO t_MO t_MO_ok n_MO hown hK hP hD hS 0 rfl rfl 0 (by decide) (hts _ k_886) (fun _ h9 => h9) rfl (by decide +kernel) rfl rfl (Nat.le_of_ble_eq_true rfl) d_MO_best_27 (fun H2 locs hP hD hS => ?_)
    have hP : va_P (dC, dI) cls [(m0, .inr (9, [.int 1, .ref f_text, .int 0, .int (-1), .ref f_kinds, .ref f_places, .ref f_values, .int 0, .ref f_draftLetters, .int 0, .int 0, .int 0, .ref f_draftNumbers, .ref f_draftSigns, .int 0, .int 0, .int 0, .int 0, .ref f_letters, .ref f_numbers, .ref f_isList, .ref f_bounds, .ref f_sizes, .ref f_lists, .ref f_told, .ref f_costs, .int 0, .ref f_times, .int 0, .ref f_bestOne, .ref f_basis, .int 0, .ref f_one, .int 0, .ref f_along, .ref f_now]))] H2 := hP
    have hD : va_D A [(m0, .inr (9, [.int 1, .ref f_text, .int 0, .int (-1), .ref f_kinds, .ref f_places, .ref f_values, .int 0, .ref f_draftLetters, .int 0, .int 0, .int 0, .ref f_draftNumbers, .ref f_draftSigns, .int 0, .int 0, .int 0, .int 0, .ref f_letters, .ref f_numbers, .ref f_isList, .ref f_bounds, .ref f_sizes, .ref f_lists, .ref f_told, .ref f_costs, .int 0, .ref f_times, .int 0, .ref f_bestOne, .ref f_basis, .int 0, .ref f_one, .int 0, .ref f_along, .ref f_now]))] := hD
    refine lv_aload_n hx hb d_MO_best_30 rfl (lv_at hl 0 rfl) ?_
    refine va_get (D := (dC, dI)) (ci := 9) (v := .int 1) (C := R_MO) (T := T_MO) (N := 36) hx hb hts in_MO hown hK hP 0 rfl rfl 0 (by decide) (hts _ k_886) (fun _ h9 => h9) rfl d_MO_best_31 ?_
    refine lv_if_le (tgt := 39) hx hb d_MO_best_34 (by decide) (fun h9 => absurd h9 (by decide)) (fun _ => ?_)
    refine lv_iconst (v := 0) hx hb d_MO_best_37 (by decide) ?_
    have hP9 := hP.sub (ws' := [(m0, .inr (9, [.int 1, .ref f_text, .int 0, .int (-1), .ref f_kinds, .ref f_places, .ref f_values, .int 0, .ref f_draftLetters, .int 0, .int 0, .int 0, .ref f_draftNumbers, .ref f_draftSigns, .int 0, .int 0, .int 0, .int 0, .ref f_letters, .ref f_numbers, .ref f_isList, .ref f_bounds, .ref f_sizes, .ref f_lists, .ref f_told, .ref f_costs, .int 0, .ref f_times, .int 0, .ref f_bestOne, .ref f_basis, .int 0, .ref f_one, .int 0, .ref f_along, .ref f_now]))]) [0] rfl
    have hD9 := hD.sub (ws' := [(m0, .inr (9, [.int 1, .ref f_text, .int 0, .int (-1), .ref f_kinds, .ref f_places, .ref f_values, .int 0, .ref f_draftLetters, .int 0, .int 0, .int 0, .ref f_draftNumbers, .ref f_draftSigns, .int 0, .int 0, .int 0, .int 0, .ref f_letters, .ref f_numbers, .ref f_isList, .ref f_bounds, .ref f_sizes, .ref f_lists, .ref f_told, .ref f_costs, .int 0, .ref f_times, .int 0, .ref f_bestOne, .ref f_basis, .int 0, .ref f_one, .int 0, .ref f_along, .ref f_now]))]) [0] (by decide) rfl
    have hK9 := hK.sub (tys' := []) [] rfl
    exact W.iret (v := 0) hx hb hr (fun t ht hW => ⟨⟨0, (), rfl, rfl, by rw [ht]; exact hP9, va_K.moved hW.alike hK9, hD9⟩, hS.F ht⟩) hS.2.2 d_MO_best_38

set_option maxHeartbeats 4000000 in
set_option maxRecDepth 100000 in
theorem c_MO_best_2 (l : Launch) (dC : Nat → ClassId) (dI : Nat → Nat → Nat) (m0 : Nat) (f_text : Nat) (f_kinds : Nat) (f_places : Nat) (f_values : Nat) (f_draftLetters : Nat) (f_draftNumbers : Nat) (f_draftSigns : Nat) (f_letters : Nat) (f_numbers : Nat) (f_isList : Nat) (f_bounds : Nat) (f_sizes : Nat) (f_lists : Nat) (f_told : Nat) (f_costs : Nat) (f_times : Nat) (f_bestOne : Nat) (f_basis : Nat) (f_one : Nat) (f_along : Nat) (f_now : Nat) (th : Int32) (bound : Int32) (sz : Nat) (g1 : ¬ bound < 0) (g2 : ¬ 16 < bound) : Met l y_MO_best (Cond.code y_MO_best b_MO_best 8 (Option.some Jvm.ClassFile.FieldType.int) :: wd) { frames := 0, cells := 0, slots := 0, locals := 0 } (va_Pc [.ref m0, .int bound] (fun U => U.heap.size = sz ∧ va_P (dC, dI) cls [(m0, .inr (9, [.int th, .ref f_text, .int 0, .int (-1), .ref f_kinds, .ref f_places, .ref f_values, .int 0, .ref f_draftLetters, .int 0, .int 0, .int 0, .ref f_draftNumbers, .ref f_draftSigns, .int 0, .int 0, .int 0, .int 0, .ref f_letters, .ref f_numbers, .ref f_isList, .ref f_bounds, .ref f_sizes, .ref f_lists, .ref f_told, .ref f_costs, .int 0, .ref f_times, .int 0, .ref f_bestOne, .ref f_basis, .int 0, .ref f_one, .int 0, .ref f_along, .ref f_now]))] U.heap ∧ va_K (dC, dI) cls [] U ∧ va_D (fun _ => True) [(m0, .inr (9, [.int th, .ref f_text, .int 0, .int (-1), .ref f_kinds, .ref f_places, .ref f_values, .int 0, .ref f_draftLetters, .int 0, .int 0, .int 0, .ref f_draftNumbers, .ref f_draftSigns, .int 0, .int 0, .int 0, .int 0, .ref f_letters, .ref f_numbers, .ref f_isList, .ref f_bounds, .ref f_sizes, .ref f_lists, .ref f_told, .ref f_costs, .int 0, .ref f_times, .int 0, .ref f_bestOne, .ref f_basis, .int 0, .ref f_one, .int 0, .ref f_along, .ref f_now]))] ∧ nw_ok U)) (va_Qi (fun r (_ : Unit) => r = 0) (fun (_ : Unit) t => va_P (dC, dI) cls [(m0, .inr (9, [.int 2, .ref f_text, .int 0, .int (-1), .ref f_kinds, .ref f_places, .ref f_values, .int 0, .ref f_draftLetters, .int 0, .int 0, .int 0, .ref f_draftNumbers, .ref f_draftSigns, .int 0, .int 0, .int 0, .int 0, .ref f_letters, .ref f_numbers, .ref f_isList, .ref f_bounds, .ref f_sizes, .ref f_lists, .ref f_told, .ref f_costs, .int 0, .ref f_times, .int 0, .ref f_bestOne, .ref f_basis, .int 0, .ref f_one, .int 0, .ref f_along, .ref f_now]))] t.heap ∧ va_K (dC, dI) cls [] t ∧ va_D (va_A [(m0, .inr (9, [.int th, .ref f_text, .int 0, .int (-1), .ref f_kinds, .ref f_places, .ref f_values, .int 0, .ref f_draftLetters, .int 0, .int 0, .int 0, .ref f_draftNumbers, .ref f_draftSigns, .int 0, .int 0, .int 0, .int 0, .ref f_letters, .ref f_numbers, .ref f_isList, .ref f_bounds, .ref f_sizes, .ref f_lists, .ref f_told, .ref f_costs, .int 0, .ref f_times, .int 0, .ref f_bestOne, .ref f_basis, .int 0, .ref f_one, .int 0, .ref f_along, .ref f_now]))] sz) [(m0, .inr (9, [.int 2, .ref f_text, .int 0, .int (-1), .ref f_kinds, .ref f_places, .ref f_values, .int 0, .ref f_draftLetters, .int 0, .int 0, .int 0, .ref f_draftNumbers, .ref f_draftSigns, .int 0, .int 0, .int 0, .int 0, .ref f_letters, .ref f_numbers, .ref f_isList, .ref f_bounds, .ref f_sizes, .ref f_lists, .ref f_told, .ref f_costs, .int 0, .ref f_times, .int 0, .ref f_bestOne, .ref f_basis, .int 0, .ref f_one, .int 0, .ref f_along, .ref f_now]))]) (va_A [(m0, .inr (9, [.int th, .ref f_text, .int 0, .int (-1), .ref f_kinds, .ref f_places, .ref f_values, .int 0, .ref f_draftLetters, .int 0, .int 0, .int 0, .ref f_draftNumbers, .ref f_draftSigns, .int 0, .int 0, .int 0, .int 0, .ref f_letters, .ref f_numbers, .ref f_isList, .ref f_bounds, .ref f_sizes, .ref f_lists, .ref f_told, .ref f_costs, .int 0, .ref f_times, .int 0, .ref f_bestOne, .ref f_basis, .int 0, .ref f_one, .int 0, .ref f_along, .ref f_now]))] sz)) 0 0 (va_A [(m0, .inr (9, [.int th, .ref f_text, .int 0, .int (-1), .ref f_kinds, .ref f_places, .ref f_values, .int 0, .ref f_draftLetters, .int 0, .int 0, .int 0, .ref f_draftNumbers, .ref f_draftSigns, .int 0, .int 0, .int 0, .int 0, .ref f_letters, .ref f_numbers, .ref f_isList, .ref f_bounds, .ref f_sizes, .ref f_lists, .ref f_told, .ref f_costs, .int 0, .ref f_times, .int 0, .ref f_bestOne, .ref f_basis, .int 0, .ref f_one, .int 0, .ref f_along, .ref f_now]))] sz) := by
  refine Met.ofW (cc := b_MO_best) (maxL := 8) (ret := (Option.some Jvm.ClassFile.FieldType.int)) (by decide) rfl ?_
  intro p e s m args below meth c s₁ B hml hv
  obtain ⟨rfl, hsz, hP, hK, hD0, hN⟩ := hv
  have hx := B.exec
  have hb := B.bytes
  have hr := B.returns
  have hlocks := B.notSynchronized
  have hts : ∀ w ∈ wd, w.before ([.ref m0, .int bound] : List Value).toArray s = true := fun w hw => atoms_spec (ws := (Cond.code y_MO_best b_MO_best 8 (Option.some Jvm.ClassFile.FieldType.int) :: wd)) B.pre w (List.mem_cons_of_mem _ hw)
  have hown : s.vm.findClass "LeastSolutionsModel" = some m.cls := findClass_of_methodNamed B.named
  subst hsz
  have hD := hD0.self (sz := s.heap.size)
  generalize hAe : va_A [(m0, .inr (9, [.int th, .ref f_text, .int 0, .int (-1), .ref f_kinds, .ref f_places, .ref f_values, .int 0, .ref f_draftLetters, .int 0, .int 0, .int 0, .ref f_draftNumbers, .ref f_draftSigns, .int 0, .int 0, .int 0, .int 0, .ref f_letters, .ref f_numbers, .ref f_isList, .ref f_bounds, .ref f_sizes, .ref f_lists, .ref f_told, .ref f_costs, .int 0, .ref f_times, .int 0, .ref f_bestOne, .ref f_basis, .int 0, .ref f_one, .int 0, .ref f_along, .ref f_now]))] s.heap.size = A at hD ⊢
  have hA : ∀ q : Nat, s.heap.size ≤ q → A q := fun q h => by rw [← hAe]; exact Or.inr h
  have hS : va_S A s.heap s.heap [] := va_S.rf
  have hl := lv_entry ([.ref m0, .int bound]) (n := 8) (Nat.le_of_ble_eq_true rfl)
  rw [lg_entry_eq]
  generalize (lg_sl ([.ref m0, .int bound]) ++ List.replicate (8 - (lg_sl ([.ref m0, .int bound])).length) Slot.unset).toArray = ls at hl ⊢
  have hl : lv_has ls 8 [(0, .ref m0), (1, .int bound)] := hl
  refine lv_aload_n hx hb d_MO_best_0 rfl (lv_at hl 0 rfl) ?_
  refine lv_iload_n hx hb d_MO_best_1 rfl (lv_at hl 1 rfl) ?_
  refine lv_if_lt (tgt := 11) hx hb d_MO_best_2 (by decide) (fun h9 => absurd h9 (g1)) (fun _ => ?_)
  refine lv_iload_n hx hb d_MO_best_5 rfl (lv_at hl 1 rfl) ?_
  refine lv_bipush (v := 16) hx hb d_MO_best_6 (by decide) ?_
  refine lv_icmp_le (tgt := 15) hx hb d_MO_best_8 (by decide) (fun _ => ?_) (fun h9 => absurd (Int32.not_lt.mp g2) h9)
  refine lv_aload_n hx hb d_MO_best_15 rfl (lv_at hl 0 rfl) ?_
  refine va_get (D := (dC, dI)) (ci := 9) (v := .int 0) (C := R_MO) (T := T_MO) (N := 36) hx hb hts in_MO hown hK hP 0 rfl rfl 14 (by decide) (hts _ k_900) (fun _ h9 => h9) rfl d_MO_best_16 ?_
  refine lv_if_ne (tgt := 26) hx hb d_MO_best_19 (by decide) (fun h9 => absurd (by decide) h9) (fun _ => ?_)
  refine lv_iconst (v := 2) hx hb d_MO_best_22 (by decide) ?_
  refine lv_goto (tgt := 27) hx hb d_MO_best_23 (by decide) ?_
  refine va_put (D := (dC, dI)) (ci := 9) (v := .int 2) (ty := .int) (C := R_MO) (T := T_MO) (N := 36) hx hb hts in_MO t_MO t_MO_ok n_MO hown hK hP hD hS 0 rfl rfl 0 (by decide) (hts _ k_886) (fun _ h9 => h9) rfl (by decide +kernel) rfl rfl (Nat.le_of_ble_eq_true rfl) d_MO_best_27 (fun H1 locs hP hD hS => ?_)
  have hP : va_P (dC, dI) cls [(m0, .inr (9, [.int 2, .ref f_text, .int 0, .int (-1), .ref f_kinds, .ref f_places, .ref f_values, .int 0, .ref f_draftLetters, .int 0, .int 0, .int 0, .ref f_draftNumbers, .ref f_draftSigns, .int 0, .int 0, .int 0, .int 0, .ref f_letters, .ref f_numbers, .ref f_isList, .ref f_bounds, .ref f_sizes, .ref f_lists, .ref f_told, .ref f_costs, .int 0, .ref f_times, .int 0, .ref f_bestOne, .ref f_basis, .int 0, .ref f_one, .int 0, .ref f_along, .ref f_now]))] H1 := hP
  have hD : va_D A [(m0, .inr (9, [.int 2, .ref f_text, .int 0, .int (-1), .ref f_kinds, .ref f_places, .ref f_values, .int 0, .ref f_draftLetters, .int 0, .int 0, .int 0, .ref f_draftNumbers, .ref f_draftSigns, .int 0, .int 0, .int 0, .int 0, .ref f_letters, .ref f_numbers, .ref f_isList, .ref f_bounds, .ref f_sizes, .ref f_lists, .ref f_told, .ref f_costs, .int 0, .ref f_times, .int 0, .ref f_bestOne, .ref f_basis, .int 0, .ref f_one, .int 0, .ref f_along, .ref f_now]))] := hD
  refine lv_aload_n hx hb d_MO_best_30 rfl (lv_at hl 0 rfl) ?_
  refine va_get (D := (dC, dI)) (ci := 9) (v := .int 2) (C := R_MO) (T := T_MO) (N := 36) hx hb hts in_MO hown hK hP 0 rfl rfl 0 (by decide) (hts _ k_886) (fun _ h9 => h9) rfl d_MO_best_31 ?_
  refine lv_if_le (tgt := 39) hx hb d_MO_best_34 (by decide) (fun h9 => absurd h9 (by decide)) (fun _ => ?_)
  refine lv_iconst (v := 0) hx hb d_MO_best_37 (by decide) ?_
  have hP9 := hP.sub (ws' := [(m0, .inr (9, [.int 2, .ref f_text, .int 0, .int (-1), .ref f_kinds, .ref f_places, .ref f_values, .int 0, .ref f_draftLetters, .int 0, .int 0, .int 0, .ref f_draftNumbers, .ref f_draftSigns, .int 0, .int 0, .int 0, .int 0, .ref f_letters, .ref f_numbers, .ref f_isList, .ref f_bounds, .ref f_sizes, .ref f_lists, .ref f_told, .ref f_costs, .int 0, .ref f_times, .int 0, .ref f_bestOne, .ref f_basis, .int 0, .ref f_one, .int 0, .ref f_along, .ref f_now]))]) [0] rfl
  have hD9 := hD.sub (ws' := [(m0, .inr (9, [.int 2, .ref f_text, .int 0, .int (-1), .ref f_kinds, .ref f_places, .ref f_values, .int 0, .ref f_draftLetters, .int 0, .int 0, .int 0, .ref f_draftNumbers, .ref f_draftSigns, .int 0, .int 0, .int 0, .int 0, .ref f_letters, .ref f_numbers, .ref f_isList, .ref f_bounds, .ref f_sizes, .ref f_lists, .ref f_told, .ref f_costs, .int 0, .ref f_times, .int 0, .ref f_bestOne, .ref f_basis, .int 0, .ref f_one, .int 0, .ref f_along, .ref f_now]))]) [0] (by decide) rfl
  have hK9 := hK.sub (tys' := []) [] rfl
  exact W.iret (v := 0) hx hb hr (fun t ht hW => ⟨⟨0, (), rfl, rfl, by rw [ht]; exact hP9, va_K.moved hW.alike hK9, hD9⟩, hS.F ht⟩) hS.2.2 d_MO_best_38

set_option maxHeartbeats 4000000 in
set_option maxRecDepth 100000 in
theorem c_MO_work_1 (l : Launch) (dC : Nat → ClassId) (dI : Nat → Nat → Nat) (m0 : Nat) (f_text : Nat) (f_kinds : Nat) (f_places : Nat) (f_values : Nat) (f_draftLetters : Nat) (f_draftNumbers : Nat) (f_draftSigns : Nat) (f_letters : Nat) (f_numbers : Nat) (f_isList : Nat) (f_bounds : Nat) (f_sizes : Nat) (f_lists : Nat) (f_told : Nat) (f_costs : Nat) (f_times : Nat) (f_bestOne : Nat) (f_basis : Nat) (f_one : Nat) (f_along : Nat) (f_now : Nat) (th : Int32) (what : Int32) (bound : Int32) (sz : Nat) (g0 : what < 0 ∨ 2 < what ∨ bound < 0 ∨ (if what = 2 then (10 : Int32) else 16) < bound) : Met l y_MO_work (Cond.code y_MO_work b_MO_work 6 (Option.some Jvm.ClassFile.FieldType.int) :: wd) { frames := 0, cells := 0, slots := 0, locals := 0 } (va_Pc [.ref m0, .int what, .int bound] (fun U => U.heap.size = sz ∧ va_P (dC, dI) cls [(m0, .inr (9, [.int th, .ref f_text, .int 0, .int (-1), .ref f_kinds, .ref f_places, .ref f_values, .int 0, .ref f_draftLetters, .int 0, .int 0, .int 0, .ref f_draftNumbers, .ref f_draftSigns, .int 0, .int 0, .int 0, .int 0, .ref f_letters, .ref f_numbers, .ref f_isList, .ref f_bounds, .ref f_sizes, .ref f_lists, .ref f_told, .ref f_costs, .int 0, .ref f_times, .int 0, .ref f_bestOne, .ref f_basis, .int 0, .ref f_one, .int 0, .ref f_along, .ref f_now]))] U.heap ∧ va_K (dC, dI) cls [] U ∧ va_D (fun _ => True) [(m0, .inr (9, [.int th, .ref f_text, .int 0, .int (-1), .ref f_kinds, .ref f_places, .ref f_values, .int 0, .ref f_draftLetters, .int 0, .int 0, .int 0, .ref f_draftNumbers, .ref f_draftSigns, .int 0, .int 0, .int 0, .int 0, .ref f_letters, .ref f_numbers, .ref f_isList, .ref f_bounds, .ref f_sizes, .ref f_lists, .ref f_told, .ref f_costs, .int 0, .ref f_times, .int 0, .ref f_bestOne, .ref f_basis, .int 0, .ref f_one, .int 0, .ref f_along, .ref f_now]))] ∧ nw_ok U)) (va_Qi (fun r (_ : Unit) => r = 0) (fun (_ : Unit) t => va_P (dC, dI) cls [(m0, .inr (9, [.int 1, .ref f_text, .int 0, .int (-1), .ref f_kinds, .ref f_places, .ref f_values, .int 0, .ref f_draftLetters, .int 0, .int 0, .int 0, .ref f_draftNumbers, .ref f_draftSigns, .int 0, .int 0, .int 0, .int 0, .ref f_letters, .ref f_numbers, .ref f_isList, .ref f_bounds, .ref f_sizes, .ref f_lists, .ref f_told, .ref f_costs, .int 0, .ref f_times, .int 0, .ref f_bestOne, .ref f_basis, .int 0, .ref f_one, .int 0, .ref f_along, .ref f_now]))] t.heap ∧ va_K (dC, dI) cls [] t ∧ va_D (va_A [(m0, .inr (9, [.int th, .ref f_text, .int 0, .int (-1), .ref f_kinds, .ref f_places, .ref f_values, .int 0, .ref f_draftLetters, .int 0, .int 0, .int 0, .ref f_draftNumbers, .ref f_draftSigns, .int 0, .int 0, .int 0, .int 0, .ref f_letters, .ref f_numbers, .ref f_isList, .ref f_bounds, .ref f_sizes, .ref f_lists, .ref f_told, .ref f_costs, .int 0, .ref f_times, .int 0, .ref f_bestOne, .ref f_basis, .int 0, .ref f_one, .int 0, .ref f_along, .ref f_now]))] sz) [(m0, .inr (9, [.int 1, .ref f_text, .int 0, .int (-1), .ref f_kinds, .ref f_places, .ref f_values, .int 0, .ref f_draftLetters, .int 0, .int 0, .int 0, .ref f_draftNumbers, .ref f_draftSigns, .int 0, .int 0, .int 0, .int 0, .ref f_letters, .ref f_numbers, .ref f_isList, .ref f_bounds, .ref f_sizes, .ref f_lists, .ref f_told, .ref f_costs, .int 0, .ref f_times, .int 0, .ref f_bestOne, .ref f_basis, .int 0, .ref f_one, .int 0, .ref f_along, .ref f_now]))]) (va_A [(m0, .inr (9, [.int th, .ref f_text, .int 0, .int (-1), .ref f_kinds, .ref f_places, .ref f_values, .int 0, .ref f_draftLetters, .int 0, .int 0, .int 0, .ref f_draftNumbers, .ref f_draftSigns, .int 0, .int 0, .int 0, .int 0, .ref f_letters, .ref f_numbers, .ref f_isList, .ref f_bounds, .ref f_sizes, .ref f_lists, .ref f_told, .ref f_costs, .int 0, .ref f_times, .int 0, .ref f_bestOne, .ref f_basis, .int 0, .ref f_one, .int 0, .ref f_along, .ref f_now]))] sz)) 0 0 (va_A [(m0, .inr (9, [.int th, .ref f_text, .int 0, .int (-1), .ref f_kinds, .ref f_places, .ref f_values, .int 0, .ref f_draftLetters, .int 0, .int 0, .int 0, .ref f_draftNumbers, .ref f_draftSigns, .int 0, .int 0, .int 0, .int 0, .ref f_letters, .ref f_numbers, .ref f_isList, .ref f_bounds, .ref f_sizes, .ref f_lists, .ref f_told, .ref f_costs, .int 0, .ref f_times, .int 0, .ref f_bestOne, .ref f_basis, .int 0, .ref f_one, .int 0, .ref f_along, .ref f_now]))] sz) := by
  refine Met.ofW (cc := b_MO_work) (maxL := 6) (ret := (Option.some Jvm.ClassFile.FieldType.int)) (by decide) rfl ?_
  intro p e s m args below meth c s₁ B hml hv
  obtain ⟨rfl, hsz, hP, hK, hD0, hN⟩ := hv
  have hx := B.exec
  have hb := B.bytes
  have hr := B.returns
  have hlocks := B.notSynchronized
  have hts : ∀ w ∈ wd, w.before ([.ref m0, .int what, .int bound] : List Value).toArray s = true := fun w hw => atoms_spec (ws := (Cond.code y_MO_work b_MO_work 6 (Option.some Jvm.ClassFile.FieldType.int) :: wd)) B.pre w (List.mem_cons_of_mem _ hw)
  have hown : s.vm.findClass "LeastSolutionsModel" = some m.cls := findClass_of_methodNamed B.named
  subst hsz
  have hD := hD0.self (sz := s.heap.size)
  generalize hAe : va_A [(m0, .inr (9, [.int th, .ref f_text, .int 0, .int (-1), .ref f_kinds, .ref f_places, .ref f_values, .int 0, .ref f_draftLetters, .int 0, .int 0, .int 0, .ref f_draftNumbers, .ref f_draftSigns, .int 0, .int 0, .int 0, .int 0, .ref f_letters, .ref f_numbers, .ref f_isList, .ref f_bounds, .ref f_sizes, .ref f_lists, .ref f_told, .ref f_costs, .int 0, .ref f_times, .int 0, .ref f_bestOne, .ref f_basis, .int 0, .ref f_one, .int 0, .ref f_along, .ref f_now]))] s.heap.size = A at hD ⊢
  have hA : ∀ q : Nat, s.heap.size ≤ q → A q := fun q h => by rw [← hAe]; exact Or.inr h
  have hS : va_S A s.heap s.heap [] := va_S.rf
  have hl := lv_entry ([.ref m0, .int what, .int bound]) (n := 6) (Nat.le_of_ble_eq_true rfl)
  rw [lg_entry_eq]
  generalize (lg_sl ([.ref m0, .int what, .int bound]) ++ List.replicate (6 - (lg_sl ([.ref m0, .int what, .int bound])).length) Slot.unset).toArray = ls at hl ⊢
  have hl : lv_has ls 6 [(0, .ref m0), (1, .int what), (2, .int bound)] := hl
  refine lv_aload_n hx hb d_MO_work_0 rfl (lv_at hl 0 rfl) ?_
  refine lv_iload_n hx hb d_MO_work_1 rfl (lv_at hl 1 rfl) ?_
  refine lv_if_lt (tgt := 30) hx hb d_MO_work_2 (by decide) (fun hc1 => ?_) (fun hc1 => ?_)
  · refine lv_iconst (v := 1) hx hb d_MO_work_30 (by decide) ?_
    refine lv_goto (tgt := 46) hx hb d_MO_work_31 (by decide) ?_
    refine va_put (D := (dC, dI)) (ci := 9) (v := .int 1) (ty := .int) (C := R_MO) (T := T_MO) (N := 36) hx hb hts in_MO t_MO t_MO_ok n_MO hown hK hP hD hS 0 rfl rfl 0 (by decide) (hts _ k_886) (fun _ h9 => h9) rfl (by decide +kernel) rfl rfl (Nat.le_of_ble_eq_true rfl) d_MO_work_46 (fun H1 locs hP hD hS => ?_)
    have hP : va_P (dC, dI) cls [(m0, .inr (9, [.int 1, .ref f_text, .int 0, .int (-1), .ref f_kinds, .ref f_places, .ref f_values, .int 0, .ref f_draftLetters, .int 0, .int 0, .int 0, .ref f_draftNumbers, .ref f_draftSigns, .int 0, .int 0, .int 0, .int 0, .ref f_letters, .ref f_numbers, .ref f_isList, .ref f_bounds, .ref f_sizes, .ref f_lists, .ref f_told, .ref f_costs, .int 0, .ref f_times, .int 0, .ref f_bestOne, .ref f_basis, .int 0, .ref f_one, .int 0, .ref f_along, .ref f_now]))] H1 := hP
    have hD : va_D A [(m0, .inr (9, [.int 1, .ref f_text, .int 0, .int (-1), .ref f_kinds, .ref f_places, .ref f_values, .int 0, .ref f_draftLetters, .int 0, .int 0, .int 0, .ref f_draftNumbers, .ref f_draftSigns, .int 0, .int 0, .int 0, .int 0, .ref f_letters, .ref f_numbers, .ref f_isList, .ref f_bounds, .ref f_sizes, .ref f_lists, .ref f_told, .ref f_costs, .int 0, .ref f_times, .int 0, .ref f_bestOne, .ref f_basis, .int 0, .ref f_one, .int 0, .ref f_along, .ref f_now]))] := hD
    refine lv_aload_n hx hb d_MO_work_49 rfl (lv_at hl 0 rfl) ?_
    refine va_get (D := (dC, dI)) (ci := 9) (v := .int 1) (C := R_MO) (T := T_MO) (N := 36) hx hb hts in_MO hown hK hP 0 rfl rfl 0 (by decide) (hts _ k_886) (fun _ h9 => h9) rfl d_MO_work_50 ?_
    refine lv_if_le (tgt := 58) hx hb d_MO_work_53 (by decide) (fun h9 => absurd h9 (by decide)) (fun _ => ?_)
    refine lv_iconst (v := 0) hx hb d_MO_work_56 (by decide) ?_
    have hP9 := hP.sub (ws' := [(m0, .inr (9, [.int 1, .ref f_text, .int 0, .int (-1), .ref f_kinds, .ref f_places, .ref f_values, .int 0, .ref f_draftLetters, .int 0, .int 0, .int 0, .ref f_draftNumbers, .ref f_draftSigns, .int 0, .int 0, .int 0, .int 0, .ref f_letters, .ref f_numbers, .ref f_isList, .ref f_bounds, .ref f_sizes, .ref f_lists, .ref f_told, .ref f_costs, .int 0, .ref f_times, .int 0, .ref f_bestOne, .ref f_basis, .int 0, .ref f_one, .int 0, .ref f_along, .ref f_now]))]) [0] rfl
    have hD9 := hD.sub (ws' := [(m0, .inr (9, [.int 1, .ref f_text, .int 0, .int (-1), .ref f_kinds, .ref f_places, .ref f_values, .int 0, .ref f_draftLetters, .int 0, .int 0, .int 0, .ref f_draftNumbers, .ref f_draftSigns, .int 0, .int 0, .int 0, .int 0, .ref f_letters, .ref f_numbers, .ref f_isList, .ref f_bounds, .ref f_sizes, .ref f_lists, .ref f_told, .ref f_costs, .int 0, .ref f_times, .int 0, .ref f_bestOne, .ref f_basis, .int 0, .ref f_one, .int 0, .ref f_along, .ref f_now]))]) [0] (by decide) rfl
    have hK9 := hK.sub (tys' := []) [] rfl
    exact W.iret (v := 0) hx hb hr (fun t ht hW => ⟨⟨0, (), rfl, rfl, by rw [ht]; exact hP9, va_K.moved hW.alike hK9, hD9⟩, hS.F ht⟩) hS.2.2 d_MO_work_57
  · refine lv_iload_n hx hb d_MO_work_5 rfl (lv_at hl 1 rfl) ?_
    refine lv_iconst (v := 2) hx hb d_MO_work_6 (by decide) ?_
    refine lv_icmp_gt (tgt := 30) hx hb d_MO_work_7 (by decide) (fun hc2 => ?_) (fun hc2 => ?_)
    · refine lv_iconst (v := 1) hx hb d_MO_work_30 (by decide) ?_
      refine lv_goto (tgt := 46) hx hb d_MO_work_31 (by decide) ?_
      refine va_put (D := (dC, dI)) (ci := 9) (v := .int 1) (ty := .int) (C := R_MO) (T := T_MO) (N := 36) hx hb hts in_MO t_MO t_MO_ok n_MO hown hK hP hD hS 0 rfl rfl 0 (by decide) (hts _ k_886) (fun _ h9 => h9) rfl (by decide +kernel) rfl rfl (Nat.le_of_ble_eq_true rfl) d_MO_work_46 (fun H2 locs hP hD hS => ?_)
      have hP : va_P (dC, dI) cls [(m0, .inr (9, [.int 1, .ref f_text, .int 0, .int (-1), .ref f_kinds, .ref f_places, .ref f_values, .int 0, .ref f_draftLetters, .int 0, .int 0, .int 0, .ref f_draftNumbers, .ref f_draftSigns, .int 0, .int 0, .int 0, .int 0, .ref f_letters, .ref f_numbers, .ref f_isList, .ref f_bounds, .ref f_sizes, .ref f_lists, .ref f_told, .ref f_costs, .int 0, .ref f_times, .int 0, .ref f_bestOne, .ref f_basis, .int 0, .ref f_one, .int 0, .ref f_along, .ref f_now]))] H2 := hP
      have hD : va_D A [(m0, .inr (9, [.int 1, .ref f_text, .int 0, .int (-1), .ref f_kinds, .ref f_places, .ref f_values, .int 0, .ref f_draftLetters, .int 0, .int 0, .int 0, .ref f_draftNumbers, .ref f_draftSigns, .int 0, .int 0, .int 0, .int 0, .ref f_letters, .ref f_numbers, .ref f_isList, .ref f_bounds, .ref f_sizes, .ref f_lists, .ref f_told, .ref f_costs, .int 0, .ref f_times, .int 0, .ref f_bestOne, .ref f_basis, .int 0, .ref f_one, .int 0, .ref f_along, .ref f_now]))] := hD
      refine lv_aload_n hx hb d_MO_work_49 rfl (lv_at hl 0 rfl) ?_
      refine va_get (D := (dC, dI)) (ci := 9) (v := .int 1) (C := R_MO) (T := T_MO) (N := 36) hx hb hts in_MO hown hK hP 0 rfl rfl 0 (by decide) (hts _ k_886) (fun _ h9 => h9) rfl d_MO_work_50 ?_
      refine lv_if_le (tgt := 58) hx hb d_MO_work_53 (by decide) (fun h9 => absurd h9 (by decide)) (fun _ => ?_)
      refine lv_iconst (v := 0) hx hb d_MO_work_56 (by decide) ?_
      have hP9 := hP.sub (ws' := [(m0, .inr (9, [.int 1, .ref f_text, .int 0, .int (-1), .ref f_kinds, .ref f_places, .ref f_values, .int 0, .ref f_draftLetters, .int 0, .int 0, .int 0, .ref f_draftNumbers, .ref f_draftSigns, .int 0, .int 0, .int 0, .int 0, .ref f_letters, .ref f_numbers, .ref f_isList, .ref f_bounds, .ref f_sizes, .ref f_lists, .ref f_told, .ref f_costs, .int 0, .ref f_times, .int 0, .ref f_bestOne, .ref f_basis, .int 0, .ref f_one, .int 0, .ref f_along, .ref f_now]))]) [0] rfl
      have hD9 := hD.sub (ws' := [(m0, .inr (9, [.int 1, .ref f_text, .int 0, .int (-1), .ref f_kinds, .ref f_places, .ref f_values, .int 0, .ref f_draftLetters, .int 0, .int 0, .int 0, .ref f_draftNumbers, .ref f_draftSigns, .int 0, .int 0, .int 0, .int 0, .ref f_letters, .ref f_numbers, .ref f_isList, .ref f_bounds, .ref f_sizes, .ref f_lists, .ref f_told, .ref f_costs, .int 0, .ref f_times, .int 0, .ref f_bestOne, .ref f_basis, .int 0, .ref f_one, .int 0, .ref f_along, .ref f_now]))]) [0] (by decide) rfl
      have hK9 := hK.sub (tys' := []) [] rfl
      exact W.iret (v := 0) hx hb hr (fun t ht hW => ⟨⟨0, (), rfl, rfl, by rw [ht]; exact hP9, va_K.moved hW.alike hK9, hD9⟩, hS.F ht⟩) hS.2.2 d_MO_work_57
    · refine lv_iload_n hx hb d_MO_work_10 rfl (lv_at hl 2 rfl) ?_
      refine lv_if_lt (tgt := 30) hx hb d_MO_work_11 (by decide) (fun hc3 => ?_) (fun hc3 => ?_)
      · refine lv_iconst (v := 1) hx hb d_MO_work_30 (by decide) ?_
        refine lv_goto (tgt := 46) hx hb d_MO_work_31 (by decide) ?_
        refine va_put (D := (dC, dI)) (ci := 9) (v := .int 1) (ty := .int) (C := R_MO) (T := T_MO) (N := 36) hx hb hts in_MO t_MO t_MO_ok n_MO hown hK hP hD hS 0 rfl rfl 0 (by decide) (hts _ k_886) (fun _ h9 => h9) rfl (by decide +kernel) rfl rfl (Nat.le_of_ble_eq_true rfl) d_MO_work_46 (fun H3 locs hP hD hS => ?_)
        have hP : va_P (dC, dI) cls [(m0, .inr (9, [.int 1, .ref f_text, .int 0, .int (-1), .ref f_kinds, .ref f_places, .ref f_values, .int 0, .ref f_draftLetters, .int 0, .int 0, .int 0, .ref f_draftNumbers, .ref f_draftSigns, .int 0, .int 0, .int 0, .int 0, .ref f_letters, .ref f_numbers, .ref f_isList, .ref f_bounds, .ref f_sizes, .ref f_lists, .ref f_told, .ref f_costs, .int 0, .ref f_times, .int 0, .ref f_bestOne, .ref f_basis, .int 0, .ref f_one, .int 0, .ref f_along, .ref f_now]))] H3 := hP
        have hD : va_D A [(m0, .inr (9, [.int 1, .ref f_text, .int 0, .int (-1), .ref f_kinds, .ref f_places, .ref f_values, .int 0, .ref f_draftLetters, .int 0, .int 0, .int 0, .ref f_draftNumbers, .ref f_draftSigns, .int 0, .int 0, .int 0, .int 0, .ref f_letters, .ref f_numbers, .ref f_isList, .ref f_bounds, .ref f_sizes, .ref f_lists, .ref f_told, .ref f_costs, .int 0, .ref f_times, .int 0, .ref f_bestOne, .ref f_basis, .int 0, .ref f_one, .int 0, .ref f_along, .ref f_now]))] := hD
        refine lv_aload_n hx hb d_MO_work_49 rfl (lv_at hl 0 rfl) ?_
        refine va_get (D := (dC, dI)) (ci := 9) (v := .int 1) (C := R_MO) (T := T_MO) (N := 36) hx hb hts in_MO hown hK hP 0 rfl rfl 0 (by decide) (hts _ k_886) (fun _ h9 => h9) rfl d_MO_work_50 ?_
        refine lv_if_le (tgt := 58) hx hb d_MO_work_53 (by decide) (fun h9 => absurd h9 (by decide)) (fun _ => ?_)
        refine lv_iconst (v := 0) hx hb d_MO_work_56 (by decide) ?_
        have hP9 := hP.sub (ws' := [(m0, .inr (9, [.int 1, .ref f_text, .int 0, .int (-1), .ref f_kinds, .ref f_places, .ref f_values, .int 0, .ref f_draftLetters, .int 0, .int 0, .int 0, .ref f_draftNumbers, .ref f_draftSigns, .int 0, .int 0, .int 0, .int 0, .ref f_letters, .ref f_numbers, .ref f_isList, .ref f_bounds, .ref f_sizes, .ref f_lists, .ref f_told, .ref f_costs, .int 0, .ref f_times, .int 0, .ref f_bestOne, .ref f_basis, .int 0, .ref f_one, .int 0, .ref f_along, .ref f_now]))]) [0] rfl
        have hD9 := hD.sub (ws' := [(m0, .inr (9, [.int 1, .ref f_text, .int 0, .int (-1), .ref f_kinds, .ref f_places, .ref f_values, .int 0, .ref f_draftLetters, .int 0, .int 0, .int 0, .ref f_draftNumbers, .ref f_draftSigns, .int 0, .int 0, .int 0, .int 0, .ref f_letters, .ref f_numbers, .ref f_isList, .ref f_bounds, .ref f_sizes, .ref f_lists, .ref f_told, .ref f_costs, .int 0, .ref f_times, .int 0, .ref f_bestOne, .ref f_basis, .int 0, .ref f_one, .int 0, .ref f_along, .ref f_now]))]) [0] (by decide) rfl
        have hK9 := hK.sub (tys' := []) [] rfl
        exact W.iret (v := 0) hx hb hr (fun t ht hW => ⟨⟨0, (), rfl, rfl, by rw [ht]; exact hP9, va_K.moved hW.alike hK9, hD9⟩, hS.F ht⟩) hS.2.2 d_MO_work_57
      · refine lv_iload_n hx hb d_MO_work_14 rfl (lv_at hl 2 rfl) ?_
        refine lv_iload_n hx hb d_MO_work_15 rfl (lv_at hl 1 rfl) ?_
        refine lv_iconst (v := 2) hx hb d_MO_work_16 (by decide) ?_
        refine lv_icmp_ne (tgt := 25) hx hb d_MO_work_17 (by decide) (fun hc4 => ?_) (fun hc4 => ?_)
        · refine lv_bipush (v := 16) hx hb d_MO_work_25 (by decide) ?_
          refine lv_icmp_le (tgt := 34) hx hb d_MO_work_27 (by decide) (fun h9 => absurd h9 (Int32.not_le.mpr (by simpa [hc4] using ((g0.resolve_left hc1).resolve_left hc2).resolve_left hc3))) (fun _ => ?_)
          refine lv_iconst (v := 1) hx hb d_MO_work_30 (by decide) ?_
          refine lv_goto (tgt := 46) hx hb d_MO_work_31 (by decide) ?_
          refine va_put (D := (dC, dI)) (ci := 9) (v := .int 1) (ty := .int) (C := R_MO) (T := T_MO) (N := 36) hx hb hts in_MO t_MO t_MO_ok n_MO hown hK hP hD hS 0 rfl rfl 0 (by decide) (hts _ k_886) (fun _ h9 => h9) rfl (by decide +kernel) rfl rfl (Nat.le_of_ble_eq_true rfl) d_MO_work_46 (fun H4 locs hP hD hS => ?_)
          have hP : va_P (dC, dI) cls [(m0, .inr (9, [.int 1, .ref f_text, .int 0, .int (-1), .ref f_kinds, .ref f_places, .ref f_values, .int 0, .ref f_draftLetters, .int 0, .int 0, .int 0, .ref f_draftNumbers, .ref f_draftSigns, .int 0, .int 0, .int 0, .int 0, .ref f_letters, .ref f_numbers, .ref f_isList, .ref f_bounds, .ref f_sizes, .ref f_lists, .ref f_told, .ref f_costs, .int 0, .ref f_times, .int 0, .ref f_bestOne, .ref f_basis, .int 0, .ref f_one, .int 0, .ref f_along, .ref f_now]))] H4 := hP
          have hD : va_D A [(m0, .inr (9, [.int 1, .ref f_text, .int 0, .int (-1), .ref f_kinds, .ref f_places, .ref f_values, .int 0, .ref f_draftLetters, .int 0, .int 0, .int 0, .ref f_draftNumbers, .ref f_draftSigns, .int 0, .int 0, .int 0, .int 0, .ref f_letters, .ref f_numbers, .ref f_isList, .ref f_bounds, .ref f_sizes, .ref f_lists, .ref f_told, .ref f_costs, .int 0, .ref f_times, .int 0, .ref f_bestOne, .ref f_basis, .int 0, .ref f_one, .int 0, .ref f_along, .ref f_now]))] := hD
          refine lv_aload_n hx hb d_MO_work_49 rfl (lv_at hl 0 rfl) ?_
          refine va_get (D := (dC, dI)) (ci := 9) (v := .int 1) (C := R_MO) (T := T_MO) (N := 36) hx hb hts in_MO hown hK hP 0 rfl rfl 0 (by decide) (hts _ k_886) (fun _ h9 => h9) rfl d_MO_work_50 ?_
          refine lv_if_le (tgt := 58) hx hb d_MO_work_53 (by decide) (fun h9 => absurd h9 (by decide)) (fun _ => ?_)
          refine lv_iconst (v := 0) hx hb d_MO_work_56 (by decide) ?_
          have hP9 := hP.sub (ws' := [(m0, .inr (9, [.int 1, .ref f_text, .int 0, .int (-1), .ref f_kinds, .ref f_places, .ref f_values, .int 0, .ref f_draftLetters, .int 0, .int 0, .int 0, .ref f_draftNumbers, .ref f_draftSigns, .int 0, .int 0, .int 0, .int 0, .ref f_letters, .ref f_numbers, .ref f_isList, .ref f_bounds, .ref f_sizes, .ref f_lists, .ref f_told, .ref f_costs, .int 0, .ref f_times, .int 0, .ref f_bestOne, .ref f_basis, .int 0, .ref f_one, .int 0, .ref f_along, .ref f_now]))]) [0] rfl
          have hD9 := hD.sub (ws' := [(m0, .inr (9, [.int 1, .ref f_text, .int 0, .int (-1), .ref f_kinds, .ref f_places, .ref f_values, .int 0, .ref f_draftLetters, .int 0, .int 0, .int 0, .ref f_draftNumbers, .ref f_draftSigns, .int 0, .int 0, .int 0, .int 0, .ref f_letters, .ref f_numbers, .ref f_isList, .ref f_bounds, .ref f_sizes, .ref f_lists, .ref f_told, .ref f_costs, .int 0, .ref f_times, .int 0, .ref f_bestOne, .ref f_basis, .int 0, .ref f_one, .int 0, .ref f_along, .ref f_now]))]) [0] (by decide) rfl
          have hK9 := hK.sub (tys' := []) [] rfl
          exact W.iret (v := 0) hx hb hr (fun t ht hW => ⟨⟨0, (), rfl, rfl, by rw [ht]; exact hP9, va_K.moved hW.alike hK9, hD9⟩, hS.F ht⟩) hS.2.2 d_MO_work_57
        · refine lv_bipush (v := 10) hx hb d_MO_work_20 (by decide) ?_
          refine lv_goto (tgt := 27) hx hb d_MO_work_22 (by decide) ?_
          refine lv_icmp_le (tgt := 34) hx hb d_MO_work_27 (by decide) (fun h9 => absurd h9 (Int32.not_le.mpr (by simpa [hc4] using ((g0.resolve_left hc1).resolve_left hc2).resolve_left hc3))) (fun _ => ?_)
          refine lv_iconst (v := 1) hx hb d_MO_work_30 (by decide) ?_
          refine lv_goto (tgt := 46) hx hb d_MO_work_31 (by decide) ?_
          refine va_put (D := (dC, dI)) (ci := 9) (v := .int 1) (ty := .int) (C := R_MO) (T := T_MO) (N := 36) hx hb hts in_MO t_MO t_MO_ok n_MO hown hK hP hD hS 0 rfl rfl 0 (by decide) (hts _ k_886) (fun _ h9 => h9) rfl (by decide +kernel) rfl rfl (Nat.le_of_ble_eq_true rfl) d_MO_work_46 (fun H5 locs hP hD hS => ?_)
          have hP : va_P (dC, dI) cls [(m0, .inr (9, [.int 1, .ref f_text, .int 0, .int (-1), .ref f_kinds, .ref f_places, .ref f_values, .int 0, .ref f_draftLetters, .int 0, .int 0, .int 0, .ref f_draftNumbers, .ref f_draftSigns, .int 0, .int 0, .int 0, .int 0, .ref f_letters, .ref f_numbers, .ref f_isList, .ref f_bounds, .ref f_sizes, .ref f_lists, .ref f_told, .ref f_costs, .int 0, .ref f_times, .int 0, .ref f_bestOne, .ref f_basis, .int 0, .ref f_one, .int 0, .ref f_along, .ref f_now]))] H5 := hP
          have hD : va_D A [(m0, .inr (9, [.int 1, .ref f_text, .int 0, .int (-1), .ref f_kinds, .ref f_places, .ref f_values, .int 0, .ref f_draftLetters, .int 0, .int 0, .int 0, .ref f_draftNumbers, .ref f_draftSigns, .int 0, .int 0, .int 0, .int 0, .ref f_letters, .ref f_numbers, .ref f_isList, .ref f_bounds, .ref f_sizes, .ref f_lists, .ref f_told, .ref f_costs, .int 0, .ref f_times, .int 0, .ref f_bestOne, .ref f_basis, .int 0, .ref f_one, .int 0, .ref f_along, .ref f_now]))] := hD
          refine lv_aload_n hx hb d_MO_work_49 rfl (lv_at hl 0 rfl) ?_
          refine va_get (D := (dC, dI)) (ci := 9) (v := .int 1) (C := R_MO) (T := T_MO) (N := 36) hx hb hts in_MO hown hK hP 0 rfl rfl 0 (by decide) (hts _ k_886) (fun _ h9 => h9) rfl d_MO_work_50 ?_
          refine lv_if_le (tgt := 58) hx hb d_MO_work_53 (by decide) (fun h9 => absurd h9 (by decide)) (fun _ => ?_)
          refine lv_iconst (v := 0) hx hb d_MO_work_56 (by decide) ?_
          have hP9 := hP.sub (ws' := [(m0, .inr (9, [.int 1, .ref f_text, .int 0, .int (-1), .ref f_kinds, .ref f_places, .ref f_values, .int 0, .ref f_draftLetters, .int 0, .int 0, .int 0, .ref f_draftNumbers, .ref f_draftSigns, .int 0, .int 0, .int 0, .int 0, .ref f_letters, .ref f_numbers, .ref f_isList, .ref f_bounds, .ref f_sizes, .ref f_lists, .ref f_told, .ref f_costs, .int 0, .ref f_times, .int 0, .ref f_bestOne, .ref f_basis, .int 0, .ref f_one, .int 0, .ref f_along, .ref f_now]))]) [0] rfl
          have hD9 := hD.sub (ws' := [(m0, .inr (9, [.int 1, .ref f_text, .int 0, .int (-1), .ref f_kinds, .ref f_places, .ref f_values, .int 0, .ref f_draftLetters, .int 0, .int 0, .int 0, .ref f_draftNumbers, .ref f_draftSigns, .int 0, .int 0, .int 0, .int 0, .ref f_letters, .ref f_numbers, .ref f_isList, .ref f_bounds, .ref f_sizes, .ref f_lists, .ref f_told, .ref f_costs, .int 0, .ref f_times, .int 0, .ref f_bestOne, .ref f_basis, .int 0, .ref f_one, .int 0, .ref f_along, .ref f_now]))]) [0] (by decide) rfl
          have hK9 := hK.sub (tys' := []) [] rfl
          exact W.iret (v := 0) hx hb hr (fun t ht hW => ⟨⟨0, (), rfl, rfl, by rw [ht]; exact hP9, va_K.moved hW.alike hK9, hD9⟩, hS.F ht⟩) hS.2.2 d_MO_work_57

set_option maxHeartbeats 4000000 in
set_option maxRecDepth 100000 in
theorem c_MO_work_2 (l : Launch) (dC : Nat → ClassId) (dI : Nat → Nat → Nat) (m0 : Nat) (f_text : Nat) (f_kinds : Nat) (f_places : Nat) (f_values : Nat) (f_draftLetters : Nat) (f_draftNumbers : Nat) (f_draftSigns : Nat) (f_letters : Nat) (f_numbers : Nat) (f_isList : Nat) (f_bounds : Nat) (f_sizes : Nat) (f_lists : Nat) (f_told : Nat) (f_costs : Nat) (f_times : Nat) (f_bestOne : Nat) (f_basis : Nat) (f_one : Nat) (f_along : Nat) (f_now : Nat) (th : Int32) (what : Int32) (bound : Int32) (sz : Nat) (g1 : ¬ what < 0) (g2 : ¬ 2 < what) (g3 : ¬ bound < 0) (g4 : ¬ (if what = 2 then (10 : Int32) else 16) < bound) : Met l y_MO_work (Cond.code y_MO_work b_MO_work 6 (Option.some Jvm.ClassFile.FieldType.int) :: wd) { frames := 0, cells := 0, slots := 0, locals := 0 } (va_Pc [.ref m0, .int what, .int bound] (fun U => U.heap.size = sz ∧ va_P (dC, dI) cls [(m0, .inr (9, [.int th, .ref f_text, .int 0, .int (-1), .ref f_kinds, .ref f_places, .ref f_values, .int 0, .ref f_draftLetters, .int 0, .int 0, .int 0, .ref f_draftNumbers, .ref f_draftSigns, .int 0, .int 0, .int 0, .int 0, .ref f_letters, .ref f_numbers, .ref f_isList, .ref f_bounds, .ref f_sizes, .ref f_lists, .ref f_told, .ref f_costs, .int 0, .ref f_times, .int 0, .ref f_bestOne, .ref f_basis, .int 0, .ref f_one, .int 0, .ref f_along, .ref f_now]))] U.heap ∧ va_K (dC, dI) cls [] U ∧ va_D (fun _ => True) [(m0, .inr (9, [.int th, .ref f_text, .int 0, .int (-1), .ref f_kinds, .ref f_places, .ref f_values, .int 0, .ref f_draftLetters, .int 0, .int 0, .int 0, .ref f_draftNumbers, .ref f_draftSigns, .int 0, .int 0, .int 0, .int 0, .ref f_letters, .ref f_numbers, .ref f_isList, .ref f_bounds, .ref f_sizes, .ref f_lists, .ref f_told, .ref f_costs, .int 0, .ref f_times, .int 0, .ref f_bestOne, .ref f_basis, .int 0, .ref f_one, .int 0, .ref f_along, .ref f_now]))] ∧ nw_ok U)) (va_Qi (fun r (_ : Unit) => r = 0) (fun (_ : Unit) t => va_P (dC, dI) cls [(m0, .inr (9, [.int 2, .ref f_text, .int 0, .int (-1), .ref f_kinds, .ref f_places, .ref f_values, .int 0, .ref f_draftLetters, .int 0, .int 0, .int 0, .ref f_draftNumbers, .ref f_draftSigns, .int 0, .int 0, .int 0, .int 0, .ref f_letters, .ref f_numbers, .ref f_isList, .ref f_bounds, .ref f_sizes, .ref f_lists, .ref f_told, .ref f_costs, .int 0, .ref f_times, .int 0, .ref f_bestOne, .ref f_basis, .int 0, .ref f_one, .int 0, .ref f_along, .ref f_now]))] t.heap ∧ va_K (dC, dI) cls [] t ∧ va_D (va_A [(m0, .inr (9, [.int th, .ref f_text, .int 0, .int (-1), .ref f_kinds, .ref f_places, .ref f_values, .int 0, .ref f_draftLetters, .int 0, .int 0, .int 0, .ref f_draftNumbers, .ref f_draftSigns, .int 0, .int 0, .int 0, .int 0, .ref f_letters, .ref f_numbers, .ref f_isList, .ref f_bounds, .ref f_sizes, .ref f_lists, .ref f_told, .ref f_costs, .int 0, .ref f_times, .int 0, .ref f_bestOne, .ref f_basis, .int 0, .ref f_one, .int 0, .ref f_along, .ref f_now]))] sz) [(m0, .inr (9, [.int 2, .ref f_text, .int 0, .int (-1), .ref f_kinds, .ref f_places, .ref f_values, .int 0, .ref f_draftLetters, .int 0, .int 0, .int 0, .ref f_draftNumbers, .ref f_draftSigns, .int 0, .int 0, .int 0, .int 0, .ref f_letters, .ref f_numbers, .ref f_isList, .ref f_bounds, .ref f_sizes, .ref f_lists, .ref f_told, .ref f_costs, .int 0, .ref f_times, .int 0, .ref f_bestOne, .ref f_basis, .int 0, .ref f_one, .int 0, .ref f_along, .ref f_now]))]) (va_A [(m0, .inr (9, [.int th, .ref f_text, .int 0, .int (-1), .ref f_kinds, .ref f_places, .ref f_values, .int 0, .ref f_draftLetters, .int 0, .int 0, .int 0, .ref f_draftNumbers, .ref f_draftSigns, .int 0, .int 0, .int 0, .int 0, .ref f_letters, .ref f_numbers, .ref f_isList, .ref f_bounds, .ref f_sizes, .ref f_lists, .ref f_told, .ref f_costs, .int 0, .ref f_times, .int 0, .ref f_bestOne, .ref f_basis, .int 0, .ref f_one, .int 0, .ref f_along, .ref f_now]))] sz)) 0 0 (va_A [(m0, .inr (9, [.int th, .ref f_text, .int 0, .int (-1), .ref f_kinds, .ref f_places, .ref f_values, .int 0, .ref f_draftLetters, .int 0, .int 0, .int 0, .ref f_draftNumbers, .ref f_draftSigns, .int 0, .int 0, .int 0, .int 0, .ref f_letters, .ref f_numbers, .ref f_isList, .ref f_bounds, .ref f_sizes, .ref f_lists, .ref f_told, .ref f_costs, .int 0, .ref f_times, .int 0, .ref f_bestOne, .ref f_basis, .int 0, .ref f_one, .int 0, .ref f_along, .ref f_now]))] sz) := by
  refine Met.ofW (cc := b_MO_work) (maxL := 6) (ret := (Option.some Jvm.ClassFile.FieldType.int)) (by decide) rfl ?_
  intro p e s m args below meth c s₁ B hml hv
  obtain ⟨rfl, hsz, hP, hK, hD0, hN⟩ := hv
  have hx := B.exec
  have hb := B.bytes
  have hr := B.returns
  have hlocks := B.notSynchronized
  have hts : ∀ w ∈ wd, w.before ([.ref m0, .int what, .int bound] : List Value).toArray s = true := fun w hw => atoms_spec (ws := (Cond.code y_MO_work b_MO_work 6 (Option.some Jvm.ClassFile.FieldType.int) :: wd)) B.pre w (List.mem_cons_of_mem _ hw)
  have hown : s.vm.findClass "LeastSolutionsModel" = some m.cls := findClass_of_methodNamed B.named
  subst hsz
  have hD := hD0.self (sz := s.heap.size)
  generalize hAe : va_A [(m0, .inr (9, [.int th, .ref f_text, .int 0, .int (-1), .ref f_kinds, .ref f_places, .ref f_values, .int 0, .ref f_draftLetters, .int 0, .int 0, .int 0, .ref f_draftNumbers, .ref f_draftSigns, .int 0, .int 0, .int 0, .int 0, .ref f_letters, .ref f_numbers, .ref f_isList, .ref f_bounds, .ref f_sizes, .ref f_lists, .ref f_told, .ref f_costs, .int 0, .ref f_times, .int 0, .ref f_bestOne, .ref f_basis, .int 0, .ref f_one, .int 0, .ref f_along, .ref f_now]))] s.heap.size = A at hD ⊢
  have hA : ∀ q : Nat, s.heap.size ≤ q → A q := fun q h => by rw [← hAe]; exact Or.inr h
  have hS : va_S A s.heap s.heap [] := va_S.rf
  have hl := lv_entry ([.ref m0, .int what, .int bound]) (n := 6) (Nat.le_of_ble_eq_true rfl)
  rw [lg_entry_eq]
  generalize (lg_sl ([.ref m0, .int what, .int bound]) ++ List.replicate (6 - (lg_sl ([.ref m0, .int what, .int bound])).length) Slot.unset).toArray = ls at hl ⊢
  have hl : lv_has ls 6 [(0, .ref m0), (1, .int what), (2, .int bound)] := hl
  refine lv_aload_n hx hb d_MO_work_0 rfl (lv_at hl 0 rfl) ?_
  refine lv_iload_n hx hb d_MO_work_1 rfl (lv_at hl 1 rfl) ?_
  refine lv_if_lt (tgt := 30) hx hb d_MO_work_2 (by decide) (fun h9 => absurd h9 (g1)) (fun _ => ?_)
  refine lv_iload_n hx hb d_MO_work_5 rfl (lv_at hl 1 rfl) ?_
  refine lv_iconst (v := 2) hx hb d_MO_work_6 (by decide) ?_
  refine lv_icmp_gt (tgt := 30) hx hb d_MO_work_7 (by decide) (fun h9 => absurd h9 (g2)) (fun _ => ?_)
  refine lv_iload_n hx hb d_MO_work_10 rfl (lv_at hl 2 rfl) ?_
  refine lv_if_lt (tgt := 30) hx hb d_MO_work_11 (by decide) (fun h9 => absurd h9 (g3)) (fun _ => ?_)
  refine lv_iload_n hx hb d_MO_work_14 rfl (lv_at hl 2 rfl) ?_
  refine lv_iload_n hx hb d_MO_work_15 rfl (lv_at hl 1 rfl) ?_
  refine lv_iconst (v := 2) hx hb d_MO_work_16 (by decide) ?_
  refine lv_icmp_ne (tgt := 25) hx hb d_MO_work_17 (by decide) (fun hc1 => ?_) (fun hc1 => ?_)
  · refine lv_bipush (v := 16) hx hb d_MO_work_25 (by decide) ?_
    refine lv_icmp_le (tgt := 34) hx hb d_MO_work_27 (by decide) (fun _ => ?_) (fun h9 => absurd (Int32.not_lt.mp (by simpa [hc1] using g4)) h9)
    refine lv_aload_n hx hb d_MO_work_34 rfl (lv_at hl 0 rfl) ?_
    refine va_get (D := (dC, dI)) (ci := 9) (v := .int 0) (C := R_MO) (T := T_MO) (N := 36) hx hb hts in_MO hown hK hP 0 rfl rfl 14 (by decide) (hts _ k_900) (fun _ h9 => h9) rfl d_MO_work_35 ?_
    refine lv_if_eq (tgt := 45) hx hb d_MO_work_38 (by decide) (fun _ => ?_) (fun h9 => absurd (by decide) h9)
    refine lv_iconst (v := 2) hx hb d_MO_work_45 (by decide) ?_
    refine va_put (D := (dC, dI)) (ci := 9) (v := .int 2) (ty := .int) (C := R_MO) (T := T_MO) (N := 36) hx hb hts in_MO t_MO t_MO_ok n_MO hown hK hP hD hS 0 rfl rfl 0 (by decide) (hts _ k_886) (fun _ h9 => h9) rfl (by decide +kernel) rfl rfl (Nat.le_of_ble_eq_true rfl) d_MO_work_46 (fun H1 locs hP hD hS => ?_)
    have hP : va_P (dC, dI) cls [(m0, .inr (9, [.int 2, .ref f_text, .int 0, .int (-1), .ref f_kinds, .ref f_places, .ref f_values, .int 0, .ref f_draftLetters, .int 0, .int 0, .int 0, .ref f_draftNumbers, .ref f_draftSigns, .int 0, .int 0, .int 0, .int 0, .ref f_letters, .ref f_numbers, .ref f_isList, .ref f_bounds, .ref f_sizes, .ref f_lists, .ref f_told, .ref f_costs, .int 0, .ref f_times, .int 0, .ref f_bestOne, .ref f_basis, .int 0, .ref f_one, .int 0, .ref f_along, .ref f_now]))] H1 := hP
    have hD : va_D A [(m0, .inr (9, [.int 2, .ref f_text, .int 0, .int (-1), .ref f_kinds, .ref f_places, .ref f_values, .int 0, .ref f_draftLetters, .int 0, .int 0, .int 0, .ref f_draftNumbers, .ref f_draftSigns, .int 0, .int 0, .int 0, .int 0, .ref f_letters, .ref f_numbers, .ref f_isList, .ref f_bounds, .ref f_sizes, .ref f_lists, .ref f_told, .ref f_costs, .int 0, .ref f_times, .int 0, .ref f_bestOne, .ref f_basis, .int 0, .ref f_one, .int 0, .ref f_along, .ref f_now]))] := hD
    refine lv_aload_n hx hb d_MO_work_49 rfl (lv_at hl 0 rfl) ?_
    refine va_get (D := (dC, dI)) (ci := 9) (v := .int 2) (C := R_MO) (T := T_MO) (N := 36) hx hb hts in_MO hown hK hP 0 rfl rfl 0 (by decide) (hts _ k_886) (fun _ h9 => h9) rfl d_MO_work_50 ?_
    refine lv_if_le (tgt := 58) hx hb d_MO_work_53 (by decide) (fun h9 => absurd h9 (by decide)) (fun _ => ?_)
    refine lv_iconst (v := 0) hx hb d_MO_work_56 (by decide) ?_
    have hP9 := hP.sub (ws' := [(m0, .inr (9, [.int 2, .ref f_text, .int 0, .int (-1), .ref f_kinds, .ref f_places, .ref f_values, .int 0, .ref f_draftLetters, .int 0, .int 0, .int 0, .ref f_draftNumbers, .ref f_draftSigns, .int 0, .int 0, .int 0, .int 0, .ref f_letters, .ref f_numbers, .ref f_isList, .ref f_bounds, .ref f_sizes, .ref f_lists, .ref f_told, .ref f_costs, .int 0, .ref f_times, .int 0, .ref f_bestOne, .ref f_basis, .int 0, .ref f_one, .int 0, .ref f_along, .ref f_now]))]) [0] rfl
    have hD9 := hD.sub (ws' := [(m0, .inr (9, [.int 2, .ref f_text, .int 0, .int (-1), .ref f_kinds, .ref f_places, .ref f_values, .int 0, .ref f_draftLetters, .int 0, .int 0, .int 0, .ref f_draftNumbers, .ref f_draftSigns, .int 0, .int 0, .int 0, .int 0, .ref f_letters, .ref f_numbers, .ref f_isList, .ref f_bounds, .ref f_sizes, .ref f_lists, .ref f_told, .ref f_costs, .int 0, .ref f_times, .int 0, .ref f_bestOne, .ref f_basis, .int 0, .ref f_one, .int 0, .ref f_along, .ref f_now]))]) [0] (by decide) rfl
    have hK9 := hK.sub (tys' := []) [] rfl
    exact W.iret (v := 0) hx hb hr (fun t ht hW => ⟨⟨0, (), rfl, rfl, by rw [ht]; exact hP9, va_K.moved hW.alike hK9, hD9⟩, hS.F ht⟩) hS.2.2 d_MO_work_57
  · refine lv_bipush (v := 10) hx hb d_MO_work_20 (by decide) ?_
    refine lv_goto (tgt := 27) hx hb d_MO_work_22 (by decide) ?_
    refine lv_icmp_le (tgt := 34) hx hb d_MO_work_27 (by decide) (fun _ => ?_) (fun h9 => absurd (Int32.not_lt.mp (by simpa [hc1] using g4)) h9)
    refine lv_aload_n hx hb d_MO_work_34 rfl (lv_at hl 0 rfl) ?_
    refine va_get (D := (dC, dI)) (ci := 9) (v := .int 0) (C := R_MO) (T := T_MO) (N := 36) hx hb hts in_MO hown hK hP 0 rfl rfl 14 (by decide) (hts _ k_900) (fun _ h9 => h9) rfl d_MO_work_35 ?_
    refine lv_if_eq (tgt := 45) hx hb d_MO_work_38 (by decide) (fun _ => ?_) (fun h9 => absurd (by decide) h9)
    refine lv_iconst (v := 2) hx hb d_MO_work_45 (by decide) ?_
    refine va_put (D := (dC, dI)) (ci := 9) (v := .int 2) (ty := .int) (C := R_MO) (T := T_MO) (N := 36) hx hb hts in_MO t_MO t_MO_ok n_MO hown hK hP hD hS 0 rfl rfl 0 (by decide) (hts _ k_886) (fun _ h9 => h9) rfl (by decide +kernel) rfl rfl (Nat.le_of_ble_eq_true rfl) d_MO_work_46 (fun H2 locs hP hD hS => ?_)
    have hP : va_P (dC, dI) cls [(m0, .inr (9, [.int 2, .ref f_text, .int 0, .int (-1), .ref f_kinds, .ref f_places, .ref f_values, .int 0, .ref f_draftLetters, .int 0, .int 0, .int 0, .ref f_draftNumbers, .ref f_draftSigns, .int 0, .int 0, .int 0, .int 0, .ref f_letters, .ref f_numbers, .ref f_isList, .ref f_bounds, .ref f_sizes, .ref f_lists, .ref f_told, .ref f_costs, .int 0, .ref f_times, .int 0, .ref f_bestOne, .ref f_basis, .int 0, .ref f_one, .int 0, .ref f_along, .ref f_now]))] H2 := hP
    have hD : va_D A [(m0, .inr (9, [.int 2, .ref f_text, .int 0, .int (-1), .ref f_kinds, .ref f_places, .ref f_values, .int 0, .ref f_draftLetters, .int 0, .int 0, .int 0, .ref f_draftNumbers, .ref f_draftSigns, .int 0, .int 0, .int 0, .int 0, .ref f_letters, .ref f_numbers, .ref f_isList, .ref f_bounds, .ref f_sizes, .ref f_lists, .ref f_told, .ref f_costs, .int 0, .ref f_times, .int 0, .ref f_bestOne, .ref f_basis, .int 0, .ref f_one, .int 0, .ref f_along, .ref f_now]))] := hD
    refine lv_aload_n hx hb d_MO_work_49 rfl (lv_at hl 0 rfl) ?_
    refine va_get (D := (dC, dI)) (ci := 9) (v := .int 2) (C := R_MO) (T := T_MO) (N := 36) hx hb hts in_MO hown hK hP 0 rfl rfl 0 (by decide) (hts _ k_886) (fun _ h9 => h9) rfl d_MO_work_50 ?_
    refine lv_if_le (tgt := 58) hx hb d_MO_work_53 (by decide) (fun h9 => absurd h9 (by decide)) (fun _ => ?_)
    refine lv_iconst (v := 0) hx hb d_MO_work_56 (by decide) ?_
    have hP9 := hP.sub (ws' := [(m0, .inr (9, [.int 2, .ref f_text, .int 0, .int (-1), .ref f_kinds, .ref f_places, .ref f_values, .int 0, .ref f_draftLetters, .int 0, .int 0, .int 0, .ref f_draftNumbers, .ref f_draftSigns, .int 0, .int 0, .int 0, .int 0, .ref f_letters, .ref f_numbers, .ref f_isList, .ref f_bounds, .ref f_sizes, .ref f_lists, .ref f_told, .ref f_costs, .int 0, .ref f_times, .int 0, .ref f_bestOne, .ref f_basis, .int 0, .ref f_one, .int 0, .ref f_along, .ref f_now]))]) [0] rfl
    have hD9 := hD.sub (ws' := [(m0, .inr (9, [.int 2, .ref f_text, .int 0, .int (-1), .ref f_kinds, .ref f_places, .ref f_values, .int 0, .ref f_draftLetters, .int 0, .int 0, .int 0, .ref f_draftNumbers, .ref f_draftSigns, .int 0, .int 0, .int 0, .int 0, .ref f_letters, .ref f_numbers, .ref f_isList, .ref f_bounds, .ref f_sizes, .ref f_lists, .ref f_told, .ref f_costs, .int 0, .ref f_times, .int 0, .ref f_bestOne, .ref f_basis, .int 0, .ref f_one, .int 0, .ref f_along, .ref f_now]))]) [0] (by decide) rfl
    have hK9 := hK.sub (tys' := []) [] rfl
    exact W.iret (v := 0) hx hb hr (fun t ht hW => ⟨⟨0, (), rfl, rfl, by rw [ht]; exact hP9, va_K.moved hW.alike hK9, hD9⟩, hS.F ht⟩) hS.2.2 d_MO_work_57
end
section
theorem k_10 : (Jvm.Cond.initialized "LeastSolutions$VectorList") ∈ wd := wd_t (List.mem_of_getElem? (i := 10) (by decide +kernel)) rfl
theorem k_294 : (Jvm.Cond.fieldLink "LeastSolutions" (46 : Nat) "LeastSolutions" "lists" "[LLeastSolutions$VectorList;") ∈ wd := wd_t (List.mem_of_getElem? (i := 294) (by decide +kernel)) rfl
theorem k_543 : (Jvm.Cond.methodLink "LeastSolutions" (189 : Nat) ({ cls := "LeastSolutions", name := "canSplit", desc := "()Z" } : Jvm.MethodName)) ∈ wd := wd_t (List.mem_of_getElem? (i := 543) (by decide +kernel)) rfl
theorem k_545 : (Jvm.Cond.instanceMethod ({ cls := "LeastSolutions", name := "canSplit", desc := "()Z" } : Jvm.MethodName)) ∈ wd := wd_t (List.mem_of_getElem? (i := 545) (by decide +kernel)) rfl
theorem k_546 : (Jvm.Cond.code ({ cls := "LeastSolutions", name := "canSplit", desc := "()Z" } : Jvm.MethodName) prog_1_method_22_code (4 : Nat) (Option.some Jvm.ClassFile.FieldType.boolean)) ∈ wd := wd_t (List.mem_of_getElem? (i := 546) (by decide +kernel)) rfl
theorem k_586 : (Jvm.Cond.methodLink "LeastSolutions" (170 : Nat) ({ cls := "LeastSolutions$VectorList", name := "has", desc := "(I)Z" } : Jvm.MethodName)) ∈ wd := wd_t (List.mem_of_getElem? (i := 586) (by decide +kernel)) rfl
theorem k_587 : (Jvm.Cond.instanceMethod ({ cls := "LeastSolutions$VectorList", name := "has", desc := "(I)Z" } : Jvm.MethodName)) ∈ wd := wd_t (List.mem_of_getElem? (i := 587) (by decide +kernel)) rfl
theorem k_588 : (Jvm.Cond.selects "LeastSolutions$VectorList" ({ cls := "LeastSolutions$VectorList", name := "has", desc := "(I)Z" } : Jvm.MethodName) ({ cls := "LeastSolutions$VectorList", name := "has", desc := "(I)Z" } : Jvm.MethodName)) ∈ wd := wd_t (List.mem_of_getElem? (i := 588) (by decide +kernel)) rfl
theorem k_589 : (Jvm.Cond.code ({ cls := "LeastSolutions$VectorList", name := "has", desc := "(I)Z" } : Jvm.MethodName) prog_9_method_4_code (2 : Nat) (Option.some Jvm.ClassFile.FieldType.boolean)) ∈ wd := wd_t (List.mem_of_getElem? (i := 589) (by decide +kernel)) rfl
theorem k_903 : (Jvm.Cond.fieldLink "LeastSolutionsModel" (143 : Nat) "LeastSolutionsModel" "columns" "I") ∈ wd := wd_t (List.mem_of_getElem? (i := 903) (by decide +kernel)) rfl
abbrev y_LS_at : MethodName := ⟨"LeastSolutions", "at", "(III)I"⟩
abbrev b_LS_at : ByteArray := prog_1_method_12_code
abbrev y_LS_canSplit : MethodName := ⟨"LeastSolutions", "canSplit", "()Z"⟩
abbrev b_LS_canSplit : ByteArray := prog_1_method_22_code
abbrev y_LS_split : MethodName := ⟨"LeastSolutions", "split", "()I"⟩
abbrev b_LS_split : ByteArray := prog_1_method_15_code
abbrev y_MO_split : MethodName := ⟨"LeastSolutionsModel", "split", "()I"⟩
abbrev b_MO_split : ByteArray := prog_12_method_44_code
theorem ks_LS_canSplit : Cond.selects "LeastSolutions" ({ cls := "LeastSolutions", name := "canSplit", desc := "()Z" } : Jvm.MethodName) ({ cls := "LeastSolutions", name := "canSplit", desc := "()Z" } : Jvm.MethodName) ∈ wd := wd_p (q := (⟨"LeastSolutions", "canSplit", "()Z"⟩, 16)) (List.mem_of_getElem? (i := 21) (by decide +kernel))
theorem d_LS_at_0 : decode b_LS_at 0 = .ok (.iload_n 1, 1) := by decide +kernel
theorem d_LS_at_1 : decode b_LS_at 1 = .ok (.ifCond .lt 21, 3) := by decide +kernel
theorem d_LS_at_4 : decode b_LS_at 4 = .ok (.iload_n 1, 1) := by decide +kernel
theorem d_LS_at_5 : decode b_LS_at 5 = .ok (.iconst 2, 1) := by decide +kernel
theorem d_LS_at_6 : decode b_LS_at 6 = .ok (.if_icmp .gt 16, 3) := by decide +kernel
theorem d_LS_at_9 : decode b_LS_at 9 = .ok (.aload_n 0, 1) := by decide +kernel
theorem d_LS_at_10 : decode b_LS_at 10 = .ok (.getfield 46, 3) := by decide +kernel
theorem d_LS_at_13 : decode b_LS_at 13 = .ok (.iload_n 1, 1) := by decide +kernel
theorem d_LS_at_14 : decode b_LS_at 14 = .ok (.aaload, 1) := by decide +kernel
theorem d_LS_at_15 : decode b_LS_at 15 = .ok (.iload_n 2, 1) := by decide +kernel
theorem d_LS_at_16 : decode b_LS_at 16 = .ok (.invokevirtual 170, 3) := by decide +kernel
theorem d_LS_at_19 : decode b_LS_at 19 = .ok (.ifCond .ne 11, 3) := by decide +kernel
theorem d_LS_at_22 : decode b_LS_at 22 = .ok (.new 118, 3) := by decide +kernel
theorem d_LS_at_25 : decode b_LS_at 25 = .ok (.dup, 1) := by decide +kernel
theorem d_LS_at_26 : decode b_LS_at 26 = .ok (.invokespecial 120, 3) := by decide +kernel
theorem d_LS_at_29 : decode b_LS_at 29 = .ok (.athrow, 1) := by decide +kernel
theorem d_LS_canSplit_0 : decode b_LS_canSplit 0 = .ok (.aload_n 0, 1) := by decide +kernel
theorem d_LS_canSplit_1 : decode b_LS_canSplit 1 = .ok (.getfield 46, 3) := by decide +kernel
theorem d_LS_canSplit_4 : decode b_LS_canSplit 4 = .ok (.iconst 0, 1) := by decide +kernel
theorem d_LS_canSplit_5 : decode b_LS_canSplit 5 = .ok (.aaload, 1) := by decide +kernel
theorem d_LS_canSplit_6 : decode b_LS_canSplit 6 = .ok (.astore_n 1, 1) := by decide +kernel
theorem d_LS_canSplit_7 : decode b_LS_canSplit 7 = .ok (.aload_n 0, 1) := by decide +kernel
theorem d_LS_canSplit_8 : decode b_LS_canSplit 8 = .ok (.getfield 46, 3) := by decide +kernel
theorem d_LS_canSplit_11 : decode b_LS_canSplit 11 = .ok (.iconst 1, 1) := by decide +kernel
theorem d_LS_canSplit_12 : decode b_LS_canSplit 12 = .ok (.aaload, 1) := by decide +kernel
theorem d_LS_canSplit_13 : decode b_LS_canSplit 13 = .ok (.astore_n 2, 1) := by decide +kernel
theorem d_LS_canSplit_14 : decode b_LS_canSplit 14 = .ok (.aload_n 1, 1) := by decide +kernel
theorem d_LS_canSplit_15 : decode b_LS_canSplit 15 = .ok (.getfield 164, 3) := by decide +kernel
theorem d_LS_canSplit_18 : decode b_LS_canSplit 18 = .ok (.ifCond .eq 35, 3) := by decide +kernel
theorem d_LS_canSplit_53 : decode b_LS_canSplit 53 = .ok (.iconst 0, 1) := by decide +kernel
theorem d_LS_canSplit_54 : decode b_LS_canSplit 54 = .ok (.ireturn, 1) := by decide +kernel
theorem d_LS_split_0 : decode b_LS_split 0 = .ok (.aload_n 0, 1) := by decide +kernel
theorem d_LS_split_1 : decode b_LS_split 1 = .ok (.invokevirtual 189, 3) := by decide +kernel
theorem d_LS_split_4 : decode b_LS_split 4 = .ok (.ifCond .ne 5, 3) := by decide +kernel
theorem d_LS_split_7 : decode b_LS_split 7 = .ok (.iconst (-1), 1) := by decide +kernel
theorem d_LS_split_8 : decode b_LS_split 8 = .ok (.ireturn, 1) := by decide +kernel
theorem d_MO_split_0 : decode b_MO_split 0 = .ok (.aload_n 0, 1) := by decide +kernel
theorem d_MO_split_1 : decode b_MO_split 1 = .ok (.iconst 0, 1) := by decide +kernel
theorem d_MO_split_2 : decode b_MO_split 2 = .ok (.putfield 81, 3) := by decide +kernel
theorem d_MO_split_5 : decode b_MO_split 5 = .ok (.iconst 0, 1) := by decide +kernel
theorem d_MO_split_6 : decode b_MO_split 6 = .ok (.istore_n 1, 1) := by decide +kernel
theorem d_MO_split_7 : decode b_MO_split 7 = .ok (.iconst 0, 1) := by decide +kernel
theorem d_MO_split_8 : decode b_MO_split 8 = .ok (.istore_n 2, 1) := by decide +kernel
theorem d_MO_split_9 : decode b_MO_split 9 = .ok (.iload_n 2, 1) := by decide +kernel
theorem d_MO_split_10 : decode b_MO_split 10 = .ok (.aload_n 0, 1) := by decide +kernel
theorem d_MO_split_11 : decode b_MO_split 11 = .ok (.getfield 143, 3) := by decide +kernel
theorem d_MO_split_14 : decode b_MO_split 14 = .ok (.if_icmp .ge 18, 3) := by decide +kernel
theorem d_MO_split_32 : decode b_MO_split 32 = .ok (.aload_n 0, 1) := by decide +kernel
theorem d_MO_split_33 : decode b_MO_split 33 = .ok (.getfield 133, 3) := by decide +kernel
theorem d_MO_split_36 : decode b_MO_split 36 = .ok (.ifCond .eq 60, 3) := by decide +kernel
theorem d_MO_split_96 : decode b_MO_split 96 = .ok (.iconst (-1), 1) := by decide +kernel
theorem d_MO_split_97 : decode b_MO_split 97 = .ok (.ireturn, 1) := by decide +kernel
end
section
theorem x3_of {x : Int32} (h1 : ¬ x < 0) (h2 : ¬ 2 < x) : x = 0 ∨ x = 1 ∨ x = 2 := by
  obtain ⟨j, hj, rfl⟩ := nI_of2 (M := 2) (n := 2) (by decide) h1 (Int32.not_lt.mp h2)
  rcases (show j = 0 ∨ j = 1 ∨ j = 2 by omega) with rfl | rfl | rfl
  · exact Or.inl rfl
  · exact Or.inr (Or.inl rfl)
  · exact Or.inr (Or.inr rfl)
set_option maxHeartbeats 4000000 in
set_option maxRecDepth 100000 in
theorem c_LS_canSplit (l : Launch) (dC : Nat → ClassId) (dI : Nat → Nat → Nat) (h0 : Nat) (aT : Nat) (aW : Nat) (aB : Nat) (aL : Nat) (aS : Nat) (aV : Nat) (aC : Nat) (a7 : Nat) (a8 : Nat) (a9 : Nat) (a10 : Nat) (aE : Nat) (cV : ClassId) (fV : Nat → Option Nat) (v0 : Nat) (v1 : Nat) (v2 : Nat) (n0 : Nat) (n1 : Nat) (n2 : Nat) (hf0 : fV 0 = some v0) (hf1 : fV 1 = some v1) (hf2 : fV 2 = some v2) : Met l y_LS_canSplit (Cond.code y_LS_canSplit b_LS_canSplit 4 (Option.some Jvm.ClassFile.FieldType.boolean) :: wd) { frames := 0, cells := 0, slots := 0, locals := 0 } (va_Pc [.ref h0] (fun U => va_P (dC, dI) cls [(h0, .inr (0, [.ref aT, .ref aW, .ref aB, .ref aL, .ref aS, .ref aV, .ref aC, .ref a7, .ref a8, .ref a9, .ref a10, .ref aE, .int 0, .int 0, .int 0, .int (-1)])), (aV, .inl (cV, 3, .inr (.inr (.inr (.inr fV))))), (v0, .inr (7, [.ref n0, .int 0, .int 0, .int 0, .int 0, .int 0])), (v1, .inr (7, [.ref n1, .int 0, .int 0, .int 0, .int 0, .int 0])), (v2, .inr (7, [.ref n2, .int 0, .int 0, .int 0, .int 0, .int 0]))] U.heap ∧ va_K (dC, dI) cls [(cV, .object "LeastSolutions$VectorList")] U ∧ nw_ok U)) (va_Qi (fun r (_ : Unit) => r = 0) (fun _ _ => True) (fun _ => False)) 0 0 (fun _ => False) := by
  refine Met.ofW (cc := b_LS_canSplit) (maxL := 4) (ret := (Option.some Jvm.ClassFile.FieldType.boolean)) (by decide) rfl ?_
  intro p e s m args below meth c s₁ B hml hv
  obtain ⟨rfl, hP, hK, hN⟩ := hv
  have hx := B.exec
  have hb := B.bytes
  have hr := B.returns
  have hlocks := B.notSynchronized
  have hts : ∀ w ∈ wd, w.before ([.ref h0] : List Value).toArray s = true := fun w hw => atoms_spec (ws := (Cond.code y_LS_canSplit b_LS_canSplit 4 (Option.some Jvm.ClassFile.FieldType.boolean) :: wd)) B.pre w (List.mem_cons_of_mem _ hw)
  have hown : s.vm.findClass "LeastSolutions" = some m.cls := findClass_of_methodNamed B.named
  have hS : va_S (fun _ => False) s.heap s.heap [] := va_S.rf
  have hl := lv_entry ([.ref h0]) (n := 4) (Nat.le_of_ble_eq_true rfl)
  rw [lg_entry_eq]
  generalize (lg_sl ([.ref h0]) ++ List.replicate (4 - (lg_sl ([.ref h0])).length) Slot.unset).toArray = ls at hl ⊢
  have hl : lv_has ls 4 [(0, .ref h0)] := hl
  refine lv_aload_n hx hb d_LS_canSplit_0 rfl (lv_at hl 0 rfl) ?_
  refine va_get (D := (dC, dI)) (ci := 0) (v := .ref aV) (C := R_LS) (T := T_LS) (N := 16) hx hb hts in_LS hown hK hP 0 rfl rfl 5 (by decide) (hts _ k_294) (fun _ h9 => h9) rfl d_LS_canSplit_1 ?_
  refine lv_iconst (v := 0) hx hb d_LS_canSplit_4 (by decide) ?_
  refine va_aldq (C := "LeastSolutions$VectorList") hx hb hK hP 1 0 rfl rfl (show ¬ ((0 : Int32) < 0 ∨ 3 ≤ (0 : Int32).toNatClampNeg) from by decide) d_LS_canSplit_5 ?_
  rw [show va_rf (fV (0 : Int32).toNatClampNeg) = .ref v0 from by rw [show (0 : Int32).toNatClampNeg = 0 from by decide, hf0]; rfl]
  refine lv_astore_n hx hb d_LS_canSplit_6 rfl hl (by decide) rfl (fun ls hl => ?_)
  have hl : lv_has ls 4 [(1, .ref v0), (0, .ref h0)] := hl
  refine lv_aload_n hx hb d_LS_canSplit_7 rfl (lv_at hl 1 rfl) ?_
  refine va_get (D := (dC, dI)) (ci := 0) (v := .ref aV) (C := R_LS) (T := T_LS) (N := 16) hx hb hts in_LS hown hK hP 0 rfl rfl 5 (by decide) (hts _ k_294) (fun _ h9 => h9) rfl d_LS_canSplit_8 ?_
  refine lv_iconst (v := 1) hx hb d_LS_canSplit_11 (by decide) ?_
  refine va_aldq (C := "LeastSolutions$VectorList") hx hb hK hP 1 0 rfl rfl (show ¬ ((1 : Int32) < 0 ∨ 3 ≤ (1 : Int32).toNatClampNeg) from by decide) d_LS_canSplit_12 ?_
  rw [show va_rf (fV (1 : Int32).toNatClampNeg) = .ref v1 from by rw [show (1 : Int32).toNatClampNeg = 1 from by decide, hf1]; rfl]
  refine lv_astore_n hx hb d_LS_canSplit_13 rfl hl (by decide) rfl (fun ls hl => ?_)
  have hl : lv_has ls 4 [(2, .ref v1), (1, .ref v0), (0, .ref h0)] := hl
  refine lv_aload_n hx hb d_LS_canSplit_14 rfl (lv_at hl 1 rfl) ?_
  refine va_getN (D := (dC, dI)) (ci := 7) (v := .int 0) (C := R_VL) (T := T_VL) (N := 6) hx hb hts in_VL hown hK hP 2 rfl rfl 1 (by decide) (va_Nw.use rfl (hN.1 (Jvm.Cond.fieldLinkNest "LeastSolutions" (164 : Nat) "LeastSolutions$VectorList" "isThere" "Z" "LeastSolutions") nw_38)) (fun _ h9 => h9) rfl d_LS_canSplit_15 ?_
  refine lv_if_eq (tgt := 53) hx hb d_LS_canSplit_18 (by decide) (fun _ => ?_) (fun h9 => absurd (by decide) h9)
  refine lv_iconst (v := 0) hx hb d_LS_canSplit_53 (by decide) ?_
  exact W.zret (v := 0) (ty := .boolean) hx hb hr (by decide +kernel) (fun t ht hW => ⟨⟨0, (), rfl, rfl, trivial⟩, hS.F ht⟩) hS.2.2 d_LS_canSplit_54

set_option maxHeartbeats 4000000 in
set_option maxRecDepth 100000 in
theorem c_LS_split (l : Launch) (dC : Nat → ClassId) (dI : Nat → Nat → Nat) (h0 : Nat) (aT : Nat) (aW : Nat) (aB : Nat) (aL : Nat) (aS : Nat) (aV : Nat) (aC : Nat) (a7 : Nat) (a8 : Nat) (a9 : Nat) (a10 : Nat) (aE : Nat) (cV : ClassId) (fV : Nat → Option Nat) (v0 : Nat) (v1 : Nat) (v2 : Nat) (n0 : Nat) (n1 : Nat) (n2 : Nat) (hf0 : fV 0 = some v0) (hf1 : fV 1 = some v1) (hf2 : fV 2 = some v2) : Met l y_LS_split (Cond.code y_LS_split b_LS_split 3 (Option.some Jvm.ClassFile.FieldType.int) :: wd) { frames := 1, cells := 0, slots := 0, locals := 23 } (va_Pc [.ref h0] (fun U => va_P (dC, dI) cls [(h0, .inr (0, [.ref aT, .ref aW, .ref aB, .ref aL, .ref aS, .ref aV, .ref aC, .ref a7, .ref a8, .ref a9, .ref a10, .ref aE, .int 0, .int 0, .int 0, .int (-1)])), (aV, .inl (cV, 3, .inr (.inr (.inr (.inr fV))))), (v0, .inr (7, [.ref n0, .int 0, .int 0, .int 0, .int 0, .int 0])), (v1, .inr (7, [.ref n1, .int 0, .int 0, .int 0, .int 0, .int 0])), (v2, .inr (7, [.ref n2, .int 0, .int 0, .int 0, .int 0, .int 0]))] U.heap ∧ va_K (dC, dI) cls [(cV, .object "LeastSolutions$VectorList")] U ∧ nw_ok U)) (va_Qi (fun r (_ : Unit) => r = (-1)) (fun _ _ => True) (fun _ => False)) 0 0 (fun _ => False) := by
  refine Met.ofW (cc := b_LS_split) (maxL := 3) (ret := (Option.some Jvm.ClassFile.FieldType.int)) (by decide) rfl ?_
  intro p e s m args below meth c s₁ B hml hv
  obtain ⟨rfl, hP, hK, hN⟩ := hv
  have hx := B.exec
  have hb := B.bytes
  have hr := B.returns
  have hlocks := B.notSynchronized
  have hts : ∀ w ∈ wd, w.before ([.ref h0] : List Value).toArray s = true := fun w hw => atoms_spec (ws := (Cond.code y_LS_split b_LS_split 3 (Option.some Jvm.ClassFile.FieldType.int) :: wd)) B.pre w (List.mem_cons_of_mem _ hw)
  have hown : s.vm.findClass "LeastSolutions" = some m.cls := findClass_of_methodNamed B.named
  have hS : va_S (fun _ => False) s.heap s.heap [] := va_S.rf
  have hl := lv_entry ([.ref h0]) (n := 3) (Nat.le_of_ble_eq_true rfl)
  rw [lg_entry_eq]
  generalize (lg_sl ([.ref h0]) ++ List.replicate (3 - (lg_sl ([.ref h0])).length) Slot.unset).toArray = ls at hl ⊢
  have hl : lv_has ls 3 [(0, .ref h0)] := hl
  refine lv_aload_n hx hb d_LS_split_0 rfl (lv_at hl 0 rfl) ?_
  refine pu_calli (va_runV (As := []) (rest := []) ⟨hx, hb, hml, hown, hts⟩ (c_LS_canSplit l dC dI (h0) (aT) (aW) (aB) (aL) (aS) (aV) (aC) (a7) (a8) (a9) (a10) (aE) (cV) (fV) (v0) (v1) (v2) (n0) (n1) (n2) (hf0) (hf1) (hf2)) (wd_V (C := "LeastSolutions") 0 hts k_546 k_1 k_543 k_545 ks_LS_canSplit rfl rfl (by decide +kernel) ⟨Nat.le_of_ble_eq_true rfl, Nat.le_of_ble_eq_true rfl⟩) ⟨fun a U g mk q => by obtain ⟨q0, qP, qK, qN⟩ := q; exact ⟨q0, qP, va_K.moved (u := U) (U := U.calling g mk a) (Vm.Alike.refl U.vm) qK, nw_ok.same (s := U) (U := U.calling g mk a) rfl qN⟩, va_recv (ci := 0) (q0 := 0) hK hP rfl rfl, fun U hU hW => ⟨rfl, by rw [hU]; exact hP.sub (ws' := [(h0, .inr (0, [.ref aT, .ref aW, .ref aB, .ref aL, .ref aS, .ref aV, .ref aC, .ref a7, .ref a8, .ref a9, .ref a10, .ref aE, .int 0, .int 0, .int 0, .int (-1)])), (aV, .inl (cV, 3, .inr (.inr (.inr (.inr fV))))), (v0, .inr (7, [.ref n0, .int 0, .int 0, .int 0, .int 0, .int 0])), (v1, .inr (7, [.ref n1, .int 0, .int 0, .int 0, .int 0, .int 0])), (v2, .inr (7, [.ref n2, .int 0, .int 0, .int 0, .int 0, .int 0]))]) [0, 1, 2, 3, 4] rfl, va_K.moved hW.alike (hK.sub (tys' := [(cV, .object "LeastSolutions$VectorList")]) [0] rfl), nw_ok.warm hW hN⟩⟩ rfl rfl hl.1 rfl (lv_room (Nat.le_of_ble_eq_true rfl)) d_LS_split_1 ⟨Nat.le_of_ble_eq_true rfl, Nat.le_of_ble_eq_true rfl⟩) (fun r1 hr1 => ?_)
  try dsimp only at hr1
  subst hr1
  refine lv_if_ne (tgt := 9) hx hb d_LS_split_4 (by decide) (fun h9 => absurd (by decide) h9) (fun _ => ?_)
  refine lv_iconst (v := (-1)) hx hb d_LS_split_7 (by decide) ?_
  exact W.iret (v := (-1)) hx hb hr (fun t ht hW => ⟨⟨(-1), (), rfl, rfl, trivial⟩, hS.F ht⟩) hS.2.2 d_LS_split_8

set_option maxHeartbeats 4000000 in
set_option maxRecDepth 100000 in
theorem c_LS_at (l : Launch) (htr : l.stackTraces = false) (dC : Nat → ClassId) (dI : Nat → Nat → Nat) (h0 : Nat) (aT : Nat) (aW : Nat) (aB : Nat) (aL : Nat) (aS : Nat) (aV : Nat) (aC : Nat) (a7 : Nat) (a8 : Nat) (a9 : Nat) (a10 : Nat) (aE : Nat) (cV : ClassId) (fV : Nat → Option Nat) (v0 : Nat) (v1 : Nat) (v2 : Nat) (n0 : Nat) (n1 : Nat) (n2 : Nat) (what : Int32) (i : Int32) (column : Int32) (hf0 : fV 0 = some v0) (hf1 : fV 1 = some v1) (hf2 : fV 2 = some v2) : xt_Met l y_LS_at (Cond.code y_LS_at b_LS_at 4 (Option.some Jvm.ClassFile.FieldType.int) :: wd) { frames := 6, cells := 1, slots := 6, locals := 100 } (va_Pc [.ref h0, .int what, .int i, .int column] (fun U => va_P (dC, dI) cls [(h0, .inr (0, [.ref aT, .ref aW, .ref aB, .ref aL, .ref aS, .ref aV, .ref aC, .ref a7, .ref a8, .ref a9, .ref a10, .ref aE, .int 0, .int 0, .int 0, .int (-1)])), (aV, .inl (cV, 3, .inr (.inr (.inr (.inr fV))))), (v0, .inr (7, [.ref n0, .int 0, .int 0, .int 0, .int 0, .int 0])), (v1, .inr (7, [.ref n1, .int 0, .int 0, .int 0, .int 0, .int 0])), (v2, .inr (7, [.ref n2, .int 0, .int 0, .int 0, .int 0, .int 0]))] U.heap ∧ va_K (dC, dI) cls [(cV, .object "LeastSolutions$VectorList")] U ∧ nw_ok U ∧ xs_ok U)) (fun _ st x t => xt_X "java/lang/IndexOutOfBoundsException" st x t) 1 6 (fun _ => False) := by
  refine xt_ofW (cc := b_LS_at) (maxL := 4) (ret := (Option.some Jvm.ClassFile.FieldType.int)) (by decide) rfl ?_
  intro p e s m args below meth c s₁ B hml hne hv
  obtain ⟨rfl, hP, hK, hN, hX⟩ := hv
  have hx := B.exec
  have hb := B.bytes
  have hr := B.returns
  have hlocks := B.notSynchronized
  have hts : ∀ w ∈ wd, w.before ([.ref h0, .int what, .int i, .int column] : List Value).toArray s = true := fun w hw => atoms_spec (ws := (Cond.code y_LS_at b_LS_at 4 (Option.some Jvm.ClassFile.FieldType.int) :: wd)) B.pre w (List.mem_cons_of_mem _ hw)
  have hown : s.vm.findClass "LeastSolutions" = some m.cls := findClass_of_methodNamed B.named
  have hS : va_S (fun _ => False) s.heap s.heap [] := va_S.rf
  have hl := lv_entry ([.ref h0, .int what, .int i, .int column]) (n := 4) (Nat.le_of_ble_eq_true rfl)
  rw [lg_entry_eq]
  generalize (lg_sl ([.ref h0, .int what, .int i, .int column]) ++ List.replicate (4 - (lg_sl ([.ref h0, .int what, .int i, .int column])).length) Slot.unset).toArray = ls at hl ⊢
  have hl : lv_has ls 4 [(0, .ref h0), (1, .int what), (2, .int i), (3, .int column)] := hl
  refine lv_iload_n hx hb d_LS_at_0 rfl (lv_at hl 1 rfl) ?_
  refine lv_if_lt (tgt := 22) hx hb d_LS_at_1 (by decide) (fun hc1 => ?_) (fun hc1 => ?_)
  · exact xt_throw (names := ["java/lang/RuntimeException", "java/lang/Exception"]) (ia := 118) (ic := 120) hx hb htr hml hl hne hlocks hown (by decide +kernel) (by decide +kernel) (hts _ k_606) (hts _ k_17) (oa_IOOBE hts hX) d_LS_at_22 d_LS_at_25 d_LS_at_26 d_LS_at_29 (Nat.le_of_ble_eq_true rfl) (Nat.le_of_ble_eq_true rfl) (Nat.le_of_ble_eq_true rfl) (Nat.le_of_ble_eq_true rfl)
  · refine lv_iload_n hx hb d_LS_at_4 rfl (lv_at hl 1 rfl) ?_
    refine lv_iconst (v := 2) hx hb d_LS_at_5 (by decide) ?_
    refine lv_icmp_gt (tgt := 22) hx hb d_LS_at_6 (by decide) (fun hc2 => ?_) (fun hc2 => ?_)
    · exact xt_throw (names := ["java/lang/RuntimeException", "java/lang/Exception"]) (ia := 118) (ic := 120) hx hb htr hml hl hne hlocks hown (by decide +kernel) (by decide +kernel) (hts _ k_606) (hts _ k_17) (oa_IOOBE hts hX) d_LS_at_22 d_LS_at_25 d_LS_at_26 d_LS_at_29 (Nat.le_of_ble_eq_true rfl) (Nat.le_of_ble_eq_true rfl) (Nat.le_of_ble_eq_true rfl) (Nat.le_of_ble_eq_true rfl)
    · rcases x3_of hc1 hc2 with rfl | rfl | rfl
      · refine lv_aload_n hx hb d_LS_at_9 rfl (lv_at hl 0 rfl) ?_
        refine va_get (D := (dC, dI)) (ci := 0) (v := .ref aV) (C := R_LS) (T := T_LS) (N := 16) hx hb hts in_LS hown hK hP 0 rfl rfl 5 (by decide) (hts _ k_294) (fun _ h9 => h9) rfl d_LS_at_10 ?_
        refine lv_iload_n hx hb d_LS_at_13 rfl (lv_at hl 1 rfl) ?_
        refine va_aldq (C := "LeastSolutions$VectorList") hx hb hK hP 1 0 rfl rfl (show ¬ ((0 : Int32) < 0 ∨ 3 ≤ (0 : Int32).toNatClampNeg) from by decide) d_LS_at_14 ?_
        rw [show va_rf (fV (0 : Int32).toNatClampNeg) = .ref v0 from by rw [show (0 : Int32).toNatClampNeg = 0 from by decide, hf0]; rfl]
        refine lv_iload_n hx hb d_LS_at_15 rfl (lv_at hl 2 rfl) ?_
        refine pu_calli (va_runV (As := [.int i]) (rest := []) ⟨hx, hb, hml, hown, hts⟩ (c_VL_has l dC dI (v0) (n0) (i)) (wd_V (C := "LeastSolutions$VectorList") 1 hts k_589 k_10 k_586 k_587 k_588 rfl rfl (by decide +kernel) ⟨Nat.le_of_ble_eq_true rfl, Nat.le_of_ble_eq_true rfl⟩) ⟨fun a U g mk q => by obtain ⟨q0, qP, qK, qN⟩ := q; exact ⟨q0, qP, va_K.moved (u := U) (U := U.calling g mk a) (Vm.Alike.refl U.vm) qK, nw_ok.same (s := U) (U := U.calling g mk a) rfl qN⟩, va_recv (ci := 7) (q0 := 2) hK hP rfl rfl, fun U hU hW => ⟨rfl, by rw [hU]; exact hP.sub (ws' := [(v0, .inr (7, [.ref n0, .int 0, .int 0, .int 0, .int 0, .int 0]))]) [2] rfl, va_K.moved hW.alike (hK.sub (tys' := []) [] rfl), nw_ok.warm hW hN⟩⟩ rfl rfl hl.1 rfl (lv_room (Nat.le_of_ble_eq_true rfl)) d_LS_at_16 ⟨Nat.le_of_ble_eq_true rfl, Nat.le_of_ble_eq_true rfl⟩) (fun r1 hr1 => ?_)
        try dsimp only at hr1
        subst hr1
        refine lv_if_ne (tgt := 30) hx hb d_LS_at_19 (by decide) (fun h9 => absurd (by decide) h9) (fun _ => ?_)
        exact xt_throw (names := ["java/lang/RuntimeException", "java/lang/Exception"]) (ia := 118) (ic := 120) hx hb htr hml hl hne hlocks hown (by decide +kernel) (by decide +kernel) (hts _ k_606) (hts _ k_17) (oa_IOOBE hts hX) d_LS_at_22 d_LS_at_25 d_LS_at_26 d_LS_at_29 (Nat.le_of_ble_eq_true rfl) (Nat.le_of_ble_eq_true rfl) (Nat.le_of_ble_eq_true rfl) (Nat.le_of_ble_eq_true rfl)
      · refine lv_aload_n hx hb d_LS_at_9 rfl (lv_at hl 0 rfl) ?_
        refine va_get (D := (dC, dI)) (ci := 0) (v := .ref aV) (C := R_LS) (T := T_LS) (N := 16) hx hb hts in_LS hown hK hP 0 rfl rfl 5 (by decide) (hts _ k_294) (fun _ h9 => h9) rfl d_LS_at_10 ?_
        refine lv_iload_n hx hb d_LS_at_13 rfl (lv_at hl 1 rfl) ?_
        refine va_aldq (C := "LeastSolutions$VectorList") hx hb hK hP 1 0 rfl rfl (show ¬ ((1 : Int32) < 0 ∨ 3 ≤ (1 : Int32).toNatClampNeg) from by decide) d_LS_at_14 ?_
        rw [show va_rf (fV (1 : Int32).toNatClampNeg) = .ref v1 from by rw [show (1 : Int32).toNatClampNeg = 1 from by decide, hf1]; rfl]
        refine lv_iload_n hx hb d_LS_at_15 rfl (lv_at hl 2 rfl) ?_
        refine pu_calli (va_runV (As := [.int i]) (rest := []) ⟨hx, hb, hml, hown, hts⟩ (c_VL_has l dC dI (v1) (n1) (i)) (wd_V (C := "LeastSolutions$VectorList") 1 hts k_589 k_10 k_586 k_587 k_588 rfl rfl (by decide +kernel) ⟨Nat.le_of_ble_eq_true rfl, Nat.le_of_ble_eq_true rfl⟩) ⟨fun a U g mk q => by obtain ⟨q0, qP, qK, qN⟩ := q; exact ⟨q0, qP, va_K.moved (u := U) (U := U.calling g mk a) (Vm.Alike.refl U.vm) qK, nw_ok.same (s := U) (U := U.calling g mk a) rfl qN⟩, va_recv (ci := 7) (q0 := 3) hK hP rfl rfl, fun U hU hW => ⟨rfl, by rw [hU]; exact hP.sub (ws' := [(v1, .inr (7, [.ref n1, .int 0, .int 0, .int 0, .int 0, .int 0]))]) [3] rfl, va_K.moved hW.alike (hK.sub (tys' := []) [] rfl), nw_ok.warm hW hN⟩⟩ rfl rfl hl.1 rfl (lv_room (Nat.le_of_ble_eq_true rfl)) d_LS_at_16 ⟨Nat.le_of_ble_eq_true rfl, Nat.le_of_ble_eq_true rfl⟩) (fun r2 hr2 => ?_)
        try dsimp only at hr2
        subst hr2
        refine lv_if_ne (tgt := 30) hx hb d_LS_at_19 (by decide) (fun h9 => absurd (by decide) h9) (fun _ => ?_)
        exact xt_throw (names := ["java/lang/RuntimeException", "java/lang/Exception"]) (ia := 118) (ic := 120) hx hb htr hml hl hne hlocks hown (by decide +kernel) (by decide +kernel) (hts _ k_606) (hts _ k_17) (oa_IOOBE hts hX) d_LS_at_22 d_LS_at_25 d_LS_at_26 d_LS_at_29 (Nat.le_of_ble_eq_true rfl) (Nat.le_of_ble_eq_true rfl) (Nat.le_of_ble_eq_true rfl) (Nat.le_of_ble_eq_true rfl)
      · refine lv_aload_n hx hb d_LS_at_9 rfl (lv_at hl 0 rfl) ?_
        refine va_get (D := (dC, dI)) (ci := 0) (v := .ref aV) (C := R_LS) (T := T_LS) (N := 16) hx hb hts in_LS hown hK hP 0 rfl rfl 5 (by decide) (hts _ k_294) (fun _ h9 => h9) rfl d_LS_at_10 ?_
        refine lv_iload_n hx hb d_LS_at_13 rfl (lv_at hl 1 rfl) ?_
        refine va_aldq (C := "LeastSolutions$VectorList") hx hb hK hP 1 0 rfl rfl (show ¬ ((2 : Int32) < 0 ∨ 3 ≤ (2 : Int32).toNatClampNeg) from by decide) d_LS_at_14 ?_
        rw [show va_rf (fV (2 : Int32).toNatClampNeg) = .ref v2 from by rw [show (2 : Int32).toNatClampNeg = 2 from by decide, hf2]; rfl]
        refine lv_iload_n hx hb d_LS_at_15 rfl (lv_at hl 2 rfl) ?_
        refine pu_calli (va_runV (As := [.int i]) (rest := []) ⟨hx, hb, hml, hown, hts⟩ (c_VL_has l dC dI (v2) (n2) (i)) (wd_V (C := "LeastSolutions$VectorList") 1 hts k_589 k_10 k_586 k_587 k_588 rfl rfl (by decide +kernel) ⟨Nat.le_of_ble_eq_true rfl, Nat.le_of_ble_eq_true rfl⟩) ⟨fun a U g mk q => by obtain ⟨q0, qP, qK, qN⟩ := q; exact ⟨q0, qP, va_K.moved (u := U) (U := U.calling g mk a) (Vm.Alike.refl U.vm) qK, nw_ok.same (s := U) (U := U.calling g mk a) rfl qN⟩, va_recv (ci := 7) (q0 := 4) hK hP rfl rfl, fun U hU hW => ⟨rfl, by rw [hU]; exact hP.sub (ws' := [(v2, .inr (7, [.ref n2, .int 0, .int 0, .int 0, .int 0, .int 0]))]) [4] rfl, va_K.moved hW.alike (hK.sub (tys' := []) [] rfl), nw_ok.warm hW hN⟩⟩ rfl rfl hl.1 rfl (lv_room (Nat.le_of_ble_eq_true rfl)) d_LS_at_16 ⟨Nat.le_of_ble_eq_true rfl, Nat.le_of_ble_eq_true rfl⟩) (fun r3 hr3 => ?_)
        try dsimp only at hr3
        subst hr3
        refine lv_if_ne (tgt := 30) hx hb d_LS_at_19 (by decide) (fun h9 => absurd (by decide) h9) (fun _ => ?_)
        exact xt_throw (names := ["java/lang/RuntimeException", "java/lang/Exception"]) (ia := 118) (ic := 120) hx hb htr hml hl hne hlocks hown (by decide +kernel) (by decide +kernel) (hts _ k_606) (hts _ k_17) (oa_IOOBE hts hX) d_LS_at_22 d_LS_at_25 d_LS_at_26 d_LS_at_29 (Nat.le_of_ble_eq_true rfl) (Nat.le_of_ble_eq_true rfl) (Nat.le_of_ble_eq_true rfl) (Nat.le_of_ble_eq_true rfl)

set_option maxHeartbeats 4000000 in
set_option maxRecDepth 100000 in
theorem c_MO_split (l : Launch) (dC : Nat → ClassId) (dI : Nat → Nat → Nat) (m0 : Nat) (f_text : Nat) (f_kinds : Nat) (f_places : Nat) (f_values : Nat) (f_draftLetters : Nat) (f_draftNumbers : Nat) (f_draftSigns : Nat) (f_letters : Nat) (f_numbers : Nat) (f_isList : Nat) (f_bounds : Nat) (f_sizes : Nat) (f_lists : Nat) (f_told : Nat) (f_costs : Nat) (f_times : Nat) (f_bestOne : Nat) (f_basis : Nat) (f_one : Nat) (f_along : Nat) (f_now : Nat) (th : Int32) (sz : Nat) : Met l y_MO_split (Cond.code y_MO_split b_MO_split 5 (Option.some Jvm.ClassFile.FieldType.int) :: wd) { frames := 0, cells := 0, slots := 0, locals := 0 } (va_Pc [.ref m0] (fun U => U.heap.size = sz ∧ va_P (dC, dI) cls [(m0, .inr (9, [.int th, .ref f_text, .int 0, .int (-1), .ref f_kinds, .ref f_places, .ref f_values, .int 0, .ref f_draftLetters, .int 0, .int 0, .int 0, .ref f_draftNumbers, .ref f_draftSigns, .int 0, .int 0, .int 0, .int 0, .ref f_letters, .ref f_numbers, .ref f_isList, .ref f_bounds, .ref f_sizes, .ref f_lists, .ref f_told, .ref f_costs, .int 0, .ref f_times, .int 0, .ref f_bestOne, .ref f_basis, .int 0, .ref f_one, .int 0, .ref f_along, .ref f_now]))] U.heap ∧ va_K (dC, dI) cls [] U ∧ va_D (fun _ => True) [(m0, .inr (9, [.int th, .ref f_text, .int 0, .int (-1), .ref f_kinds, .ref f_places, .ref f_values, .int 0, .ref f_draftLetters, .int 0, .int 0, .int 0, .ref f_draftNumbers, .ref f_draftSigns, .int 0, .int 0, .int 0, .int 0, .ref f_letters, .ref f_numbers, .ref f_isList, .ref f_bounds, .ref f_sizes, .ref f_lists, .ref f_told, .ref f_costs, .int 0, .ref f_times, .int 0, .ref f_bestOne, .ref f_basis, .int 0, .ref f_one, .int 0, .ref f_along, .ref f_now]))] ∧ nw_ok U)) (va_Qi (fun r (_ : Unit) => r = (-1)) (fun (_ : Unit) t => va_P (dC, dI) cls [(m0, .inr (9, [.int 0, .ref f_text, .int 0, .int (-1), .ref f_kinds, .ref f_places, .ref f_values, .int 0, .ref f_draftLetters, .int 0, .int 0, .int 0, .ref f_draftNumbers, .ref f_draftSigns, .int 0, .int 0, .int 0, .int 0, .ref f_letters, .ref f_numbers, .ref f_isList, .ref f_bounds, .ref f_sizes, .ref f_lists, .ref f_told, .ref f_costs, .int 0, .ref f_times, .int 0, .ref f_bestOne, .ref f_basis, .int 0, .ref f_one, .int 0, .ref f_along, .ref f_now]))] t.heap ∧ va_K (dC, dI) cls [] t ∧ va_D (va_A [(m0, .inr (9, [.int th, .ref f_text, .int 0, .int (-1), .ref f_kinds, .ref f_places, .ref f_values, .int 0, .ref f_draftLetters, .int 0, .int 0, .int 0, .ref f_draftNumbers, .ref f_draftSigns, .int 0, .int 0, .int 0, .int 0, .ref f_letters, .ref f_numbers, .ref f_isList, .ref f_bounds, .ref f_sizes, .ref f_lists, .ref f_told, .ref f_costs, .int 0, .ref f_times, .int 0, .ref f_bestOne, .ref f_basis, .int 0, .ref f_one, .int 0, .ref f_along, .ref f_now]))] sz) [(m0, .inr (9, [.int 0, .ref f_text, .int 0, .int (-1), .ref f_kinds, .ref f_places, .ref f_values, .int 0, .ref f_draftLetters, .int 0, .int 0, .int 0, .ref f_draftNumbers, .ref f_draftSigns, .int 0, .int 0, .int 0, .int 0, .ref f_letters, .ref f_numbers, .ref f_isList, .ref f_bounds, .ref f_sizes, .ref f_lists, .ref f_told, .ref f_costs, .int 0, .ref f_times, .int 0, .ref f_bestOne, .ref f_basis, .int 0, .ref f_one, .int 0, .ref f_along, .ref f_now]))]) (va_A [(m0, .inr (9, [.int th, .ref f_text, .int 0, .int (-1), .ref f_kinds, .ref f_places, .ref f_values, .int 0, .ref f_draftLetters, .int 0, .int 0, .int 0, .ref f_draftNumbers, .ref f_draftSigns, .int 0, .int 0, .int 0, .int 0, .ref f_letters, .ref f_numbers, .ref f_isList, .ref f_bounds, .ref f_sizes, .ref f_lists, .ref f_told, .ref f_costs, .int 0, .ref f_times, .int 0, .ref f_bestOne, .ref f_basis, .int 0, .ref f_one, .int 0, .ref f_along, .ref f_now]))] sz)) 0 0 (va_A [(m0, .inr (9, [.int th, .ref f_text, .int 0, .int (-1), .ref f_kinds, .ref f_places, .ref f_values, .int 0, .ref f_draftLetters, .int 0, .int 0, .int 0, .ref f_draftNumbers, .ref f_draftSigns, .int 0, .int 0, .int 0, .int 0, .ref f_letters, .ref f_numbers, .ref f_isList, .ref f_bounds, .ref f_sizes, .ref f_lists, .ref f_told, .ref f_costs, .int 0, .ref f_times, .int 0, .ref f_bestOne, .ref f_basis, .int 0, .ref f_one, .int 0, .ref f_along, .ref f_now]))] sz) := by
  refine Met.ofW (cc := b_MO_split) (maxL := 5) (ret := (Option.some Jvm.ClassFile.FieldType.int)) (by decide) rfl ?_
  intro p e s m args below meth c s₁ B hml hv
  obtain ⟨rfl, hsz, hP, hK, hD0, hN⟩ := hv
  have hx := B.exec
  have hb := B.bytes
  have hr := B.returns
  have hlocks := B.notSynchronized
  have hts : ∀ w ∈ wd, w.before ([.ref m0] : List Value).toArray s = true := fun w hw => atoms_spec (ws := (Cond.code y_MO_split b_MO_split 5 (Option.some Jvm.ClassFile.FieldType.int) :: wd)) B.pre w (List.mem_cons_of_mem _ hw)
  have hown : s.vm.findClass "LeastSolutionsModel" = some m.cls := findClass_of_methodNamed B.named
  subst hsz
  have hD := hD0.self (sz := s.heap.size)
  generalize hAe : va_A [(m0, .inr (9, [.int th, .ref f_text, .int 0, .int (-1), .ref f_kinds, .ref f_places, .ref f_values, .int 0, .ref f_draftLetters, .int 0, .int 0, .int 0, .ref f_draftNumbers, .ref f_draftSigns, .int 0, .int 0, .int 0, .int 0, .ref f_letters, .ref f_numbers, .ref f_isList, .ref f_bounds, .ref f_sizes, .ref f_lists, .ref f_told, .ref f_costs, .int 0, .ref f_times, .int 0, .ref f_bestOne, .ref f_basis, .int 0, .ref f_one, .int 0, .ref f_along, .ref f_now]))] s.heap.size = A at hD ⊢
  have hA : ∀ q : Nat, s.heap.size ≤ q → A q := fun q h => by rw [← hAe]; exact Or.inr h
  have hS : va_S A s.heap s.heap [] := va_S.rf
  have hl := lv_entry ([.ref m0]) (n := 5) (Nat.le_of_ble_eq_true rfl)
  rw [lg_entry_eq]
  generalize (lg_sl ([.ref m0]) ++ List.replicate (5 - (lg_sl ([.ref m0])).length) Slot.unset).toArray = ls at hl ⊢
  have hl : lv_has ls 5 [(0, .ref m0)] := hl
  refine lv_aload_n hx hb d_MO_split_0 rfl (lv_at hl 0 rfl) ?_
  refine lv_iconst (v := 0) hx hb d_MO_split_1 (by decide) ?_
  refine va_put (D := (dC, dI)) (ci := 9) (v := .int 0) (ty := .int) (C := R_MO) (T := T_MO) (N := 36) hx hb hts in_MO t_MO t_MO_ok n_MO hown hK hP hD hS 0 rfl rfl 0 (by decide) (hts _ k_886) (fun _ h9 => h9) rfl (by decide +kernel) rfl rfl (Nat.le_of_ble_eq_true rfl) d_MO_split_2 (fun H1 locs hP hD hS => ?_)
  have hP : va_P (dC, dI) cls [(m0, .inr (9, [.int 0, .ref f_text, .int 0, .int (-1), .ref f_kinds, .ref f_places, .ref f_values, .int 0, .ref f_draftLetters, .int 0, .int 0, .int 0, .ref f_draftNumbers, .ref f_draftSigns, .int 0, .int 0, .int 0, .int 0, .ref f_letters, .ref f_numbers, .ref f_isList, .ref f_bounds, .ref f_sizes, .ref f_lists, .ref f_told, .ref f_costs, .int 0, .ref f_times, .int 0, .ref f_bestOne, .ref f_basis, .int 0, .ref f_one, .int 0, .ref f_along, .ref f_now]))] H1 := hP
  have hD : va_D A [(m0, .inr (9, [.int 0, .ref f_text, .int 0, .int (-1), .ref f_kinds, .ref f_places, .ref f_values, .int 0, .ref f_draftLetters, .int 0, .int 0, .int 0, .ref f_draftNumbers, .ref f_draftSigns, .int 0, .int 0, .int 0, .int 0, .ref f_letters, .ref f_numbers, .ref f_isList, .ref f_bounds, .ref f_sizes, .ref f_lists, .ref f_told, .ref f_costs, .int 0, .ref f_times, .int 0, .ref f_bestOne, .ref f_basis, .int 0, .ref f_one, .int 0, .ref f_along, .ref f_now]))] := hD
  refine lv_iconst (v := 0) hx hb d_MO_split_5 (by decide) ?_
  refine lv_istore_n hx hb d_MO_split_6 rfl hl (by decide) rfl (fun ls hl => ?_)
  have hl : lv_has ls 5 [(1, .int 0), (0, .ref m0)] := hl
  refine lv_iconst (v := 0) hx hb d_MO_split_7 (by decide) ?_
  refine lv_istore_n hx hb d_MO_split_8 rfl hl (by decide) rfl (fun ls hl => ?_)
  have hl : lv_has ls 5 [(2, .int 0), (1, .int 0), (0, .ref m0)] := hl
  refine lv_iload_n hx hb d_MO_split_9 rfl (lv_at hl 0 rfl) ?_
  refine lv_aload_n hx hb d_MO_split_10 rfl (lv_at hl 2 rfl) ?_
  refine va_get (D := (dC, dI)) (ci := 9) (v := .int 0) (C := R_MO) (T := T_MO) (N := 36) hx hb hts in_MO hown hK hP 0 rfl rfl 17 (by decide) (hts _ k_903) (fun _ h9 => h9) rfl d_MO_split_11 ?_
  refine lv_icmp_ge (tgt := 32) hx hb d_MO_split_14 (by decide) (fun _ => ?_) (fun h9 => absurd (by decide) h9)
  refine lv_aload_n hx hb d_MO_split_32 rfl (lv_at hl 2 rfl) ?_
  refine va_get (D := (dC, dI)) (ci := 9) (v := .int 0) (C := R_MO) (T := T_MO) (N := 36) hx hb hts in_MO hown hK hP 0 rfl rfl 14 (by decide) (hts _ k_900) (fun _ h9 => h9) rfl d_MO_split_33 ?_
  refine lv_if_eq (tgt := 96) hx hb d_MO_split_36 (by decide) (fun _ => ?_) (fun h9 => absurd (by decide) h9)
  refine lv_iconst (v := (-1)) hx hb d_MO_split_96 (by decide) ?_
  have hP9 := hP.sub (ws' := [(m0, .inr (9, [.int 0, .ref f_text, .int 0, .int (-1), .ref f_kinds, .ref f_places, .ref f_values, .int 0, .ref f_draftLetters, .int 0, .int 0, .int 0, .ref f_draftNumbers, .ref f_draftSigns, .int 0, .int 0, .int 0, .int 0, .ref f_letters, .ref f_numbers, .ref f_isList, .ref f_bounds, .ref f_sizes, .ref f_lists, .ref f_told, .ref f_costs, .int 0, .ref f_times, .int 0, .ref f_bestOne, .ref f_basis, .int 0, .ref f_one, .int 0, .ref f_along, .ref f_now]))]) [0] rfl
  have hD9 := hD.sub (ws' := [(m0, .inr (9, [.int 0, .ref f_text, .int 0, .int (-1), .ref f_kinds, .ref f_places, .ref f_values, .int 0, .ref f_draftLetters, .int 0, .int 0, .int 0, .ref f_draftNumbers, .ref f_draftSigns, .int 0, .int 0, .int 0, .int 0, .ref f_letters, .ref f_numbers, .ref f_isList, .ref f_bounds, .ref f_sizes, .ref f_lists, .ref f_told, .ref f_costs, .int 0, .ref f_times, .int 0, .ref f_bestOne, .ref f_basis, .int 0, .ref f_one, .int 0, .ref f_along, .ref f_now]))]) [0] (by decide) rfl
  have hK9 := hK.sub (tys' := []) [] rfl
  exact W.iret (v := (-1)) hx hb hr (fun t ht hW => ⟨⟨(-1), (), rfl, rfl, by rw [ht]; exact hP9, va_K.moved hW.alike hK9, hD9⟩, hS.F ht⟩) hS.2.2 d_MO_split_97
end
section
theorem k_2 : (Jvm.Cond.initialized "LeastSolutions$Text") ∈ wd := wd_t (List.mem_of_getElem? (i := 2) (by decide +kernel)) rfl
theorem k_3 : (Jvm.Cond.initialized "LeastSolutions$Words") ∈ wd := wd_t (List.mem_of_getElem? (i := 3) (by decide +kernel)) rfl
theorem k_4 : (Jvm.Cond.initialized "LeastSolutions$Builder") ∈ wd := wd_t (List.mem_of_getElem? (i := 4) (by decide +kernel)) rfl
theorem k_6 : (Jvm.Cond.initialized "LeastSolutions$Lattice") ∈ wd := wd_t (List.mem_of_getElem? (i := 6) (by decide +kernel)) rfl
theorem k_7 : (Jvm.Cond.initialized "LeastSolutions$Search") ∈ wd := wd_t (List.mem_of_getElem? (i := 7) (by decide +kernel)) rfl
theorem k_8 : (Jvm.Cond.initialized "LeastSolutions$Taker") ∈ wd := wd_t (List.mem_of_getElem? (i := 8) (by decide +kernel)) rfl
theorem k_9 : (Jvm.Cond.initialized "LeastSolutions$Cheapest") ∈ wd := wd_t (List.mem_of_getElem? (i := 9) (by decide +kernel)) rfl
theorem k_27 : (Jvm.Cond.methodLink "LeastSolutions" (1 : Nat) ({ cls := "java/lang/Object", name := "<init>", desc := "()V" } : Jvm.MethodName)) ∈ wd := wd_t (List.mem_of_getElem? (i := 27) (by decide +kernel)) rfl
theorem k_30 : (Jvm.Cond.classLink "LeastSolutions" (7 : Nat) "LeastSolutions$Text") ∈ wd := wd_t (List.mem_of_getElem? (i := 30) (by decide +kernel)) rfl
theorem k_31 : (Jvm.Cond.instantiable "LeastSolutions$Text" (2 : Nat)) ∈ wd := wd_t (List.mem_of_getElem? (i := 31) (by decide +kernel)) rfl
theorem k_33 : (Jvm.Cond.instanceMethod ({ cls := "LeastSolutions$Text", name := "<init>", desc := "()V" } : Jvm.MethodName)) ∈ wd := wd_t (List.mem_of_getElem? (i := 33) (by decide +kernel)) rfl
theorem k_34 : (Jvm.Cond.code ({ cls := "LeastSolutions$Text", name := "<init>", desc := "()V" } : Jvm.MethodName) prog_8_method_1_code (1 : Nat) (Option.none : Option Jvm.ClassFile.FieldType)) ∈ wd := wd_t (List.mem_of_getElem? (i := 34) (by decide +kernel)) rfl
theorem k_35 : (Jvm.Cond.methodLink "LeastSolutions$Text" (3 : Nat) ({ cls := "java/lang/Object", name := "<init>", desc := "()V" } : Jvm.MethodName)) ∈ wd := wd_t (List.mem_of_getElem? (i := 35) (by decide +kernel)) rfl
theorem k_36 : (Jvm.Cond.fieldLink "LeastSolutions$Text" (9 : Nat) "LeastSolutions$Text" "characters" "[B") ∈ wd := wd_t (List.mem_of_getElem? (i := 36) (by decide +kernel)) rfl
theorem k_37 : (Jvm.Cond.fieldLink "LeastSolutions$Text" (15 : Nat) "LeastSolutions$Text" "length" "I") ∈ wd := wd_t (List.mem_of_getElem? (i := 37) (by decide +kernel)) rfl
theorem k_45 : (Jvm.Cond.arrayClass Jvm.ClassFile.FieldType.byte) ∈ wd := wd_t (List.mem_of_getElem? (i := 45) (by decide +kernel)) rfl
theorem k_46 : (Jvm.Cond.classLink "LeastSolutions" (16 : Nat) "LeastSolutions$Words") ∈ wd := wd_t (List.mem_of_getElem? (i := 46) (by decide +kernel)) rfl
theorem k_47 : (Jvm.Cond.instantiable "LeastSolutions$Words" (7 : Nat)) ∈ wd := wd_t (List.mem_of_getElem? (i := 47) (by decide +kernel)) rfl
theorem k_49 : (Jvm.Cond.instanceMethod ({ cls := "LeastSolutions$Words", name := "<init>", desc := "()V" } : Jvm.MethodName)) ∈ wd := wd_t (List.mem_of_getElem? (i := 49) (by decide +kernel)) rfl
theorem k_50 : (Jvm.Cond.code ({ cls := "LeastSolutions$Words", name := "<init>", desc := "()V" } : Jvm.MethodName) prog_10_method_1_code (1 : Nat) (Option.none : Option Jvm.ClassFile.FieldType)) ∈ wd := wd_t (List.mem_of_getElem? (i := 50) (by decide +kernel)) rfl
theorem k_51 : (Jvm.Cond.methodLink "LeastSolutions$Words" (3 : Nat) ({ cls := "java/lang/Object", name := "<init>", desc := "()V" } : Jvm.MethodName)) ∈ wd := wd_t (List.mem_of_getElem? (i := 51) (by decide +kernel)) rfl
theorem k_52 : (Jvm.Cond.fieldLink "LeastSolutions$Words" (9 : Nat) "LeastSolutions$Words" "kinds" "[I") ∈ wd := wd_t (List.mem_of_getElem? (i := 52) (by decide +kernel)) rfl
theorem k_54 : (Jvm.Cond.fieldLink "LeastSolutions$Words" (15 : Nat) "LeastSolutions$Words" "places" "[I") ∈ wd := wd_t (List.mem_of_getElem? (i := 54) (by decide +kernel)) rfl
theorem k_56 : (Jvm.Cond.fieldLink "LeastSolutions$Words" (18 : Nat) "LeastSolutions$Words" "values" "[I") ∈ wd := wd_t (List.mem_of_getElem? (i := 56) (by decide +kernel)) rfl
theorem k_58 : (Jvm.Cond.fieldLink "LeastSolutions$Words" (21 : Nat) "LeastSolutions$Words" "total" "I") ∈ wd := wd_t (List.mem_of_getElem? (i := 58) (by decide +kernel)) rfl
theorem k_60 : (Jvm.Cond.fieldLink "LeastSolutions$Words" (25 : Nat) "LeastSolutions$Words" "state" "I") ∈ wd := wd_t (List.mem_of_getElem? (i := 60) (by decide +kernel)) rfl
theorem k_61 : (Jvm.Cond.fieldLink "LeastSolutions$Words" (28 : Nat) "LeastSolutions$Words" "isRightSide" "Z") ∈ wd := wd_t (List.mem_of_getElem? (i := 61) (by decide +kernel)) rfl
theorem k_62 : (Jvm.Cond.fieldLink "LeastSolutions$Words" (32 : Nat) "LeastSolutions$Words" "faultPlace" "I") ∈ wd := wd_t (List.mem_of_getElem? (i := 62) (by decide +kernel)) rfl
theorem k_79 : (Jvm.Cond.arrayClass Jvm.ClassFile.FieldType.int) ∈ wd := wd_t (List.mem_of_getElem? (i := 79) (by decide +kernel)) rfl
theorem k_80 : (Jvm.Cond.classLink "LeastSolutions" (23 : Nat) "LeastSolutions$Builder") ∈ wd := wd_t (List.mem_of_getElem? (i := 80) (by decide +kernel)) rfl
theorem k_81 : (Jvm.Cond.instantiable "LeastSolutions$Builder" (8 : Nat)) ∈ wd := wd_t (List.mem_of_getElem? (i := 81) (by decide +kernel)) rfl
theorem k_83 : (Jvm.Cond.instanceMethod ({ cls := "LeastSolutions$Builder", name := "<init>", desc := "()V" } : Jvm.MethodName)) ∈ wd := wd_t (List.mem_of_getElem? (i := 83) (by decide +kernel)) rfl
theorem k_84 : (Jvm.Cond.code ({ cls := "LeastSolutions$Builder", name := "<init>", desc := "()V" } : Jvm.MethodName) prog_2_method_1_code (1 : Nat) (Option.none : Option Jvm.ClassFile.FieldType)) ∈ wd := wd_t (List.mem_of_getElem? (i := 84) (by decide +kernel)) rfl
theorem k_85 : (Jvm.Cond.methodLink "LeastSolutions$Builder" (3 : Nat) ({ cls := "java/lang/Object", name := "<init>", desc := "()V" } : Jvm.MethodName)) ∈ wd := wd_t (List.mem_of_getElem? (i := 85) (by decide +kernel)) rfl
theorem k_86 : (Jvm.Cond.classLink "LeastSolutions$Builder" (9 : Nat) "LeastSolutions$Equations") ∈ wd := wd_t (List.mem_of_getElem? (i := 86) (by decide +kernel)) rfl
theorem k_87 : (Jvm.Cond.instantiable "LeastSolutions$Equations" (8 : Nat)) ∈ wd := wd_t (List.mem_of_getElem? (i := 87) (by decide +kernel)) rfl
theorem k_89 : (Jvm.Cond.instanceMethod ({ cls := "LeastSolutions$Equations", name := "<init>", desc := "()V" } : Jvm.MethodName)) ∈ wd := wd_t (List.mem_of_getElem? (i := 89) (by decide +kernel)) rfl
theorem k_90 : (Jvm.Cond.code ({ cls := "LeastSolutions$Equations", name := "<init>", desc := "()V" } : Jvm.MethodName) prog_4_method_1_code (1 : Nat) (Option.none : Option Jvm.ClassFile.FieldType)) ∈ wd := wd_t (List.mem_of_getElem? (i := 90) (by decide +kernel)) rfl
theorem k_91 : (Jvm.Cond.methodLink "LeastSolutions$Equations" (3 : Nat) ({ cls := "java/lang/Object", name := "<init>", desc := "()V" } : Jvm.MethodName)) ∈ wd := wd_t (List.mem_of_getElem? (i := 91) (by decide +kernel)) rfl
theorem k_92 : (Jvm.Cond.classLink "LeastSolutions$Equations" (9 : Nat) "[[I") ∈ wd := wd_t (List.mem_of_getElem? (i := 92) (by decide +kernel)) rfl
theorem k_94 : (Jvm.Cond.fieldLink "LeastSolutions$Equations" (11 : Nat) "LeastSolutions$Equations" "a" "[[I") ∈ wd := wd_t (List.mem_of_getElem? (i := 94) (by decide +kernel)) rfl
theorem k_99 : (Jvm.Cond.fieldLink "LeastSolutions$Equations" (16 : Nat) "LeastSolutions$Equations" "b" "[I") ∈ wd := wd_t (List.mem_of_getElem? (i := 99) (by decide +kernel)) rfl
theorem k_104 : (Jvm.Cond.fieldLink "LeastSolutions$Equations" (20 : Nat) "LeastSolutions$Equations" "letters" "[I") ∈ wd := wd_t (List.mem_of_getElem? (i := 104) (by decide +kernel)) rfl
theorem k_106 : (Jvm.Cond.fieldLink "LeastSolutions$Equations" (23 : Nat) "LeastSolutions$Equations" "slackRows" "[I") ∈ wd := wd_t (List.mem_of_getElem? (i := 106) (by decide +kernel)) rfl
theorem k_107 : (Jvm.Cond.fieldLink "LeastSolutions$Equations" (26 : Nat) "LeastSolutions$Equations" "slackNumbers" "[I") ∈ wd := wd_t (List.mem_of_getElem? (i := 107) (by decide +kernel)) rfl
theorem k_108 : (Jvm.Cond.fieldLink "LeastSolutions$Equations" (29 : Nat) "LeastSolutions$Equations" "rows" "I") ∈ wd := wd_t (List.mem_of_getElem? (i := 108) (by decide +kernel)) rfl
theorem k_133 : (Jvm.Cond.fieldLink "LeastSolutions$Builder" (12 : Nat) "LeastSolutions$Builder" "result" "LLeastSolutions$Equations;") ∈ wd := wd_t (List.mem_of_getElem? (i := 133) (by decide +kernel)) rfl
theorem k_134 : (Jvm.Cond.fieldLink "LeastSolutions$Builder" (18 : Nat) "LeastSolutions$Builder" "row" "I") ∈ wd := wd_t (List.mem_of_getElem? (i := 134) (by decide +kernel)) rfl
theorem k_135 : (Jvm.Cond.fieldLink "LeastSolutions$Builder" (22 : Nat) "LeastSolutions$Builder" "side" "I") ∈ wd := wd_t (List.mem_of_getElem? (i := 135) (by decide +kernel)) rfl
theorem k_136 : (Jvm.Cond.fieldLink "LeastSolutions$Builder" (25 : Nat) "LeastSolutions$Builder" "sign" "I") ∈ wd := wd_t (List.mem_of_getElem? (i := 136) (by decide +kernel)) rfl
theorem k_137 : (Jvm.Cond.fieldLink "LeastSolutions$Builder" (28 : Nat) "LeastSolutions$Builder" "open" "I") ∈ wd := wd_t (List.mem_of_getElem? (i := 137) (by decide +kernel)) rfl
theorem k_138 : (Jvm.Cond.fieldLink "LeastSolutions$Builder" (33 : Nat) "LeastSolutions$Builder" "relation" "I") ∈ wd := wd_t (List.mem_of_getElem? (i := 138) (by decide +kernel)) rfl
theorem k_139 : (Jvm.Cond.fieldLink "LeastSolutions$Builder" (36 : Nat) "LeastSolutions$Builder" "relationPlace" "I") ∈ wd := wd_t (List.mem_of_getElem? (i := 139) (by decide +kernel)) rfl
theorem k_140 : (Jvm.Cond.fieldLink "LeastSolutions$Builder" (39 : Nat) "LeastSolutions$Builder" "faultPlace" "I") ∈ wd := wd_t (List.mem_of_getElem? (i := 140) (by decide +kernel)) rfl
theorem k_159 : (Jvm.Cond.classLink "LeastSolutions" (30 : Nat) "LeastSolutions$Lattice") ∈ wd := wd_t (List.mem_of_getElem? (i := 159) (by decide +kernel)) rfl
theorem k_160 : (Jvm.Cond.instantiable "LeastSolutions$Lattice" (9 : Nat)) ∈ wd := wd_t (List.mem_of_getElem? (i := 160) (by decide +kernel)) rfl
theorem k_162 : (Jvm.Cond.instanceMethod ({ cls := "LeastSolutions$Lattice", name := "<init>", desc := "()V" } : Jvm.MethodName)) ∈ wd := wd_t (List.mem_of_getElem? (i := 162) (by decide +kernel)) rfl
theorem k_163 : (Jvm.Cond.code ({ cls := "LeastSolutions$Lattice", name := "<init>", desc := "()V" } : Jvm.MethodName) prog_5_method_1_code (1 : Nat) (Option.none : Option Jvm.ClassFile.FieldType)) ∈ wd := wd_t (List.mem_of_getElem? (i := 163) (by decide +kernel)) rfl
theorem k_164 : (Jvm.Cond.methodLink "LeastSolutions$Lattice" (3 : Nat) ({ cls := "java/lang/Object", name := "<init>", desc := "()V" } : Jvm.MethodName)) ∈ wd := wd_t (List.mem_of_getElem? (i := 164) (by decide +kernel)) rfl
theorem k_165 : (Jvm.Cond.classLink "LeastSolutions$Lattice" (11 : Nat) "[[J") ∈ wd := wd_t (List.mem_of_getElem? (i := 165) (by decide +kernel)) rfl
theorem k_167 : (Jvm.Cond.fieldLink "LeastSolutions$Lattice" (13 : Nat) "LeastSolutions$Lattice" "basis" "[[J") ∈ wd := wd_t (List.mem_of_getElem? (i := 167) (by decide +kernel)) rfl
theorem k_168 : (Jvm.Cond.fieldLink "LeastSolutions$Lattice" (16 : Nat) "LeastSolutions$Lattice" "rowLeadingAt" "[I") ∈ wd := wd_t (List.mem_of_getElem? (i := 168) (by decide +kernel)) rfl
theorem k_169 : (Jvm.Cond.fieldLink "LeastSolutions$Lattice" (20 : Nat) "LeastSolutions$Lattice" "kernelRows" "[I") ∈ wd := wd_t (List.mem_of_getElem? (i := 169) (by decide +kernel)) rfl
theorem k_170 : (Jvm.Cond.fieldLink "LeastSolutions$Lattice" (23 : Nat) "LeastSolutions$Lattice" "target" "[J") ∈ wd := wd_t (List.mem_of_getElem? (i := 170) (by decide +kernel)) rfl
theorem k_171 : (Jvm.Cond.fieldLink "LeastSolutions$Lattice" (27 : Nat) "LeastSolutions$Lattice" "fresh" "[J") ∈ wd := wd_t (List.mem_of_getElem? (i := 171) (by decide +kernel)) rfl
theorem k_172 : (Jvm.Cond.fieldLink "LeastSolutions$Lattice" (30 : Nat) "LeastSolutions$Lattice" "kernelVectors" "I") ∈ wd := wd_t (List.mem_of_getElem? (i := 172) (by decide +kernel)) rfl
theorem k_174 : (Jvm.Cond.fieldLink "LeastSolutions$Lattice" (34 : Nat) "LeastSolutions$Lattice" "height" "I") ∈ wd := wd_t (List.mem_of_getElem? (i := 174) (by decide +kernel)) rfl
theorem k_175 : (Jvm.Cond.fieldLink "LeastSolutions$Lattice" (37 : Nat) "LeastSolutions$Lattice" "width" "I") ∈ wd := wd_t (List.mem_of_getElem? (i := 175) (by decide +kernel)) rfl
theorem k_176 : (Jvm.Cond.fieldLink "LeastSolutions$Lattice" (40 : Nat) "LeastSolutions$Lattice" "used" "I") ∈ wd := wd_t (List.mem_of_getElem? (i := 176) (by decide +kernel)) rfl
theorem k_196 : (Jvm.Cond.arrayClass Jvm.ClassFile.FieldType.long) ∈ wd := wd_t (List.mem_of_getElem? (i := 196) (by decide +kernel)) rfl
theorem k_197 : (Jvm.Cond.classLink "LeastSolutions" (37 : Nat) "LeastSolutions$Search") ∈ wd := wd_t (List.mem_of_getElem? (i := 197) (by decide +kernel)) rfl
theorem k_198 : (Jvm.Cond.instantiable "LeastSolutions$Search" (8 : Nat)) ∈ wd := wd_t (List.mem_of_getElem? (i := 198) (by decide +kernel)) rfl
theorem k_200 : (Jvm.Cond.instanceMethod ({ cls := "LeastSolutions$Search", name := "<init>", desc := "()V" } : Jvm.MethodName)) ∈ wd := wd_t (List.mem_of_getElem? (i := 200) (by decide +kernel)) rfl
theorem k_201 : (Jvm.Cond.code ({ cls := "LeastSolutions$Search", name := "<init>", desc := "()V" } : Jvm.MethodName) prog_6_method_1_code (1 : Nat) (Option.none : Option Jvm.ClassFile.FieldType)) ∈ wd := wd_t (List.mem_of_getElem? (i := 201) (by decide +kernel)) rfl
theorem k_202 : (Jvm.Cond.methodLink "LeastSolutions$Search" (3 : Nat) ({ cls := "java/lang/Object", name := "<init>", desc := "()V" } : Jvm.MethodName)) ∈ wd := wd_t (List.mem_of_getElem? (i := 202) (by decide +kernel)) rfl
theorem k_203 : (Jvm.Cond.classLink "LeastSolutions$Search" (18 : Nat) "[[I") ∈ wd := wd_t (List.mem_of_getElem? (i := 203) (by decide +kernel)) rfl
theorem k_204 : (Jvm.Cond.fieldLink "LeastSolutions$Search" (9 : Nat) "LeastSolutions$Search" "vector" "[I") ∈ wd := wd_t (List.mem_of_getElem? (i := 204) (by decide +kernel)) rfl
theorem k_205 : (Jvm.Cond.fieldLink "LeastSolutions$Search" (15 : Nat) "LeastSolutions$Search" "lack" "[I") ∈ wd := wd_t (List.mem_of_getElem? (i := 205) (by decide +kernel)) rfl
theorem k_206 : (Jvm.Cond.fieldLink "LeastSolutions$Search" (20 : Nat) "LeastSolutions$Search" "lowest" "[[I") ∈ wd := wd_t (List.mem_of_getElem? (i := 206) (by decide +kernel)) rfl
theorem k_207 : (Jvm.Cond.fieldLink "LeastSolutions$Search" (23 : Nat) "LeastSolutions$Search" "highest" "[[I") ∈ wd := wd_t (List.mem_of_getElem? (i := 207) (by decide +kernel)) rfl
theorem k_208 : (Jvm.Cond.fieldLink "LeastSolutions$Search" (26 : Nat) "LeastSolutions$Search" "a" "[[I") ∈ wd := wd_t (List.mem_of_getElem? (i := 208) (by decide +kernel)) rfl
theorem k_209 : (Jvm.Cond.fieldLink "LeastSolutions$Search" (29 : Nat) "LeastSolutions$Search" "rows" "I") ∈ wd := wd_t (List.mem_of_getElem? (i := 209) (by decide +kernel)) rfl
theorem k_210 : (Jvm.Cond.fieldLink "LeastSolutions$Search" (33 : Nat) "LeastSolutions$Search" "columns" "I") ∈ wd := wd_t (List.mem_of_getElem? (i := 210) (by decide +kernel)) rfl
theorem k_211 : (Jvm.Cond.fieldLink "LeastSolutions$Search" (36 : Nat) "LeastSolutions$Search" "isSigned" "Z") ∈ wd := wd_t (List.mem_of_getElem? (i := 211) (by decide +kernel)) rfl
theorem k_229 : (Jvm.Cond.classLink "LeastSolutions" (44 : Nat) "LeastSolutions$VectorList") ∈ wd := wd_t (List.mem_of_getElem? (i := 229) (by decide +kernel)) rfl
theorem k_231 : (Jvm.Cond.classLink "LeastSolutions" (50 : Nat) "LeastSolutions$Cheapest") ∈ wd := wd_t (List.mem_of_getElem? (i := 231) (by decide +kernel)) rfl
theorem k_232 : (Jvm.Cond.instantiable "LeastSolutions$Cheapest" (5 : Nat)) ∈ wd := wd_t (List.mem_of_getElem? (i := 232) (by decide +kernel)) rfl
theorem k_234 : (Jvm.Cond.instanceMethod ({ cls := "LeastSolutions$Cheapest", name := "<init>", desc := "()V" } : Jvm.MethodName)) ∈ wd := wd_t (List.mem_of_getElem? (i := 234) (by decide +kernel)) rfl
theorem k_235 : (Jvm.Cond.code ({ cls := "LeastSolutions$Cheapest", name := "<init>", desc := "()V" } : Jvm.MethodName) prog_3_method_1_code (1 : Nat) (Option.none : Option Jvm.ClassFile.FieldType)) ∈ wd := wd_t (List.mem_of_getElem? (i := 235) (by decide +kernel)) rfl
theorem k_237 : (Jvm.Cond.instanceMethod ({ cls := "LeastSolutions$Taker", name := "<init>", desc := "()V" } : Jvm.MethodName)) ∈ wd := wd_t (List.mem_of_getElem? (i := 237) (by decide +kernel)) rfl
theorem k_238 : (Jvm.Cond.code ({ cls := "LeastSolutions$Taker", name := "<init>", desc := "()V" } : Jvm.MethodName) prog_7_method_1_code (1 : Nat) (Option.none : Option Jvm.ClassFile.FieldType)) ∈ wd := wd_t (List.mem_of_getElem? (i := 238) (by decide +kernel)) rfl
theorem k_239 : (Jvm.Cond.methodLink "LeastSolutions$Taker" (1 : Nat) ({ cls := "java/lang/Object", name := "<init>", desc := "()V" } : Jvm.MethodName)) ∈ wd := wd_t (List.mem_of_getElem? (i := 239) (by decide +kernel)) rfl
theorem k_240 : (Jvm.Cond.fieldLink "LeastSolutions$Cheapest" (9 : Nat) "LeastSolutions$Cheapest" "vector" "[I") ∈ wd := wd_t (List.mem_of_getElem? (i := 240) (by decide +kernel)) rfl
theorem k_242 : (Jvm.Cond.fieldLink "LeastSolutions$Cheapest" (15 : Nat) "LeastSolutions$Cheapest" "costs" "[I") ∈ wd := wd_t (List.mem_of_getElem? (i := 242) (by decide +kernel)) rfl
theorem k_244 : (Jvm.Cond.fieldLink "LeastSolutions$Cheapest" (18 : Nat) "LeastSolutions$Cheapest" "columns" "I") ∈ wd := wd_t (List.mem_of_getElem? (i := 244) (by decide +kernel)) rfl
theorem k_245 : (Jvm.Cond.fieldLink "LeastSolutions$Cheapest" (22 : Nat) "LeastSolutions$Cheapest" "price" "I") ∈ wd := wd_t (List.mem_of_getElem? (i := 245) (by decide +kernel)) rfl
theorem k_247 : (Jvm.Cond.fieldLink "LeastSolutions$Cheapest" (25 : Nat) "LeastSolutions$Cheapest" "isFound" "Z") ∈ wd := wd_t (List.mem_of_getElem? (i := 247) (by decide +kernel)) rfl
theorem k_260 : (Jvm.Cond.classLink "LeastSolutions" (70 : Nat) "LeastSolutions$Equations") ∈ wd := wd_t (List.mem_of_getElem? (i := 260) (by decide +kernel)) rfl
theorem k_262 : (Jvm.Cond.instantiable "LeastSolutions$VectorList" (6 : Nat)) ∈ wd := wd_t (List.mem_of_getElem? (i := 262) (by decide +kernel)) rfl
theorem k_264 : (Jvm.Cond.instanceMethod ({ cls := "LeastSolutions$VectorList", name := "<init>", desc := "()V" } : Jvm.MethodName)) ∈ wd := wd_t (List.mem_of_getElem? (i := 264) (by decide +kernel)) rfl
theorem k_265 : (Jvm.Cond.code ({ cls := "LeastSolutions$VectorList", name := "<init>", desc := "()V" } : Jvm.MethodName) prog_9_method_1_code (1 : Nat) (Option.none : Option Jvm.ClassFile.FieldType)) ∈ wd := wd_t (List.mem_of_getElem? (i := 265) (by decide +kernel)) rfl
theorem k_267 : (Jvm.Cond.fieldLink "LeastSolutions$VectorList" (9 : Nat) "LeastSolutions$VectorList" "numbers" "[B") ∈ wd := wd_t (List.mem_of_getElem? (i := 267) (by decide +kernel)) rfl
theorem k_270 : (Jvm.Cond.fieldLink "LeastSolutions$VectorList" (19 : Nat) "LeastSolutions$VectorList" "columns" "I") ∈ wd := wd_t (List.mem_of_getElem? (i := 270) (by decide +kernel)) rfl
theorem k_271 : (Jvm.Cond.fieldLink "LeastSolutions$VectorList" (23 : Nat) "LeastSolutions$VectorList" "bound" "I") ∈ wd := wd_t (List.mem_of_getElem? (i := 271) (by decide +kernel)) rfl
theorem k_273 : (Jvm.Cond.fieldLink "LeastSolutions$VectorList" (26 : Nat) "LeastSolutions$VectorList" "total" "I") ∈ wd := wd_t (List.mem_of_getElem? (i := 273) (by decide +kernel)) rfl
theorem k_275 : (Jvm.Cond.fieldLink "LeastSolutions$VectorList" (29 : Nat) "LeastSolutions$VectorList" "lesser" "I") ∈ wd := wd_t (List.mem_of_getElem? (i := 275) (by decide +kernel)) rfl
theorem k_289 : (Jvm.Cond.fieldLink "LeastSolutions" (10 : Nat) "LeastSolutions" "text" "LLeastSolutions$Text;") ∈ wd := wd_t (List.mem_of_getElem? (i := 289) (by decide +kernel)) rfl
theorem k_290 : (Jvm.Cond.fieldLink "LeastSolutions" (19 : Nat) "LeastSolutions" "words" "LLeastSolutions$Words;") ∈ wd := wd_t (List.mem_of_getElem? (i := 290) (by decide +kernel)) rfl
theorem k_291 : (Jvm.Cond.fieldLink "LeastSolutions" (26 : Nat) "LeastSolutions" "builder" "LLeastSolutions$Builder;") ∈ wd := wd_t (List.mem_of_getElem? (i := 291) (by decide +kernel)) rfl
theorem k_293 : (Jvm.Cond.fieldLink "LeastSolutions" (40 : Nat) "LeastSolutions" "search" "LLeastSolutions$Search;") ∈ wd := wd_t (List.mem_of_getElem? (i := 293) (by decide +kernel)) rfl
theorem k_295 : (Jvm.Cond.fieldLink "LeastSolutions" (53 : Nat) "LeastSolutions" "cheapest" "LLeastSolutions$Cheapest;") ∈ wd := wd_t (List.mem_of_getElem? (i := 295) (by decide +kernel)) rfl
theorem k_296 : (Jvm.Cond.fieldLink "LeastSolutions" (57 : Nat) "LeastSolutions" "told" "[I") ∈ wd := wd_t (List.mem_of_getElem? (i := 296) (by decide +kernel)) rfl
theorem k_297 : (Jvm.Cond.fieldLink "LeastSolutions" (61 : Nat) "LeastSolutions" "rest" "[I") ∈ wd := wd_t (List.mem_of_getElem? (i := 297) (by decide +kernel)) rfl
theorem k_298 : (Jvm.Cond.fieldLink "LeastSolutions" (64 : Nat) "LeastSolutions" "taken" "[I") ∈ wd := wd_t (List.mem_of_getElem? (i := 298) (by decide +kernel)) rfl
theorem k_299 : (Jvm.Cond.fieldLink "LeastSolutions" (67 : Nat) "LeastSolutions" "bestVector" "[I") ∈ wd := wd_t (List.mem_of_getElem? (i := 299) (by decide +kernel)) rfl
theorem k_884 : (Jvm.Cond.methodLink "LeastSolutionsModel" (1 : Nat) ({ cls := "java/lang/Object", name := "<init>", desc := "()V" } : Jvm.MethodName)) ∈ wd := wd_t (List.mem_of_getElem? (i := 884) (by decide +kernel)) rfl
theorem k_885 : (Jvm.Cond.constant "LeastSolutionsModel" (51 : Nat) (36000 : Int32)) ∈ wd := wd_t (List.mem_of_getElem? (i := 885) (by decide +kernel)) rfl
theorem k_887 : (Jvm.Cond.fieldLink "LeastSolutionsModel" (7 : Nat) "LeastSolutionsModel" "text" "[I") ∈ wd := wd_t (List.mem_of_getElem? (i := 887) (by decide +kernel)) rfl
theorem k_890 : (Jvm.Cond.fieldLink "LeastSolutionsModel" (17 : Nat) "LeastSolutionsModel" "kinds" "[I") ∈ wd := wd_t (List.mem_of_getElem? (i := 890) (by decide +kernel)) rfl
theorem k_891 : (Jvm.Cond.fieldLink "LeastSolutionsModel" (20 : Nat) "LeastSolutionsModel" "places" "[I") ∈ wd := wd_t (List.mem_of_getElem? (i := 891) (by decide +kernel)) rfl
theorem k_892 : (Jvm.Cond.fieldLink "LeastSolutionsModel" (23 : Nat) "LeastSolutionsModel" "values" "[I") ∈ wd := wd_t (List.mem_of_getElem? (i := 892) (by decide +kernel)) rfl
theorem k_894 : (Jvm.Cond.fieldLink "LeastSolutionsModel" (26 : Nat) "LeastSolutionsModel" "draftLetters" "[I") ∈ wd := wd_t (List.mem_of_getElem? (i := 894) (by decide +kernel)) rfl
theorem k_898 : (Jvm.Cond.fieldLink "LeastSolutionsModel" (29 : Nat) "LeastSolutionsModel" "draftNumbers" "[I") ∈ wd := wd_t (List.mem_of_getElem? (i := 898) (by decide +kernel)) rfl
theorem k_899 : (Jvm.Cond.fieldLink "LeastSolutionsModel" (32 : Nat) "LeastSolutionsModel" "draftSigns" "[I") ∈ wd := wd_t (List.mem_of_getElem? (i := 899) (by decide +kernel)) rfl
theorem k_904 : (Jvm.Cond.fieldLink "LeastSolutionsModel" (35 : Nat) "LeastSolutionsModel" "letters" "[I") ∈ wd := wd_t (List.mem_of_getElem? (i := 904) (by decide +kernel)) rfl
theorem k_905 : (Jvm.Cond.fieldLink "LeastSolutionsModel" (38 : Nat) "LeastSolutionsModel" "numbers" "[I") ∈ wd := wd_t (List.mem_of_getElem? (i := 905) (by decide +kernel)) rfl
theorem k_906 : (Jvm.Cond.fieldLink "LeastSolutionsModel" (41 : Nat) "LeastSolutionsModel" "isList" "[Z") ∈ wd := wd_t (List.mem_of_getElem? (i := 906) (by decide +kernel)) rfl
theorem k_907 : (Jvm.Cond.fieldLink "LeastSolutionsModel" (45 : Nat) "LeastSolutionsModel" "bounds" "[I") ∈ wd := wd_t (List.mem_of_getElem? (i := 907) (by decide +kernel)) rfl
theorem k_908 : (Jvm.Cond.fieldLink "LeastSolutionsModel" (48 : Nat) "LeastSolutionsModel" "sizes" "[I") ∈ wd := wd_t (List.mem_of_getElem? (i := 908) (by decide +kernel)) rfl
theorem k_909 : (Jvm.Cond.fieldLink "LeastSolutionsModel" (52 : Nat) "LeastSolutionsModel" "lists" "[B") ∈ wd := wd_t (List.mem_of_getElem? (i := 909) (by decide +kernel)) rfl
theorem k_910 : (Jvm.Cond.fieldLink "LeastSolutionsModel" (56 : Nat) "LeastSolutionsModel" "told" "[I") ∈ wd := wd_t (List.mem_of_getElem? (i := 910) (by decide +kernel)) rfl
theorem k_911 : (Jvm.Cond.fieldLink "LeastSolutionsModel" (59 : Nat) "LeastSolutionsModel" "costs" "[I") ∈ wd := wd_t (List.mem_of_getElem? (i := 911) (by decide +kernel)) rfl
theorem k_913 : (Jvm.Cond.fieldLink "LeastSolutionsModel" (62 : Nat) "LeastSolutionsModel" "times" "[I") ∈ wd := wd_t (List.mem_of_getElem? (i := 913) (by decide +kernel)) rfl
theorem k_915 : (Jvm.Cond.fieldLink "LeastSolutionsModel" (65 : Nat) "LeastSolutionsModel" "bestOne" "[I") ∈ wd := wd_t (List.mem_of_getElem? (i := 915) (by decide +kernel)) rfl
theorem k_916 : (Jvm.Cond.fieldLink "LeastSolutionsModel" (68 : Nat) "LeastSolutionsModel" "basis" "[J") ∈ wd := wd_t (List.mem_of_getElem? (i := 916) (by decide +kernel)) rfl
theorem k_918 : (Jvm.Cond.fieldLink "LeastSolutionsModel" (72 : Nat) "LeastSolutionsModel" "one" "[J") ∈ wd := wd_t (List.mem_of_getElem? (i := 918) (by decide +kernel)) rfl
theorem k_920 : (Jvm.Cond.fieldLink "LeastSolutionsModel" (75 : Nat) "LeastSolutionsModel" "along" "[J") ∈ wd := wd_t (List.mem_of_getElem? (i := 920) (by decide +kernel)) rfl
theorem k_921 : (Jvm.Cond.fieldLink "LeastSolutionsModel" (78 : Nat) "LeastSolutionsModel" "now" "[I") ∈ wd := wd_t (List.mem_of_getElem? (i := 921) (by decide +kernel)) rfl
theorem k_995 : (Jvm.Cond.arrayClass Jvm.ClassFile.FieldType.boolean) ∈ wd := wd_t (List.mem_of_getElem? (i := 995) (by decide +kernel)) rfl
abbrev y_BU_init : MethodName := ⟨"LeastSolutions$Builder", "<init>", "()V"⟩
abbrev b_BU_init : ByteArray := prog_2_method_1_code
abbrev y_CH_init : MethodName := ⟨"LeastSolutions$Cheapest", "<init>", "()V"⟩
abbrev b_CH_init : ByteArray := prog_3_method_1_code
abbrev y_EQ_init : MethodName := ⟨"LeastSolutions$Equations", "<init>", "()V"⟩
abbrev b_EQ_init : ByteArray := prog_4_method_1_code
abbrev y_LA_init : MethodName := ⟨"LeastSolutions$Lattice", "<init>", "()V"⟩
abbrev b_LA_init : ByteArray := prog_5_method_1_code
abbrev y_LS_init : MethodName := ⟨"LeastSolutions", "<init>", "()V"⟩
abbrev b_LS_init : ByteArray := prog_1_method_1_code
abbrev y_MO_init : MethodName := ⟨"LeastSolutionsModel", "<init>", "()V"⟩
abbrev b_MO_init : ByteArray := prog_12_method_1_code
abbrev y_SE_init : MethodName := ⟨"LeastSolutions$Search", "<init>", "()V"⟩
abbrev b_SE_init : ByteArray := prog_6_method_1_code
abbrev y_TA_init : MethodName := ⟨"LeastSolutions$Taker", "<init>", "()V"⟩
abbrev b_TA_init : ByteArray := prog_7_method_1_code
abbrev y_TX_init : MethodName := ⟨"LeastSolutions$Text", "<init>", "()V"⟩
abbrev b_TX_init : ByteArray := prog_8_method_1_code
abbrev y_VL_init : MethodName := ⟨"LeastSolutions$VectorList", "<init>", "()V"⟩
abbrev b_VL_init : ByteArray := prog_9_method_1_code
abbrev y_WO_init : MethodName := ⟨"LeastSolutions$Words", "<init>", "()V"⟩
abbrev b_WO_init : ByteArray := prog_10_method_1_code
theorem d_BU_init_0 : decode b_BU_init 0 = .ok (.aload_n 0, 1) := by decide +kernel
theorem d_BU_init_1 : decode b_BU_init 1 = .ok (.invokespecial 3, 3) := by decide +kernel
theorem d_BU_init_4 : decode b_BU_init 4 = .ok (.aload_n 0, 1) := by decide +kernel
theorem d_BU_init_5 : decode b_BU_init 5 = .ok (.new 9, 3) := by decide +kernel
theorem d_BU_init_8 : decode b_BU_init 8 = .ok (.dup, 1) := by decide +kernel
theorem d_BU_init_9 : decode b_BU_init 9 = .ok (.invokespecial 11, 3) := by decide +kernel
theorem d_BU_init_12 : decode b_BU_init 12 = .ok (.putfield 12, 3) := by decide +kernel
theorem d_BU_init_15 : decode b_BU_init 15 = .ok (.aload_n 0, 1) := by decide +kernel
theorem d_BU_init_16 : decode b_BU_init 16 = .ok (.iconst 0, 1) := by decide +kernel
theorem d_BU_init_17 : decode b_BU_init 17 = .ok (.putfield 18, 3) := by decide +kernel
theorem d_BU_init_20 : decode b_BU_init 20 = .ok (.aload_n 0, 1) := by decide +kernel
theorem d_BU_init_21 : decode b_BU_init 21 = .ok (.iconst 1, 1) := by decide +kernel
theorem d_BU_init_22 : decode b_BU_init 22 = .ok (.putfield 22, 3) := by decide +kernel
theorem d_BU_init_25 : decode b_BU_init 25 = .ok (.aload_n 0, 1) := by decide +kernel
theorem d_BU_init_26 : decode b_BU_init 26 = .ok (.iconst 1, 1) := by decide +kernel
theorem d_BU_init_27 : decode b_BU_init 27 = .ok (.putfield 25, 3) := by decide +kernel
theorem d_BU_init_30 : decode b_BU_init 30 = .ok (.aload_n 0, 1) := by decide +kernel
theorem d_BU_init_31 : decode b_BU_init 31 = .ok (.iconst (-1), 1) := by decide +kernel
theorem d_BU_init_32 : decode b_BU_init 32 = .ok (.putfield 28, 3) := by decide +kernel
theorem d_BU_init_35 : decode b_BU_init 35 = .ok (.aload_n 0, 1) := by decide +kernel
theorem d_BU_init_36 : decode b_BU_init 36 = .ok (.bipush 6, 2) := by decide +kernel
theorem d_BU_init_38 : decode b_BU_init 38 = .ok (.putfield 33, 3) := by decide +kernel
theorem d_BU_init_41 : decode b_BU_init 41 = .ok (.aload_n 0, 1) := by decide +kernel
theorem d_BU_init_42 : decode b_BU_init 42 = .ok (.iconst (-1), 1) := by decide +kernel
theorem d_BU_init_43 : decode b_BU_init 43 = .ok (.putfield 36, 3) := by decide +kernel
theorem d_BU_init_46 : decode b_BU_init 46 = .ok (.aload_n 0, 1) := by decide +kernel
theorem d_BU_init_47 : decode b_BU_init 47 = .ok (.iconst (-1), 1) := by decide +kernel
theorem d_BU_init_48 : decode b_BU_init 48 = .ok (.putfield 39, 3) := by decide +kernel
theorem d_BU_init_51 : decode b_BU_init 51 = .ok (.return_, 1) := by decide +kernel
theorem d_CH_init_0 : decode b_CH_init 0 = .ok (.aload_n 0, 1) := by decide +kernel
theorem d_CH_init_1 : decode b_CH_init 1 = .ok (.invokespecial 3, 3) := by decide +kernel
theorem d_CH_init_4 : decode b_CH_init 4 = .ok (.aload_n 0, 1) := by decide +kernel
theorem d_CH_init_5 : decode b_CH_init 5 = .ok (.bipush 6, 2) := by decide +kernel
theorem d_CH_init_7 : decode b_CH_init 7 = .ok (.newarray .int, 2) := by decide +kernel
theorem d_CH_init_9 : decode b_CH_init 9 = .ok (.putfield 9, 3) := by decide +kernel
theorem d_CH_init_12 : decode b_CH_init 12 = .ok (.aload_n 0, 1) := by decide +kernel
theorem d_CH_init_13 : decode b_CH_init 13 = .ok (.bipush 6, 2) := by decide +kernel
theorem d_CH_init_15 : decode b_CH_init 15 = .ok (.newarray .int, 2) := by decide +kernel
theorem d_CH_init_17 : decode b_CH_init 17 = .ok (.putfield 15, 3) := by decide +kernel
theorem d_CH_init_20 : decode b_CH_init 20 = .ok (.aload_n 0, 1) := by decide +kernel
theorem d_CH_init_21 : decode b_CH_init 21 = .ok (.iconst 0, 1) := by decide +kernel
theorem d_CH_init_22 : decode b_CH_init 22 = .ok (.putfield 18, 3) := by decide +kernel
theorem d_CH_init_25 : decode b_CH_init 25 = .ok (.aload_n 0, 1) := by decide +kernel
theorem d_CH_init_26 : decode b_CH_init 26 = .ok (.iconst 0, 1) := by decide +kernel
theorem d_CH_init_27 : decode b_CH_init 27 = .ok (.putfield 22, 3) := by decide +kernel
theorem d_CH_init_30 : decode b_CH_init 30 = .ok (.aload_n 0, 1) := by decide +kernel
theorem d_CH_init_31 : decode b_CH_init 31 = .ok (.iconst 0, 1) := by decide +kernel
theorem d_CH_init_32 : decode b_CH_init 32 = .ok (.putfield 25, 3) := by decide +kernel
theorem d_CH_init_35 : decode b_CH_init 35 = .ok (.return_, 1) := by decide +kernel
theorem d_EQ_init_0 : decode b_EQ_init 0 = .ok (.aload_n 0, 1) := by decide +kernel
theorem d_EQ_init_1 : decode b_EQ_init 1 = .ok (.invokespecial 3, 3) := by decide +kernel
theorem d_EQ_init_4 : decode b_EQ_init 4 = .ok (.aload_n 0, 1) := by decide +kernel
theorem d_EQ_init_5 : decode b_EQ_init 5 = .ok (.iconst 4, 1) := by decide +kernel
theorem d_EQ_init_6 : decode b_EQ_init 6 = .ok (.bipush 6, 2) := by decide +kernel
theorem d_EQ_init_8 : decode b_EQ_init 8 = .ok (.multianewarray 9 2, 4) := by decide +kernel
theorem d_EQ_init_12 : decode b_EQ_init 12 = .ok (.putfield 11, 3) := by decide +kernel
theorem d_EQ_init_15 : decode b_EQ_init 15 = .ok (.aload_n 0, 1) := by decide +kernel
theorem d_EQ_init_16 : decode b_EQ_init 16 = .ok (.iconst 4, 1) := by decide +kernel
theorem d_EQ_init_17 : decode b_EQ_init 17 = .ok (.newarray .int, 2) := by decide +kernel
theorem d_EQ_init_19 : decode b_EQ_init 19 = .ok (.putfield 16, 3) := by decide +kernel
theorem d_EQ_init_22 : decode b_EQ_init 22 = .ok (.aload_n 0, 1) := by decide +kernel
theorem d_EQ_init_23 : decode b_EQ_init 23 = .ok (.bipush 6, 2) := by decide +kernel
theorem d_EQ_init_25 : decode b_EQ_init 25 = .ok (.newarray .int, 2) := by decide +kernel
theorem d_EQ_init_27 : decode b_EQ_init 27 = .ok (.putfield 20, 3) := by decide +kernel
theorem d_EQ_init_30 : decode b_EQ_init 30 = .ok (.aload_n 0, 1) := by decide +kernel
theorem d_EQ_init_31 : decode b_EQ_init 31 = .ok (.bipush 6, 2) := by decide +kernel
theorem d_EQ_init_33 : decode b_EQ_init 33 = .ok (.newarray .int, 2) := by decide +kernel
theorem d_EQ_init_35 : decode b_EQ_init 35 = .ok (.putfield 23, 3) := by decide +kernel
theorem d_EQ_init_38 : decode b_EQ_init 38 = .ok (.aload_n 0, 1) := by decide +kernel
theorem d_EQ_init_39 : decode b_EQ_init 39 = .ok (.bipush 6, 2) := by decide +kernel
theorem d_EQ_init_41 : decode b_EQ_init 41 = .ok (.newarray .int, 2) := by decide +kernel
theorem d_EQ_init_43 : decode b_EQ_init 43 = .ok (.putfield 26, 3) := by decide +kernel
theorem d_EQ_init_46 : decode b_EQ_init 46 = .ok (.aload_n 0, 1) := by decide +kernel
theorem d_EQ_init_47 : decode b_EQ_init 47 = .ok (.iconst 0, 1) := by decide +kernel
theorem d_EQ_init_48 : decode b_EQ_init 48 = .ok (.putfield 29, 3) := by decide +kernel
theorem d_EQ_init_51 : decode b_EQ_init 51 = .ok (.aload_n 0, 1) := by decide +kernel
theorem d_EQ_init_52 : decode b_EQ_init 52 = .ok (.iconst 0, 1) := by decide +kernel
theorem d_EQ_init_53 : decode b_EQ_init 53 = .ok (.putfield 33, 3) := by decide +kernel
theorem d_EQ_init_56 : decode b_EQ_init 56 = .ok (.aload_n 0, 1) := by decide +kernel
theorem d_EQ_init_57 : decode b_EQ_init 57 = .ok (.iconst 0, 1) := by decide +kernel
theorem d_EQ_init_58 : decode b_EQ_init 58 = .ok (.putfield 36, 3) := by decide +kernel
theorem d_EQ_init_61 : decode b_EQ_init 61 = .ok (.return_, 1) := by decide +kernel
theorem d_LA_init_0 : decode b_LA_init 0 = .ok (.aload_n 0, 1) := by decide +kernel
theorem d_LA_init_1 : decode b_LA_init 1 = .ok (.invokespecial 3, 3) := by decide +kernel
theorem d_LA_init_4 : decode b_LA_init 4 = .ok (.aload_n 0, 1) := by decide +kernel
theorem d_LA_init_5 : decode b_LA_init 5 = .ok (.bipush 6, 2) := by decide +kernel
theorem d_LA_init_7 : decode b_LA_init 7 = .ok (.bipush 10, 2) := by decide +kernel
theorem d_LA_init_9 : decode b_LA_init 9 = .ok (.multianewarray 11 2, 4) := by decide +kernel
theorem d_LA_init_13 : decode b_LA_init 13 = .ok (.putfield 13, 3) := by decide +kernel
theorem d_LA_init_16 : decode b_LA_init 16 = .ok (.aload_n 0, 1) := by decide +kernel
theorem d_LA_init_17 : decode b_LA_init 17 = .ok (.bipush 10, 2) := by decide +kernel
theorem d_LA_init_19 : decode b_LA_init 19 = .ok (.newarray .int, 2) := by decide +kernel
theorem d_LA_init_21 : decode b_LA_init 21 = .ok (.putfield 16, 3) := by decide +kernel
theorem d_LA_init_24 : decode b_LA_init 24 = .ok (.aload_n 0, 1) := by decide +kernel
theorem d_LA_init_25 : decode b_LA_init 25 = .ok (.bipush 6, 2) := by decide +kernel
theorem d_LA_init_27 : decode b_LA_init 27 = .ok (.newarray .int, 2) := by decide +kernel
theorem d_LA_init_29 : decode b_LA_init 29 = .ok (.putfield 20, 3) := by decide +kernel
theorem d_LA_init_32 : decode b_LA_init 32 = .ok (.aload_n 0, 1) := by decide +kernel
theorem d_LA_init_33 : decode b_LA_init 33 = .ok (.iconst 4, 1) := by decide +kernel
theorem d_LA_init_34 : decode b_LA_init 34 = .ok (.newarray .long, 2) := by decide +kernel
theorem d_LA_init_36 : decode b_LA_init 36 = .ok (.putfield 23, 3) := by decide +kernel
theorem d_LA_init_39 : decode b_LA_init 39 = .ok (.aload_n 0, 1) := by decide +kernel
theorem d_LA_init_40 : decode b_LA_init 40 = .ok (.bipush 10, 2) := by decide +kernel
theorem d_LA_init_42 : decode b_LA_init 42 = .ok (.newarray .long, 2) := by decide +kernel
theorem d_LA_init_44 : decode b_LA_init 44 = .ok (.putfield 27, 3) := by decide +kernel
theorem d_LA_init_47 : decode b_LA_init 47 = .ok (.aload_n 0, 1) := by decide +kernel
theorem d_LA_init_48 : decode b_LA_init 48 = .ok (.iconst 0, 1) := by decide +kernel
theorem d_LA_init_49 : decode b_LA_init 49 = .ok (.putfield 30, 3) := by decide +kernel
theorem d_LA_init_52 : decode b_LA_init 52 = .ok (.aload_n 0, 1) := by decide +kernel
theorem d_LA_init_53 : decode b_LA_init 53 = .ok (.iconst 0, 1) := by decide +kernel
theorem d_LA_init_54 : decode b_LA_init 54 = .ok (.putfield 34, 3) := by decide +kernel
theorem d_LA_init_57 : decode b_LA_init 57 = .ok (.aload_n 0, 1) := by decide +kernel
theorem d_LA_init_58 : decode b_LA_init 58 = .ok (.iconst 0, 1) := by decide +kernel
theorem d_LA_init_59 : decode b_LA_init 59 = .ok (.putfield 37, 3) := by decide +kernel
theorem d_LA_init_62 : decode b_LA_init 62 = .ok (.aload_n 0, 1) := by decide +kernel
theorem d_LA_init_63 : decode b_LA_init 63 = .ok (.iconst 0, 1) := by decide +kernel
theorem d_LA_init_64 : decode b_LA_init 64 = .ok (.putfield 40, 3) := by decide +kernel
theorem d_LA_init_67 : decode b_LA_init 67 = .ok (.return_, 1) := by decide +kernel
theorem d_LS_init_0 : decode b_LS_init 0 = .ok (.aload_n 0, 1) := by decide +kernel
theorem d_LS_init_1 : decode b_LS_init 1 = .ok (.invokespecial 1, 3) := by decide +kernel
theorem d_LS_init_4 : decode b_LS_init 4 = .ok (.aload_n 0, 1) := by decide +kernel
theorem d_LS_init_5 : decode b_LS_init 5 = .ok (.new 7, 3) := by decide +kernel
theorem d_LS_init_8 : decode b_LS_init 8 = .ok (.dup, 1) := by decide +kernel
theorem d_LS_init_9 : decode b_LS_init 9 = .ok (.invokespecial 9, 3) := by decide +kernel
theorem d_LS_init_12 : decode b_LS_init 12 = .ok (.putfield 10, 3) := by decide +kernel
theorem d_LS_init_15 : decode b_LS_init 15 = .ok (.aload_n 0, 1) := by decide +kernel
theorem d_LS_init_16 : decode b_LS_init 16 = .ok (.new 16, 3) := by decide +kernel
theorem d_LS_init_19 : decode b_LS_init 19 = .ok (.dup, 1) := by decide +kernel
theorem d_LS_init_20 : decode b_LS_init 20 = .ok (.invokespecial 18, 3) := by decide +kernel
theorem d_LS_init_23 : decode b_LS_init 23 = .ok (.putfield 19, 3) := by decide +kernel
theorem d_LS_init_26 : decode b_LS_init 26 = .ok (.aload_n 0, 1) := by decide +kernel
theorem d_LS_init_27 : decode b_LS_init 27 = .ok (.new 23, 3) := by decide +kernel
theorem d_LS_init_30 : decode b_LS_init 30 = .ok (.dup, 1) := by decide +kernel
theorem d_LS_init_31 : decode b_LS_init 31 = .ok (.invokespecial 25, 3) := by decide +kernel
theorem d_LS_init_34 : decode b_LS_init 34 = .ok (.putfield 26, 3) := by decide +kernel
theorem d_LS_init_37 : decode b_LS_init 37 = .ok (.aload_n 0, 1) := by decide +kernel
theorem d_LS_init_38 : decode b_LS_init 38 = .ok (.new 30, 3) := by decide +kernel
theorem d_LS_init_41 : decode b_LS_init 41 = .ok (.dup, 1) := by decide +kernel
theorem d_LS_init_42 : decode b_LS_init 42 = .ok (.invokespecial 32, 3) := by decide +kernel
theorem d_LS_init_45 : decode b_LS_init 45 = .ok (.putfield 33, 3) := by decide +kernel
theorem d_LS_init_48 : decode b_LS_init 48 = .ok (.aload_n 0, 1) := by decide +kernel
theorem d_LS_init_49 : decode b_LS_init 49 = .ok (.new 37, 3) := by decide +kernel
theorem d_LS_init_52 : decode b_LS_init 52 = .ok (.dup, 1) := by decide +kernel
theorem d_LS_init_53 : decode b_LS_init 53 = .ok (.invokespecial 39, 3) := by decide +kernel
theorem d_LS_init_56 : decode b_LS_init 56 = .ok (.putfield 40, 3) := by decide +kernel
theorem d_LS_init_59 : decode b_LS_init 59 = .ok (.aload_n 0, 1) := by decide +kernel
theorem d_LS_init_60 : decode b_LS_init 60 = .ok (.iconst 3, 1) := by decide +kernel
theorem d_LS_init_61 : decode b_LS_init 61 = .ok (.anewarray 44, 3) := by decide +kernel
theorem d_LS_init_64 : decode b_LS_init 64 = .ok (.putfield 46, 3) := by decide +kernel
theorem d_LS_init_67 : decode b_LS_init 67 = .ok (.aload_n 0, 1) := by decide +kernel
theorem d_LS_init_68 : decode b_LS_init 68 = .ok (.new 50, 3) := by decide +kernel
theorem d_LS_init_71 : decode b_LS_init 71 = .ok (.dup, 1) := by decide +kernel
theorem d_LS_init_72 : decode b_LS_init 72 = .ok (.invokespecial 52, 3) := by decide +kernel
theorem d_LS_init_75 : decode b_LS_init 75 = .ok (.putfield 53, 3) := by decide +kernel
theorem d_LS_init_78 : decode b_LS_init 78 = .ok (.aload_n 0, 1) := by decide +kernel
theorem d_LS_init_79 : decode b_LS_init 79 = .ok (.bipush 6, 2) := by decide +kernel
theorem d_LS_init_81 : decode b_LS_init 81 = .ok (.newarray .int, 2) := by decide +kernel
theorem d_LS_init_83 : decode b_LS_init 83 = .ok (.putfield 57, 3) := by decide +kernel
theorem d_LS_init_86 : decode b_LS_init 86 = .ok (.aload_n 0, 1) := by decide +kernel
theorem d_LS_init_87 : decode b_LS_init 87 = .ok (.bipush 6, 2) := by decide +kernel
theorem d_LS_init_89 : decode b_LS_init 89 = .ok (.newarray .int, 2) := by decide +kernel
theorem d_LS_init_91 : decode b_LS_init 91 = .ok (.putfield 61, 3) := by decide +kernel
theorem d_LS_init_94 : decode b_LS_init 94 = .ok (.aload_n 0, 1) := by decide +kernel
theorem d_LS_init_95 : decode b_LS_init 95 = .ok (.sipush 2000, 3) := by decide +kernel
theorem d_LS_init_98 : decode b_LS_init 98 = .ok (.newarray .int, 2) := by decide +kernel
theorem d_LS_init_100 : decode b_LS_init 100 = .ok (.putfield 64, 3) := by decide +kernel
theorem d_LS_init_103 : decode b_LS_init 103 = .ok (.aload_n 0, 1) := by decide +kernel
theorem d_LS_init_104 : decode b_LS_init 104 = .ok (.bipush 6, 2) := by decide +kernel
theorem d_LS_init_106 : decode b_LS_init 106 = .ok (.newarray .int, 2) := by decide +kernel
theorem d_LS_init_108 : decode b_LS_init 108 = .ok (.putfield 67, 3) := by decide +kernel
theorem d_LS_init_111 : decode b_LS_init 111 = .ok (.aload_n 0, 1) := by decide +kernel
theorem d_LS_init_112 : decode b_LS_init 112 = .ok (.new 70, 3) := by decide +kernel
theorem d_LS_init_115 : decode b_LS_init 115 = .ok (.dup, 1) := by decide +kernel
theorem d_LS_init_116 : decode b_LS_init 116 = .ok (.invokespecial 72, 3) := by decide +kernel
theorem d_LS_init_119 : decode b_LS_init 119 = .ok (.putfield 73, 3) := by decide +kernel
theorem d_LS_init_122 : decode b_LS_init 122 = .ok (.aload_n 0, 1) := by decide +kernel
theorem d_LS_init_123 : decode b_LS_init 123 = .ok (.iconst 0, 1) := by decide +kernel
theorem d_LS_init_124 : decode b_LS_init 124 = .ok (.putfield 77, 3) := by decide +kernel
theorem d_LS_init_127 : decode b_LS_init 127 = .ok (.aload_n 0, 1) := by decide +kernel
theorem d_LS_init_128 : decode b_LS_init 128 = .ok (.iconst 0, 1) := by decide +kernel
theorem d_LS_init_129 : decode b_LS_init 129 = .ok (.putfield 81, 3) := by decide +kernel
theorem d_LS_init_132 : decode b_LS_init 132 = .ok (.aload_n 0, 1) := by decide +kernel
theorem d_LS_init_133 : decode b_LS_init 133 = .ok (.iconst 0, 1) := by decide +kernel
theorem d_LS_init_134 : decode b_LS_init 134 = .ok (.putfield 84, 3) := by decide +kernel
theorem d_LS_init_137 : decode b_LS_init 137 = .ok (.aload_n 0, 1) := by decide +kernel
theorem d_LS_init_138 : decode b_LS_init 138 = .ok (.iconst (-1), 1) := by decide +kernel
theorem d_LS_init_139 : decode b_LS_init 139 = .ok (.putfield 87, 3) := by decide +kernel
theorem d_LS_init_142 : decode b_LS_init 142 = .ok (.iconst 0, 1) := by decide +kernel
theorem d_LS_init_143 : decode b_LS_init 143 = .ok (.istore_n 1, 1) := by decide +kernel
theorem d_LS_init_144 : decode b_LS_init 144 = .ok (.iload_n 1, 1) := by decide +kernel
theorem d_LS_init_145 : decode b_LS_init 145 = .ok (.iconst 2, 1) := by decide +kernel
theorem d_LS_init_146 : decode b_LS_init 146 = .ok (.if_icmp .gt 22, 3) := by decide +kernel
theorem d_LS_init_149 : decode b_LS_init 149 = .ok (.aload_n 0, 1) := by decide +kernel
theorem d_LS_init_150 : decode b_LS_init 150 = .ok (.getfield 46, 3) := by decide +kernel
theorem d_LS_init_153 : decode b_LS_init 153 = .ok (.iload_n 1, 1) := by decide +kernel
theorem d_LS_init_154 : decode b_LS_init 154 = .ok (.new 44, 3) := by decide +kernel
theorem d_LS_init_157 : decode b_LS_init 157 = .ok (.dup, 1) := by decide +kernel
theorem d_LS_init_158 : decode b_LS_init 158 = .ok (.invokespecial 91, 3) := by decide +kernel
theorem d_LS_init_161 : decode b_LS_init 161 = .ok (.aastore, 1) := by decide +kernel
theorem d_LS_init_162 : decode b_LS_init 162 = .ok (.iinc 1 1, 3) := by decide +kernel
theorem d_LS_init_165 : decode b_LS_init 165 = .ok (.goto (-21), 3) := by decide +kernel
theorem d_LS_init_168 : decode b_LS_init 168 = .ok (.return_, 1) := by decide +kernel
theorem d_MO_init_0 : decode b_MO_init 0 = .ok (.aload_n 0, 1) := by decide +kernel
theorem d_MO_init_1 : decode b_MO_init 1 = .ok (.invokespecial 1, 3) := by decide +kernel
theorem d_MO_init_4 : decode b_MO_init 4 = .ok (.aload_n 0, 1) := by decide +kernel
theorem d_MO_init_5 : decode b_MO_init 5 = .ok (.sipush 300, 3) := by decide +kernel
theorem d_MO_init_8 : decode b_MO_init 8 = .ok (.newarray .int, 2) := by decide +kernel
theorem d_MO_init_10 : decode b_MO_init 10 = .ok (.putfield 7, 3) := by decide +kernel
theorem d_MO_init_13 : decode b_MO_init 13 = .ok (.aload_n 0, 1) := by decide +kernel
theorem d_MO_init_14 : decode b_MO_init 14 = .ok (.iconst (-1), 1) := by decide +kernel
theorem d_MO_init_15 : decode b_MO_init 15 = .ok (.putfield 13, 3) := by decide +kernel
theorem d_MO_init_18 : decode b_MO_init 18 = .ok (.aload_n 0, 1) := by decide +kernel
theorem d_MO_init_19 : decode b_MO_init 19 = .ok (.sipush 301, 3) := by decide +kernel
theorem d_MO_init_22 : decode b_MO_init 22 = .ok (.newarray .int, 2) := by decide +kernel
theorem d_MO_init_24 : decode b_MO_init 24 = .ok (.putfield 17, 3) := by decide +kernel
theorem d_MO_init_27 : decode b_MO_init 27 = .ok (.aload_n 0, 1) := by decide +kernel
theorem d_MO_init_28 : decode b_MO_init 28 = .ok (.sipush 301, 3) := by decide +kernel
theorem d_MO_init_31 : decode b_MO_init 31 = .ok (.newarray .int, 2) := by decide +kernel
theorem d_MO_init_33 : decode b_MO_init 33 = .ok (.putfield 20, 3) := by decide +kernel
theorem d_MO_init_36 : decode b_MO_init 36 = .ok (.aload_n 0, 1) := by decide +kernel
theorem d_MO_init_37 : decode b_MO_init 37 = .ok (.sipush 301, 3) := by decide +kernel
theorem d_MO_init_40 : decode b_MO_init 40 = .ok (.newarray .int, 2) := by decide +kernel
theorem d_MO_init_42 : decode b_MO_init 42 = .ok (.putfield 23, 3) := by decide +kernel
theorem d_MO_init_45 : decode b_MO_init 45 = .ok (.aload_n 0, 1) := by decide +kernel
theorem d_MO_init_46 : decode b_MO_init 46 = .ok (.bipush 6, 2) := by decide +kernel
theorem d_MO_init_48 : decode b_MO_init 48 = .ok (.newarray .int, 2) := by decide +kernel
theorem d_MO_init_50 : decode b_MO_init 50 = .ok (.putfield 26, 3) := by decide +kernel
theorem d_MO_init_53 : decode b_MO_init 53 = .ok (.aload_n 0, 1) := by decide +kernel
theorem d_MO_init_54 : decode b_MO_init 54 = .ok (.bipush 28, 2) := by decide +kernel
theorem d_MO_init_56 : decode b_MO_init 56 = .ok (.newarray .int, 2) := by decide +kernel
theorem d_MO_init_58 : decode b_MO_init 58 = .ok (.putfield 29, 3) := by decide +kernel
theorem d_MO_init_61 : decode b_MO_init 61 = .ok (.aload_n 0, 1) := by decide +kernel
theorem d_MO_init_62 : decode b_MO_init 62 = .ok (.iconst 4, 1) := by decide +kernel
theorem d_MO_init_63 : decode b_MO_init 63 = .ok (.newarray .int, 2) := by decide +kernel
theorem d_MO_init_65 : decode b_MO_init 65 = .ok (.putfield 32, 3) := by decide +kernel
theorem d_MO_init_68 : decode b_MO_init 68 = .ok (.aload_n 0, 1) := by decide +kernel
theorem d_MO_init_69 : decode b_MO_init 69 = .ok (.bipush 6, 2) := by decide +kernel
theorem d_MO_init_71 : decode b_MO_init 71 = .ok (.newarray .int, 2) := by decide +kernel
theorem d_MO_init_73 : decode b_MO_init 73 = .ok (.putfield 35, 3) := by decide +kernel
theorem d_MO_init_76 : decode b_MO_init 76 = .ok (.aload_n 0, 1) := by decide +kernel
theorem d_MO_init_77 : decode b_MO_init 77 = .ok (.bipush 28, 2) := by decide +kernel
theorem d_MO_init_79 : decode b_MO_init 79 = .ok (.newarray .int, 2) := by decide +kernel
theorem d_MO_init_81 : decode b_MO_init 81 = .ok (.putfield 38, 3) := by decide +kernel
theorem d_MO_init_84 : decode b_MO_init 84 = .ok (.aload_n 0, 1) := by decide +kernel
theorem d_MO_init_85 : decode b_MO_init 85 = .ok (.iconst 3, 1) := by decide +kernel
theorem d_MO_init_86 : decode b_MO_init 86 = .ok (.newarray .boolean, 2) := by decide +kernel
theorem d_MO_init_88 : decode b_MO_init 88 = .ok (.putfield 41, 3) := by decide +kernel
theorem d_MO_init_91 : decode b_MO_init 91 = .ok (.aload_n 0, 1) := by decide +kernel
theorem d_MO_init_92 : decode b_MO_init 92 = .ok (.iconst 3, 1) := by decide +kernel
theorem d_MO_init_93 : decode b_MO_init 93 = .ok (.newarray .int, 2) := by decide +kernel
theorem d_MO_init_95 : decode b_MO_init 95 = .ok (.putfield 45, 3) := by decide +kernel
theorem d_MO_init_98 : decode b_MO_init 98 = .ok (.aload_n 0, 1) := by decide +kernel
theorem d_MO_init_99 : decode b_MO_init 99 = .ok (.iconst 3, 1) := by decide +kernel
theorem d_MO_init_100 : decode b_MO_init 100 = .ok (.newarray .int, 2) := by decide +kernel
theorem d_MO_init_102 : decode b_MO_init 102 = .ok (.putfield 48, 3) := by decide +kernel
theorem d_MO_init_105 : decode b_MO_init 105 = .ok (.aload_n 0, 1) := by decide +kernel
theorem d_MO_init_106 : decode b_MO_init 106 = .ok (.ldc 51, 2) := by decide +kernel
theorem d_MO_init_108 : decode b_MO_init 108 = .ok (.newarray .byte, 2) := by decide +kernel
theorem d_MO_init_110 : decode b_MO_init 110 = .ok (.putfield 52, 3) := by decide +kernel
theorem d_MO_init_113 : decode b_MO_init 113 = .ok (.aload_n 0, 1) := by decide +kernel
theorem d_MO_init_114 : decode b_MO_init 114 = .ok (.bipush 6, 2) := by decide +kernel
theorem d_MO_init_116 : decode b_MO_init 116 = .ok (.newarray .int, 2) := by decide +kernel
theorem d_MO_init_118 : decode b_MO_init 118 = .ok (.putfield 56, 3) := by decide +kernel
theorem d_MO_init_121 : decode b_MO_init 121 = .ok (.aload_n 0, 1) := by decide +kernel
theorem d_MO_init_122 : decode b_MO_init 122 = .ok (.bipush 6, 2) := by decide +kernel
theorem d_MO_init_124 : decode b_MO_init 124 = .ok (.newarray .int, 2) := by decide +kernel
theorem d_MO_init_126 : decode b_MO_init 126 = .ok (.putfield 59, 3) := by decide +kernel
theorem d_MO_init_129 : decode b_MO_init 129 = .ok (.aload_n 0, 1) := by decide +kernel
theorem d_MO_init_130 : decode b_MO_init 130 = .ok (.sipush 2000, 3) := by decide +kernel
theorem d_MO_init_133 : decode b_MO_init 133 = .ok (.newarray .int, 2) := by decide +kernel
theorem d_MO_init_135 : decode b_MO_init 135 = .ok (.putfield 62, 3) := by decide +kernel
theorem d_MO_init_138 : decode b_MO_init 138 = .ok (.aload_n 0, 1) := by decide +kernel
theorem d_MO_init_139 : decode b_MO_init 139 = .ok (.bipush 6, 2) := by decide +kernel
theorem d_MO_init_141 : decode b_MO_init 141 = .ok (.newarray .int, 2) := by decide +kernel
theorem d_MO_init_143 : decode b_MO_init 143 = .ok (.putfield 65, 3) := by decide +kernel
theorem d_MO_init_146 : decode b_MO_init 146 = .ok (.aload_n 0, 1) := by decide +kernel
theorem d_MO_init_147 : decode b_MO_init 147 = .ok (.bipush 36, 2) := by decide +kernel
theorem d_MO_init_149 : decode b_MO_init 149 = .ok (.newarray .long, 2) := by decide +kernel
theorem d_MO_init_151 : decode b_MO_init 151 = .ok (.putfield 68, 3) := by decide +kernel
theorem d_MO_init_154 : decode b_MO_init 154 = .ok (.aload_n 0, 1) := by decide +kernel
theorem d_MO_init_155 : decode b_MO_init 155 = .ok (.bipush 6, 2) := by decide +kernel
theorem d_MO_init_157 : decode b_MO_init 157 = .ok (.newarray .long, 2) := by decide +kernel
theorem d_MO_init_159 : decode b_MO_init 159 = .ok (.putfield 72, 3) := by decide +kernel
theorem d_MO_init_162 : decode b_MO_init 162 = .ok (.aload_n 0, 1) := by decide +kernel
theorem d_MO_init_163 : decode b_MO_init 163 = .ok (.bipush 6, 2) := by decide +kernel
theorem d_MO_init_165 : decode b_MO_init 165 = .ok (.newarray .long, 2) := by decide +kernel
theorem d_MO_init_167 : decode b_MO_init 167 = .ok (.putfield 75, 3) := by decide +kernel
theorem d_MO_init_170 : decode b_MO_init 170 = .ok (.aload_n 0, 1) := by decide +kernel
theorem d_MO_init_171 : decode b_MO_init 171 = .ok (.bipush 6, 2) := by decide +kernel
theorem d_MO_init_173 : decode b_MO_init 173 = .ok (.newarray .int, 2) := by decide +kernel
theorem d_MO_init_175 : decode b_MO_init 175 = .ok (.putfield 78, 3) := by decide +kernel
theorem d_MO_init_178 : decode b_MO_init 178 = .ok (.return_, 1) := by decide +kernel
theorem d_SE_init_0 : decode b_SE_init 0 = .ok (.aload_n 0, 1) := by decide +kernel
theorem d_SE_init_1 : decode b_SE_init 1 = .ok (.invokespecial 3, 3) := by decide +kernel
theorem d_SE_init_4 : decode b_SE_init 4 = .ok (.aload_n 0, 1) := by decide +kernel
theorem d_SE_init_5 : decode b_SE_init 5 = .ok (.bipush 6, 2) := by decide +kernel
theorem d_SE_init_7 : decode b_SE_init 7 = .ok (.newarray .int, 2) := by decide +kernel
theorem d_SE_init_9 : decode b_SE_init 9 = .ok (.putfield 9, 3) := by decide +kernel
theorem d_SE_init_12 : decode b_SE_init 12 = .ok (.aload_n 0, 1) := by decide +kernel
theorem d_SE_init_13 : decode b_SE_init 13 = .ok (.iconst 4, 1) := by decide +kernel
theorem d_SE_init_14 : decode b_SE_init 14 = .ok (.newarray .int, 2) := by decide +kernel
theorem d_SE_init_16 : decode b_SE_init 16 = .ok (.putfield 15, 3) := by decide +kernel
theorem d_SE_init_19 : decode b_SE_init 19 = .ok (.aload_n 0, 1) := by decide +kernel
theorem d_SE_init_20 : decode b_SE_init 20 = .ok (.iconst 4, 1) := by decide +kernel
theorem d_SE_init_21 : decode b_SE_init 21 = .ok (.bipush 7, 2) := by decide +kernel
theorem d_SE_init_23 : decode b_SE_init 23 = .ok (.multianewarray 18 2, 4) := by decide +kernel
theorem d_SE_init_27 : decode b_SE_init 27 = .ok (.putfield 20, 3) := by decide +kernel
theorem d_SE_init_30 : decode b_SE_init 30 = .ok (.aload_n 0, 1) := by decide +kernel
theorem d_SE_init_31 : decode b_SE_init 31 = .ok (.iconst 4, 1) := by decide +kernel
theorem d_SE_init_32 : decode b_SE_init 32 = .ok (.bipush 7, 2) := by decide +kernel
theorem d_SE_init_34 : decode b_SE_init 34 = .ok (.multianewarray 18 2, 4) := by decide +kernel
theorem d_SE_init_38 : decode b_SE_init 38 = .ok (.putfield 23, 3) := by decide +kernel
theorem d_SE_init_41 : decode b_SE_init 41 = .ok (.aload_n 0, 1) := by decide +kernel
theorem d_SE_init_42 : decode b_SE_init 42 = .ok (.iconst 4, 1) := by decide +kernel
theorem d_SE_init_43 : decode b_SE_init 43 = .ok (.bipush 6, 2) := by decide +kernel
theorem d_SE_init_45 : decode b_SE_init 45 = .ok (.multianewarray 18 2, 4) := by decide +kernel
theorem d_SE_init_49 : decode b_SE_init 49 = .ok (.putfield 26, 3) := by decide +kernel
theorem d_SE_init_52 : decode b_SE_init 52 = .ok (.aload_n 0, 1) := by decide +kernel
theorem d_SE_init_53 : decode b_SE_init 53 = .ok (.iconst 0, 1) := by decide +kernel
theorem d_SE_init_54 : decode b_SE_init 54 = .ok (.putfield 29, 3) := by decide +kernel
theorem d_SE_init_57 : decode b_SE_init 57 = .ok (.aload_n 0, 1) := by decide +kernel
theorem d_SE_init_58 : decode b_SE_init 58 = .ok (.iconst 0, 1) := by decide +kernel
theorem d_SE_init_59 : decode b_SE_init 59 = .ok (.putfield 33, 3) := by decide +kernel
theorem d_SE_init_62 : decode b_SE_init 62 = .ok (.aload_n 0, 1) := by decide +kernel
theorem d_SE_init_63 : decode b_SE_init 63 = .ok (.iconst 0, 1) := by decide +kernel
theorem d_SE_init_64 : decode b_SE_init 64 = .ok (.putfield 36, 3) := by decide +kernel
theorem d_SE_init_67 : decode b_SE_init 67 = .ok (.return_, 1) := by decide +kernel
theorem d_TA_init_0 : decode b_TA_init 0 = .ok (.aload_n 0, 1) := by decide +kernel
theorem d_TA_init_1 : decode b_TA_init 1 = .ok (.invokespecial 1, 3) := by decide +kernel
theorem d_TA_init_4 : decode b_TA_init 4 = .ok (.return_, 1) := by decide +kernel
theorem d_TX_init_0 : decode b_TX_init 0 = .ok (.aload_n 0, 1) := by decide +kernel
theorem d_TX_init_1 : decode b_TX_init 1 = .ok (.invokespecial 3, 3) := by decide +kernel
theorem d_TX_init_4 : decode b_TX_init 4 = .ok (.aload_n 0, 1) := by decide +kernel
theorem d_TX_init_5 : decode b_TX_init 5 = .ok (.sipush 300, 3) := by decide +kernel
theorem d_TX_init_8 : decode b_TX_init 8 = .ok (.newarray .byte, 2) := by decide +kernel
theorem d_TX_init_10 : decode b_TX_init 10 = .ok (.putfield 9, 3) := by decide +kernel
theorem d_TX_init_13 : decode b_TX_init 13 = .ok (.aload_n 0, 1) := by decide +kernel
theorem d_TX_init_14 : decode b_TX_init 14 = .ok (.iconst 0, 1) := by decide +kernel
theorem d_TX_init_15 : decode b_TX_init 15 = .ok (.putfield 15, 3) := by decide +kernel
theorem d_TX_init_18 : decode b_TX_init 18 = .ok (.return_, 1) := by decide +kernel
theorem d_VL_init_0 : decode b_VL_init 0 = .ok (.aload_n 0, 1) := by decide +kernel
theorem d_VL_init_1 : decode b_VL_init 1 = .ok (.invokespecial 3, 3) := by decide +kernel
theorem d_VL_init_4 : decode b_VL_init 4 = .ok (.aload_n 0, 1) := by decide +kernel
theorem d_VL_init_5 : decode b_VL_init 5 = .ok (.sipush 12000, 3) := by decide +kernel
theorem d_VL_init_8 : decode b_VL_init 8 = .ok (.newarray .byte, 2) := by decide +kernel
theorem d_VL_init_10 : decode b_VL_init 10 = .ok (.putfield 9, 3) := by decide +kernel
theorem d_VL_init_13 : decode b_VL_init 13 = .ok (.aload_n 0, 1) := by decide +kernel
theorem d_VL_init_14 : decode b_VL_init 14 = .ok (.iconst 0, 1) := by decide +kernel
theorem d_VL_init_15 : decode b_VL_init 15 = .ok (.putfield 15, 3) := by decide +kernel
theorem d_VL_init_18 : decode b_VL_init 18 = .ok (.aload_n 0, 1) := by decide +kernel
theorem d_VL_init_19 : decode b_VL_init 19 = .ok (.iconst 0, 1) := by decide +kernel
theorem d_VL_init_20 : decode b_VL_init 20 = .ok (.putfield 19, 3) := by decide +kernel
theorem d_VL_init_23 : decode b_VL_init 23 = .ok (.aload_n 0, 1) := by decide +kernel
theorem d_VL_init_24 : decode b_VL_init 24 = .ok (.iconst 0, 1) := by decide +kernel
theorem d_VL_init_25 : decode b_VL_init 25 = .ok (.putfield 23, 3) := by decide +kernel
theorem d_VL_init_28 : decode b_VL_init 28 = .ok (.aload_n 0, 1) := by decide +kernel
theorem d_VL_init_29 : decode b_VL_init 29 = .ok (.iconst 0, 1) := by decide +kernel
theorem d_VL_init_30 : decode b_VL_init 30 = .ok (.putfield 26, 3) := by decide +kernel
theorem d_VL_init_33 : decode b_VL_init 33 = .ok (.aload_n 0, 1) := by decide +kernel
theorem d_VL_init_34 : decode b_VL_init 34 = .ok (.iconst 0, 1) := by decide +kernel
theorem d_VL_init_35 : decode b_VL_init 35 = .ok (.putfield 29, 3) := by decide +kernel
theorem d_VL_init_38 : decode b_VL_init 38 = .ok (.return_, 1) := by decide +kernel
theorem d_WO_init_0 : decode b_WO_init 0 = .ok (.aload_n 0, 1) := by decide +kernel
theorem d_WO_init_1 : decode b_WO_init 1 = .ok (.invokespecial 3, 3) := by decide +kernel
theorem d_WO_init_4 : decode b_WO_init 4 = .ok (.aload_n 0, 1) := by decide +kernel
theorem d_WO_init_5 : decode b_WO_init 5 = .ok (.sipush 300, 3) := by decide +kernel
theorem d_WO_init_8 : decode b_WO_init 8 = .ok (.newarray .int, 2) := by decide +kernel
theorem d_WO_init_10 : decode b_WO_init 10 = .ok (.putfield 9, 3) := by decide +kernel
theorem d_WO_init_13 : decode b_WO_init 13 = .ok (.aload_n 0, 1) := by decide +kernel
theorem d_WO_init_14 : decode b_WO_init 14 = .ok (.sipush 300, 3) := by decide +kernel
theorem d_WO_init_17 : decode b_WO_init 17 = .ok (.newarray .int, 2) := by decide +kernel
theorem d_WO_init_19 : decode b_WO_init 19 = .ok (.putfield 15, 3) := by decide +kernel
theorem d_WO_init_22 : decode b_WO_init 22 = .ok (.aload_n 0, 1) := by decide +kernel
theorem d_WO_init_23 : decode b_WO_init 23 = .ok (.sipush 300, 3) := by decide +kernel
theorem d_WO_init_26 : decode b_WO_init 26 = .ok (.newarray .int, 2) := by decide +kernel
theorem d_WO_init_28 : decode b_WO_init 28 = .ok (.putfield 18, 3) := by decide +kernel
theorem d_WO_init_31 : decode b_WO_init 31 = .ok (.aload_n 0, 1) := by decide +kernel
theorem d_WO_init_32 : decode b_WO_init 32 = .ok (.iconst 0, 1) := by decide +kernel
theorem d_WO_init_33 : decode b_WO_init 33 = .ok (.putfield 21, 3) := by decide +kernel
theorem d_WO_init_36 : decode b_WO_init 36 = .ok (.aload_n 0, 1) := by decide +kernel
theorem d_WO_init_37 : decode b_WO_init 37 = .ok (.iconst 0, 1) := by decide +kernel
theorem d_WO_init_38 : decode b_WO_init 38 = .ok (.putfield 25, 3) := by decide +kernel
theorem d_WO_init_41 : decode b_WO_init 41 = .ok (.aload_n 0, 1) := by decide +kernel
theorem d_WO_init_42 : decode b_WO_init 42 = .ok (.iconst 0, 1) := by decide +kernel
theorem d_WO_init_43 : decode b_WO_init 43 = .ok (.putfield 28, 3) := by decide +kernel
theorem d_WO_init_46 : decode b_WO_init 46 = .ok (.aload_n 0, 1) := by decide +kernel
theorem d_WO_init_47 : decode b_WO_init 47 = .ok (.iconst (-1), 1) := by decide +kernel
theorem d_WO_init_48 : decode b_WO_init 48 = .ok (.putfield 32, 3) := by decide +kernel
theorem d_WO_init_51 : decode b_WO_init 51 = .ok (.return_, 1) := by decide +kernel
end
section
set_option maxHeartbeats 4000000 in
set_option maxRecDepth 100000 in
theorem c_TA_init_VL (l : Launch) (dC : Nat → ClassId) (dI : Nat → Nat → Nat) (h0 : Nat) (sz : Nat) : Met l y_TA_init (Cond.code y_TA_init b_TA_init 1 (Option.none : Option Jvm.ClassFile.FieldType) :: wd) { frames := 1, cells := 0, slots := 0, locals := 20 } (va_Pc [.ref h0] (fun U => U.heap.size = sz ∧ va_P (dC, dI) cls [(h0, .inr (7, [.null, .int 0, .int 0, .int 0, .int 0, .int 0]))] U.heap ∧ va_K (dC, dI) cls [] U ∧ va_D (fun _ => True) [(h0, .inr (7, [.null, .int 0, .int 0, .int 0, .int 0, .int 0]))] ∧ nw_ok U)) (va_Qv (fun _ : Unit => True) (fun (_ : Unit) t => va_P (dC, dI) cls [(h0, .inr (7, [.null, .int 0, .int 0, .int 0, .int 0, .int 0]))] t.heap ∧ va_K (dC, dI) cls [] t ∧ va_D (va_A [(h0, .inr (7, [.null, .int 0, .int 0, .int 0, .int 0, .int 0]))] sz) [(h0, .inr (7, [.null, .int 0, .int 0, .int 0, .int 0, .int 0]))]) (va_A [(h0, .inr (7, [.null, .int 0, .int 0, .int 0, .int 0, .int 0]))] sz)) 0 0 (va_A [(h0, .inr (7, [.null, .int 0, .int 0, .int 0, .int 0, .int 0]))] sz) := by
  refine Met.ofW (cc := b_TA_init) (maxL := 1) (ret := (Option.none : Option Jvm.ClassFile.FieldType)) (by decide) rfl ?_
  intro p e s m args below meth c s₁ B hml hv
  obtain ⟨rfl, hsz, hP, hK, hD0, hN⟩ := hv
  have hx := B.exec
  have hb := B.bytes
  have hr := B.returns
  have hlocks := B.notSynchronized
  have hin : meth.name = "<init>" := (name_of_methodNamed B.named B.method).1
  have hts : ∀ w ∈ wd, w.before ([.ref h0] : List Value).toArray s = true := fun w hw => atoms_spec (ws := (Cond.code y_TA_init b_TA_init 1 (Option.none : Option Jvm.ClassFile.FieldType) :: wd)) B.pre w (List.mem_cons_of_mem _ hw)
  have hown : s.vm.findClass "LeastSolutions$Taker" = some m.cls := findClass_of_methodNamed B.named
  subst hsz
  have hD := hD0.self (sz := s.heap.size)
  generalize hAe : va_A [(h0, .inr (7, [.null, .int 0, .int 0, .int 0, .int 0, .int 0]))] s.heap.size = A at hD ⊢
  have hA : ∀ q : Nat, s.heap.size ≤ q → A q := fun q h => by rw [← hAe]; exact Or.inr h
  have hS : va_S A s.heap s.heap [] := va_S.rf
  have hl := lv_entry ([.ref h0]) (n := 1) (Nat.le_of_ble_eq_true rfl)
  rw [lg_entry_eq]
  generalize (lg_sl ([.ref h0]) ++ List.replicate (1 - (lg_sl ([.ref h0])).length) Slot.unset).toArray = ls at hl ⊢
  have hl : lv_has ls 1 [(0, .ref h0)] := hl
  refine lv_aload_n hx hb d_TA_init_0 rfl (lv_at hl 0 rfl) ?_
  refine W.objInit hx hb hown (hts _ k_239) (hts _ k_28) (hts _ k_29) rfl (by rw [hml]; exact hl.1) rfl d_TA_init_1 (Nat.le_of_ble_eq_true rfl) (Nat.le_of_ble_eq_true rfl) ?_
  refine W.eq (g2 := F0 m 4 ls []) rfl ?_
  have hP9 := hP.sub (ws' := [(h0, .inr (7, [.null, .int 0, .int 0, .int 0, .int 0, .int 0]))]) [0] rfl
  have hD9 := hD.sub (ws' := [(h0, .inr (7, [.null, .int 0, .int 0, .int 0, .int 0, .int 0]))]) [0] (by decide) rfl
  have hK9 := hK.sub (tys' := []) [] rfl
  exact W.vret hx hb hr (fun t ht hW => ⟨⟨(), rfl, trivial, by rw [ht]; exact hP9, va_K.moved hW.alike hK9, hD9⟩, hS.F ht⟩) hS.2.2 d_TA_init_4

set_option maxHeartbeats 4000000 in
set_option maxRecDepth 100000 in
theorem c_TA_init_CH (l : Launch) (dC : Nat → ClassId) (dI : Nat → Nat → Nat) (h0 : Nat) (sz : Nat) : Met l y_TA_init (Cond.code y_TA_init b_TA_init 1 (Option.none : Option Jvm.ClassFile.FieldType) :: wd) { frames := 1, cells := 0, slots := 0, locals := 20 } (va_Pc [.ref h0] (fun U => U.heap.size = sz ∧ va_P (dC, dI) cls [(h0, .inr (8, [.null, .null, .int 0, .int 0, .int 0]))] U.heap ∧ va_K (dC, dI) cls [] U ∧ va_D (fun _ => True) [(h0, .inr (8, [.null, .null, .int 0, .int 0, .int 0]))] ∧ nw_ok U)) (va_Qv (fun _ : Unit => True) (fun (_ : Unit) t => va_P (dC, dI) cls [(h0, .inr (8, [.null, .null, .int 0, .int 0, .int 0]))] t.heap ∧ va_K (dC, dI) cls [] t ∧ va_D (va_A [(h0, .inr (8, [.null, .null, .int 0, .int 0, .int 0]))] sz) [(h0, .inr (8, [.null, .null, .int 0, .int 0, .int 0]))]) (va_A [(h0, .inr (8, [.null, .null, .int 0, .int 0, .int 0]))] sz)) 0 0 (va_A [(h0, .inr (8, [.null, .null, .int 0, .int 0, .int 0]))] sz) := by
  refine Met.ofW (cc := b_TA_init) (maxL := 1) (ret := (Option.none : Option Jvm.ClassFile.FieldType)) (by decide) rfl ?_
  intro p e s m args below meth c s₁ B hml hv
  obtain ⟨rfl, hsz, hP, hK, hD0, hN⟩ := hv
  have hx := B.exec
  have hb := B.bytes
  have hr := B.returns
  have hlocks := B.notSynchronized
  have hin : meth.name = "<init>" := (name_of_methodNamed B.named B.method).1
  have hts : ∀ w ∈ wd, w.before ([.ref h0] : List Value).toArray s = true := fun w hw => atoms_spec (ws := (Cond.code y_TA_init b_TA_init 1 (Option.none : Option Jvm.ClassFile.FieldType) :: wd)) B.pre w (List.mem_cons_of_mem _ hw)
  have hown : s.vm.findClass "LeastSolutions$Taker" = some m.cls := findClass_of_methodNamed B.named
  subst hsz
  have hD := hD0.self (sz := s.heap.size)
  generalize hAe : va_A [(h0, .inr (8, [.null, .null, .int 0, .int 0, .int 0]))] s.heap.size = A at hD ⊢
  have hA : ∀ q : Nat, s.heap.size ≤ q → A q := fun q h => by rw [← hAe]; exact Or.inr h
  have hS : va_S A s.heap s.heap [] := va_S.rf
  have hl := lv_entry ([.ref h0]) (n := 1) (Nat.le_of_ble_eq_true rfl)
  rw [lg_entry_eq]
  generalize (lg_sl ([.ref h0]) ++ List.replicate (1 - (lg_sl ([.ref h0])).length) Slot.unset).toArray = ls at hl ⊢
  have hl : lv_has ls 1 [(0, .ref h0)] := hl
  refine lv_aload_n hx hb d_TA_init_0 rfl (lv_at hl 0 rfl) ?_
  refine W.objInit hx hb hown (hts _ k_239) (hts _ k_28) (hts _ k_29) rfl (by rw [hml]; exact hl.1) rfl d_TA_init_1 (Nat.le_of_ble_eq_true rfl) (Nat.le_of_ble_eq_true rfl) ?_
  refine W.eq (g2 := F0 m 4 ls []) rfl ?_
  have hP9 := hP.sub (ws' := [(h0, .inr (8, [.null, .null, .int 0, .int 0, .int 0]))]) [0] rfl
  have hD9 := hD.sub (ws' := [(h0, .inr (8, [.null, .null, .int 0, .int 0, .int 0]))]) [0] (by decide) rfl
  have hK9 := hK.sub (tys' := []) [] rfl
  exact W.vret hx hb hr (fun t ht hW => ⟨⟨(), rfl, trivial, by rw [ht]; exact hP9, va_K.moved hW.alike hK9, hD9⟩, hS.F ht⟩) hS.2.2 d_TA_init_4

set_option maxHeartbeats 4000000 in
set_option maxRecDepth 100000 in
theorem c_TX_init (l : Launch) (dC : Nat → ClassId) (dI : Nat → Nat → Nat) (h0 : Nat) (sz : Nat) : Met l y_TX_init (Cond.code y_TX_init b_TX_init 1 (Option.none : Option Jvm.ClassFile.FieldType) :: wd) { frames := 1, cells := 1, slots := 300, locals := 20 } (va_Pc [.ref h0] (fun U => U.heap.size = sz ∧ va_P (dC, dI) cls [(h0, .inr (1, [.null, .int 0]))] U.heap ∧ va_K (dC, dI) cls [] U ∧ va_D (fun _ => True) [(h0, .inr (1, [.null, .int 0]))] ∧ nw_ok U)) (va_Qv (fun _ : Unit => True) (fun (_ : Unit) t => ∃ (q1 : Nat) (cA1 : ClassId) , va_P (dC, dI) cls [(h0, .inr (1, [.ref q1, .int 0])), (q1, .inl (cA1, 300, .inl (fun _ => (0 : Int32))))] t.heap ∧ va_K (dC, dI) cls [(cA1, .byte)] t ∧ va_D (va_A [(h0, .inr (1, [.null, .int 0]))] sz) [(h0, .inr (1, [.ref q1, .int 0])), (q1, .inl (cA1, 300, .inl (fun _ => (0 : Int32))))]) (va_A [(h0, .inr (1, [.null, .int 0]))] sz)) 1 300 (va_A [(h0, .inr (1, [.null, .int 0]))] sz) := by
  refine Met.ofW (cc := b_TX_init) (maxL := 1) (ret := (Option.none : Option Jvm.ClassFile.FieldType)) (by decide) rfl ?_
  intro p e s m args below meth c s₁ B hml hv
  obtain ⟨rfl, hsz, hP, hK, hD0, hN⟩ := hv
  have hx := B.exec
  have hb := B.bytes
  have hr := B.returns
  have hlocks := B.notSynchronized
  have hin : meth.name = "<init>" := (name_of_methodNamed B.named B.method).1
  have hts : ∀ w ∈ wd, w.before ([.ref h0] : List Value).toArray s = true := fun w hw => atoms_spec (ws := (Cond.code y_TX_init b_TX_init 1 (Option.none : Option Jvm.ClassFile.FieldType) :: wd)) B.pre w (List.mem_cons_of_mem _ hw)
  have hown : s.vm.findClass "LeastSolutions$Text" = some m.cls := findClass_of_methodNamed B.named
  subst hsz
  have hD := hD0.self (sz := s.heap.size)
  generalize hAe : va_A [(h0, .inr (1, [.null, .int 0]))] s.heap.size = A at hD ⊢
  have hA : ∀ q : Nat, s.heap.size ≤ q → A q := fun q h => by rw [← hAe]; exact Or.inr h
  have hS : va_S A s.heap s.heap [] := va_S.rf
  have hl := lv_entry ([.ref h0]) (n := 1) (Nat.le_of_ble_eq_true rfl)
  rw [lg_entry_eq]
  generalize (lg_sl ([.ref h0]) ++ List.replicate (1 - (lg_sl ([.ref h0])).length) Slot.unset).toArray = ls at hl ⊢
  have hl : lv_has ls 1 [(0, .ref h0)] := hl
  refine lv_aload_n hx hb d_TX_init_0 rfl (lv_at hl 0 rfl) ?_
  refine W.objInit hx hb hown (hts _ k_35) (hts _ k_28) (hts _ k_29) rfl (by rw [hml]; exact hl.1) rfl d_TX_init_1 (Nat.le_of_ble_eq_true rfl) (Nat.le_of_ble_eq_true rfl) ?_
  refine W.eq (g2 := F0 m 4 ls []) rfl ?_
  refine lv_aload_n hx hb d_TX_init_4 rfl (lv_at hl 0 rfl) ?_
  refine lv_sipush (v := 300) hx hb d_TX_init_5 (by decide) ?_
  refine va_newa (atype := .byte) (ty := .byte) (N' := 300) (a0 := (300, .inl (fun _ => (0 : Int32)))) hx hb (hts _ k_45) rfl hK hP hD hS hA (fun _ => rfl) (by decide) (by decide) (by decide) (Nat.le_of_ble_eq_true rfl) (Nat.le_of_ble_eq_true rfl) d_TX_init_8 (fun q1 cA1 H1 hK hP hD hS => ?_)
  have hK : va_K (dC, dI) cls [(cA1, .byte)] s := hK
  have hP : va_P (dC, dI) cls [(h0, .inr (1, [.null, .int 0])), (q1, .inl (cA1, 300, .inl (fun _ => (0 : Int32))))] H1 := hP
  have hD : va_D A [(h0, .inr (1, [.null, .int 0])), (q1, .inl (cA1, 300, .inl (fun _ => (0 : Int32))))] := hD
  refine W.widen (k := 1) (n := 300) (Nat.le_of_ble_eq_true rfl) (Nat.le_of_ble_eq_true rfl) ?_
  refine va_putF (D := (dC, dI)) (ci := 1) (v := .ref q1) (ty := (.array .byte)) (C := R_TX) (T := T_TX) (N := 2) hx hb hts in_TX t_TX t_TX_ok n_TX hown hK hP hD hS 0 rfl rfl 0 (by decide) (hts _ k_36) (fun _ h9 => h9) rfl hin rfl (by decide +kernel) rfl rfl (Nat.le_of_ble_eq_true rfl) d_TX_init_10 (fun H2 locs hP hD hS => ?_)
  have hP : va_P (dC, dI) cls [(h0, .inr (1, [.ref q1, .int 0])), (q1, .inl (cA1, 300, .inl (fun _ => (0 : Int32))))] H2 := hP
  have hD : va_D A [(h0, .inr (1, [.ref q1, .int 0])), (q1, .inl (cA1, 300, .inl (fun _ => (0 : Int32))))] := hD
  refine lv_aload_n hx hb d_TX_init_13 rfl (lv_at hl 0 rfl) ?_
  refine lv_iconst (v := 0) hx hb d_TX_init_14 (by decide) ?_
  refine va_put (D := (dC, dI)) (ci := 1) (v := .int 0) (ty := .int) (C := R_TX) (T := T_TX) (N := 2) hx hb hts in_TX t_TX t_TX_ok n_TX hown hK hP hD hS 0 rfl rfl 1 (by decide) (hts _ k_37) (fun _ h9 => h9) rfl (by decide +kernel) rfl rfl (Nat.le_of_ble_eq_true rfl) d_TX_init_15 (fun H3 locs hP hD hS => ?_)
  have hP : va_P (dC, dI) cls [(h0, .inr (1, [.ref q1, .int 0])), (q1, .inl (cA1, 300, .inl (fun _ => (0 : Int32))))] H3 := hP
  have hD : va_D A [(h0, .inr (1, [.ref q1, .int 0])), (q1, .inl (cA1, 300, .inl (fun _ => (0 : Int32))))] := hD
  have hP9 := hP.sub (ws' := [(h0, .inr (1, [.ref q1, .int 0])), (q1, .inl (cA1, 300, .inl (fun _ => (0 : Int32))))]) [0, 1] rfl
  have hD9 := hD.sub (ws' := [(h0, .inr (1, [.ref q1, .int 0])), (q1, .inl (cA1, 300, .inl (fun _ => (0 : Int32))))]) [0, 1] (by decide) rfl
  have hK9 := hK.sub (tys' := [(cA1, .byte)]) [0] rfl
  exact W.vret hx hb hr (fun t ht hW => ⟨⟨(), rfl, trivial, q1, cA1, by rw [ht]; exact hP9, va_K.moved hW.alike hK9, hD9⟩, hS.F ht⟩) hS.2.2 d_TX_init_18

set_option maxHeartbeats 4000000 in
set_option maxRecDepth 100000 in
theorem c_WO_init (l : Launch) (dC : Nat → ClassId) (dI : Nat → Nat → Nat) (h0 : Nat) (sz : Nat) : Met l y_WO_init (Cond.code y_WO_init b_WO_init 1 (Option.none : Option Jvm.ClassFile.FieldType) :: wd) { frames := 1, cells := 3, slots := 900, locals := 20 } (va_Pc [.ref h0] (fun U => U.heap.size = sz ∧ va_P (dC, dI) cls [(h0, .inr (2, [.null, .null, .null, .int 0, .int 0, .int 0, .int 0]))] U.heap ∧ va_K (dC, dI) cls [] U ∧ va_D (fun _ => True) [(h0, .inr (2, [.null, .null, .null, .int 0, .int 0, .int 0, .int 0]))] ∧ nw_ok U)) (va_Qv (fun _ : Unit => True) (fun (_ : Unit) t => ∃ (q1 q2 q3 : Nat) , va_P (dC, dI) cls [(h0, .inr (2, [.ref q1, .ref q2, .ref q3, .int 0, .int 0, .int 0, .int (-1)]))] t.heap ∧ va_K (dC, dI) cls [] t ∧ va_D (va_A [(h0, .inr (2, [.null, .null, .null, .int 0, .int 0, .int 0, .int 0]))] sz) [(h0, .inr (2, [.ref q1, .ref q2, .ref q3, .int 0, .int 0, .int 0, .int (-1)]))]) (va_A [(h0, .inr (2, [.null, .null, .null, .int 0, .int 0, .int 0, .int 0]))] sz)) 3 900 (va_A [(h0, .inr (2, [.null, .null, .null, .int 0, .int 0, .int 0, .int 0]))] sz) := by
  refine Met.ofW (cc := b_WO_init) (maxL := 1) (ret := (Option.none : Option Jvm.ClassFile.FieldType)) (by decide) rfl ?_
  intro p e s m args below meth c s₁ B hml hv
  obtain ⟨rfl, hsz, hP, hK, hD0, hN⟩ := hv
  have hx := B.exec
  have hb := B.bytes
  have hr := B.returns
  have hlocks := B.notSynchronized
  have hin : meth.name = "<init>" := (name_of_methodNamed B.named B.method).1
  have hts : ∀ w ∈ wd, w.before ([.ref h0] : List Value).toArray s = true := fun w hw => atoms_spec (ws := (Cond.code y_WO_init b_WO_init 1 (Option.none : Option Jvm.ClassFile.FieldType) :: wd)) B.pre w (List.mem_cons_of_mem _ hw)
  have hown : s.vm.findClass "LeastSolutions$Words" = some m.cls := findClass_of_methodNamed B.named
  subst hsz
  have hD := hD0.self (sz := s.heap.size)
  generalize hAe : va_A [(h0, .inr (2, [.null, .null, .null, .int 0, .int 0, .int 0, .int 0]))] s.heap.size = A at hD ⊢
  have hA : ∀ q : Nat, s.heap.size ≤ q → A q := fun q h => by rw [← hAe]; exact Or.inr h
  have hS : va_S A s.heap s.heap [] := va_S.rf
  have hl := lv_entry ([.ref h0]) (n := 1) (Nat.le_of_ble_eq_true rfl)
  rw [lg_entry_eq]
  generalize (lg_sl ([.ref h0]) ++ List.replicate (1 - (lg_sl ([.ref h0])).length) Slot.unset).toArray = ls at hl ⊢
  have hl : lv_has ls 1 [(0, .ref h0)] := hl
  refine lv_aload_n hx hb d_WO_init_0 rfl (lv_at hl 0 rfl) ?_
  refine W.objInit hx hb hown (hts _ k_51) (hts _ k_28) (hts _ k_29) rfl (by rw [hml]; exact hl.1) rfl d_WO_init_1 (Nat.le_of_ble_eq_true rfl) (Nat.le_of_ble_eq_true rfl) ?_
  refine W.eq (g2 := F0 m 4 ls []) rfl ?_
  refine lv_aload_n hx hb d_WO_init_4 rfl (lv_at hl 0 rfl) ?_
  refine lv_sipush (v := 300) hx hb d_WO_init_5 (by decide) ?_
  refine va_newa (atype := .int) (ty := .int) (N' := 300) (a0 := (300, .inl (fun _ => (0 : Int32)))) hx hb (hts _ k_79) rfl hK hP hD hS hA (fun _ => rfl) (by decide) (by decide) (by decide) (Nat.le_of_ble_eq_true rfl) (Nat.le_of_ble_eq_true rfl) d_WO_init_8 (fun q1 cA1 H1 hK hP hD hS => ?_)
  have hK : va_K (dC, dI) cls [(cA1, .int)] s := hK
  have hP : va_P (dC, dI) cls [(h0, .inr (2, [.null, .null, .null, .int 0, .int 0, .int 0, .int 0])), (q1, .inl (cA1, 300, .inl (fun _ => (0 : Int32))))] H1 := hP
  have hD : va_D A [(h0, .inr (2, [.null, .null, .null, .int 0, .int 0, .int 0, .int 0])), (q1, .inl (cA1, 300, .inl (fun _ => (0 : Int32))))] := hD
  refine W.widen (k := 1) (n := 300) (Nat.le_of_ble_eq_true rfl) (Nat.le_of_ble_eq_true rfl) ?_
  refine va_putF (D := (dC, dI)) (ci := 2) (v := .ref q1) (ty := (.array .int)) (C := R_WO) (T := T_WO) (N := 7) hx hb hts in_WO t_WO t_WO_ok n_WO hown hK hP hD hS 0 rfl rfl 0 (by decide) (hts _ k_52) (fun _ h9 => h9) rfl hin rfl (by decide +kernel) rfl rfl (Nat.le_of_ble_eq_true rfl) d_WO_init_10 (fun H2 locs hP hD hS => ?_)
  have hP : va_P (dC, dI) cls [(h0, .inr (2, [.ref q1, .null, .null, .int 0, .int 0, .int 0, .int 0])), (q1, .inl (cA1, 300, .inl (fun _ => (0 : Int32))))] H2 := hP
  have hD : va_D A [(h0, .inr (2, [.ref q1, .null, .null, .int 0, .int 0, .int 0, .int 0])), (q1, .inl (cA1, 300, .inl (fun _ => (0 : Int32))))] := hD
  refine lv_aload_n hx hb d_WO_init_13 rfl (lv_at hl 0 rfl) ?_
  refine lv_sipush (v := 300) hx hb d_WO_init_14 (by decide) ?_
  refine va_newa (atype := .int) (ty := .int) (N' := 300) (a0 := (300, .inl (fun _ => (0 : Int32)))) hx hb (hts _ k_79) rfl hK hP hD hS hA (fun _ => rfl) (by decide) (by decide) (by decide) (Nat.le_of_ble_eq_true rfl) (Nat.le_of_ble_eq_true rfl) d_WO_init_17 (fun q2 cA2 H3 hK hP hD hS => ?_)
  have hK : va_K (dC, dI) cls [(cA1, .int), (cA2, .int)] s := hK
  have hP : va_P (dC, dI) cls [(h0, .inr (2, [.ref q1, .null, .null, .int 0, .int 0, .int 0, .int 0])), (q1, .inl (cA1, 300, .inl (fun _ => (0 : Int32)))), (q2, .inl (cA2, 300, .inl (fun _ => (0 : Int32))))] H3 := hP
  have hD : va_D A [(h0, .inr (2, [.ref q1, .null, .null, .int 0, .int 0, .int 0, .int 0])), (q1, .inl (cA1, 300, .inl (fun _ => (0 : Int32)))), (q2, .inl (cA2, 300, .inl (fun _ => (0 : Int32))))] := hD
  refine W.widen (k := 2) (n := 600) (Nat.le_of_ble_eq_true rfl) (Nat.le_of_ble_eq_true rfl) ?_
  refine va_putF (D := (dC, dI)) (ci := 2) (v := .ref q2) (ty := (.array .int)) (C := R_WO) (T := T_WO) (N := 7) hx hb hts in_WO t_WO t_WO_ok n_WO hown hK hP hD hS 0 rfl rfl 1 (by decide) (hts _ k_54) (fun _ h9 => h9) rfl hin rfl (by decide +kernel) rfl rfl (Nat.le_of_ble_eq_true rfl) d_WO_init_19 (fun H4 locs hP hD hS => ?_)
  have hP : va_P (dC, dI) cls [(h0, .inr (2, [.ref q1, .ref q2, .null, .int 0, .int 0, .int 0, .int 0])), (q1, .inl (cA1, 300, .inl (fun _ => (0 : Int32)))), (q2, .inl (cA2, 300, .inl (fun _ => (0 : Int32))))] H4 := hP
  have hD : va_D A [(h0, .inr (2, [.ref q1, .ref q2, .null, .int 0, .int 0, .int 0, .int 0])), (q1, .inl (cA1, 300, .inl (fun _ => (0 : Int32)))), (q2, .inl (cA2, 300, .inl (fun _ => (0 : Int32))))] := hD
  refine lv_aload_n hx hb d_WO_init_22 rfl (lv_at hl 0 rfl) ?_
  refine lv_sipush (v := 300) hx hb d_WO_init_23 (by decide) ?_
  refine va_newa (atype := .int) (ty := .int) (N' := 300) (a0 := (300, .inl (fun _ => (0 : Int32)))) hx hb (hts _ k_79) rfl hK hP hD hS hA (fun _ => rfl) (by decide) (by decide) (by decide) (Nat.le_of_ble_eq_true rfl) (Nat.le_of_ble_eq_true rfl) d_WO_init_26 (fun q3 cA3 H5 hK hP hD hS => ?_)
  have hK : va_K (dC, dI) cls [(cA1, .int), (cA2, .int), (cA3, .int)] s := hK
  have hP : va_P (dC, dI) cls [(h0, .inr (2, [.ref q1, .ref q2, .null, .int 0, .int 0, .int 0, .int 0])), (q1, .inl (cA1, 300, .inl (fun _ => (0 : Int32)))), (q2, .inl (cA2, 300, .inl (fun _ => (0 : Int32)))), (q3, .inl (cA3, 300, .inl (fun _ => (0 : Int32))))] H5 := hP
  have hD : va_D A [(h0, .inr (2, [.ref q1, .ref q2, .null, .int 0, .int 0, .int 0, .int 0])), (q1, .inl (cA1, 300, .inl (fun _ => (0 : Int32)))), (q2, .inl (cA2, 300, .inl (fun _ => (0 : Int32)))), (q3, .inl (cA3, 300, .inl (fun _ => (0 : Int32))))] := hD
  refine W.widen (k := 3) (n := 900) (Nat.le_of_ble_eq_true rfl) (Nat.le_of_ble_eq_true rfl) ?_
  refine va_putF (D := (dC, dI)) (ci := 2) (v := .ref q3) (ty := (.array .int)) (C := R_WO) (T := T_WO) (N := 7) hx hb hts in_WO t_WO t_WO_ok n_WO hown hK hP hD hS 0 rfl rfl 2 (by decide) (hts _ k_56) (fun _ h9 => h9) rfl hin rfl (by decide +kernel) rfl rfl (Nat.le_of_ble_eq_true rfl) d_WO_init_28 (fun H6 locs hP hD hS => ?_)
  have hP : va_P (dC, dI) cls [(h0, .inr (2, [.ref q1, .ref q2, .ref q3, .int 0, .int 0, .int 0, .int 0])), (q1, .inl (cA1, 300, .inl (fun _ => (0 : Int32)))), (q2, .inl (cA2, 300, .inl (fun _ => (0 : Int32)))), (q3, .inl (cA3, 300, .inl (fun _ => (0 : Int32))))] H6 := hP
  have hD : va_D A [(h0, .inr (2, [.ref q1, .ref q2, .ref q3, .int 0, .int 0, .int 0, .int 0])), (q1, .inl (cA1, 300, .inl (fun _ => (0 : Int32)))), (q2, .inl (cA2, 300, .inl (fun _ => (0 : Int32)))), (q3, .inl (cA3, 300, .inl (fun _ => (0 : Int32))))] := hD
  refine lv_aload_n hx hb d_WO_init_31 rfl (lv_at hl 0 rfl) ?_
  refine lv_iconst (v := 0) hx hb d_WO_init_32 (by decide) ?_
  refine va_put (D := (dC, dI)) (ci := 2) (v := .int 0) (ty := .int) (C := R_WO) (T := T_WO) (N := 7) hx hb hts in_WO t_WO t_WO_ok n_WO hown hK hP hD hS 0 rfl rfl 3 (by decide) (hts _ k_58) (fun _ h9 => h9) rfl (by decide +kernel) rfl rfl (Nat.le_of_ble_eq_true rfl) d_WO_init_33 (fun H7 locs hP hD hS => ?_)
  have hP : va_P (dC, dI) cls [(h0, .inr (2, [.ref q1, .ref q2, .ref q3, .int 0, .int 0, .int 0, .int 0])), (q1, .inl (cA1, 300, .inl (fun _ => (0 : Int32)))), (q2, .inl (cA2, 300, .inl (fun _ => (0 : Int32)))), (q3, .inl (cA3, 300, .inl (fun _ => (0 : Int32))))] H7 := hP
  have hD : va_D A [(h0, .inr (2, [.ref q1, .ref q2, .ref q3, .int 0, .int 0, .int 0, .int 0])), (q1, .inl (cA1, 300, .inl (fun _ => (0 : Int32)))), (q2, .inl (cA2, 300, .inl (fun _ => (0 : Int32)))), (q3, .inl (cA3, 300, .inl (fun _ => (0 : Int32))))] := hD
  refine lv_aload_n hx hb d_WO_init_36 rfl (lv_at hl 0 rfl) ?_
  refine lv_iconst (v := 0) hx hb d_WO_init_37 (by decide) ?_
  refine va_put (D := (dC, dI)) (ci := 2) (v := .int 0) (ty := .int) (C := R_WO) (T := T_WO) (N := 7) hx hb hts in_WO t_WO t_WO_ok n_WO hown hK hP hD hS 0 rfl rfl 4 (by decide) (hts _ k_60) (fun _ h9 => h9) rfl (by decide +kernel) rfl rfl (Nat.le_of_ble_eq_true rfl) d_WO_init_38 (fun H8 locs hP hD hS => ?_)
  have hP : va_P (dC, dI) cls [(h0, .inr (2, [.ref q1, .ref q2, .ref q3, .int 0, .int 0, .int 0, .int 0])), (q1, .inl (cA1, 300, .inl (fun _ => (0 : Int32)))), (q2, .inl (cA2, 300, .inl (fun _ => (0 : Int32)))), (q3, .inl (cA3, 300, .inl (fun _ => (0 : Int32))))] H8 := hP
  have hD : va_D A [(h0, .inr (2, [.ref q1, .ref q2, .ref q3, .int 0, .int 0, .int 0, .int 0])), (q1, .inl (cA1, 300, .inl (fun _ => (0 : Int32)))), (q2, .inl (cA2, 300, .inl (fun _ => (0 : Int32)))), (q3, .inl (cA3, 300, .inl (fun _ => (0 : Int32))))] := hD
  refine lv_aload_n hx hb d_WO_init_41 rfl (lv_at hl 0 rfl) ?_
  refine lv_iconst (v := 0) hx hb d_WO_init_42 (by decide) ?_
  refine va_put (D := (dC, dI)) (ci := 2) (v := .int 0) (ty := .boolean) (C := R_WO) (T := T_WO) (N := 7) hx hb hts in_WO t_WO t_WO_ok n_WO hown hK hP hD hS 0 rfl rfl 5 (by decide) (hts _ k_61) (fun _ h9 => h9) rfl (by decide +kernel) (by decide +kernel) (by decide +kernel) (Nat.le_of_ble_eq_true rfl) d_WO_init_43 (fun H9 locs hP hD hS => ?_)
  have hP : va_P (dC, dI) cls [(h0, .inr (2, [.ref q1, .ref q2, .ref q3, .int 0, .int 0, .int 0, .int 0])), (q1, .inl (cA1, 300, .inl (fun _ => (0 : Int32)))), (q2, .inl (cA2, 300, .inl (fun _ => (0 : Int32)))), (q3, .inl (cA3, 300, .inl (fun _ => (0 : Int32))))] H9 := hP
  have hD : va_D A [(h0, .inr (2, [.ref q1, .ref q2, .ref q3, .int 0, .int 0, .int 0, .int 0])), (q1, .inl (cA1, 300, .inl (fun _ => (0 : Int32)))), (q2, .inl (cA2, 300, .inl (fun _ => (0 : Int32)))), (q3, .inl (cA3, 300, .inl (fun _ => (0 : Int32))))] := hD
  refine lv_aload_n hx hb d_WO_init_46 rfl (lv_at hl 0 rfl) ?_
  refine lv_iconst (v := (-1)) hx hb d_WO_init_47 (by decide) ?_
  refine va_put (D := (dC, dI)) (ci := 2) (v := .int (-1)) (ty := .int) (C := R_WO) (T := T_WO) (N := 7) hx hb hts in_WO t_WO t_WO_ok n_WO hown hK hP hD hS 0 rfl rfl 6 (by decide) (hts _ k_62) (fun _ h9 => h9) rfl (by decide +kernel) rfl rfl (Nat.le_of_ble_eq_true rfl) d_WO_init_48 (fun H10 locs hP hD hS => ?_)
  have hP : va_P (dC, dI) cls [(h0, .inr (2, [.ref q1, .ref q2, .ref q3, .int 0, .int 0, .int 0, .int (-1)])), (q1, .inl (cA1, 300, .inl (fun _ => (0 : Int32)))), (q2, .inl (cA2, 300, .inl (fun _ => (0 : Int32)))), (q3, .inl (cA3, 300, .inl (fun _ => (0 : Int32))))] H10 := hP
  have hD : va_D A [(h0, .inr (2, [.ref q1, .ref q2, .ref q3, .int 0, .int 0, .int 0, .int (-1)])), (q1, .inl (cA1, 300, .inl (fun _ => (0 : Int32)))), (q2, .inl (cA2, 300, .inl (fun _ => (0 : Int32)))), (q3, .inl (cA3, 300, .inl (fun _ => (0 : Int32))))] := hD
  have hP9 := hP.sub (ws' := [(h0, .inr (2, [.ref q1, .ref q2, .ref q3, .int 0, .int 0, .int 0, .int (-1)]))]) [0] rfl
  have hD9 := hD.sub (ws' := [(h0, .inr (2, [.ref q1, .ref q2, .ref q3, .int 0, .int 0, .int 0, .int (-1)]))]) [0] (by decide) rfl
  have hK9 := hK.sub (tys' := []) [] rfl
  exact W.vret hx hb hr (fun t ht hW => ⟨⟨(), rfl, trivial, q1, q2, q3, by rw [ht]; exact hP9, va_K.moved hW.alike hK9, hD9⟩, hS.F ht⟩) hS.2.2 d_WO_init_51

set_option maxHeartbeats 4000000 in
set_option maxRecDepth 100000 in
theorem c_EQ_init (l : Launch) (dC : Nat → ClassId) (dI : Nat → Nat → Nat) (h0 : Nat) (sz : Nat) : Met l y_EQ_init (Cond.code y_EQ_init b_EQ_init 1 (Option.none : Option Jvm.ClassFile.FieldType) :: wd) { frames := 1, cells := 9, slots := 50, locals := 20 } (va_Pc [.ref h0] (fun U => U.heap.size = sz ∧ va_P (dC, dI) cls [(h0, .inr (4, [.null, .null, .null, .null, .null, .int 0, .int 0, .int 0]))] U.heap ∧ va_K (dC, dI) cls [] U ∧ va_D (fun _ => True) [(h0, .inr (4, [.null, .null, .null, .null, .null, .int 0, .int 0, .int 0]))] ∧ nw_ok U)) (va_Qv (fun _ : Unit => True) (fun (_ : Unit) t => ∃ (q1 q2 q3 q4 q5 : Nat) , va_P (dC, dI) cls [(h0, .inr (4, [.ref q1, .ref q2, .ref q3, .ref q4, .ref q5, .int 0, .int 0, .int 0]))] t.heap ∧ va_K (dC, dI) cls [] t ∧ va_D (va_A [(h0, .inr (4, [.null, .null, .null, .null, .null, .int 0, .int 0, .int 0]))] sz) [(h0, .inr (4, [.ref q1, .ref q2, .ref q3, .ref q4, .ref q5, .int 0, .int 0, .int 0]))]) (va_A [(h0, .inr (4, [.null, .null, .null, .null, .null, .int 0, .int 0, .int 0]))] sz)) 9 50 (va_A [(h0, .inr (4, [.null, .null, .null, .null, .null, .int 0, .int 0, .int 0]))] sz) := by
  refine Met.ofW (cc := b_EQ_init) (maxL := 1) (ret := (Option.none : Option Jvm.ClassFile.FieldType)) (by decide) rfl ?_
  intro p e s m args below meth c s₁ B hml hv
  obtain ⟨rfl, hsz, hP, hK, hD0, hN⟩ := hv
  have hx := B.exec
  have hb := B.bytes
  have hr := B.returns
  have hlocks := B.notSynchronized
  have hin : meth.name = "<init>" := (name_of_methodNamed B.named B.method).1
  have hts : ∀ w ∈ wd, w.before ([.ref h0] : List Value).toArray s = true := fun w hw => atoms_spec (ws := (Cond.code y_EQ_init b_EQ_init 1 (Option.none : Option Jvm.ClassFile.FieldType) :: wd)) B.pre w (List.mem_cons_of_mem _ hw)
  have hown : s.vm.findClass "LeastSolutions$Equations" = some m.cls := findClass_of_methodNamed B.named
  subst hsz
  have hD := hD0.self (sz := s.heap.size)
  generalize hAe : va_A [(h0, .inr (4, [.null, .null, .null, .null, .null, .int 0, .int 0, .int 0]))] s.heap.size = A at hD ⊢
  have hA : ∀ q : Nat, s.heap.size ≤ q → A q := fun q h => by rw [← hAe]; exact Or.inr h
  have hS : va_S A s.heap s.heap [] := va_S.rf
  have hl := lv_entry ([.ref h0]) (n := 1) (Nat.le_of_ble_eq_true rfl)
  rw [lg_entry_eq]
  generalize (lg_sl ([.ref h0]) ++ List.replicate (1 - (lg_sl ([.ref h0])).length) Slot.unset).toArray = ls at hl ⊢
  have hl : lv_has ls 1 [(0, .ref h0)] := hl
  refine lv_aload_n hx hb d_EQ_init_0 rfl (lv_at hl 0 rfl) ?_
  refine W.objInit hx hb hown (hts _ k_91) (hts _ k_28) (hts _ k_29) rfl (by rw [hml]; exact hl.1) rfl d_EQ_init_1 (Nat.le_of_ble_eq_true rfl) (Nat.le_of_ble_eq_true rfl) ?_
  refine W.eq (g2 := F0 m 4 ls []) rfl ?_
  refine lv_aload_n hx hb d_EQ_init_4 rfl (lv_at hl 0 rfl) ?_
  refine lv_iconst (v := 4) hx hb d_EQ_init_5 (by decide) ?_
  refine lv_bipush (v := 6) hx hb d_EQ_init_6 (by decide) ?_
  refine mk_new0 (cn := "[[I") (ty := .int) (N := 4) (M := 6) hx hb hown (by decide +kernel) (hts _ k_92) hN.2.1 (hts _ k_79) hP hS hA (by decide) (by decide) (by decide) (by decide) (by decide) (by decide) (by decide) rfl rfl (Nat.le_of_ble_eq_true rfl) (Nat.le_of_ble_eq_true rfl) d_EQ_init_8 (fun q1 H1 locs hP hS => ?_)
  have hP : va_P (dC, dI) cls [(h0, .inr (4, [.null, .null, .null, .null, .null, .int 0, .int 0, .int 0]))] H1 := hP
  refine W.widen (k := 5) (n := 28) (Nat.le_of_ble_eq_true rfl) (Nat.le_of_ble_eq_true rfl) ?_
  refine va_putF (D := (dC, dI)) (ci := 4) (v := .ref q1) (ty := (.array (.array .int))) (C := R_EQ) (T := T_EQ) (N := 8) hx hb hts in_EQ t_EQ t_EQ_ok n_EQ hown hK hP hD hS 0 rfl rfl 0 (by decide) (hts _ k_94) (fun _ h9 => h9) rfl hin rfl (by decide +kernel) rfl rfl (Nat.le_of_ble_eq_true rfl) d_EQ_init_12 (fun H2 locs hP hD hS => ?_)
  have hP : va_P (dC, dI) cls [(h0, .inr (4, [.ref q1, .null, .null, .null, .null, .int 0, .int 0, .int 0]))] H2 := hP
  have hD : va_D A [(h0, .inr (4, [.ref q1, .null, .null, .null, .null, .int 0, .int 0, .int 0]))] := hD
  refine lv_aload_n hx hb d_EQ_init_15 rfl (lv_at hl 0 rfl) ?_
  refine lv_iconst (v := 4) hx hb d_EQ_init_16 (by decide) ?_
  refine va_newa (atype := .int) (ty := .int) (N' := 4) (a0 := (4, .inl (fun _ => (0 : Int32)))) hx hb (hts _ k_79) rfl hK hP hD hS hA (fun _ => rfl) (by decide) (by decide) (by decide) (Nat.le_of_ble_eq_true rfl) (Nat.le_of_ble_eq_true rfl) d_EQ_init_17 (fun q2 cA1 H3 hK hP hD hS => ?_)
  have hK : va_K (dC, dI) cls [(cA1, .int)] s := hK
  have hP : va_P (dC, dI) cls [(h0, .inr (4, [.ref q1, .null, .null, .null, .null, .int 0, .int 0, .int 0])), (q2, .inl (cA1, 4, .inl (fun _ => (0 : Int32))))] H3 := hP
  have hD : va_D A [(h0, .inr (4, [.ref q1, .null, .null, .null, .null, .int 0, .int 0, .int 0])), (q2, .inl (cA1, 4, .inl (fun _ => (0 : Int32))))] := hD
  refine W.widen (k := 6) (n := 32) (Nat.le_of_ble_eq_true rfl) (Nat.le_of_ble_eq_true rfl) ?_
  refine va_putF (D := (dC, dI)) (ci := 4) (v := .ref q2) (ty := (.array .int)) (C := R_EQ) (T := T_EQ) (N := 8) hx hb hts in_EQ t_EQ t_EQ_ok n_EQ hown hK hP hD hS 0 rfl rfl 1 (by decide) (hts _ k_99) (fun _ h9 => h9) rfl hin rfl (by decide +kernel) rfl rfl (Nat.le_of_ble_eq_true rfl) d_EQ_init_19 (fun H4 locs hP hD hS => ?_)
  have hP : va_P (dC, dI) cls [(h0, .inr (4, [.ref q1, .ref q2, .null, .null, .null, .int 0, .int 0, .int 0])), (q2, .inl (cA1, 4, .inl (fun _ => (0 : Int32))))] H4 := hP
  have hD : va_D A [(h0, .inr (4, [.ref q1, .ref q2, .null, .null, .null, .int 0, .int 0, .int 0])), (q2, .inl (cA1, 4, .inl (fun _ => (0 : Int32))))] := hD
  refine lv_aload_n hx hb d_EQ_init_22 rfl (lv_at hl 0 rfl) ?_
  refine lv_bipush (v := 6) hx hb d_EQ_init_23 (by decide) ?_
  refine va_newa (atype := .int) (ty := .int) (N' := 6) (a0 := (6, .inl (fun _ => (0 : Int32)))) hx hb (hts _ k_79) rfl hK hP hD hS hA (fun _ => rfl) (by decide) (by decide) (by decide) (Nat.le_of_ble_eq_true rfl) (Nat.le_of_ble_eq_true rfl) d_EQ_init_25 (fun q3 cA2 H5 hK hP hD hS => ?_)
  have hK : va_K (dC, dI) cls [(cA1, .int), (cA2, .int)] s := hK
  have hP : va_P (dC, dI) cls [(h0, .inr (4, [.ref q1, .ref q2, .null, .null, .null, .int 0, .int 0, .int 0])), (q2, .inl (cA1, 4, .inl (fun _ => (0 : Int32)))), (q3, .inl (cA2, 6, .inl (fun _ => (0 : Int32))))] H5 := hP
  have hD : va_D A [(h0, .inr (4, [.ref q1, .ref q2, .null, .null, .null, .int 0, .int 0, .int 0])), (q2, .inl (cA1, 4, .inl (fun _ => (0 : Int32)))), (q3, .inl (cA2, 6, .inl (fun _ => (0 : Int32))))] := hD
  refine W.widen (k := 7) (n := 38) (Nat.le_of_ble_eq_true rfl) (Nat.le_of_ble_eq_true rfl) ?_
  refine va_putF (D := (dC, dI)) (ci := 4) (v := .ref q3) (ty := (.array .int)) (C := R_EQ) (T := T_EQ) (N := 8) hx hb hts in_EQ t_EQ t_EQ_ok n_EQ hown hK hP hD hS 0 rfl rfl 2 (by decide) (hts _ k_104) (fun _ h9 => h9) rfl hin rfl (by decide +kernel) rfl rfl (Nat.le_of_ble_eq_true rfl) d_EQ_init_27 (fun H6 locs hP hD hS => ?_)
  have hP : va_P (dC, dI) cls [(h0, .inr (4, [.ref q1, .ref q2, .ref q3, .null, .null, .int 0, .int 0, .int 0])), (q2, .inl (cA1, 4, .inl (fun _ => (0 : Int32)))), (q3, .inl (cA2, 6, .inl (fun _ => (0 : Int32))))] H6 := hP
  have hD : va_D A [(h0, .inr (4, [.ref q1, .ref q2, .ref q3, .null, .null, .int 0, .int 0, .int 0])), (q2, .inl (cA1, 4, .inl (fun _ => (0 : Int32)))), (q3, .inl (cA2, 6, .inl (fun _ => (0 : Int32))))] := hD
  refine lv_aload_n hx hb d_EQ_init_30 rfl (lv_at hl 0 rfl) ?_
  refine lv_bipush (v := 6) hx hb d_EQ_init_31 (by decide) ?_
  refine va_newa (atype := .int) (ty := .int) (N' := 6) (a0 := (6, .inl (fun _ => (0 : Int32)))) hx hb (hts _ k_79) rfl hK hP hD hS hA (fun _ => rfl) (by decide) (by decide) (by decide) (Nat.le_of_ble_eq_true rfl) (Nat.le_of_ble_eq_true rfl) d_EQ_init_33 (fun q4 cA3 H7 hK hP hD hS => ?_)
  have hK : va_K (dC, dI) cls [(cA1, .int), (cA2, .int), (cA3, .int)] s := hK
  have hP : va_P (dC, dI) cls [(h0, .inr (4, [.ref q1, .ref q2, .ref q3, .null, .null, .int 0, .int 0, .int 0])), (q2, .inl (cA1, 4, .inl (fun _ => (0 : Int32)))), (q3, .inl (cA2, 6, .inl (fun _ => (0 : Int32)))), (q4, .inl (cA3, 6, .inl (fun _ => (0 : Int32))))] H7 := hP
  have hD : va_D A [(h0, .inr (4, [.ref q1, .ref q2, .ref q3, .null, .null, .int 0, .int 0, .int 0])), (q2, .inl (cA1, 4, .inl (fun _ => (0 : Int32)))), (q3, .inl (cA2, 6, .inl (fun _ => (0 : Int32)))), (q4, .inl (cA3, 6, .inl (fun _ => (0 : Int32))))] := hD
  refine W.widen (k := 8) (n := 44) (Nat.le_of_ble_eq_true rfl) (Nat.le_of_ble_eq_true rfl) ?_
  refine va_putF (D := (dC, dI)) (ci := 4) (v := .ref q4) (ty := (.array .int)) (C := R_EQ) (T := T_EQ) (N := 8) hx hb hts in_EQ t_EQ t_EQ_ok n_EQ hown hK hP hD hS 0 rfl rfl 3 (by decide) (hts _ k_106) (fun _ h9 => h9) rfl hin rfl (by decide +kernel) rfl rfl (Nat.le_of_ble_eq_true rfl) d_EQ_init_35 (fun H8 locs hP hD hS => ?_)
  have hP : va_P (dC, dI) cls [(h0, .inr (4, [.ref q1, .ref q2, .ref q3, .ref q4, .null, .int 0, .int 0, .int 0])), (q2, .inl (cA1, 4, .inl (fun _ => (0 : Int32)))), (q3, .inl (cA2, 6, .inl (fun _ => (0 : Int32)))), (q4, .inl (cA3, 6, .inl (fun _ => (0 : Int32))))] H8 := hP
  have hD : va_D A [(h0, .inr (4, [.ref q1, .ref q2, .ref q3, .ref q4, .null, .int 0, .int 0, .int 0])), (q2, .inl (cA1, 4, .inl (fun _ => (0 : Int32)))), (q3, .inl (cA2, 6, .inl (fun _ => (0 : Int32)))), (q4, .inl (cA3, 6, .inl (fun _ => (0 : Int32))))] := hD
  refine lv_aload_n hx hb d_EQ_init_38 rfl (lv_at hl 0 rfl) ?_
  refine lv_bipush (v := 6) hx hb d_EQ_init_39 (by decide) ?_
  refine va_newa (atype := .int) (ty := .int) (N' := 6) (a0 := (6, .inl (fun _ => (0 : Int32)))) hx hb (hts _ k_79) rfl hK hP hD hS hA (fun _ => rfl) (by decide) (by decide) (by decide) (Nat.le_of_ble_eq_true rfl) (Nat.le_of_ble_eq_true rfl) d_EQ_init_41 (fun q5 cA4 H9 hK hP hD hS => ?_)
  have hK : va_K (dC, dI) cls [(cA1, .int), (cA2, .int), (cA3, .int), (cA4, .int)] s := hK
  have hP : va_P (dC, dI) cls [(h0, .inr (4, [.ref q1, .ref q2, .ref q3, .ref q4, .null, .int 0, .int 0, .int 0])), (q2, .inl (cA1, 4, .inl (fun _ => (0 : Int32)))), (q3, .inl (cA2, 6, .inl (fun _ => (0 : Int32)))), (q4, .inl (cA3, 6, .inl (fun _ => (0 : Int32)))), (q5, .inl (cA4, 6, .inl (fun _ => (0 : Int32))))] H9 := hP
  have hD : va_D A [(h0, .inr (4, [.ref q1, .ref q2, .ref q3, .ref q4, .null, .int 0, .int 0, .int 0])), (q2, .inl (cA1, 4, .inl (fun _ => (0 : Int32)))), (q3, .inl (cA2, 6, .inl (fun _ => (0 : Int32)))), (q4, .inl (cA3, 6, .inl (fun _ => (0 : Int32)))), (q5, .inl (cA4, 6, .inl (fun _ => (0 : Int32))))] := hD
  refine W.widen (k := 9) (n := 50) (Nat.le_of_ble_eq_true rfl) (Nat.le_of_ble_eq_true rfl) ?_
  refine va_putF (D := (dC, dI)) (ci := 4) (v := .ref q5) (ty := (.array .int)) (C := R_EQ) (T := T_EQ) (N := 8) hx hb hts in_EQ t_EQ t_EQ_ok n_EQ hown hK hP hD hS 0 rfl rfl 4 (by decide) (hts _ k_107) (fun _ h9 => h9) rfl hin rfl (by decide +kernel) rfl rfl (Nat.le_of_ble_eq_true rfl) d_EQ_init_43 (fun H10 locs hP hD hS => ?_)
  have hP : va_P (dC, dI) cls [(h0, .inr (4, [.ref q1, .ref q2, .ref q3, .ref q4, .ref q5, .int 0, .int 0, .int 0])), (q2, .inl (cA1, 4, .inl (fun _ => (0 : Int32)))), (q3, .inl (cA2, 6, .inl (fun _ => (0 : Int32)))), (q4, .inl (cA3, 6, .inl (fun _ => (0 : Int32)))), (q5, .inl (cA4, 6, .inl (fun _ => (0 : Int32))))] H10 := hP
  have hD : va_D A [(h0, .inr (4, [.ref q1, .ref q2, .ref q3, .ref q4, .ref q5, .int 0, .int 0, .int 0])), (q2, .inl (cA1, 4, .inl (fun _ => (0 : Int32)))), (q3, .inl (cA2, 6, .inl (fun _ => (0 : Int32)))), (q4, .inl (cA3, 6, .inl (fun _ => (0 : Int32)))), (q5, .inl (cA4, 6, .inl (fun _ => (0 : Int32))))] := hD
  refine lv_aload_n hx hb d_EQ_init_46 rfl (lv_at hl 0 rfl) ?_
  refine lv_iconst (v := 0) hx hb d_EQ_init_47 (by decide) ?_
  refine va_put (D := (dC, dI)) (ci := 4) (v := .int 0) (ty := .int) (C := R_EQ) (T := T_EQ) (N := 8) hx hb hts in_EQ t_EQ t_EQ_ok n_EQ hown hK hP hD hS 0 rfl rfl 5 (by decide) (hts _ k_108) (fun _ h9 => h9) rfl (by decide +kernel) rfl rfl (Nat.le_of_ble_eq_true rfl) d_EQ_init_48 (fun H11 locs hP hD hS => ?_)
  have hP : va_P (dC, dI) cls [(h0, .inr (4, [.ref q1, .ref q2, .ref q3, .ref q4, .ref q5, .int 0, .int 0, .int 0])), (q2, .inl (cA1, 4, .inl (fun _ => (0 : Int32)))), (q3, .inl (cA2, 6, .inl (fun _ => (0 : Int32)))), (q4, .inl (cA3, 6, .inl (fun _ => (0 : Int32)))), (q5, .inl (cA4, 6, .inl (fun _ => (0 : Int32))))] H11 := hP
  have hD : va_D A [(h0, .inr (4, [.ref q1, .ref q2, .ref q3, .ref q4, .ref q5, .int 0, .int 0, .int 0])), (q2, .inl (cA1, 4, .inl (fun _ => (0 : Int32)))), (q3, .inl (cA2, 6, .inl (fun _ => (0 : Int32)))), (q4, .inl (cA3, 6, .inl (fun _ => (0 : Int32)))), (q5, .inl (cA4, 6, .inl (fun _ => (0 : Int32))))] := hD
  refine lv_aload_n hx hb d_EQ_init_51 rfl (lv_at hl 0 rfl) ?_
  refine lv_iconst (v := 0) hx hb d_EQ_init_52 (by decide) ?_
  refine va_put (D := (dC, dI)) (ci := 4) (v := .int 0) (ty := .int) (C := R_EQ) (T := T_EQ) (N := 8) hx hb hts in_EQ t_EQ t_EQ_ok n_EQ hown hK hP hD hS 0 rfl rfl 6 (by decide) (hts _ k_113) (fun _ h9 => h9) rfl (by decide +kernel) rfl rfl (Nat.le_of_ble_eq_true rfl) d_EQ_init_53 (fun H12 locs hP hD hS => ?_)
  have hP : va_P (dC, dI) cls [(h0, .inr (4, [.ref q1, .ref q2, .ref q3, .ref q4, .ref q5, .int 0, .int 0, .int 0])), (q2, .inl (cA1, 4, .inl (fun _ => (0 : Int32)))), (q3, .inl (cA2, 6, .inl (fun _ => (0 : Int32)))), (q4, .inl (cA3, 6, .inl (fun _ => (0 : Int32)))), (q5, .inl (cA4, 6, .inl (fun _ => (0 : Int32))))] H12 := hP
  have hD : va_D A [(h0, .inr (4, [.ref q1, .ref q2, .ref q3, .ref q4, .ref q5, .int 0, .int 0, .int 0])), (q2, .inl (cA1, 4, .inl (fun _ => (0 : Int32)))), (q3, .inl (cA2, 6, .inl (fun _ => (0 : Int32)))), (q4, .inl (cA3, 6, .inl (fun _ => (0 : Int32)))), (q5, .inl (cA4, 6, .inl (fun _ => (0 : Int32))))] := hD
  refine lv_aload_n hx hb d_EQ_init_56 rfl (lv_at hl 0 rfl) ?_
  refine lv_iconst (v := 0) hx hb d_EQ_init_57 (by decide) ?_
  refine va_put (D := (dC, dI)) (ci := 4) (v := .int 0) (ty := .int) (C := R_EQ) (T := T_EQ) (N := 8) hx hb hts in_EQ t_EQ t_EQ_ok n_EQ hown hK hP hD hS 0 rfl rfl 7 (by decide) (hts _ k_115) (fun _ h9 => h9) rfl (by decide +kernel) rfl rfl (Nat.le_of_ble_eq_true rfl) d_EQ_init_58 (fun H13 locs hP hD hS => ?_)
  have hP : va_P (dC, dI) cls [(h0, .inr (4, [.ref q1, .ref q2, .ref q3, .ref q4, .ref q5, .int 0, .int 0, .int 0])), (q2, .inl (cA1, 4, .inl (fun _ => (0 : Int32)))), (q3, .inl (cA2, 6, .inl (fun _ => (0 : Int32)))), (q4, .inl (cA3, 6, .inl (fun _ => (0 : Int32)))), (q5, .inl (cA4, 6, .inl (fun _ => (0 : Int32))))] H13 := hP
  have hD : va_D A [(h0, .inr (4, [.ref q1, .ref q2, .ref q3, .ref q4, .ref q5, .int 0, .int 0, .int 0])), (q2, .inl (cA1, 4, .inl (fun _ => (0 : Int32)))), (q3, .inl (cA2, 6, .inl (fun _ => (0 : Int32)))), (q4, .inl (cA3, 6, .inl (fun _ => (0 : Int32)))), (q5, .inl (cA4, 6, .inl (fun _ => (0 : Int32))))] := hD
  have hP9 := hP.sub (ws' := [(h0, .inr (4, [.ref q1, .ref q2, .ref q3, .ref q4, .ref q5, .int 0, .int 0, .int 0]))]) [0] rfl
  have hD9 := hD.sub (ws' := [(h0, .inr (4, [.ref q1, .ref q2, .ref q3, .ref q4, .ref q5, .int 0, .int 0, .int 0]))]) [0] (by decide) rfl
  have hK9 := hK.sub (tys' := []) [] rfl
  exact W.vret hx hb hr (fun t ht hW => ⟨⟨(), rfl, trivial, q1, q2, q3, q4, q5, by rw [ht]; exact hP9, va_K.moved hW.alike hK9, hD9⟩, hS.F ht⟩) hS.2.2 d_EQ_init_61

set_option maxHeartbeats 4000000 in
set_option maxRecDepth 100000 in
theorem c_BU_init (l : Launch) (dC : Nat → ClassId) (dI : Nat → Nat → Nat) (h0 : Nat) (sz : Nat) : Met l y_BU_init (Cond.code y_BU_init b_BU_init 1 (Option.none : Option Jvm.ClassFile.FieldType) :: wd) { frames := 2, cells := 10, slots := 58, locals := 40 } (va_Pc [.ref h0] (fun U => U.heap.size = sz ∧ va_P (dC, dI) cls [(h0, .inr (3, [.null, .int 0, .int 0, .int 0, .int 0, .int 0, .int 0, .int 0]))] U.heap ∧ va_K (dC, dI) cls [] U ∧ va_D (fun _ => True) [(h0, .inr (3, [.null, .int 0, .int 0, .int 0, .int 0, .int 0, .int 0, .int 0]))] ∧ nw_ok U)) (va_Qv (fun _ : Unit => True) (fun (_ : Unit) t => va_P (dC, dI) cls [] t.heap ∧ va_K (dC, dI) cls [] t ∧ va_D (va_A [(h0, .inr (3, [.null, .int 0, .int 0, .int 0, .int 0, .int 0, .int 0, .int 0]))] sz) []) (va_A [(h0, .inr (3, [.null, .int 0, .int 0, .int 0, .int 0, .int 0, .int 0, .int 0]))] sz)) 10 58 (va_A [(h0, .inr (3, [.null, .int 0, .int 0, .int 0, .int 0, .int 0, .int 0, .int 0]))] sz) := by
  refine Met.ofW (cc := b_BU_init) (maxL := 1) (ret := (Option.none : Option Jvm.ClassFile.FieldType)) (by decide) rfl ?_
  intro p e s m args below meth c s₁ B hml hv
  obtain ⟨rfl, hsz, hP, hK, hD0, hN⟩ := hv
  have hx := B.exec
  have hb := B.bytes
  have hr := B.returns
  have hlocks := B.notSynchronized
  have hin : meth.name = "<init>" := (name_of_methodNamed B.named B.method).1
  have hts : ∀ w ∈ wd, w.before ([.ref h0] : List Value).toArray s = true := fun w hw => atoms_spec (ws := (Cond.code y_BU_init b_BU_init 1 (Option.none : Option Jvm.ClassFile.FieldType) :: wd)) B.pre w (List.mem_cons_of_mem _ hw)
  have hown : s.vm.findClass "LeastSolutions$Builder" = some m.cls := findClass_of_methodNamed B.named
  subst hsz
  have hD := hD0.self (sz := s.heap.size)
  generalize hAe : va_A [(h0, .inr (3, [.null, .int 0, .int 0, .int 0, .int 0, .int 0, .int 0, .int 0]))] s.heap.size = A at hD ⊢
  have hA : ∀ q : Nat, s.heap.size ≤ q → A q := fun q h => by rw [← hAe]; exact Or.inr h
  have hS : va_S A s.heap s.heap [] := va_S.rf
  have hl := lv_entry ([.ref h0]) (n := 1) (Nat.le_of_ble_eq_true rfl)
  rw [lg_entry_eq]
  generalize (lg_sl ([.ref h0]) ++ List.replicate (1 - (lg_sl ([.ref h0])).length) Slot.unset).toArray = ls at hl ⊢
  have hl : lv_has ls 1 [(0, .ref h0)] := hl
  refine lv_aload_n hx hb d_BU_init_0 rfl (lv_at hl 0 rfl) ?_
  refine W.objInit hx hb hown (hts _ k_85) (hts _ k_28) (hts _ k_29) rfl (by rw [hml]; exact hl.1) rfl d_BU_init_1 (Nat.le_of_ble_eq_true rfl) (Nat.le_of_ble_eq_true rfl) ?_
  refine W.eq (g2 := F0 m 4 ls []) rfl ?_
  refine lv_aload_n hx hb d_BU_init_4 rfl (lv_at hl 0 rfl) ?_
  refine va_new (ci := 4) (fs := [.null, .null, .null, .null, .null, .int 0, .int 0, .int 0]) (C := R_EQ) (T := T_EQ) (N := 8) hx hb hts in_EQ t_EQ t_EQ_ok hown (hts _ k_86) (hts _ k_87) (hts _ k_5) hK hP hD hS hA rfl (fun j hj => dv_EQ j hj) (Nat.le_of_ble_eq_true rfl) (Nat.le_of_ble_eq_true rfl) d_BU_init_5 (fun q1 H1 hP hD hS => ?_)
  have hP : va_P (dC, dI) cls [(h0, .inr (3, [.null, .int 0, .int 0, .int 0, .int 0, .int 0, .int 0, .int 0])), (q1, .inr (4, [.null, .null, .null, .null, .null, .int 0, .int 0, .int 0]))] H1 := hP
  have hD : va_D A [(h0, .inr (3, [.null, .int 0, .int 0, .int 0, .int 0, .int 0, .int 0, .int 0])), (q1, .inr (4, [.null, .null, .null, .null, .null, .int 0, .int 0, .int 0]))] := hD
  refine W.widen (k := 1) (n := 8) (Nat.le_of_ble_eq_true rfl) (Nat.le_of_ble_eq_true rfl) ?_
  refine lv_dup hx hb d_BU_init_8 rfl ?_
  have hPc := hP.sub (ws' := [(q1, .inr (4, [.null, .null, .null, .null, .null, .int 0, .int 0, .int 0]))]) [1] rfl
  have hDc := hD.sub (ws' := [(q1, .inr (4, [.null, .null, .null, .null, .null, .int 0, .int 0, .int 0]))]) [1] (by decide) rfl
  have hKc := hK.sub (tys' := []) [] rfl
  have hFc := va_free (wc := [(q1, .inr (4, [.null, .null, .null, .null, .null, .int 0, .int 0, .int 0]))]) hD hS hA [1] rfl
  refine va_callv (va_runIN (As := []) (rest := [.ref q1, .ref h0]) ⟨hx, hb, hml, hown, hts⟩ (c_EQ_init l dC dI (q1) H1.size) (wd_IN 0 hts k_90 k_5 (hN.1 _ nw_10) k_89 rfl rfl rfl (by decide +kernel) ⟨Nat.le_of_ble_eq_true rfl, Nat.le_of_ble_eq_true rfl⟩) ⟨fun a U g mk q => by obtain ⟨q0, q1, qP, qK, qD, qN⟩ := q; exact ⟨q0, q1, qP, va_K.moved (u := U) (U := U.calling g mk a) (Vm.Alike.refl U.vm) qK, qD, nw_ok.same (s := U) (U := U.calling g mk a) rfl qN⟩, fun U hU hW => ⟨rfl, by rw [hU], by rw [hU]; exact hPc, va_K.moved hW.alike hKc, hDc.weaken (fun _ _ _ _ => trivial), nw_ok.warm hW hN⟩⟩ rfl rfl hl.1 rfl (lv_room (Nat.le_of_ble_eq_true rfl)) d_BU_init_9 ⟨Nat.le_of_ble_eq_true rfl, Nat.le_of_ble_eq_true rfl⟩) hS (fun q _ h => hFc q h) hFc (fun u t H2 locs ht hvm hr1 hB hz1 hk1 hS => ?_)
  obtain ⟨q2, q3, q4, q5, q6, hP1, hK1, hD1⟩ := hB
  rw [ht] at hP1
  have hK1 := va_K.moved hvm.symm hK1
  obtain ⟨hP, hD⟩ := va_join (wr := [(h0, .inr (3, [.null, .int 0, .int 0, .int 0, .int 0, .int 0, .int 0, .int 0]))]) (w1 := [(q1, .inr (4, [.ref q2, .ref q3, .ref q4, .ref q5, .ref q6, .int 0, .int 0, .int 0]))]) hP hD [1] [0] rfl rfl (by decide) (by decide) hk1 hFc hP1 hD1
  have hK := (hK.sub (tys' := []) [] rfl).app hK1
  have hK : va_K (dC, dI) cls [] s := hK
  have hP : va_P (dC, dI) cls [(h0, .inr (3, [.null, .int 0, .int 0, .int 0, .int 0, .int 0, .int 0, .int 0])), (q1, .inr (4, [.ref q2, .ref q3, .ref q4, .ref q5, .ref q6, .int 0, .int 0, .int 0]))] H2 := hP
  have hD : va_D A [(h0, .inr (3, [.null, .int 0, .int 0, .int 0, .int 0, .int 0, .int 0, .int 0])), (q1, .inr (4, [.ref q2, .ref q3, .ref q4, .ref q5, .ref q6, .int 0, .int 0, .int 0]))] := hD
  refine W.widen (k := 10) (n := 58) (Nat.le_of_ble_eq_true rfl) (Nat.le_of_ble_eq_true rfl) ?_
  refine va_put (D := (dC, dI)) (ci := 3) (v := .ref q1) (ty := (.object "LeastSolutions$Equations")) (C := R_BU) (T := T_BU) (N := 8) hx hb hts in_BU t_BU t_BU_ok n_BU hown hK hP hD hS 0 rfl rfl 0 (by decide) (hts _ k_133) (fun _ h9 => h9) rfl (by decide +kernel) rfl rfl (Nat.le_of_ble_eq_true rfl) d_BU_init_12 (fun H3 locs hP hD hS => ?_)
  have hP : va_P (dC, dI) cls [(h0, .inr (3, [.ref q1, .int 0, .int 0, .int 0, .int 0, .int 0, .int 0, .int 0])), (q1, .inr (4, [.ref q2, .ref q3, .ref q4, .ref q5, .ref q6, .int 0, .int 0, .int 0]))] H3 := hP
  have hD : va_D A [(h0, .inr (3, [.ref q1, .int 0, .int 0, .int 0, .int 0, .int 0, .int 0, .int 0])), (q1, .inr (4, [.ref q2, .ref q3, .ref q4, .ref q5, .ref q6, .int 0, .int 0, .int 0]))] := hD
  refine lv_aload_n hx hb d_BU_init_15 rfl (lv_at hl 0 rfl) ?_
  refine lv_iconst (v := 0) hx hb d_BU_init_16 (by decide) ?_
  refine va_put (D := (dC, dI)) (ci := 3) (v := .int 0) (ty := .int) (C := R_BU) (T := T_BU) (N := 8) hx hb hts in_BU t_BU t_BU_ok n_BU hown hK hP hD hS 0 rfl rfl 1 (by decide) (hts _ k_134) (fun _ h9 => h9) rfl (by decide +kernel) rfl rfl (Nat.le_of_ble_eq_true rfl) d_BU_init_17 (fun H4 locs hP hD hS => ?_)
  have hP : va_P (dC, dI) cls [(h0, .inr (3, [.ref q1, .int 0, .int 0, .int 0, .int 0, .int 0, .int 0, .int 0])), (q1, .inr (4, [.ref q2, .ref q3, .ref q4, .ref q5, .ref q6, .int 0, .int 0, .int 0]))] H4 := hP
  have hD : va_D A [(h0, .inr (3, [.ref q1, .int 0, .int 0, .int 0, .int 0, .int 0, .int 0, .int 0])), (q1, .inr (4, [.ref q2, .ref q3, .ref q4, .ref q5, .ref q6, .int 0, .int 0, .int 0]))] := hD
  refine lv_aload_n hx hb d_BU_init_20 rfl (lv_at hl 0 rfl) ?_
  refine lv_iconst (v := 1) hx hb d_BU_init_21 (by decide) ?_
  refine va_put (D := (dC, dI)) (ci := 3) (v := .int 1) (ty := .int) (C := R_BU) (T := T_BU) (N := 8) hx hb hts in_BU t_BU t_BU_ok n_BU hown hK hP hD hS 0 rfl rfl 2 (by decide) (hts _ k_135) (fun _ h9 => h9) rfl (by decide +kernel) rfl rfl (Nat.le_of_ble_eq_true rfl) d_BU_init_22 (fun H5 locs hP hD hS => ?_)
  have hP : va_P (dC, dI) cls [(h0, .inr (3, [.ref q1, .int 0, .int 1, .int 0, .int 0, .int 0, .int 0, .int 0])), (q1, .inr (4, [.ref q2, .ref q3, .ref q4, .ref q5, .ref q6, .int 0, .int 0, .int 0]))] H5 := hP
  have hD : va_D A [(h0, .inr (3, [.ref q1, .int 0, .int 1, .int 0, .int 0, .int 0, .int 0, .int 0])), (q1, .inr (4, [.ref q2, .ref q3, .ref q4, .ref q5, .ref q6, .int 0, .int 0, .int 0]))] := hD
  refine lv_aload_n hx hb d_BU_init_25 rfl (lv_at hl 0 rfl) ?_
  refine lv_iconst (v := 1) hx hb d_BU_init_26 (by decide) ?_
  refine va_put (D := (dC, dI)) (ci := 3) (v := .int 1) (ty := .int) (C := R_BU) (T := T_BU) (N := 8) hx hb hts in_BU t_BU t_BU_ok n_BU hown hK hP hD hS 0 rfl rfl 3 (by decide) (hts _ k_136) (fun _ h9 => h9) rfl (by decide +kernel) rfl rfl (Nat.le_of_ble_eq_true rfl) d_BU_init_27 (fun H6 locs hP hD hS => ?_)
  have hP : va_P (dC, dI) cls [(h0, .inr (3, [.ref q1, .int 0, .int 1, .int 1, .int 0, .int 0, .int 0, .int 0])), (q1, .inr (4, [.ref q2, .ref q3, .ref q4, .ref q5, .ref q6, .int 0, .int 0, .int 0]))] H6 := hP
  have hD : va_D A [(h0, .inr (3, [.ref q1, .int 0, .int 1, .int 1, .int 0, .int 0, .int 0, .int 0])), (q1, .inr (4, [.ref q2, .ref q3, .ref q4, .ref q5, .ref q6, .int 0, .int 0, .int 0]))] := hD
  refine lv_aload_n hx hb d_BU_init_30 rfl (lv_at hl 0 rfl) ?_
  refine lv_iconst (v := (-1)) hx hb d_BU_init_31 (by decide) ?_
  refine va_put (D := (dC, dI)) (ci := 3) (v := .int (-1)) (ty := .int) (C := R_BU) (T := T_BU) (N := 8) hx hb hts in_BU t_BU t_BU_ok n_BU hown hK hP hD hS 0 rfl rfl 4 (by decide) (hts _ k_137) (fun _ h9 => h9) rfl (by decide +kernel) rfl rfl (Nat.le_of_ble_eq_true rfl) d_BU_init_32 (fun H7 locs hP hD hS => ?_)
  have hP : va_P (dC, dI) cls [(h0, .inr (3, [.ref q1, .int 0, .int 1, .int 1, .int (-1), .int 0, .int 0, .int 0])), (q1, .inr (4, [.ref q2, .ref q3, .ref q4, .ref q5, .ref q6, .int 0, .int 0, .int 0]))] H7 := hP
  have hD : va_D A [(h0, .inr (3, [.ref q1, .int 0, .int 1, .int 1, .int (-1), .int 0, .int 0, .int 0])), (q1, .inr (4, [.ref q2, .ref q3, .ref q4, .ref q5, .ref q6, .int 0, .int 0, .int 0]))] := hD
  refine lv_aload_n hx hb d_BU_init_35 rfl (lv_at hl 0 rfl) ?_
  refine lv_bipush (v := 6) hx hb d_BU_init_36 (by decide) ?_
  refine va_put (D := (dC, dI)) (ci := 3) (v := .int 6) (ty := .int) (C := R_BU) (T := T_BU) (N := 8) hx hb hts in_BU t_BU t_BU_ok n_BU hown hK hP hD hS 0 rfl rfl 5 (by decide) (hts _ k_138) (fun _ h9 => h9) rfl (by decide +kernel) rfl rfl (Nat.le_of_ble_eq_true rfl) d_BU_init_38 (fun H8 locs hP hD hS => ?_)
  have hP : va_P (dC, dI) cls [(h0, .inr (3, [.ref q1, .int 0, .int 1, .int 1, .int (-1), .int 6, .int 0, .int 0])), (q1, .inr (4, [.ref q2, .ref q3, .ref q4, .ref q5, .ref q6, .int 0, .int 0, .int 0]))] H8 := hP
  have hD : va_D A [(h0, .inr (3, [.ref q1, .int 0, .int 1, .int 1, .int (-1), .int 6, .int 0, .int 0])), (q1, .inr (4, [.ref q2, .ref q3, .ref q4, .ref q5, .ref q6, .int 0, .int 0, .int 0]))] := hD
  refine lv_aload_n hx hb d_BU_init_41 rfl (lv_at hl 0 rfl) ?_
  refine lv_iconst (v := (-1)) hx hb d_BU_init_42 (by decide) ?_
  refine va_put (D := (dC, dI)) (ci := 3) (v := .int (-1)) (ty := .int) (C := R_BU) (T := T_BU) (N := 8) hx hb hts in_BU t_BU t_BU_ok n_BU hown hK hP hD hS 0 rfl rfl 6 (by decide) (hts _ k_139) (fun _ h9 => h9) rfl (by decide +kernel) rfl rfl (Nat.le_of_ble_eq_true rfl) d_BU_init_43 (fun H9 locs hP hD hS => ?_)
  have hP : va_P (dC, dI) cls [(h0, .inr (3, [.ref q1, .int 0, .int 1, .int 1, .int (-1), .int 6, .int (-1), .int 0])), (q1, .inr (4, [.ref q2, .ref q3, .ref q4, .ref q5, .ref q6, .int 0, .int 0, .int 0]))] H9 := hP
  have hD : va_D A [(h0, .inr (3, [.ref q1, .int 0, .int 1, .int 1, .int (-1), .int 6, .int (-1), .int 0])), (q1, .inr (4, [.ref q2, .ref q3, .ref q4, .ref q5, .ref q6, .int 0, .int 0, .int 0]))] := hD
  refine lv_aload_n hx hb d_BU_init_46 rfl (lv_at hl 0 rfl) ?_
  refine lv_iconst (v := (-1)) hx hb d_BU_init_47 (by decide) ?_
  refine va_put (D := (dC, dI)) (ci := 3) (v := .int (-1)) (ty := .int) (C := R_BU) (T := T_BU) (N := 8) hx hb hts in_BU t_BU t_BU_ok n_BU hown hK hP hD hS 0 rfl rfl 7 (by decide) (hts _ k_140) (fun _ h9 => h9) rfl (by decide +kernel) rfl rfl (Nat.le_of_ble_eq_true rfl) d_BU_init_48 (fun H10 locs hP hD hS => ?_)
  have hP : va_P (dC, dI) cls [(h0, .inr (3, [.ref q1, .int 0, .int 1, .int 1, .int (-1), .int 6, .int (-1), .int (-1)])), (q1, .inr (4, [.ref q2, .ref q3, .ref q4, .ref q5, .ref q6, .int 0, .int 0, .int 0]))] H10 := hP
  have hD : va_D A [(h0, .inr (3, [.ref q1, .int 0, .int 1, .int 1, .int (-1), .int 6, .int (-1), .int (-1)])), (q1, .inr (4, [.ref q2, .ref q3, .ref q4, .ref q5, .ref q6, .int 0, .int 0, .int 0]))] := hD
  have hP9 := hP.sub (ws' := []) [] rfl
  have hD9 := hD.sub (ws' := []) [] (by decide) rfl
  have hK9 := hK.sub (tys' := []) [] rfl
  exact W.vret hx hb hr (fun t ht hW => ⟨⟨(), rfl, trivial, by rw [ht]; exact hP9, va_K.moved hW.alike hK9, hD9⟩, hS.F ht⟩) hS.2.2 d_BU_init_51

set_option maxHeartbeats 4000000 in
set_option maxRecDepth 100000 in
theorem c_LA_init (l : Launch) (dC : Nat → ClassId) (dI : Nat → Nat → Nat) (h0 : Nat) (sz : Nat) : Met l y_LA_init (Cond.code y_LA_init b_LA_init 1 (Option.none : Option Jvm.ClassFile.FieldType) :: wd) { frames := 1, cells := 11, slots := 96, locals := 20 } (va_Pc [.ref h0] (fun U => U.heap.size = sz ∧ va_P (dC, dI) cls [(h0, .inr (5, [.null, .null, .null, .null, .null, .int 0, .int 0, .int 0, .int 0]))] U.heap ∧ va_K (dC, dI) cls [] U ∧ va_D (fun _ => True) [(h0, .inr (5, [.null, .null, .null, .null, .null, .int 0, .int 0, .int 0, .int 0]))] ∧ nw_ok U)) (va_Qv (fun _ : Unit => True) (fun (_ : Unit) t => ∃ (q1 q2 q3 q4 q5 : Nat) , va_P (dC, dI) cls [(h0, .inr (5, [.ref q1, .ref q2, .ref q3, .ref q4, .ref q5, .int 0, .int 0, .int 0, .int 0]))] t.heap ∧ va_K (dC, dI) cls [] t ∧ va_D (va_A [(h0, .inr (5, [.null, .null, .null, .null, .null, .int 0, .int 0, .int 0, .int 0]))] sz) [(h0, .inr (5, [.ref q1, .ref q2, .ref q3, .ref q4, .ref q5, .int 0, .int 0, .int 0, .int 0]))]) (va_A [(h0, .inr (5, [.null, .null, .null, .null, .null, .int 0, .int 0, .int 0, .int 0]))] sz)) 11 96 (va_A [(h0, .inr (5, [.null, .null, .null, .null, .null, .int 0, .int 0, .int 0, .int 0]))] sz) := by
  refine Met.ofW (cc := b_LA_init) (maxL := 1) (ret := (Option.none : Option Jvm.ClassFile.FieldType)) (by decide) rfl ?_
  intro p e s m args below meth c s₁ B hml hv
  obtain ⟨rfl, hsz, hP, hK, hD0, hN⟩ := hv
  have hx := B.exec
  have hb := B.bytes
  have hr := B.returns
  have hlocks := B.notSynchronized
  have hin : meth.name = "<init>" := (name_of_methodNamed B.named B.method).1
  have hts : ∀ w ∈ wd, w.before ([.ref h0] : List Value).toArray s = true := fun w hw => atoms_spec (ws := (Cond.code y_LA_init b_LA_init 1 (Option.none : Option Jvm.ClassFile.FieldType) :: wd)) B.pre w (List.mem_cons_of_mem _ hw)
  have hown : s.vm.findClass "LeastSolutions$Lattice" = some m.cls := findClass_of_methodNamed B.named
  subst hsz
  have hD := hD0.self (sz := s.heap.size)
  generalize hAe : va_A [(h0, .inr (5, [.null, .null, .null, .null, .null, .int 0, .int 0, .int 0, .int 0]))] s.heap.size = A at hD ⊢
  have hA : ∀ q : Nat, s.heap.size ≤ q → A q := fun q h => by rw [← hAe]; exact Or.inr h
  have hS : va_S A s.heap s.heap [] := va_S.rf
  have hl := lv_entry ([.ref h0]) (n := 1) (Nat.le_of_ble_eq_true rfl)
  rw [lg_entry_eq]
  generalize (lg_sl ([.ref h0]) ++ List.replicate (1 - (lg_sl ([.ref h0])).length) Slot.unset).toArray = ls at hl ⊢
  have hl : lv_has ls 1 [(0, .ref h0)] := hl
  refine lv_aload_n hx hb d_LA_init_0 rfl (lv_at hl 0 rfl) ?_
  refine W.objInit hx hb hown (hts _ k_164) (hts _ k_28) (hts _ k_29) rfl (by rw [hml]; exact hl.1) rfl d_LA_init_1 (Nat.le_of_ble_eq_true rfl) (Nat.le_of_ble_eq_true rfl) ?_
  refine W.eq (g2 := F0 m 4 ls []) rfl ?_
  refine lv_aload_n hx hb d_LA_init_4 rfl (lv_at hl 0 rfl) ?_
  refine lv_bipush (v := 6) hx hb d_LA_init_5 (by decide) ?_
  refine lv_bipush (v := 10) hx hb d_LA_init_7 (by decide) ?_
  refine mk_new0 (cn := "[[J") (ty := .long) (N := 6) (M := 10) hx hb hown (by decide +kernel) (hts _ k_165) hN.2.2.1 (hts _ k_196) hP hS hA (by decide) (by decide) (by decide) (by decide) (by decide) (by decide) (by decide) rfl rfl (Nat.le_of_ble_eq_true rfl) (Nat.le_of_ble_eq_true rfl) d_LA_init_9 (fun q1 H1 locs hP hS => ?_)
  have hP : va_P (dC, dI) cls [(h0, .inr (5, [.null, .null, .null, .null, .null, .int 0, .int 0, .int 0, .int 0]))] H1 := hP
  refine W.widen (k := 7) (n := 66) (Nat.le_of_ble_eq_true rfl) (Nat.le_of_ble_eq_true rfl) ?_
  refine va_putF (D := (dC, dI)) (ci := 5) (v := .ref q1) (ty := (.array (.array .long))) (C := R_LA) (T := T_LA) (N := 9) hx hb hts in_LA t_LA t_LA_ok n_LA hown hK hP hD hS 0 rfl rfl 0 (by decide) (hts _ k_167) (fun _ h9 => h9) rfl hin rfl (by decide +kernel) rfl rfl (Nat.le_of_ble_eq_true rfl) d_LA_init_13 (fun H2 locs hP hD hS => ?_)
  have hP : va_P (dC, dI) cls [(h0, .inr (5, [.ref q1, .null, .null, .null, .null, .int 0, .int 0, .int 0, .int 0]))] H2 := hP
  have hD : va_D A [(h0, .inr (5, [.ref q1, .null, .null, .null, .null, .int 0, .int 0, .int 0, .int 0]))] := hD
  refine lv_aload_n hx hb d_LA_init_16 rfl (lv_at hl 0 rfl) ?_
  refine lv_bipush (v := 10) hx hb d_LA_init_17 (by decide) ?_
  refine va_newa (atype := .int) (ty := .int) (N' := 10) (a0 := (10, .inl (fun _ => (0 : Int32)))) hx hb (hts _ k_79) rfl hK hP hD hS hA (fun _ => rfl) (by decide) (by decide) (by decide) (Nat.le_of_ble_eq_true rfl) (Nat.le_of_ble_eq_true rfl) d_LA_init_19 (fun q2 cA1 H3 hK hP hD hS => ?_)
  have hK : va_K (dC, dI) cls [(cA1, .int)] s := hK
  have hP : va_P (dC, dI) cls [(h0, .inr (5, [.ref q1, .null, .null, .null, .null, .int 0, .int 0, .int 0, .int 0])), (q2, .inl (cA1, 10, .inl (fun _ => (0 : Int32))))] H3 := hP
  have hD : va_D A [(h0, .inr (5, [.ref q1, .null, .null, .null, .null, .int 0, .int 0, .int 0, .int 0])), (q2, .inl (cA1, 10, .inl (fun _ => (0 : Int32))))] := hD
  refine W.widen (k := 8) (n := 76) (Nat.le_of_ble_eq_true rfl) (Nat.le_of_ble_eq_true rfl) ?_
  refine va_putF (D := (dC, dI)) (ci := 5) (v := .ref q2) (ty := (.array .int)) (C := R_LA) (T := T_LA) (N := 9) hx hb hts in_LA t_LA t_LA_ok n_LA hown hK hP hD hS 0 rfl rfl 1 (by decide) (hts _ k_168) (fun _ h9 => h9) rfl hin rfl (by decide +kernel) rfl rfl (Nat.le_of_ble_eq_true rfl) d_LA_init_21 (fun H4 locs hP hD hS => ?_)
  have hP : va_P (dC, dI) cls [(h0, .inr (5, [.ref q1, .ref q2, .null, .null, .null, .int 0, .int 0, .int 0, .int 0])), (q2, .inl (cA1, 10, .inl (fun _ => (0 : Int32))))] H4 := hP
  have hD : va_D A [(h0, .inr (5, [.ref q1, .ref q2, .null, .null, .null, .int 0, .int 0, .int 0, .int 0])), (q2, .inl (cA1, 10, .inl (fun _ => (0 : Int32))))] := hD
  refine lv_aload_n hx hb d_LA_init_24 rfl (lv_at hl 0 rfl) ?_
  refine lv_bipush (v := 6) hx hb d_LA_init_25 (by decide) ?_
  refine va_newa (atype := .int) (ty := .int) (N' := 6) (a0 := (6, .inl (fun _ => (0 : Int32)))) hx hb (hts _ k_79) rfl hK hP hD hS hA (fun _ => rfl) (by decide) (by decide) (by decide) (Nat.le_of_ble_eq_true rfl) (Nat.le_of_ble_eq_true rfl) d_LA_init_27 (fun q3 cA2 H5 hK hP hD hS => ?_)
  have hK : va_K (dC, dI) cls [(cA1, .int), (cA2, .int)] s := hK
  have hP : va_P (dC, dI) cls [(h0, .inr (5, [.ref q1, .ref q2, .null, .null, .null, .int 0, .int 0, .int 0, .int 0])), (q2, .inl (cA1, 10, .inl (fun _ => (0 : Int32)))), (q3, .inl (cA2, 6, .inl (fun _ => (0 : Int32))))] H5 := hP
  have hD : va_D A [(h0, .inr (5, [.ref q1, .ref q2, .null, .null, .null, .int 0, .int 0, .int 0, .int 0])), (q2, .inl (cA1, 10, .inl (fun _ => (0 : Int32)))), (q3, .inl (cA2, 6, .inl (fun _ => (0 : Int32))))] := hD
  refine W.widen (k := 9) (n := 82) (Nat.le_of_ble_eq_true rfl) (Nat.le_of_ble_eq_true rfl) ?_
  refine va_putF (D := (dC, dI)) (ci := 5) (v := .ref q3) (ty := (.array .int)) (C := R_LA) (T := T_LA) (N := 9) hx hb hts in_LA t_LA t_LA_ok n_LA hown hK hP hD hS 0 rfl rfl 2 (by decide) (hts _ k_169) (fun _ h9 => h9) rfl hin rfl (by decide +kernel) rfl rfl (Nat.le_of_ble_eq_true rfl) d_LA_init_29 (fun H6 locs hP hD hS => ?_)
  have hP : va_P (dC, dI) cls [(h0, .inr (5, [.ref q1, .ref q2, .ref q3, .null, .null, .int 0, .int 0, .int 0, .int 0])), (q2, .inl (cA1, 10, .inl (fun _ => (0 : Int32)))), (q3, .inl (cA2, 6, .inl (fun _ => (0 : Int32))))] H6 := hP
  have hD : va_D A [(h0, .inr (5, [.ref q1, .ref q2, .ref q3, .null, .null, .int 0, .int 0, .int 0, .int 0])), (q2, .inl (cA1, 10, .inl (fun _ => (0 : Int32)))), (q3, .inl (cA2, 6, .inl (fun _ => (0 : Int32))))] := hD
  refine lv_aload_n hx hb d_LA_init_32 rfl (lv_at hl 0 rfl) ?_
  refine lv_iconst (v := 4) hx hb d_LA_init_33 (by decide) ?_
  refine va_newa (atype := .long) (ty := .long) (N' := 4) (a0 := (4, .inr (.inl (fun _ => (0 : Int64))))) hx hb (hts _ k_196) rfl hK hP hD hS hA (fun _ => rfl) (by decide) (by decide) (by decide) (Nat.le_of_ble_eq_true rfl) (Nat.le_of_ble_eq_true rfl) d_LA_init_34 (fun q4 cA3 H7 hK hP hD hS => ?_)
  have hK : va_K (dC, dI) cls [(cA1, .int), (cA2, .int), (cA3, .long)] s := hK
  have hP : va_P (dC, dI) cls [(h0, .inr (5, [.ref q1, .ref q2, .ref q3, .null, .null, .int 0, .int 0, .int 0, .int 0])), (q2, .inl (cA1, 10, .inl (fun _ => (0 : Int32)))), (q3, .inl (cA2, 6, .inl (fun _ => (0 : Int32)))), (q4, .inl (cA3, 4, .inr (.inl (fun _ => (0 : Int64)))))] H7 := hP
  have hD : va_D A [(h0, .inr (5, [.ref q1, .ref q2, .ref q3, .null, .null, .int 0, .int 0, .int 0, .int 0])), (q2, .inl (cA1, 10, .inl (fun _ => (0 : Int32)))), (q3, .inl (cA2, 6, .inl (fun _ => (0 : Int32)))), (q4, .inl (cA3, 4, .inr (.inl (fun _ => (0 : Int64)))))] := hD
  refine W.widen (k := 10) (n := 86) (Nat.le_of_ble_eq_true rfl) (Nat.le_of_ble_eq_true rfl) ?_
  refine va_putF (D := (dC, dI)) (ci := 5) (v := .ref q4) (ty := (.array .long)) (C := R_LA) (T := T_LA) (N := 9) hx hb hts in_LA t_LA t_LA_ok n_LA hown hK hP hD hS 0 rfl rfl 3 (by decide) (hts _ k_170) (fun _ h9 => h9) rfl hin rfl (by decide +kernel) rfl rfl (Nat.le_of_ble_eq_true rfl) d_LA_init_36 (fun H8 locs hP hD hS => ?_)
  have hP : va_P (dC, dI) cls [(h0, .inr (5, [.ref q1, .ref q2, .ref q3, .ref q4, .null, .int 0, .int 0, .int 0, .int 0])), (q2, .inl (cA1, 10, .inl (fun _ => (0 : Int32)))), (q3, .inl (cA2, 6, .inl (fun _ => (0 : Int32)))), (q4, .inl (cA3, 4, .inr (.inl (fun _ => (0 : Int64)))))] H8 := hP
  have hD : va_D A [(h0, .inr (5, [.ref q1, .ref q2, .ref q3, .ref q4, .null, .int 0, .int 0, .int 0, .int 0])), (q2, .inl (cA1, 10, .inl (fun _ => (0 : Int32)))), (q3, .inl (cA2, 6, .inl (fun _ => (0 : Int32)))), (q4, .inl (cA3, 4, .inr (.inl (fun _ => (0 : Int64)))))] := hD
  refine lv_aload_n hx hb d_LA_init_39 rfl (lv_at hl 0 rfl) ?_
  refine lv_bipush (v := 10) hx hb d_LA_init_40 (by decide) ?_
  refine va_newa (atype := .long) (ty := .long) (N' := 10) (a0 := (10, .inr (.inl (fun _ => (0 : Int64))))) hx hb (hts _ k_196) rfl hK hP hD hS hA (fun _ => rfl) (by decide) (by decide) (by decide) (Nat.le_of_ble_eq_true rfl) (Nat.le_of_ble_eq_true rfl) d_LA_init_42 (fun q5 cA4 H9 hK hP hD hS => ?_)
  have hK : va_K (dC, dI) cls [(cA1, .int), (cA2, .int), (cA3, .long), (cA4, .long)] s := hK
  have hP : va_P (dC, dI) cls [(h0, .inr (5, [.ref q1, .ref q2, .ref q3, .ref q4, .null, .int 0, .int 0, .int 0, .int 0])), (q2, .inl (cA1, 10, .inl (fun _ => (0 : Int32)))), (q3, .inl (cA2, 6, .inl (fun _ => (0 : Int32)))), (q4, .inl (cA3, 4, .inr (.inl (fun _ => (0 : Int64))))), (q5, .inl (cA4, 10, .inr (.inl (fun _ => (0 : Int64)))))] H9 := hP
  have hD : va_D A [(h0, .inr (5, [.ref q1, .ref q2, .ref q3, .ref q4, .null, .int 0, .int 0, .int 0, .int 0])), (q2, .inl (cA1, 10, .inl (fun _ => (0 : Int32)))), (q3, .inl (cA2, 6, .inl (fun _ => (0 : Int32)))), (q4, .inl (cA3, 4, .inr (.inl (fun _ => (0 : Int64))))), (q5, .inl (cA4, 10, .inr (.inl (fun _ => (0 : Int64)))))] := hD
  refine W.widen (k := 11) (n := 96) (Nat.le_of_ble_eq_true rfl) (Nat.le_of_ble_eq_true rfl) ?_
  refine va_putF (D := (dC, dI)) (ci := 5) (v := .ref q5) (ty := (.array .long)) (C := R_LA) (T := T_LA) (N := 9) hx hb hts in_LA t_LA t_LA_ok n_LA hown hK hP hD hS 0 rfl rfl 4 (by decide) (hts _ k_171) (fun _ h9 => h9) rfl hin rfl (by decide +kernel) rfl rfl (Nat.le_of_ble_eq_true rfl) d_LA_init_44 (fun H10 locs hP hD hS => ?_)
  have hP : va_P (dC, dI) cls [(h0, .inr (5, [.ref q1, .ref q2, .ref q3, .ref q4, .ref q5, .int 0, .int 0, .int 0, .int 0])), (q2, .inl (cA1, 10, .inl (fun _ => (0 : Int32)))), (q3, .inl (cA2, 6, .inl (fun _ => (0 : Int32)))), (q4, .inl (cA3, 4, .inr (.inl (fun _ => (0 : Int64))))), (q5, .inl (cA4, 10, .inr (.inl (fun _ => (0 : Int64)))))] H10 := hP
  have hD : va_D A [(h0, .inr (5, [.ref q1, .ref q2, .ref q3, .ref q4, .ref q5, .int 0, .int 0, .int 0, .int 0])), (q2, .inl (cA1, 10, .inl (fun _ => (0 : Int32)))), (q3, .inl (cA2, 6, .inl (fun _ => (0 : Int32)))), (q4, .inl (cA3, 4, .inr (.inl (fun _ => (0 : Int64))))), (q5, .inl (cA4, 10, .inr (.inl (fun _ => (0 : Int64)))))] := hD
  refine lv_aload_n hx hb d_LA_init_47 rfl (lv_at hl 0 rfl) ?_
  refine lv_iconst (v := 0) hx hb d_LA_init_48 (by decide) ?_
  refine va_put (D := (dC, dI)) (ci := 5) (v := .int 0) (ty := .int) (C := R_LA) (T := T_LA) (N := 9) hx hb hts in_LA t_LA t_LA_ok n_LA hown hK hP hD hS 0 rfl rfl 5 (by decide) (hts _ k_172) (fun _ h9 => h9) rfl (by decide +kernel) rfl rfl (Nat.le_of_ble_eq_true rfl) d_LA_init_49 (fun H11 locs hP hD hS => ?_)
  have hP : va_P (dC, dI) cls [(h0, .inr (5, [.ref q1, .ref q2, .ref q3, .ref q4, .ref q5, .int 0, .int 0, .int 0, .int 0])), (q2, .inl (cA1, 10, .inl (fun _ => (0 : Int32)))), (q3, .inl (cA2, 6, .inl (fun _ => (0 : Int32)))), (q4, .inl (cA3, 4, .inr (.inl (fun _ => (0 : Int64))))), (q5, .inl (cA4, 10, .inr (.inl (fun _ => (0 : Int64)))))] H11 := hP
  have hD : va_D A [(h0, .inr (5, [.ref q1, .ref q2, .ref q3, .ref q4, .ref q5, .int 0, .int 0, .int 0, .int 0])), (q2, .inl (cA1, 10, .inl (fun _ => (0 : Int32)))), (q3, .inl (cA2, 6, .inl (fun _ => (0 : Int32)))), (q4, .inl (cA3, 4, .inr (.inl (fun _ => (0 : Int64))))), (q5, .inl (cA4, 10, .inr (.inl (fun _ => (0 : Int64)))))] := hD
  refine lv_aload_n hx hb d_LA_init_52 rfl (lv_at hl 0 rfl) ?_
  refine lv_iconst (v := 0) hx hb d_LA_init_53 (by decide) ?_
  refine va_put (D := (dC, dI)) (ci := 5) (v := .int 0) (ty := .int) (C := R_LA) (T := T_LA) (N := 9) hx hb hts in_LA t_LA t_LA_ok n_LA hown hK hP hD hS 0 rfl rfl 6 (by decide) (hts _ k_174) (fun _ h9 => h9) rfl (by decide +kernel) rfl rfl (Nat.le_of_ble_eq_true rfl) d_LA_init_54 (fun H12 locs hP hD hS => ?_)
  have hP : va_P (dC, dI) cls [(h0, .inr (5, [.ref q1, .ref q2, .ref q3, .ref q4, .ref q5, .int 0, .int 0, .int 0, .int 0])), (q2, .inl (cA1, 10, .inl (fun _ => (0 : Int32)))), (q3, .inl (cA2, 6, .inl (fun _ => (0 : Int32)))), (q4, .inl (cA3, 4, .inr (.inl (fun _ => (0 : Int64))))), (q5, .inl (cA4, 10, .inr (.inl (fun _ => (0 : Int64)))))] H12 := hP
  have hD : va_D A [(h0, .inr (5, [.ref q1, .ref q2, .ref q3, .ref q4, .ref q5, .int 0, .int 0, .int 0, .int 0])), (q2, .inl (cA1, 10, .inl (fun _ => (0 : Int32)))), (q3, .inl (cA2, 6, .inl (fun _ => (0 : Int32)))), (q4, .inl (cA3, 4, .inr (.inl (fun _ => (0 : Int64))))), (q5, .inl (cA4, 10, .inr (.inl (fun _ => (0 : Int64)))))] := hD
  refine lv_aload_n hx hb d_LA_init_57 rfl (lv_at hl 0 rfl) ?_
  refine lv_iconst (v := 0) hx hb d_LA_init_58 (by decide) ?_
  refine va_put (D := (dC, dI)) (ci := 5) (v := .int 0) (ty := .int) (C := R_LA) (T := T_LA) (N := 9) hx hb hts in_LA t_LA t_LA_ok n_LA hown hK hP hD hS 0 rfl rfl 7 (by decide) (hts _ k_175) (fun _ h9 => h9) rfl (by decide +kernel) rfl rfl (Nat.le_of_ble_eq_true rfl) d_LA_init_59 (fun H13 locs hP hD hS => ?_)
  have hP : va_P (dC, dI) cls [(h0, .inr (5, [.ref q1, .ref q2, .ref q3, .ref q4, .ref q5, .int 0, .int 0, .int 0, .int 0])), (q2, .inl (cA1, 10, .inl (fun _ => (0 : Int32)))), (q3, .inl (cA2, 6, .inl (fun _ => (0 : Int32)))), (q4, .inl (cA3, 4, .inr (.inl (fun _ => (0 : Int64))))), (q5, .inl (cA4, 10, .inr (.inl (fun _ => (0 : Int64)))))] H13 := hP
  have hD : va_D A [(h0, .inr (5, [.ref q1, .ref q2, .ref q3, .ref q4, .ref q5, .int 0, .int 0, .int 0, .int 0])), (q2, .inl (cA1, 10, .inl (fun _ => (0 : Int32)))), (q3, .inl (cA2, 6, .inl (fun _ => (0 : Int32)))), (q4, .inl (cA3, 4, .inr (.inl (fun _ => (0 : Int64))))), (q5, .inl (cA4, 10, .inr (.inl (fun _ => (0 : Int64)))))] := hD
  refine lv_aload_n hx hb d_LA_init_62 rfl (lv_at hl 0 rfl) ?_
  refine lv_iconst (v := 0) hx hb d_LA_init_63 (by decide) ?_
  refine va_put (D := (dC, dI)) (ci := 5) (v := .int 0) (ty := .int) (C := R_LA) (T := T_LA) (N := 9) hx hb hts in_LA t_LA t_LA_ok n_LA hown hK hP hD hS 0 rfl rfl 8 (by decide) (hts _ k_176) (fun _ h9 => h9) rfl (by decide +kernel) rfl rfl (Nat.le_of_ble_eq_true rfl) d_LA_init_64 (fun H14 locs hP hD hS => ?_)
  have hP : va_P (dC, dI) cls [(h0, .inr (5, [.ref q1, .ref q2, .ref q3, .ref q4, .ref q5, .int 0, .int 0, .int 0, .int 0])), (q2, .inl (cA1, 10, .inl (fun _ => (0 : Int32)))), (q3, .inl (cA2, 6, .inl (fun _ => (0 : Int32)))), (q4, .inl (cA3, 4, .inr (.inl (fun _ => (0 : Int64))))), (q5, .inl (cA4, 10, .inr (.inl (fun _ => (0 : Int64)))))] H14 := hP
  have hD : va_D A [(h0, .inr (5, [.ref q1, .ref q2, .ref q3, .ref q4, .ref q5, .int 0, .int 0, .int 0, .int 0])), (q2, .inl (cA1, 10, .inl (fun _ => (0 : Int32)))), (q3, .inl (cA2, 6, .inl (fun _ => (0 : Int32)))), (q4, .inl (cA3, 4, .inr (.inl (fun _ => (0 : Int64))))), (q5, .inl (cA4, 10, .inr (.inl (fun _ => (0 : Int64)))))] := hD
  have hP9 := hP.sub (ws' := [(h0, .inr (5, [.ref q1, .ref q2, .ref q3, .ref q4, .ref q5, .int 0, .int 0, .int 0, .int 0]))]) [0] rfl
  have hD9 := hD.sub (ws' := [(h0, .inr (5, [.ref q1, .ref q2, .ref q3, .ref q4, .ref q5, .int 0, .int 0, .int 0, .int 0]))]) [0] (by decide) rfl
  have hK9 := hK.sub (tys' := []) [] rfl
  exact W.vret hx hb hr (fun t ht hW => ⟨⟨(), rfl, trivial, q1, q2, q3, q4, q5, by rw [ht]; exact hP9, va_K.moved hW.alike hK9, hD9⟩, hS.F ht⟩) hS.2.2 d_LA_init_67

set_option maxHeartbeats 4000000 in
set_option maxRecDepth 100000 in
theorem c_SE_init (l : Launch) (dC : Nat → ClassId) (dI : Nat → Nat → Nat) (h0 : Nat) (sz : Nat) : Met l y_SE_init (Cond.code y_SE_init b_SE_init 1 (Option.none : Option Jvm.ClassFile.FieldType) :: wd) { frames := 1, cells := 17, slots := 102, locals := 20 } (va_Pc [.ref h0] (fun U => U.heap.size = sz ∧ va_P (dC, dI) cls [(h0, .inr (6, [.null, .null, .null, .null, .null, .int 0, .int 0, .int 0]))] U.heap ∧ va_K (dC, dI) cls [] U ∧ va_D (fun _ => True) [(h0, .inr (6, [.null, .null, .null, .null, .null, .int 0, .int 0, .int 0]))] ∧ nw_ok U)) (va_Qv (fun _ : Unit => True) (fun (_ : Unit) t => va_P (dC, dI) cls [] t.heap ∧ va_K (dC, dI) cls [] t ∧ va_D (va_A [(h0, .inr (6, [.null, .null, .null, .null, .null, .int 0, .int 0, .int 0]))] sz) []) (va_A [(h0, .inr (6, [.null, .null, .null, .null, .null, .int 0, .int 0, .int 0]))] sz)) 17 102 (va_A [(h0, .inr (6, [.null, .null, .null, .null, .null, .int 0, .int 0, .int 0]))] sz) := by
  refine Met.ofW (cc := b_SE_init) (maxL := 1) (ret := (Option.none : Option Jvm.ClassFile.FieldType)) (by decide) rfl ?_
  intro p e s m args below meth c s₁ B hml hv
  obtain ⟨rfl, hsz, hP, hK, hD0, hN⟩ := hv
  have hx := B.exec
  have hb := B.bytes
  have hr := B.returns
  have hlocks := B.notSynchronized
  have hin : meth.name = "<init>" := (name_of_methodNamed B.named B.method).1
  have hts : ∀ w ∈ wd, w.before ([.ref h0] : List Value).toArray s = true := fun w hw => atoms_spec (ws := (Cond.code y_SE_init b_SE_init 1 (Option.none : Option Jvm.ClassFile.FieldType) :: wd)) B.pre w (List.mem_cons_of_mem _ hw)
  have hown : s.vm.findClass "LeastSolutions$Search" = some m.cls := findClass_of_methodNamed B.named
  subst hsz
  have hD := hD0.self (sz := s.heap.size)
  generalize hAe : va_A [(h0, .inr (6, [.null, .null, .null, .null, .null, .int 0, .int 0, .int 0]))] s.heap.size = A at hD ⊢
  have hA : ∀ q : Nat, s.heap.size ≤ q → A q := fun q h => by rw [← hAe]; exact Or.inr h
  have hS : va_S A s.heap s.heap [] := va_S.rf
  have hl := lv_entry ([.ref h0]) (n := 1) (Nat.le_of_ble_eq_true rfl)
  rw [lg_entry_eq]
  generalize (lg_sl ([.ref h0]) ++ List.replicate (1 - (lg_sl ([.ref h0])).length) Slot.unset).toArray = ls at hl ⊢
  have hl : lv_has ls 1 [(0, .ref h0)] := hl
  refine lv_aload_n hx hb d_SE_init_0 rfl (lv_at hl 0 rfl) ?_
  refine W.objInit hx hb hown (hts _ k_202) (hts _ k_28) (hts _ k_29) rfl (by rw [hml]; exact hl.1) rfl d_SE_init_1 (Nat.le_of_ble_eq_true rfl) (Nat.le_of_ble_eq_true rfl) ?_
  refine W.eq (g2 := F0 m 4 ls []) rfl ?_
  refine lv_aload_n hx hb d_SE_init_4 rfl (lv_at hl 0 rfl) ?_
  refine lv_bipush (v := 6) hx hb d_SE_init_5 (by decide) ?_
  refine va_newa (atype := .int) (ty := .int) (N' := 6) (a0 := (6, .inl (fun _ => (0 : Int32)))) hx hb (hts _ k_79) rfl hK hP hD hS hA (fun _ => rfl) (by decide) (by decide) (by decide) (Nat.le_of_ble_eq_true rfl) (Nat.le_of_ble_eq_true rfl) d_SE_init_7 (fun q1 cA1 H1 hK hP hD hS => ?_)
  have hK : va_K (dC, dI) cls [(cA1, .int)] s := hK
  have hP : va_P (dC, dI) cls [(h0, .inr (6, [.null, .null, .null, .null, .null, .int 0, .int 0, .int 0])), (q1, .inl (cA1, 6, .inl (fun _ => (0 : Int32))))] H1 := hP
  have hD : va_D A [(h0, .inr (6, [.null, .null, .null, .null, .null, .int 0, .int 0, .int 0])), (q1, .inl (cA1, 6, .inl (fun _ => (0 : Int32))))] := hD
  refine W.widen (k := 1) (n := 6) (Nat.le_of_ble_eq_true rfl) (Nat.le_of_ble_eq_true rfl) ?_
  refine va_putF (D := (dC, dI)) (ci := 6) (v := .ref q1) (ty := (.array .int)) (C := R_SE) (T := T_SE) (N := 8) hx hb hts in_SE t_SE t_SE_ok n_SE hown hK hP hD hS 0 rfl rfl 0 (by decide) (hts _ k_204) (fun _ h9 => h9) rfl hin rfl (by decide +kernel) rfl rfl (Nat.le_of_ble_eq_true rfl) d_SE_init_9 (fun H2 locs hP hD hS => ?_)
  have hP : va_P (dC, dI) cls [(h0, .inr (6, [.ref q1, .null, .null, .null, .null, .int 0, .int 0, .int 0])), (q1, .inl (cA1, 6, .inl (fun _ => (0 : Int32))))] H2 := hP
  have hD : va_D A [(h0, .inr (6, [.ref q1, .null, .null, .null, .null, .int 0, .int 0, .int 0])), (q1, .inl (cA1, 6, .inl (fun _ => (0 : Int32))))] := hD
  refine lv_aload_n hx hb d_SE_init_12 rfl (lv_at hl 0 rfl) ?_
  refine lv_iconst (v := 4) hx hb d_SE_init_13 (by decide) ?_
  refine va_newa (atype := .int) (ty := .int) (N' := 4) (a0 := (4, .inl (fun _ => (0 : Int32)))) hx hb (hts _ k_79) rfl hK hP hD hS hA (fun _ => rfl) (by decide) (by decide) (by decide) (Nat.le_of_ble_eq_true rfl) (Nat.le_of_ble_eq_true rfl) d_SE_init_14 (fun q2 cA2 H3 hK hP hD hS => ?_)
  have hK : va_K (dC, dI) cls [(cA1, .int), (cA2, .int)] s := hK
  have hP : va_P (dC, dI) cls [(h0, .inr (6, [.ref q1, .null, .null, .null, .null, .int 0, .int 0, .int 0])), (q1, .inl (cA1, 6, .inl (fun _ => (0 : Int32)))), (q2, .inl (cA2, 4, .inl (fun _ => (0 : Int32))))] H3 := hP
  have hD : va_D A [(h0, .inr (6, [.ref q1, .null, .null, .null, .null, .int 0, .int 0, .int 0])), (q1, .inl (cA1, 6, .inl (fun _ => (0 : Int32)))), (q2, .inl (cA2, 4, .inl (fun _ => (0 : Int32))))] := hD
  refine W.widen (k := 2) (n := 10) (Nat.le_of_ble_eq_true rfl) (Nat.le_of_ble_eq_true rfl) ?_
  refine va_putF (D := (dC, dI)) (ci := 6) (v := .ref q2) (ty := (.array .int)) (C := R_SE) (T := T_SE) (N := 8) hx hb hts in_SE t_SE t_SE_ok n_SE hown hK hP hD hS 0 rfl rfl 1 (by decide) (hts _ k_205) (fun _ h9 => h9) rfl hin rfl (by decide +kernel) rfl rfl (Nat.le_of_ble_eq_true rfl) d_SE_init_16 (fun H4 locs hP hD hS => ?_)
  have hP : va_P (dC, dI) cls [(h0, .inr (6, [.ref q1, .ref q2, .null, .null, .null, .int 0, .int 0, .int 0])), (q1, .inl (cA1, 6, .inl (fun _ => (0 : Int32)))), (q2, .inl (cA2, 4, .inl (fun _ => (0 : Int32))))] H4 := hP
  have hD : va_D A [(h0, .inr (6, [.ref q1, .ref q2, .null, .null, .null, .int 0, .int 0, .int 0])), (q1, .inl (cA1, 6, .inl (fun _ => (0 : Int32)))), (q2, .inl (cA2, 4, .inl (fun _ => (0 : Int32))))] := hD
  refine lv_aload_n hx hb d_SE_init_19 rfl (lv_at hl 0 rfl) ?_
  refine lv_iconst (v := 4) hx hb d_SE_init_20 (by decide) ?_
  refine lv_bipush (v := 7) hx hb d_SE_init_21 (by decide) ?_
  refine mk_new0 (cn := "[[I") (ty := .int) (N := 4) (M := 7) hx hb hown (by decide +kernel) (hts _ k_203) hN.2.1 (hts _ k_79) hP hS hA (by decide) (by decide) (by decide) (by decide) (by decide) (by decide) (by decide) rfl rfl (Nat.le_of_ble_eq_true rfl) (Nat.le_of_ble_eq_true rfl) d_SE_init_23 (fun q3 H5 locs hP hS => ?_)
  have hP : va_P (dC, dI) cls [(h0, .inr (6, [.ref q1, .ref q2, .null, .null, .null, .int 0, .int 0, .int 0])), (q1, .inl (cA1, 6, .inl (fun _ => (0 : Int32)))), (q2, .inl (cA2, 4, .inl (fun _ => (0 : Int32))))] H5 := hP
  refine W.widen (k := 7) (n := 42) (Nat.le_of_ble_eq_true rfl) (Nat.le_of_ble_eq_true rfl) ?_
  refine va_putF (D := (dC, dI)) (ci := 6) (v := .ref q3) (ty := (.array (.array .int))) (C := R_SE) (T := T_SE) (N := 8) hx hb hts in_SE t_SE t_SE_ok n_SE hown hK hP hD hS 0 rfl rfl 2 (by decide) (hts _ k_206) (fun _ h9 => h9) rfl hin rfl (by decide +kernel) rfl rfl (Nat.le_of_ble_eq_true rfl) d_SE_init_27 (fun H6 locs hP hD hS => ?_)
  have hP : va_P (dC, dI) cls [(h0, .inr (6, [.ref q1, .ref q2, .ref q3, .null, .null, .int 0, .int 0, .int 0])), (q1, .inl (cA1, 6, .inl (fun _ => (0 : Int32)))), (q2, .inl (cA2, 4, .inl (fun _ => (0 : Int32))))] H6 := hP
  have hD : va_D A [(h0, .inr (6, [.ref q1, .ref q2, .ref q3, .null, .null, .int 0, .int 0, .int 0])), (q1, .inl (cA1, 6, .inl (fun _ => (0 : Int32)))), (q2, .inl (cA2, 4, .inl (fun _ => (0 : Int32))))] := hD
  refine lv_aload_n hx hb d_SE_init_30 rfl (lv_at hl 0 rfl) ?_
  refine lv_iconst (v := 4) hx hb d_SE_init_31 (by decide) ?_
  refine lv_bipush (v := 7) hx hb d_SE_init_32 (by decide) ?_
  refine mk_new0 (cn := "[[I") (ty := .int) (N := 4) (M := 7) hx hb hown (by decide +kernel) (hts _ k_203) hN.2.1 (hts _ k_79) hP hS hA (by decide) (by decide) (by decide) (by decide) (by decide) (by decide) (by decide) rfl rfl (Nat.le_of_ble_eq_true rfl) (Nat.le_of_ble_eq_true rfl) d_SE_init_34 (fun q4 H7 locs hP hS => ?_)
  have hP : va_P (dC, dI) cls [(h0, .inr (6, [.ref q1, .ref q2, .ref q3, .null, .null, .int 0, .int 0, .int 0])), (q1, .inl (cA1, 6, .inl (fun _ => (0 : Int32)))), (q2, .inl (cA2, 4, .inl (fun _ => (0 : Int32))))] H7 := hP
  refine W.widen (k := 12) (n := 74) (Nat.le_of_ble_eq_true rfl) (Nat.le_of_ble_eq_true rfl) ?_
  refine va_putF (D := (dC, dI)) (ci := 6) (v := .ref q4) (ty := (.array (.array .int))) (C := R_SE) (T := T_SE) (N := 8) hx hb hts in_SE t_SE t_SE_ok n_SE hown hK hP hD hS 0 rfl rfl 3 (by decide) (hts _ k_207) (fun _ h9 => h9) rfl hin rfl (by decide +kernel) rfl rfl (Nat.le_of_ble_eq_true rfl) d_SE_init_38 (fun H8 locs hP hD hS => ?_)
  have hP : va_P (dC, dI) cls [(h0, .inr (6, [.ref q1, .ref q2, .ref q3, .ref q4, .null, .int 0, .int 0, .int 0])), (q1, .inl (cA1, 6, .inl (fun _ => (0 : Int32)))), (q2, .inl (cA2, 4, .inl (fun _ => (0 : Int32))))] H8 := hP
  have hD : va_D A [(h0, .inr (6, [.ref q1, .ref q2, .ref q3, .ref q4, .null, .int 0, .int 0, .int 0])), (q1, .inl (cA1, 6, .inl (fun _ => (0 : Int32)))), (q2, .inl (cA2, 4, .inl (fun _ => (0 : Int32))))] := hD
  refine lv_aload_n hx hb d_SE_init_41 rfl (lv_at hl 0 rfl) ?_
  refine lv_iconst (v := 4) hx hb d_SE_init_42 (by decide) ?_
  refine lv_bipush (v := 6) hx hb d_SE_init_43 (by decide) ?_
  refine mk_new0 (cn := "[[I") (ty := .int) (N := 4) (M := 6) hx hb hown (by decide +kernel) (hts _ k_203) hN.2.1 (hts _ k_79) hP hS hA (by decide) (by decide) (by decide) (by decide) (by decide) (by decide) (by decide) rfl rfl (Nat.le_of_ble_eq_true rfl) (Nat.le_of_ble_eq_true rfl) d_SE_init_45 (fun q5 H9 locs hP hS => ?_)
  have hP : va_P (dC, dI) cls [(h0, .inr (6, [.ref q1, .ref q2, .ref q3, .ref q4, .null, .int 0, .int 0, .int 0])), (q1, .inl (cA1, 6, .inl (fun _ => (0 : Int32)))), (q2, .inl (cA2, 4, .inl (fun _ => (0 : Int32))))] H9 := hP
  refine W.widen (k := 17) (n := 102) (Nat.le_of_ble_eq_true rfl) (Nat.le_of_ble_eq_true rfl) ?_
  refine va_putF (D := (dC, dI)) (ci := 6) (v := .ref q5) (ty := (.array (.array .int))) (C := R_SE) (T := T_SE) (N := 8) hx hb hts in_SE t_SE t_SE_ok n_SE hown hK hP hD hS 0 rfl rfl 4 (by decide) (hts _ k_208) (fun _ h9 => h9) rfl hin rfl (by decide +kernel) rfl rfl (Nat.le_of_ble_eq_true rfl) d_SE_init_49 (fun H10 locs hP hD hS => ?_)
  have hP : va_P (dC, dI) cls [(h0, .inr (6, [.ref q1, .ref q2, .ref q3, .ref q4, .ref q5, .int 0, .int 0, .int 0])), (q1, .inl (cA1, 6, .inl (fun _ => (0 : Int32)))), (q2, .inl (cA2, 4, .inl (fun _ => (0 : Int32))))] H10 := hP
  have hD : va_D A [(h0, .inr (6, [.ref q1, .ref q2, .ref q3, .ref q4, .ref q5, .int 0, .int 0, .int 0])), (q1, .inl (cA1, 6, .inl (fun _ => (0 : Int32)))), (q2, .inl (cA2, 4, .inl (fun _ => (0 : Int32))))] := hD
  refine lv_aload_n hx hb d_SE_init_52 rfl (lv_at hl 0 rfl) ?_
  refine lv_iconst (v := 0) hx hb d_SE_init_53 (by decide) ?_
  refine va_put (D := (dC, dI)) (ci := 6) (v := .int 0) (ty := .int) (C := R_SE) (T := T_SE) (N := 8) hx hb hts in_SE t_SE t_SE_ok n_SE hown hK hP hD hS 0 rfl rfl 5 (by decide) (hts _ k_209) (fun _ h9 => h9) rfl (by decide +kernel) rfl rfl (Nat.le_of_ble_eq_true rfl) d_SE_init_54 (fun H11 locs hP hD hS => ?_)
  have hP : va_P (dC, dI) cls [(h0, .inr (6, [.ref q1, .ref q2, .ref q3, .ref q4, .ref q5, .int 0, .int 0, .int 0])), (q1, .inl (cA1, 6, .inl (fun _ => (0 : Int32)))), (q2, .inl (cA2, 4, .inl (fun _ => (0 : Int32))))] H11 := hP
  have hD : va_D A [(h0, .inr (6, [.ref q1, .ref q2, .ref q3, .ref q4, .ref q5, .int 0, .int 0, .int 0])), (q1, .inl (cA1, 6, .inl (fun _ => (0 : Int32)))), (q2, .inl (cA2, 4, .inl (fun _ => (0 : Int32))))] := hD
  refine lv_aload_n hx hb d_SE_init_57 rfl (lv_at hl 0 rfl) ?_
  refine lv_iconst (v := 0) hx hb d_SE_init_58 (by decide) ?_
  refine va_put (D := (dC, dI)) (ci := 6) (v := .int 0) (ty := .int) (C := R_SE) (T := T_SE) (N := 8) hx hb hts in_SE t_SE t_SE_ok n_SE hown hK hP hD hS 0 rfl rfl 6 (by decide) (hts _ k_210) (fun _ h9 => h9) rfl (by decide +kernel) rfl rfl (Nat.le_of_ble_eq_true rfl) d_SE_init_59 (fun H12 locs hP hD hS => ?_)
  have hP : va_P (dC, dI) cls [(h0, .inr (6, [.ref q1, .ref q2, .ref q3, .ref q4, .ref q5, .int 0, .int 0, .int 0])), (q1, .inl (cA1, 6, .inl (fun _ => (0 : Int32)))), (q2, .inl (cA2, 4, .inl (fun _ => (0 : Int32))))] H12 := hP
  have hD : va_D A [(h0, .inr (6, [.ref q1, .ref q2, .ref q3, .ref q4, .ref q5, .int 0, .int 0, .int 0])), (q1, .inl (cA1, 6, .inl (fun _ => (0 : Int32)))), (q2, .inl (cA2, 4, .inl (fun _ => (0 : Int32))))] := hD
  refine lv_aload_n hx hb d_SE_init_62 rfl (lv_at hl 0 rfl) ?_
  refine lv_iconst (v := 0) hx hb d_SE_init_63 (by decide) ?_
  refine va_put (D := (dC, dI)) (ci := 6) (v := .int 0) (ty := .boolean) (C := R_SE) (T := T_SE) (N := 8) hx hb hts in_SE t_SE t_SE_ok n_SE hown hK hP hD hS 0 rfl rfl 7 (by decide) (hts _ k_211) (fun _ h9 => h9) rfl (by decide +kernel) (by decide +kernel) (by decide +kernel) (Nat.le_of_ble_eq_true rfl) d_SE_init_64 (fun H13 locs hP hD hS => ?_)
  have hP : va_P (dC, dI) cls [(h0, .inr (6, [.ref q1, .ref q2, .ref q3, .ref q4, .ref q5, .int 0, .int 0, .int 0])), (q1, .inl (cA1, 6, .inl (fun _ => (0 : Int32)))), (q2, .inl (cA2, 4, .inl (fun _ => (0 : Int32))))] H13 := hP
  have hD : va_D A [(h0, .inr (6, [.ref q1, .ref q2, .ref q3, .ref q4, .ref q5, .int 0, .int 0, .int 0])), (q1, .inl (cA1, 6, .inl (fun _ => (0 : Int32)))), (q2, .inl (cA2, 4, .inl (fun _ => (0 : Int32))))] := hD
  have hP9 := hP.sub (ws' := []) [] rfl
  have hD9 := hD.sub (ws' := []) [] (by decide) rfl
  have hK9 := hK.sub (tys' := []) [] rfl
  exact W.vret hx hb hr (fun t ht hW => ⟨⟨(), rfl, trivial, by rw [ht]; exact hP9, va_K.moved hW.alike hK9, hD9⟩, hS.F ht⟩) hS.2.2 d_SE_init_67

set_option maxHeartbeats 4000000 in
set_option maxRecDepth 100000 in
theorem c_VL_init (l : Launch) (dC : Nat → ClassId) (dI : Nat → Nat → Nat) (h0 : Nat) (sz : Nat) : Met l y_VL_init (Cond.code y_VL_init b_VL_init 1 (Option.none : Option Jvm.ClassFile.FieldType) :: wd) { frames := 2, cells := 1, slots := 12000, locals := 40 } (va_Pc [.ref h0] (fun U => U.heap.size = sz ∧ va_P (dC, dI) cls [(h0, .inr (7, [.null, .int 0, .int 0, .int 0, .int 0, .int 0]))] U.heap ∧ va_K (dC, dI) cls [] U ∧ va_D (fun _ => True) [(h0, .inr (7, [.null, .int 0, .int 0, .int 0, .int 0, .int 0]))] ∧ nw_ok U)) (va_Qv (fun _ : Unit => True) (fun (_ : Unit) t => ∃ (q1 : Nat) , va_P (dC, dI) cls [(h0, .inr (7, [.ref q1, .int 0, .int 0, .int 0, .int 0, .int 0]))] t.heap ∧ va_K (dC, dI) cls [] t ∧ va_D (va_A [(h0, .inr (7, [.null, .int 0, .int 0, .int 0, .int 0, .int 0]))] sz) [(h0, .inr (7, [.ref q1, .int 0, .int 0, .int 0, .int 0, .int 0]))]) (va_A [(h0, .inr (7, [.null, .int 0, .int 0, .int 0, .int 0, .int 0]))] sz)) 1 12000 (va_A [(h0, .inr (7, [.null, .int 0, .int 0, .int 0, .int 0, .int 0]))] sz) := by
  refine Met.ofW (cc := b_VL_init) (maxL := 1) (ret := (Option.none : Option Jvm.ClassFile.FieldType)) (by decide) rfl ?_
  intro p e s m args below meth c s₁ B hml hv
  obtain ⟨rfl, hsz, hP, hK, hD0, hN⟩ := hv
  have hx := B.exec
  have hb := B.bytes
  have hr := B.returns
  have hlocks := B.notSynchronized
  have hin : meth.name = "<init>" := (name_of_methodNamed B.named B.method).1
  have hts : ∀ w ∈ wd, w.before ([.ref h0] : List Value).toArray s = true := fun w hw => atoms_spec (ws := (Cond.code y_VL_init b_VL_init 1 (Option.none : Option Jvm.ClassFile.FieldType) :: wd)) B.pre w (List.mem_cons_of_mem _ hw)
  have hown : s.vm.findClass "LeastSolutions$VectorList" = some m.cls := findClass_of_methodNamed B.named
  subst hsz
  have hD := hD0.self (sz := s.heap.size)
  generalize hAe : va_A [(h0, .inr (7, [.null, .int 0, .int 0, .int 0, .int 0, .int 0]))] s.heap.size = A at hD ⊢
  have hA : ∀ q : Nat, s.heap.size ≤ q → A q := fun q h => by rw [← hAe]; exact Or.inr h
  have hS : va_S A s.heap s.heap [] := va_S.rf
  have hl := lv_entry ([.ref h0]) (n := 1) (Nat.le_of_ble_eq_true rfl)
  rw [lg_entry_eq]
  generalize (lg_sl ([.ref h0]) ++ List.replicate (1 - (lg_sl ([.ref h0])).length) Slot.unset).toArray = ls at hl ⊢
  have hl : lv_has ls 1 [(0, .ref h0)] := hl
  refine lv_aload_n hx hb d_VL_init_0 rfl (lv_at hl 0 rfl) ?_
  have hPc := hP.sub (ws' := [(h0, .inr (7, [.null, .int 0, .int 0, .int 0, .int 0, .int 0]))]) [0] rfl
  have hDc := hD.sub (ws' := [(h0, .inr (7, [.null, .int 0, .int 0, .int 0, .int 0, .int 0]))]) [0] (by decide) rfl
  have hKc := hK.sub (tys' := []) [] rfl
  have hFc := va_free (wc := [(h0, .inr (7, [.null, .int 0, .int 0, .int 0, .int 0, .int 0]))]) hD hS hA [0] rfl
  refine va_callv (va_runIN (As := []) (rest := []) ⟨hx, hb, hml, hown, hts⟩ (c_TA_init_VL l dC dI (h0) s.heap.size) (wd_IN 0 hts k_238 k_8 (hN.1 _ nw_37) k_237 rfl rfl rfl (by decide +kernel) ⟨Nat.le_of_ble_eq_true rfl, Nat.le_of_ble_eq_true rfl⟩) ⟨fun a U g mk q => by obtain ⟨q0, q1, qP, qK, qD, qN⟩ := q; exact ⟨q0, q1, qP, va_K.moved (u := U) (U := U.calling g mk a) (Vm.Alike.refl U.vm) qK, qD, nw_ok.same (s := U) (U := U.calling g mk a) rfl qN⟩, fun U hU hW => ⟨rfl, by rw [hU], by rw [hU]; exact hPc, va_K.moved hW.alike hKc, hDc.weaken (fun _ _ _ _ => trivial), nw_ok.warm hW hN⟩⟩ rfl rfl hl.1 rfl (lv_room (Nat.le_of_ble_eq_true rfl)) d_VL_init_1 ⟨Nat.le_of_ble_eq_true rfl, Nat.le_of_ble_eq_true rfl⟩) hS (fun q _ h => hFc q h) hFc (fun u t H1 locs ht hvm hr1 hB hz1 hk1 hS => ?_)
  obtain ⟨hP1, hK1, hD1⟩ := hB
  rw [ht] at hP1
  have hK1 := va_K.moved hvm.symm hK1
  obtain ⟨hP, hD⟩ := va_join (wr := []) (w1 := [(h0, .inr (7, [.null, .int 0, .int 0, .int 0, .int 0, .int 0]))]) hP hD [0] [] rfl rfl (by decide) (by decide) hk1 hFc hP1 hD1
  have hK := (hK.sub (tys' := []) [] rfl).app hK1
  have hK : va_K (dC, dI) cls [] s := hK
  have hP : va_P (dC, dI) cls [(h0, .inr (7, [.null, .int 0, .int 0, .int 0, .int 0, .int 0]))] H1 := hP
  have hD : va_D A [(h0, .inr (7, [.null, .int 0, .int 0, .int 0, .int 0, .int 0]))] := hD
  refine lv_aload_n hx hb d_VL_init_4 rfl (lv_at hl 0 rfl) ?_
  refine lv_sipush (v := 12000) hx hb d_VL_init_5 (by decide) ?_
  refine va_newa (atype := .byte) (ty := .byte) (N' := 12000) (a0 := (12000, .inl (fun _ => (0 : Int32)))) hx hb (hts _ k_45) rfl hK hP hD hS hA (fun _ => rfl) (by decide) (by decide) (by decide) (Nat.le_of_ble_eq_true rfl) (Nat.le_of_ble_eq_true rfl) d_VL_init_8 (fun q1 cA1 H2 hK hP hD hS => ?_)
  have hK : va_K (dC, dI) cls [(cA1, .byte)] s := hK
  have hP : va_P (dC, dI) cls [(h0, .inr (7, [.null, .int 0, .int 0, .int 0, .int 0, .int 0])), (q1, .inl (cA1, 12000, .inl (fun _ => (0 : Int32))))] H2 := hP
  have hD : va_D A [(h0, .inr (7, [.null, .int 0, .int 0, .int 0, .int 0, .int 0])), (q1, .inl (cA1, 12000, .inl (fun _ => (0 : Int32))))] := hD
  refine W.widen (k := 1) (n := 12000) (Nat.le_of_ble_eq_true rfl) (Nat.le_of_ble_eq_true rfl) ?_
  refine va_putF (D := (dC, dI)) (ci := 7) (v := .ref q1) (ty := (.array .byte)) (C := R_VL) (T := T_VL) (N := 6) hx hb hts in_VL t_VL t_VL_ok n_VL hown hK hP hD hS 0 rfl rfl 0 (by decide) (hts _ k_267) (fun _ h9 => h9) rfl hin rfl (by decide +kernel) rfl rfl (Nat.le_of_ble_eq_true rfl) d_VL_init_10 (fun H3 locs hP hD hS => ?_)
  have hP : va_P (dC, dI) cls [(h0, .inr (7, [.ref q1, .int 0, .int 0, .int 0, .int 0, .int 0])), (q1, .inl (cA1, 12000, .inl (fun _ => (0 : Int32))))] H3 := hP
  have hD : va_D A [(h0, .inr (7, [.ref q1, .int 0, .int 0, .int 0, .int 0, .int 0])), (q1, .inl (cA1, 12000, .inl (fun _ => (0 : Int32))))] := hD
  refine lv_aload_n hx hb d_VL_init_13 rfl (lv_at hl 0 rfl) ?_
  refine lv_iconst (v := 0) hx hb d_VL_init_14 (by decide) ?_
  refine va_put (D := (dC, dI)) (ci := 7) (v := .int 0) (ty := .boolean) (C := R_VL) (T := T_VL) (N := 6) hx hb hts in_VL t_VL t_VL_ok n_VL hown hK hP hD hS 0 rfl rfl 1 (by decide) (hts _ k_268) (fun _ h9 => h9) rfl (by decide +kernel) (by decide +kernel) (by decide +kernel) (Nat.le_of_ble_eq_true rfl) d_VL_init_15 (fun H4 locs hP hD hS => ?_)
  have hP : va_P (dC, dI) cls [(h0, .inr (7, [.ref q1, .int 0, .int 0, .int 0, .int 0, .int 0])), (q1, .inl (cA1, 12000, .inl (fun _ => (0 : Int32))))] H4 := hP
  have hD : va_D A [(h0, .inr (7, [.ref q1, .int 0, .int 0, .int 0, .int 0, .int 0])), (q1, .inl (cA1, 12000, .inl (fun _ => (0 : Int32))))] := hD
  refine lv_aload_n hx hb d_VL_init_18 rfl (lv_at hl 0 rfl) ?_
  refine lv_iconst (v := 0) hx hb d_VL_init_19 (by decide) ?_
  refine va_put (D := (dC, dI)) (ci := 7) (v := .int 0) (ty := .int) (C := R_VL) (T := T_VL) (N := 6) hx hb hts in_VL t_VL t_VL_ok n_VL hown hK hP hD hS 0 rfl rfl 2 (by decide) (hts _ k_270) (fun _ h9 => h9) rfl (by decide +kernel) rfl rfl (Nat.le_of_ble_eq_true rfl) d_VL_init_20 (fun H5 locs hP hD hS => ?_)
  have hP : va_P (dC, dI) cls [(h0, .inr (7, [.ref q1, .int 0, .int 0, .int 0, .int 0, .int 0])), (q1, .inl (cA1, 12000, .inl (fun _ => (0 : Int32))))] H5 := hP
  have hD : va_D A [(h0, .inr (7, [.ref q1, .int 0, .int 0, .int 0, .int 0, .int 0])), (q1, .inl (cA1, 12000, .inl (fun _ => (0 : Int32))))] := hD
  refine lv_aload_n hx hb d_VL_init_23 rfl (lv_at hl 0 rfl) ?_
  refine lv_iconst (v := 0) hx hb d_VL_init_24 (by decide) ?_
  refine va_put (D := (dC, dI)) (ci := 7) (v := .int 0) (ty := .int) (C := R_VL) (T := T_VL) (N := 6) hx hb hts in_VL t_VL t_VL_ok n_VL hown hK hP hD hS 0 rfl rfl 3 (by decide) (hts _ k_271) (fun _ h9 => h9) rfl (by decide +kernel) rfl rfl (Nat.le_of_ble_eq_true rfl) d_VL_init_25 (fun H6 locs hP hD hS => ?_)
  have hP : va_P (dC, dI) cls [(h0, .inr (7, [.ref q1, .int 0, .int 0, .int 0, .int 0, .int 0])), (q1, .inl (cA1, 12000, .inl (fun _ => (0 : Int32))))] H6 := hP
  have hD : va_D A [(h0, .inr (7, [.ref q1, .int 0, .int 0, .int 0, .int 0, .int 0])), (q1, .inl (cA1, 12000, .inl (fun _ => (0 : Int32))))] := hD
  refine lv_aload_n hx hb d_VL_init_28 rfl (lv_at hl 0 rfl) ?_
  refine lv_iconst (v := 0) hx hb d_VL_init_29 (by decide) ?_
  refine va_put (D := (dC, dI)) (ci := 7) (v := .int 0) (ty := .int) (C := R_VL) (T := T_VL) (N := 6) hx hb hts in_VL t_VL t_VL_ok n_VL hown hK hP hD hS 0 rfl rfl 4 (by decide) (hts _ k_273) (fun _ h9 => h9) rfl (by decide +kernel) rfl rfl (Nat.le_of_ble_eq_true rfl) d_VL_init_30 (fun H7 locs hP hD hS => ?_)
  have hP : va_P (dC, dI) cls [(h0, .inr (7, [.ref q1, .int 0, .int 0, .int 0, .int 0, .int 0])), (q1, .inl (cA1, 12000, .inl (fun _ => (0 : Int32))))] H7 := hP
  have hD : va_D A [(h0, .inr (7, [.ref q1, .int 0, .int 0, .int 0, .int 0, .int 0])), (q1, .inl (cA1, 12000, .inl (fun _ => (0 : Int32))))] := hD
  refine lv_aload_n hx hb d_VL_init_33 rfl (lv_at hl 0 rfl) ?_
  refine lv_iconst (v := 0) hx hb d_VL_init_34 (by decide) ?_
  refine va_put (D := (dC, dI)) (ci := 7) (v := .int 0) (ty := .int) (C := R_VL) (T := T_VL) (N := 6) hx hb hts in_VL t_VL t_VL_ok n_VL hown hK hP hD hS 0 rfl rfl 5 (by decide) (hts _ k_275) (fun _ h9 => h9) rfl (by decide +kernel) rfl rfl (Nat.le_of_ble_eq_true rfl) d_VL_init_35 (fun H8 locs hP hD hS => ?_)
  have hP : va_P (dC, dI) cls [(h0, .inr (7, [.ref q1, .int 0, .int 0, .int 0, .int 0, .int 0])), (q1, .inl (cA1, 12000, .inl (fun _ => (0 : Int32))))] H8 := hP
  have hD : va_D A [(h0, .inr (7, [.ref q1, .int 0, .int 0, .int 0, .int 0, .int 0])), (q1, .inl (cA1, 12000, .inl (fun _ => (0 : Int32))))] := hD
  have hP9 := hP.sub (ws' := [(h0, .inr (7, [.ref q1, .int 0, .int 0, .int 0, .int 0, .int 0]))]) [0] rfl
  have hD9 := hD.sub (ws' := [(h0, .inr (7, [.ref q1, .int 0, .int 0, .int 0, .int 0, .int 0]))]) [0] (by decide) rfl
  have hK9 := hK.sub (tys' := []) [] rfl
  exact W.vret hx hb hr (fun t ht hW => ⟨⟨(), rfl, trivial, q1, by rw [ht]; exact hP9, va_K.moved hW.alike hK9, hD9⟩, hS.F ht⟩) hS.2.2 d_VL_init_38

set_option maxHeartbeats 4000000 in
set_option maxRecDepth 100000 in
theorem c_CH_init (l : Launch) (dC : Nat → ClassId) (dI : Nat → Nat → Nat) (h0 : Nat) (sz : Nat) : Met l y_CH_init (Cond.code y_CH_init b_CH_init 1 (Option.none : Option Jvm.ClassFile.FieldType) :: wd) { frames := 2, cells := 2, slots := 12, locals := 40 } (va_Pc [.ref h0] (fun U => U.heap.size = sz ∧ va_P (dC, dI) cls [(h0, .inr (8, [.null, .null, .int 0, .int 0, .int 0]))] U.heap ∧ va_K (dC, dI) cls [] U ∧ va_D (fun _ => True) [(h0, .inr (8, [.null, .null, .int 0, .int 0, .int 0]))] ∧ nw_ok U)) (va_Qv (fun _ : Unit => True) (fun (_ : Unit) t => va_P (dC, dI) cls [] t.heap ∧ va_K (dC, dI) cls [] t ∧ va_D (va_A [(h0, .inr (8, [.null, .null, .int 0, .int 0, .int 0]))] sz) []) (va_A [(h0, .inr (8, [.null, .null, .int 0, .int 0, .int 0]))] sz)) 2 12 (va_A [(h0, .inr (8, [.null, .null, .int 0, .int 0, .int 0]))] sz) := by
  refine Met.ofW (cc := b_CH_init) (maxL := 1) (ret := (Option.none : Option Jvm.ClassFile.FieldType)) (by decide) rfl ?_
  intro p e s m args below meth c s₁ B hml hv
  obtain ⟨rfl, hsz, hP, hK, hD0, hN⟩ := hv
  have hx := B.exec
  have hb := B.bytes
  have hr := B.returns
  have hlocks := B.notSynchronized
  have hin : meth.name = "<init>" := (name_of_methodNamed B.named B.method).1
  have hts : ∀ w ∈ wd, w.before ([.ref h0] : List Value).toArray s = true := fun w hw => atoms_spec (ws := (Cond.code y_CH_init b_CH_init 1 (Option.none : Option Jvm.ClassFile.FieldType) :: wd)) B.pre w (List.mem_cons_of_mem _ hw)
  have hown : s.vm.findClass "LeastSolutions$Cheapest" = some m.cls := findClass_of_methodNamed B.named
  subst hsz
  have hD := hD0.self (sz := s.heap.size)
  generalize hAe : va_A [(h0, .inr (8, [.null, .null, .int 0, .int 0, .int 0]))] s.heap.size = A at hD ⊢
  have hA : ∀ q : Nat, s.heap.size ≤ q → A q := fun q h => by rw [← hAe]; exact Or.inr h
  have hS : va_S A s.heap s.heap [] := va_S.rf
  have hl := lv_entry ([.ref h0]) (n := 1) (Nat.le_of_ble_eq_true rfl)
  rw [lg_entry_eq]
  generalize (lg_sl ([.ref h0]) ++ List.replicate (1 - (lg_sl ([.ref h0])).length) Slot.unset).toArray = ls at hl ⊢
  have hl : lv_has ls 1 [(0, .ref h0)] := hl
  refine lv_aload_n hx hb d_CH_init_0 rfl (lv_at hl 0 rfl) ?_
  have hPc := hP.sub (ws' := [(h0, .inr (8, [.null, .null, .int 0, .int 0, .int 0]))]) [0] rfl
  have hDc := hD.sub (ws' := [(h0, .inr (8, [.null, .null, .int 0, .int 0, .int 0]))]) [0] (by decide) rfl
  have hKc := hK.sub (tys' := []) [] rfl
  have hFc := va_free (wc := [(h0, .inr (8, [.null, .null, .int 0, .int 0, .int 0]))]) hD hS hA [0] rfl
  refine va_callv (va_runIN (As := []) (rest := []) ⟨hx, hb, hml, hown, hts⟩ (c_TA_init_CH l dC dI (h0) s.heap.size) (wd_IN 0 hts k_238 k_8 (hN.1 _ nw_30) k_237 rfl rfl rfl (by decide +kernel) ⟨Nat.le_of_ble_eq_true rfl, Nat.le_of_ble_eq_true rfl⟩) ⟨fun a U g mk q => by obtain ⟨q0, q1, qP, qK, qD, qN⟩ := q; exact ⟨q0, q1, qP, va_K.moved (u := U) (U := U.calling g mk a) (Vm.Alike.refl U.vm) qK, qD, nw_ok.same (s := U) (U := U.calling g mk a) rfl qN⟩, fun U hU hW => ⟨rfl, by rw [hU], by rw [hU]; exact hPc, va_K.moved hW.alike hKc, hDc.weaken (fun _ _ _ _ => trivial), nw_ok.warm hW hN⟩⟩ rfl rfl hl.1 rfl (lv_room (Nat.le_of_ble_eq_true rfl)) d_CH_init_1 ⟨Nat.le_of_ble_eq_true rfl, Nat.le_of_ble_eq_true rfl⟩) hS (fun q _ h => hFc q h) hFc (fun u t H1 locs ht hvm hr1 hB hz1 hk1 hS => ?_)
  obtain ⟨hP1, hK1, hD1⟩ := hB
  rw [ht] at hP1
  have hK1 := va_K.moved hvm.symm hK1
  obtain ⟨hP, hD⟩ := va_join (wr := []) (w1 := [(h0, .inr (8, [.null, .null, .int 0, .int 0, .int 0]))]) hP hD [0] [] rfl rfl (by decide) (by decide) hk1 hFc hP1 hD1
  have hK := (hK.sub (tys' := []) [] rfl).app hK1
  have hK : va_K (dC, dI) cls [] s := hK
  have hP : va_P (dC, dI) cls [(h0, .inr (8, [.null, .null, .int 0, .int 0, .int 0]))] H1 := hP
  have hD : va_D A [(h0, .inr (8, [.null, .null, .int 0, .int 0, .int 0]))] := hD
  refine lv_aload_n hx hb d_CH_init_4 rfl (lv_at hl 0 rfl) ?_
  refine lv_bipush (v := 6) hx hb d_CH_init_5 (by decide) ?_
  refine va_newa (atype := .int) (ty := .int) (N' := 6) (a0 := (6, .inl (fun _ => (0 : Int32)))) hx hb (hts _ k_79) rfl hK hP hD hS hA (fun _ => rfl) (by decide) (by decide) (by decide) (Nat.le_of_ble_eq_true rfl) (Nat.le_of_ble_eq_true rfl) d_CH_init_7 (fun q1 cA1 H2 hK hP hD hS => ?_)
  have hK : va_K (dC, dI) cls [(cA1, .int)] s := hK
  have hP : va_P (dC, dI) cls [(h0, .inr (8, [.null, .null, .int 0, .int 0, .int 0])), (q1, .inl (cA1, 6, .inl (fun _ => (0 : Int32))))] H2 := hP
  have hD : va_D A [(h0, .inr (8, [.null, .null, .int 0, .int 0, .int 0])), (q1, .inl (cA1, 6, .inl (fun _ => (0 : Int32))))] := hD
  refine W.widen (k := 1) (n := 6) (Nat.le_of_ble_eq_true rfl) (Nat.le_of_ble_eq_true rfl) ?_
  refine va_putF (D := (dC, dI)) (ci := 8) (v := .ref q1) (ty := (.array .int)) (C := R_CH) (T := T_CH) (N := 5) hx hb hts in_CH t_CH t_CH_ok n_CH hown hK hP hD hS 0 rfl rfl 0 (by decide) (hts _ k_240) (fun _ h9 => h9) rfl hin rfl (by decide +kernel) rfl rfl (Nat.le_of_ble_eq_true rfl) d_CH_init_9 (fun H3 locs hP hD hS => ?_)
  have hP : va_P (dC, dI) cls [(h0, .inr (8, [.ref q1, .null, .int 0, .int 0, .int 0])), (q1, .inl (cA1, 6, .inl (fun _ => (0 : Int32))))] H3 := hP
  have hD : va_D A [(h0, .inr (8, [.ref q1, .null, .int 0, .int 0, .int 0])), (q1, .inl (cA1, 6, .inl (fun _ => (0 : Int32))))] := hD
  refine lv_aload_n hx hb d_CH_init_12 rfl (lv_at hl 0 rfl) ?_
  refine lv_bipush (v := 6) hx hb d_CH_init_13 (by decide) ?_
  refine va_newa (atype := .int) (ty := .int) (N' := 6) (a0 := (6, .inl (fun _ => (0 : Int32)))) hx hb (hts _ k_79) rfl hK hP hD hS hA (fun _ => rfl) (by decide) (by decide) (by decide) (Nat.le_of_ble_eq_true rfl) (Nat.le_of_ble_eq_true rfl) d_CH_init_15 (fun q2 cA2 H4 hK hP hD hS => ?_)
  have hK : va_K (dC, dI) cls [(cA1, .int), (cA2, .int)] s := hK
  have hP : va_P (dC, dI) cls [(h0, .inr (8, [.ref q1, .null, .int 0, .int 0, .int 0])), (q1, .inl (cA1, 6, .inl (fun _ => (0 : Int32)))), (q2, .inl (cA2, 6, .inl (fun _ => (0 : Int32))))] H4 := hP
  have hD : va_D A [(h0, .inr (8, [.ref q1, .null, .int 0, .int 0, .int 0])), (q1, .inl (cA1, 6, .inl (fun _ => (0 : Int32)))), (q2, .inl (cA2, 6, .inl (fun _ => (0 : Int32))))] := hD
  refine W.widen (k := 2) (n := 12) (Nat.le_of_ble_eq_true rfl) (Nat.le_of_ble_eq_true rfl) ?_
  refine va_putF (D := (dC, dI)) (ci := 8) (v := .ref q2) (ty := (.array .int)) (C := R_CH) (T := T_CH) (N := 5) hx hb hts in_CH t_CH t_CH_ok n_CH hown hK hP hD hS 0 rfl rfl 1 (by decide) (hts _ k_242) (fun _ h9 => h9) rfl hin rfl (by decide +kernel) rfl rfl (Nat.le_of_ble_eq_true rfl) d_CH_init_17 (fun H5 locs hP hD hS => ?_)
  have hP : va_P (dC, dI) cls [(h0, .inr (8, [.ref q1, .ref q2, .int 0, .int 0, .int 0])), (q1, .inl (cA1, 6, .inl (fun _ => (0 : Int32)))), (q2, .inl (cA2, 6, .inl (fun _ => (0 : Int32))))] H5 := hP
  have hD : va_D A [(h0, .inr (8, [.ref q1, .ref q2, .int 0, .int 0, .int 0])), (q1, .inl (cA1, 6, .inl (fun _ => (0 : Int32)))), (q2, .inl (cA2, 6, .inl (fun _ => (0 : Int32))))] := hD
  refine lv_aload_n hx hb d_CH_init_20 rfl (lv_at hl 0 rfl) ?_
  refine lv_iconst (v := 0) hx hb d_CH_init_21 (by decide) ?_
  refine va_put (D := (dC, dI)) (ci := 8) (v := .int 0) (ty := .int) (C := R_CH) (T := T_CH) (N := 5) hx hb hts in_CH t_CH t_CH_ok n_CH hown hK hP hD hS 0 rfl rfl 2 (by decide) (hts _ k_244) (fun _ h9 => h9) rfl (by decide +kernel) rfl rfl (Nat.le_of_ble_eq_true rfl) d_CH_init_22 (fun H6 locs hP hD hS => ?_)
  have hP : va_P (dC, dI) cls [(h0, .inr (8, [.ref q1, .ref q2, .int 0, .int 0, .int 0])), (q1, .inl (cA1, 6, .inl (fun _ => (0 : Int32)))), (q2, .inl (cA2, 6, .inl (fun _ => (0 : Int32))))] H6 := hP
  have hD : va_D A [(h0, .inr (8, [.ref q1, .ref q2, .int 0, .int 0, .int 0])), (q1, .inl (cA1, 6, .inl (fun _ => (0 : Int32)))), (q2, .inl (cA2, 6, .inl (fun _ => (0 : Int32))))] := hD
  refine lv_aload_n hx hb d_CH_init_25 rfl (lv_at hl 0 rfl) ?_
  refine lv_iconst (v := 0) hx hb d_CH_init_26 (by decide) ?_
  refine va_put (D := (dC, dI)) (ci := 8) (v := .int 0) (ty := .int) (C := R_CH) (T := T_CH) (N := 5) hx hb hts in_CH t_CH t_CH_ok n_CH hown hK hP hD hS 0 rfl rfl 3 (by decide) (hts _ k_245) (fun _ h9 => h9) rfl (by decide +kernel) rfl rfl (Nat.le_of_ble_eq_true rfl) d_CH_init_27 (fun H7 locs hP hD hS => ?_)
  have hP : va_P (dC, dI) cls [(h0, .inr (8, [.ref q1, .ref q2, .int 0, .int 0, .int 0])), (q1, .inl (cA1, 6, .inl (fun _ => (0 : Int32)))), (q2, .inl (cA2, 6, .inl (fun _ => (0 : Int32))))] H7 := hP
  have hD : va_D A [(h0, .inr (8, [.ref q1, .ref q2, .int 0, .int 0, .int 0])), (q1, .inl (cA1, 6, .inl (fun _ => (0 : Int32)))), (q2, .inl (cA2, 6, .inl (fun _ => (0 : Int32))))] := hD
  refine lv_aload_n hx hb d_CH_init_30 rfl (lv_at hl 0 rfl) ?_
  refine lv_iconst (v := 0) hx hb d_CH_init_31 (by decide) ?_
  refine va_put (D := (dC, dI)) (ci := 8) (v := .int 0) (ty := .boolean) (C := R_CH) (T := T_CH) (N := 5) hx hb hts in_CH t_CH t_CH_ok n_CH hown hK hP hD hS 0 rfl rfl 4 (by decide) (hts _ k_247) (fun _ h9 => h9) rfl (by decide +kernel) (by decide +kernel) (by decide +kernel) (Nat.le_of_ble_eq_true rfl) d_CH_init_32 (fun H8 locs hP hD hS => ?_)
  have hP : va_P (dC, dI) cls [(h0, .inr (8, [.ref q1, .ref q2, .int 0, .int 0, .int 0])), (q1, .inl (cA1, 6, .inl (fun _ => (0 : Int32)))), (q2, .inl (cA2, 6, .inl (fun _ => (0 : Int32))))] H8 := hP
  have hD : va_D A [(h0, .inr (8, [.ref q1, .ref q2, .int 0, .int 0, .int 0])), (q1, .inl (cA1, 6, .inl (fun _ => (0 : Int32)))), (q2, .inl (cA2, 6, .inl (fun _ => (0 : Int32))))] := hD
  have hP9 := hP.sub (ws' := []) [] rfl
  have hD9 := hD.sub (ws' := []) [] (by decide) rfl
  have hK9 := hK.sub (tys' := []) [] rfl
  exact W.vret hx hb hr (fun t ht hW => ⟨⟨(), rfl, trivial, by rw [ht]; exact hP9, va_K.moved hW.alike hK9, hD9⟩, hS.F ht⟩) hS.2.2 d_CH_init_35

set_option maxHeartbeats 4000000 in
set_option maxRecDepth 100000 in
theorem c_LS_init (l : Launch) (dC : Nat → ClassId) (dI : Nat → Nat → Nat) (h0 : Nat) (sz : Nat) : Met l y_LS_init (Cond.code y_LS_init b_LS_init 2 (Option.none : Option Jvm.ClassFile.FieldType) :: wd) { frames := 3, cells := 71, slots := 39604, locals := 60 } (va_Pc [.ref h0] (fun U => U.heap.size = sz ∧ va_P (dC, dI) cls [(h0, .inr (0, [.null, .null, .null, .null, .null, .null, .null, .null, .null, .null, .null, .null, .int 0, .int 0, .int 0, .int 0]))] U.heap ∧ va_K (dC, dI) cls [] U ∧ va_D (fun _ => True) [(h0, .inr (0, [.null, .null, .null, .null, .null, .null, .null, .null, .null, .null, .null, .null, .int 0, .int 0, .int 0, .int 0]))] ∧ nw_ok U)) (va_Qv (fun _ : Unit => True) (fun (_ : Unit) t => ∃ (q1 q3 q7 q8 q14 q15 q16 q17 q18 q19 q20 q21 q2 q4 q5 q6 q9 q10 q11 q12 q13 q27 q28 q29 q30 q31 q32 q22 q23 q24 q25 q26 : Nat) (cA1 cA2 : ClassId) (fV : Nat → Option Nat) , va_P (dC, dI) cls [(h0, .inr (0, [.ref q1, .ref q3, .ref q7, .ref q8, .ref q14, .ref q15, .ref q16, .ref q17, .ref q18, .ref q19, .ref q20, .ref q21, .int 0, .int 0, .int 0, .int (-1)])), (q1, .inr (1, [.ref q2, .int 0])), (q2, .inl (cA1, 300, .inl (fun _ => (0 : Int32)))), (q3, .inr (2, [.ref q4, .ref q5, .ref q6, .int 0, .int 0, .int 0, .int (-1)])), (q8, .inr (5, [.ref q9, .ref q10, .ref q11, .ref q12, .ref q13, .int 0, .int 0, .int 0, .int 0])), (q15, .inl (cA2, 3, .inr (.inr (.inr (.inr fV))))), (q27, .inr (7, [.ref q28, .int 0, .int 0, .int 0, .int 0, .int 0])), (q29, .inr (7, [.ref q30, .int 0, .int 0, .int 0, .int 0, .int 0])), (q31, .inr (7, [.ref q32, .int 0, .int 0, .int 0, .int 0, .int 0])), (q21, .inr (4, [.ref q22, .ref q23, .ref q24, .ref q25, .ref q26, .int 0, .int 0, .int 0]))] t.heap ∧ va_K (dC, dI) cls [(cA1, .byte), (cA2, .object "LeastSolutions$VectorList")] t ∧ va_D (va_A [(h0, .inr (0, [.null, .null, .null, .null, .null, .null, .null, .null, .null, .null, .null, .null, .int 0, .int 0, .int 0, .int 0]))] sz) [(h0, .inr (0, [.ref q1, .ref q3, .ref q7, .ref q8, .ref q14, .ref q15, .ref q16, .ref q17, .ref q18, .ref q19, .ref q20, .ref q21, .int 0, .int 0, .int 0, .int (-1)])), (q1, .inr (1, [.ref q2, .int 0])), (q2, .inl (cA1, 300, .inl (fun _ => (0 : Int32)))), (q3, .inr (2, [.ref q4, .ref q5, .ref q6, .int 0, .int 0, .int 0, .int (-1)])), (q8, .inr (5, [.ref q9, .ref q10, .ref q11, .ref q12, .ref q13, .int 0, .int 0, .int 0, .int 0])), (q15, .inl (cA2, 3, .inr (.inr (.inr (.inr fV))))), (q27, .inr (7, [.ref q28, .int 0, .int 0, .int 0, .int 0, .int 0])), (q29, .inr (7, [.ref q30, .int 0, .int 0, .int 0, .int 0, .int 0])), (q31, .inr (7, [.ref q32, .int 0, .int 0, .int 0, .int 0, .int 0])), (q21, .inr (4, [.ref q22, .ref q23, .ref q24, .ref q25, .ref q26, .int 0, .int 0, .int 0]))] ∧ fV 0 = some q27 ∧ fV 1 = some q29 ∧ fV 2 = some q31) (va_A [(h0, .inr (0, [.null, .null, .null, .null, .null, .null, .null, .null, .null, .null, .null, .null, .int 0, .int 0, .int 0, .int 0]))] sz)) 71 39604 (va_A [(h0, .inr (0, [.null, .null, .null, .null, .null, .null, .null, .null, .null, .null, .null, .null, .int 0, .int 0, .int 0, .int 0]))] sz) := by
  refine Met.ofW (cc := b_LS_init) (maxL := 2) (ret := (Option.none : Option Jvm.ClassFile.FieldType)) (by decide) rfl ?_
  intro p e s m args below meth c s₁ B hml hv
  obtain ⟨rfl, hsz, hP, hK, hD0, hN⟩ := hv
  have hx := B.exec
  have hb := B.bytes
  have hr := B.returns
  have hlocks := B.notSynchronized
  have hin : meth.name = "<init>" := (name_of_methodNamed B.named B.method).1
  have hts : ∀ w ∈ wd, w.before ([.ref h0] : List Value).toArray s = true := fun w hw => atoms_spec (ws := (Cond.code y_LS_init b_LS_init 2 (Option.none : Option Jvm.ClassFile.FieldType) :: wd)) B.pre w (List.mem_cons_of_mem _ hw)
  have hown : s.vm.findClass "LeastSolutions" = some m.cls := findClass_of_methodNamed B.named
  subst hsz
  have hD := hD0.self (sz := s.heap.size)
  generalize hAe : va_A [(h0, .inr (0, [.null, .null, .null, .null, .null, .null, .null, .null, .null, .null, .null, .null, .int 0, .int 0, .int 0, .int 0]))] s.heap.size = A at hD ⊢
  have hA : ∀ q : Nat, s.heap.size ≤ q → A q := fun q h => by rw [← hAe]; exact Or.inr h
  have hS : va_S A s.heap s.heap [] := va_S.rf
  have hl := lv_entry ([.ref h0]) (n := 2) (Nat.le_of_ble_eq_true rfl)
  rw [lg_entry_eq]
  generalize (lg_sl ([.ref h0]) ++ List.replicate (2 - (lg_sl ([.ref h0])).length) Slot.unset).toArray = ls at hl ⊢
  have hl : lv_has ls 2 [(0, .ref h0)] := hl
  refine lv_aload_n hx hb d_LS_init_0 rfl (lv_at hl 0 rfl) ?_
  refine W.objInit hx hb hown (hts _ k_27) (hts _ k_28) (hts _ k_29) rfl (by rw [hml]; exact hl.1) rfl d_LS_init_1 (Nat.le_of_ble_eq_true rfl) (Nat.le_of_ble_eq_true rfl) ?_
  refine W.eq (g2 := F0 m 4 ls []) rfl ?_
  refine lv_aload_n hx hb d_LS_init_4 rfl (lv_at hl 0 rfl) ?_
  refine va_new (ci := 1) (fs := [.null, .int 0]) (C := R_TX) (T := T_TX) (N := 2) hx hb hts in_TX t_TX t_TX_ok hown (hts _ k_30) (hts _ k_31) (hts _ k_2) hK hP hD hS hA rfl (fun j hj => dv_TX j hj) (Nat.le_of_ble_eq_true rfl) (Nat.le_of_ble_eq_true rfl) d_LS_init_5 (fun q1 H1 hP hD hS => ?_)
  have hP : va_P (dC, dI) cls [(h0, .inr (0, [.null, .null, .null, .null, .null, .null, .null, .null, .null, .null, .null, .null, .int 0, .int 0, .int 0, .int 0])), (q1, .inr (1, [.null, .int 0]))] H1 := hP
  have hD : va_D A [(h0, .inr (0, [.null, .null, .null, .null, .null, .null, .null, .null, .null, .null, .null, .null, .int 0, .int 0, .int 0, .int 0])), (q1, .inr (1, [.null, .int 0]))] := hD
  refine W.widen (k := 1) (n := 2) (Nat.le_of_ble_eq_true rfl) (Nat.le_of_ble_eq_true rfl) ?_
  refine lv_dup hx hb d_LS_init_8 rfl ?_
  have hPc := hP.sub (ws' := [(q1, .inr (1, [.null, .int 0]))]) [1] rfl
  have hDc := hD.sub (ws' := [(q1, .inr (1, [.null, .int 0]))]) [1] (by decide) rfl
  have hKc := hK.sub (tys' := []) [] rfl
  have hFc := va_free (wc := [(q1, .inr (1, [.null, .int 0]))]) hD hS hA [1] rfl
  refine va_callv (va_runIN (As := []) (rest := [.ref q1, .ref h0]) ⟨hx, hb, hml, hown, hts⟩ (c_TX_init l dC dI (q1) H1.size) (wd_IN 0 hts k_34 k_2 (hN.1 _ nw_0) k_33 rfl rfl rfl (by decide +kernel) ⟨Nat.le_of_ble_eq_true rfl, Nat.le_of_ble_eq_true rfl⟩) ⟨fun a U g mk q => by obtain ⟨q0, q1, qP, qK, qD, qN⟩ := q; exact ⟨q0, q1, qP, va_K.moved (u := U) (U := U.calling g mk a) (Vm.Alike.refl U.vm) qK, qD, nw_ok.same (s := U) (U := U.calling g mk a) rfl qN⟩, fun U hU hW => ⟨rfl, by rw [hU], by rw [hU]; exact hPc, va_K.moved hW.alike hKc, hDc.weaken (fun _ _ _ _ => trivial), nw_ok.warm hW hN⟩⟩ rfl rfl hl.1 rfl (lv_room (Nat.le_of_ble_eq_true rfl)) d_LS_init_9 ⟨Nat.le_of_ble_eq_true rfl, Nat.le_of_ble_eq_true rfl⟩) hS (fun q _ h => hFc q h) hFc (fun u t H2 locs ht hvm hr1 hB hz1 hk1 hS => ?_)
  obtain ⟨q2, cA1, hP1, hK1, hD1⟩ := hB
  rw [ht] at hP1
  have hK1 := va_K.moved hvm.symm hK1
  obtain ⟨hP, hD⟩ := va_join (wr := [(h0, .inr (0, [.null, .null, .null, .null, .null, .null, .null, .null, .null, .null, .null, .null, .int 0, .int 0, .int 0, .int 0]))]) (w1 := [(q1, .inr (1, [.ref q2, .int 0])), (q2, .inl (cA1, 300, .inl (fun _ => (0 : Int32))))]) hP hD [1] [0] rfl rfl (by decide) (by decide) hk1 hFc hP1 hD1
  have hK := (hK.sub (tys' := []) [] rfl).app hK1
  have hK : va_K (dC, dI) cls [(cA1, .byte)] s := hK
  have hP : va_P (dC, dI) cls [(h0, .inr (0, [.null, .null, .null, .null, .null, .null, .null, .null, .null, .null, .null, .null, .int 0, .int 0, .int 0, .int 0])), (q1, .inr (1, [.ref q2, .int 0])), (q2, .inl (cA1, 300, .inl (fun _ => (0 : Int32))))] H2 := hP
  have hD : va_D A [(h0, .inr (0, [.null, .null, .null, .null, .null, .null, .null, .null, .null, .null, .null, .null, .int 0, .int 0, .int 0, .int 0])), (q1, .inr (1, [.ref q2, .int 0])), (q2, .inl (cA1, 300, .inl (fun _ => (0 : Int32))))] := hD
  refine W.widen (k := 2) (n := 302) (Nat.le_of_ble_eq_true rfl) (Nat.le_of_ble_eq_true rfl) ?_
  refine va_putF (D := (dC, dI)) (ci := 0) (v := .ref q1) (ty := (.object "LeastSolutions$Text")) (C := R_LS) (T := T_LS) (N := 16) hx hb hts in_LS t_LS t_LS_ok n_LS hown hK hP hD hS 0 rfl rfl 0 (by decide) (hts _ k_289) (fun _ h9 => h9) rfl hin rfl (by decide +kernel) rfl rfl (Nat.le_of_ble_eq_true rfl) d_LS_init_12 (fun H3 locs hP hD hS => ?_)
  have hP : va_P (dC, dI) cls [(h0, .inr (0, [.ref q1, .null, .null, .null, .null, .null, .null, .null, .null, .null, .null, .null, .int 0, .int 0, .int 0, .int 0])), (q1, .inr (1, [.ref q2, .int 0])), (q2, .inl (cA1, 300, .inl (fun _ => (0 : Int32))))] H3 := hP
  have hD : va_D A [(h0, .inr (0, [.ref q1, .null, .null, .null, .null, .null, .null, .null, .null, .null, .null, .null, .int 0, .int 0, .int 0, .int 0])), (q1, .inr (1, [.ref q2, .int 0])), (q2, .inl (cA1, 300, .inl (fun _ => (0 : Int32))))] := hD
  refine lv_aload_n hx hb d_LS_init_15 rfl (lv_at hl 0 rfl) ?_
  refine va_new (ci := 2) (fs := [.null, .null, .null, .int 0, .int 0, .int 0, .int 0]) (C := R_WO) (T := T_WO) (N := 7) hx hb hts in_WO t_WO t_WO_ok hown (hts _ k_46) (hts _ k_47) (hts _ k_3) hK hP hD hS hA rfl (fun j hj => dv_WO j hj) (Nat.le_of_ble_eq_true rfl) (Nat.le_of_ble_eq_true rfl) d_LS_init_16 (fun q3 H4 hP hD hS => ?_)
  have hP : va_P (dC, dI) cls [(h0, .inr (0, [.ref q1, .null, .null, .null, .null, .null, .null, .null, .null, .null, .null, .null, .int 0, .int 0, .int 0, .int 0])), (q1, .inr (1, [.ref q2, .int 0])), (q2, .inl (cA1, 300, .inl (fun _ => (0 : Int32)))), (q3, .inr (2, [.null, .null, .null, .int 0, .int 0, .int 0, .int 0]))] H4 := hP
  have hD : va_D A [(h0, .inr (0, [.ref q1, .null, .null, .null, .null, .null, .null, .null, .null, .null, .null, .null, .int 0, .int 0, .int 0, .int 0])), (q1, .inr (1, [.ref q2, .int 0])), (q2, .inl (cA1, 300, .inl (fun _ => (0 : Int32)))), (q3, .inr (2, [.null, .null, .null, .int 0, .int 0, .int 0, .int 0]))] := hD
  refine W.widen (k := 3) (n := 309) (Nat.le_of_ble_eq_true rfl) (Nat.le_of_ble_eq_true rfl) ?_
  refine lv_dup hx hb d_LS_init_19 rfl ?_
  have hPc := hP.sub (ws' := [(q3, .inr (2, [.null, .null, .null, .int 0, .int 0, .int 0, .int 0]))]) [3] rfl
  have hDc := hD.sub (ws' := [(q3, .inr (2, [.null, .null, .null, .int 0, .int 0, .int 0, .int 0]))]) [3] (by decide) rfl
  have hKc := hK.sub (tys' := []) [] rfl
  have hFc := va_free (wc := [(q3, .inr (2, [.null, .null, .null, .int 0, .int 0, .int 0, .int 0]))]) hD hS hA [3] rfl
  refine va_callv (va_runIN (As := []) (rest := [.ref q3, .ref h0]) ⟨hx, hb, hml, hown, hts⟩ (c_WO_init l dC dI (q3) H4.size) (wd_IN 0 hts k_50 k_3 (hN.1 _ nw_3) k_49 rfl rfl rfl (by decide +kernel) ⟨Nat.le_of_ble_eq_true rfl, Nat.le_of_ble_eq_true rfl⟩) ⟨fun a U g mk q => by obtain ⟨q0, q1, qP, qK, qD, qN⟩ := q; exact ⟨q0, q1, qP, va_K.moved (u := U) (U := U.calling g mk a) (Vm.Alike.refl U.vm) qK, qD, nw_ok.same (s := U) (U := U.calling g mk a) rfl qN⟩, fun U hU hW => ⟨rfl, by rw [hU], by rw [hU]; exact hPc, va_K.moved hW.alike hKc, hDc.weaken (fun _ _ _ _ => trivial), nw_ok.warm hW hN⟩⟩ rfl rfl hl.1 rfl (lv_room (Nat.le_of_ble_eq_true rfl)) d_LS_init_20 ⟨Nat.le_of_ble_eq_true rfl, Nat.le_of_ble_eq_true rfl⟩) hS (fun q _ h => hFc q h) hFc (fun u t H5 locs ht hvm hr2 hB hz1 hk1 hS => ?_)
  obtain ⟨q4, q5, q6, hP1, hK1, hD1⟩ := hB
  rw [ht] at hP1
  have hK1 := va_K.moved hvm.symm hK1
  obtain ⟨hP, hD⟩ := va_join (wr := [(h0, .inr (0, [.ref q1, .null, .null, .null, .null, .null, .null, .null, .null, .null, .null, .null, .int 0, .int 0, .int 0, .int 0])), (q1, .inr (1, [.ref q2, .int 0])), (q2, .inl (cA1, 300, .inl (fun _ => (0 : Int32))))]) (w1 := [(q3, .inr (2, [.ref q4, .ref q5, .ref q6, .int 0, .int 0, .int 0, .int (-1)]))]) hP hD [3] [0, 1, 2] rfl rfl (by decide) (by decide) hk1 hFc hP1 hD1
  have hK := (hK.sub (tys' := [(cA1, .byte)]) [0] rfl).app hK1
  have hK : va_K (dC, dI) cls [(cA1, .byte)] s := hK
  have hP : va_P (dC, dI) cls [(h0, .inr (0, [.ref q1, .null, .null, .null, .null, .null, .null, .null, .null, .null, .null, .null, .int 0, .int 0, .int 0, .int 0])), (q1, .inr (1, [.ref q2, .int 0])), (q2, .inl (cA1, 300, .inl (fun _ => (0 : Int32)))), (q3, .inr (2, [.ref q4, .ref q5, .ref q6, .int 0, .int 0, .int 0, .int (-1)]))] H5 := hP
  have hD : va_D A [(h0, .inr (0, [.ref q1, .null, .null, .null, .null, .null, .null, .null, .null, .null, .null, .null, .int 0, .int 0, .int 0, .int 0])), (q1, .inr (1, [.ref q2, .int 0])), (q2, .inl (cA1, 300, .inl (fun _ => (0 : Int32)))), (q3, .inr (2, [.ref q4, .ref q5, .ref q6, .int 0, .int 0, .int 0, .int (-1)]))] := hD
  refine W.widen (k := 6) (n := 1209) (Nat.le_of_ble_eq_true rfl) (Nat.le_of_ble_eq_true rfl) ?_
  refine va_putF (D := (dC, dI)) (ci := 0) (v := .ref q3) (ty := (.object "LeastSolutions$Words")) (C := R_LS) (T := T_LS) (N := 16) hx hb hts in_LS t_LS t_LS_ok n_LS hown hK hP hD hS 0 rfl rfl 1 (by decide) (hts _ k_290) (fun _ h9 => h9) rfl hin rfl (by decide +kernel) rfl rfl (Nat.le_of_ble_eq_true rfl) d_LS_init_23 (fun H6 locs hP hD hS => ?_)
  have hP : va_P (dC, dI) cls [(h0, .inr (0, [.ref q1, .ref q3, .null, .null, .null, .null, .null, .null, .null, .null, .null, .null, .int 0, .int 0, .int 0, .int 0])), (q1, .inr (1, [.ref q2, .int 0])), (q2, .inl (cA1, 300, .inl (fun _ => (0 : Int32)))), (q3, .inr (2, [.ref q4, .ref q5, .ref q6, .int 0, .int 0, .int 0, .int (-1)]))] H6 := hP
  have hD : va_D A [(h0, .inr (0, [.ref q1, .ref q3, .null, .null, .null, .null, .null, .null, .null, .null, .null, .null, .int 0, .int 0, .int 0, .int 0])), (q1, .inr (1, [.ref q2, .int 0])), (q2, .inl (cA1, 300, .inl (fun _ => (0 : Int32)))), (q3, .inr (2, [.ref q4, .ref q5, .ref q6, .int 0, .int 0, .int 0, .int (-1)]))] := hD
  refine lv_aload_n hx hb d_LS_init_26 rfl (lv_at hl 0 rfl) ?_
  refine va_new (ci := 3) (fs := [.null, .int 0, .int 0, .int 0, .int 0, .int 0, .int 0, .int 0]) (C := R_BU) (T := T_BU) (N := 8) hx hb hts in_BU t_BU t_BU_ok hown (hts _ k_80) (hts _ k_81) (hts _ k_4) hK hP hD hS hA rfl (fun j hj => dv_BU j hj) (Nat.le_of_ble_eq_true rfl) (Nat.le_of_ble_eq_true rfl) d_LS_init_27 (fun q7 H7 hP hD hS => ?_)
  have hP : va_P (dC, dI) cls [(h0, .inr (0, [.ref q1, .ref q3, .null, .null, .null, .null, .null, .null, .null, .null, .null, .null, .int 0, .int 0, .int 0, .int 0])), (q1, .inr (1, [.ref q2, .int 0])), (q2, .inl (cA1, 300, .inl (fun _ => (0 : Int32)))), (q3, .inr (2, [.ref q4, .ref q5, .ref q6, .int 0, .int 0, .int 0, .int (-1)])), (q7, .inr (3, [.null, .int 0, .int 0, .int 0, .int 0, .int 0, .int 0, .int 0]))] H7 := hP
  have hD : va_D A [(h0, .inr (0, [.ref q1, .ref q3, .null, .null, .null, .null, .null, .null, .null, .null, .null, .null, .int 0, .int 0, .int 0, .int 0])), (q1, .inr (1, [.ref q2, .int 0])), (q2, .inl (cA1, 300, .inl (fun _ => (0 : Int32)))), (q3, .inr (2, [.ref q4, .ref q5, .ref q6, .int 0, .int 0, .int 0, .int (-1)])), (q7, .inr (3, [.null, .int 0, .int 0, .int 0, .int 0, .int 0, .int 0, .int 0]))] := hD
  refine W.widen (k := 7) (n := 1217) (Nat.le_of_ble_eq_true rfl) (Nat.le_of_ble_eq_true rfl) ?_
  refine lv_dup hx hb d_LS_init_30 rfl ?_
  have hPc := hP.sub (ws' := [(q7, .inr (3, [.null, .int 0, .int 0, .int 0, .int 0, .int 0, .int 0, .int 0]))]) [4] rfl
  have hDc := hD.sub (ws' := [(q7, .inr (3, [.null, .int 0, .int 0, .int 0, .int 0, .int 0, .int 0, .int 0]))]) [4] (by decide) rfl
  have hKc := hK.sub (tys' := []) [] rfl
  have hFc := va_free (wc := [(q7, .inr (3, [.null, .int 0, .int 0, .int 0, .int 0, .int 0, .int 0, .int 0]))]) hD hS hA [4] rfl
  refine va_callv (va_runIN (As := []) (rest := [.ref q7, .ref h0]) ⟨hx, hb, hml, hown, hts⟩ (c_BU_init l dC dI (q7) H7.size) (wd_IN 0 hts k_84 k_4 (hN.1 _ nw_9) k_83 rfl rfl rfl (by decide +kernel) ⟨Nat.le_of_ble_eq_true rfl, Nat.le_of_ble_eq_true rfl⟩) ⟨fun a U g mk q => by obtain ⟨q0, q1, qP, qK, qD, qN⟩ := q; exact ⟨q0, q1, qP, va_K.moved (u := U) (U := U.calling g mk a) (Vm.Alike.refl U.vm) qK, qD, nw_ok.same (s := U) (U := U.calling g mk a) rfl qN⟩, fun U hU hW => ⟨rfl, by rw [hU], by rw [hU]; exact hPc, va_K.moved hW.alike hKc, hDc.weaken (fun _ _ _ _ => trivial), nw_ok.warm hW hN⟩⟩ rfl rfl hl.1 rfl (lv_room (Nat.le_of_ble_eq_true rfl)) d_LS_init_31 ⟨Nat.le_of_ble_eq_true rfl, Nat.le_of_ble_eq_true rfl⟩) hS (fun q _ h => hFc q h) hFc (fun u t H8 locs ht hvm hr3 hB hz1 hk1 hS => ?_)
  obtain ⟨hP1, hK1, hD1⟩ := hB
  rw [ht] at hP1
  have hK1 := va_K.moved hvm.symm hK1
  obtain ⟨hP, hD⟩ := va_join (wr := [(h0, .inr (0, [.ref q1, .ref q3, .null, .null, .null, .null, .null, .null, .null, .null, .null, .null, .int 0, .int 0, .int 0, .int 0])), (q1, .inr (1, [.ref q2, .int 0])), (q2, .inl (cA1, 300, .inl (fun _ => (0 : Int32)))), (q3, .inr (2, [.ref q4, .ref q5, .ref q6, .int 0, .int 0, .int 0, .int (-1)]))]) (w1 := []) hP hD [4] [0, 1, 2, 3] rfl rfl (by decide) (by decide) hk1 hFc hP1 hD1
  have hK := (hK.sub (tys' := [(cA1, .byte)]) [0] rfl).app hK1
  have hK : va_K (dC, dI) cls [(cA1, .byte)] s := hK
  have hP : va_P (dC, dI) cls [(h0, .inr (0, [.ref q1, .ref q3, .null, .null, .null, .null, .null, .null, .null, .null, .null, .null, .int 0, .int 0, .int 0, .int 0])), (q1, .inr (1, [.ref q2, .int 0])), (q2, .inl (cA1, 300, .inl (fun _ => (0 : Int32)))), (q3, .inr (2, [.ref q4, .ref q5, .ref q6, .int 0, .int 0, .int 0, .int (-1)]))] H8 := hP
  have hD : va_D A [(h0, .inr (0, [.ref q1, .ref q3, .null, .null, .null, .null, .null, .null, .null, .null, .null, .null, .int 0, .int 0, .int 0, .int 0])), (q1, .inr (1, [.ref q2, .int 0])), (q2, .inl (cA1, 300, .inl (fun _ => (0 : Int32)))), (q3, .inr (2, [.ref q4, .ref q5, .ref q6, .int 0, .int 0, .int 0, .int (-1)]))] := hD
  refine W.widen (k := 17) (n := 1275) (Nat.le_of_ble_eq_true rfl) (Nat.le_of_ble_eq_true rfl) ?_
  refine va_putF (D := (dC, dI)) (ci := 0) (v := .ref q7) (ty := (.object "LeastSolutions$Builder")) (C := R_LS) (T := T_LS) (N := 16) hx hb hts in_LS t_LS t_LS_ok n_LS hown hK hP hD hS 0 rfl rfl 2 (by decide) (hts _ k_291) (fun _ h9 => h9) rfl hin rfl (by decide +kernel) rfl rfl (Nat.le_of_ble_eq_true rfl) d_LS_init_34 (fun H9 locs hP hD hS => ?_)
  have hP : va_P (dC, dI) cls [(h0, .inr (0, [.ref q1, .ref q3, .ref q7, .null, .null, .null, .null, .null, .null, .null, .null, .null, .int 0, .int 0, .int 0, .int 0])), (q1, .inr (1, [.ref q2, .int 0])), (q2, .inl (cA1, 300, .inl (fun _ => (0 : Int32)))), (q3, .inr (2, [.ref q4, .ref q5, .ref q6, .int 0, .int 0, .int 0, .int (-1)]))] H9 := hP
  have hD : va_D A [(h0, .inr (0, [.ref q1, .ref q3, .ref q7, .null, .null, .null, .null, .null, .null, .null, .null, .null, .int 0, .int 0, .int 0, .int 0])), (q1, .inr (1, [.ref q2, .int 0])), (q2, .inl (cA1, 300, .inl (fun _ => (0 : Int32)))), (q3, .inr (2, [.ref q4, .ref q5, .ref q6, .int 0, .int 0, .int 0, .int (-1)]))] := hD
  refine lv_aload_n hx hb d_LS_init_37 rfl (lv_at hl 0 rfl) ?_
  refine va_new (ci := 5) (fs := [.null, .null, .null, .null, .null, .int 0, .int 0, .int 0, .int 0]) (C := R_LA) (T := T_LA) (N := 9) hx hb hts in_LA t_LA t_LA_ok hown (hts _ k_159) (hts _ k_160) (hts _ k_6) hK hP hD hS hA rfl (fun j hj => dv_LA j hj) (Nat.le_of_ble_eq_true rfl) (Nat.le_of_ble_eq_true rfl) d_LS_init_38 (fun q8 H10 hP hD hS => ?_)
  have hP : va_P (dC, dI) cls [(h0, .inr (0, [.ref q1, .ref q3, .ref q7, .null, .null, .null, .null, .null, .null, .null, .null, .null, .int 0, .int 0, .int 0, .int 0])), (q1, .inr (1, [.ref q2, .int 0])), (q2, .inl (cA1, 300, .inl (fun _ => (0 : Int32)))), (q3, .inr (2, [.ref q4, .ref q5, .ref q6, .int 0, .int 0, .int 0, .int (-1)])), (q8, .inr (5, [.null, .null, .null, .null, .null, .int 0, .int 0, .int 0, .int 0]))] H10 := hP
  have hD : va_D A [(h0, .inr (0, [.ref q1, .ref q3, .ref q7, .null, .null, .null, .null, .null, .null, .null, .null, .null, .int 0, .int 0, .int 0, .int 0])), (q1, .inr (1, [.ref q2, .int 0])), (q2, .inl (cA1, 300, .inl (fun _ => (0 : Int32)))), (q3, .inr (2, [.ref q4, .ref q5, .ref q6, .int 0, .int 0, .int 0, .int (-1)])), (q8, .inr (5, [.null, .null, .null, .null, .null, .int 0, .int 0, .int 0, .int 0]))] := hD
  refine W.widen (k := 18) (n := 1284) (Nat.le_of_ble_eq_true rfl) (Nat.le_of_ble_eq_true rfl) ?_
  refine lv_dup hx hb d_LS_init_41 rfl ?_
  have hPc := hP.sub (ws' := [(q8, .inr (5, [.null, .null, .null, .null, .null, .int 0, .int 0, .int 0, .int 0]))]) [4] rfl
  have hDc := hD.sub (ws' := [(q8, .inr (5, [.null, .null, .null, .null, .null, .int 0, .int 0, .int 0, .int 0]))]) [4] (by decide) rfl
  have hKc := hK.sub (tys' := []) [] rfl
  have hFc := va_free (wc := [(q8, .inr (5, [.null, .null, .null, .null, .null, .int 0, .int 0, .int 0, .int 0]))]) hD hS hA [4] rfl
  refine va_callv (va_runIN (As := []) (rest := [.ref q8, .ref h0]) ⟨hx, hb, hml, hown, hts⟩ (c_LA_init l dC dI (q8) H10.size) (wd_IN 0 hts k_163 k_6 (hN.1 _ nw_26) k_162 rfl rfl rfl (by decide +kernel) ⟨Nat.le_of_ble_eq_true rfl, Nat.le_of_ble_eq_true rfl⟩) ⟨fun a U g mk q => by obtain ⟨q0, q1, qP, qK, qD, qN⟩ := q; exact ⟨q0, q1, qP, va_K.moved (u := U) (U := U.calling g mk a) (Vm.Alike.refl U.vm) qK, qD, nw_ok.same (s := U) (U := U.calling g mk a) rfl qN⟩, fun U hU hW => ⟨rfl, by rw [hU], by rw [hU]; exact hPc, va_K.moved hW.alike hKc, hDc.weaken (fun _ _ _ _ => trivial), nw_ok.warm hW hN⟩⟩ rfl rfl hl.1 rfl (lv_room (Nat.le_of_ble_eq_true rfl)) d_LS_init_42 ⟨Nat.le_of_ble_eq_true rfl, Nat.le_of_ble_eq_true rfl⟩) hS (fun q _ h => hFc q h) hFc (fun u t H11 locs ht hvm hr4 hB hz1 hk1 hS => ?_)
  obtain ⟨q9, q10, q11, q12, q13, hP1, hK1, hD1⟩ := hB
  rw [ht] at hP1
  have hK1 := va_K.moved hvm.symm hK1
  obtain ⟨hP, hD⟩ := va_join (wr := [(h0, .inr (0, [.ref q1, .ref q3, .ref q7, .null, .null, .null, .null, .null, .null, .null, .null, .null, .int 0, .int 0, .int 0, .int 0])), (q1, .inr (1, [.ref q2, .int 0])), (q2, .inl (cA1, 300, .inl (fun _ => (0 : Int32)))), (q3, .inr (2, [.ref q4, .ref q5, .ref q6, .int 0, .int 0, .int 0, .int (-1)]))]) (w1 := [(q8, .inr (5, [.ref q9, .ref q10, .ref q11, .ref q12, .ref q13, .int 0, .int 0, .int 0, .int 0]))]) hP hD [4] [0, 1, 2, 3] rfl rfl (by decide) (by decide) hk1 hFc hP1 hD1
  have hK := (hK.sub (tys' := [(cA1, .byte)]) [0] rfl).app hK1
  have hK : va_K (dC, dI) cls [(cA1, .byte)] s := hK
  have hP : va_P (dC, dI) cls [(h0, .inr (0, [.ref q1, .ref q3, .ref q7, .null, .null, .null, .null, .null, .null, .null, .null, .null, .int 0, .int 0, .int 0, .int 0])), (q1, .inr (1, [.ref q2, .int 0])), (q2, .inl (cA1, 300, .inl (fun _ => (0 : Int32)))), (q3, .inr (2, [.ref q4, .ref q5, .ref q6, .int 0, .int 0, .int 0, .int (-1)])), (q8, .inr (5, [.ref q9, .ref q10, .ref q11, .ref q12, .ref q13, .int 0, .int 0, .int 0, .int 0]))] H11 := hP
  have hD : va_D A [(h0, .inr (0, [.ref q1, .ref q3, .ref q7, .null, .null, .null, .null, .null, .null, .null, .null, .null, .int 0, .int 0, .int 0, .int 0])), (q1, .inr (1, [.ref q2, .int 0])), (q2, .inl (cA1, 300, .inl (fun _ => (0 : Int32)))), (q3, .inr (2, [.ref q4, .ref q5, .ref q6, .int 0, .int 0, .int 0, .int (-1)])), (q8, .inr (5, [.ref q9, .ref q10, .ref q11, .ref q12, .ref q13, .int 0, .int 0, .int 0, .int 0]))] := hD
  refine W.widen (k := 29) (n := 1380) (Nat.le_of_ble_eq_true rfl) (Nat.le_of_ble_eq_true rfl) ?_
  refine va_putF (D := (dC, dI)) (ci := 0) (v := .ref q8) (ty := (.object "LeastSolutions$Lattice")) (C := R_LS) (T := T_LS) (N := 16) hx hb hts in_LS t_LS t_LS_ok n_LS hown hK hP hD hS 0 rfl rfl 3 (by decide) (hts _ k_292) (fun _ h9 => h9) rfl hin rfl (by decide +kernel) rfl rfl (Nat.le_of_ble_eq_true rfl) d_LS_init_45 (fun H12 locs hP hD hS => ?_)
  have hP : va_P (dC, dI) cls [(h0, .inr (0, [.ref q1, .ref q3, .ref q7, .ref q8, .null, .null, .null, .null, .null, .null, .null, .null, .int 0, .int 0, .int 0, .int 0])), (q1, .inr (1, [.ref q2, .int 0])), (q2, .inl (cA1, 300, .inl (fun _ => (0 : Int32)))), (q3, .inr (2, [.ref q4, .ref q5, .ref q6, .int 0, .int 0, .int 0, .int (-1)])), (q8, .inr (5, [.ref q9, .ref q10, .ref q11, .ref q12, .ref q13, .int 0, .int 0, .int 0, .int 0]))] H12 := hP
  have hD : va_D A [(h0, .inr (0, [.ref q1, .ref q3, .ref q7, .ref q8, .null, .null, .null, .null, .null, .null, .null, .null, .int 0, .int 0, .int 0, .int 0])), (q1, .inr (1, [.ref q2, .int 0])), (q2, .inl (cA1, 300, .inl (fun _ => (0 : Int32)))), (q3, .inr (2, [.ref q4, .ref q5, .ref q6, .int 0, .int 0, .int 0, .int (-1)])), (q8, .inr (5, [.ref q9, .ref q10, .ref q11, .ref q12, .ref q13, .int 0, .int 0, .int 0, .int 0]))] := hD
  refine lv_aload_n hx hb d_LS_init_48 rfl (lv_at hl 0 rfl) ?_
  refine va_new (ci := 6) (fs := [.null, .null, .null, .null, .null, .int 0, .int 0, .int 0]) (C := R_SE) (T := T_SE) (N := 8) hx hb hts in_SE t_SE t_SE_ok hown (hts _ k_197) (hts _ k_198) (hts _ k_7) hK hP hD hS hA rfl (fun j hj => dv_SE j hj) (Nat.le_of_ble_eq_true rfl) (Nat.le_of_ble_eq_true rfl) d_LS_init_49 (fun q14 H13 hP hD hS => ?_)
  have hP : va_P (dC, dI) cls [(h0, .inr (0, [.ref q1, .ref q3, .ref q7, .ref q8, .null, .null, .null, .null, .null, .null, .null, .null, .int 0, .int 0, .int 0, .int 0])), (q1, .inr (1, [.ref q2, .int 0])), (q2, .inl (cA1, 300, .inl (fun _ => (0 : Int32)))), (q3, .inr (2, [.ref q4, .ref q5, .ref q6, .int 0, .int 0, .int 0, .int (-1)])), (q8, .inr (5, [.ref q9, .ref q10, .ref q11, .ref q12, .ref q13, .int 0, .int 0, .int 0, .int 0])), (q14, .inr (6, [.null, .null, .null, .null, .null, .int 0, .int 0, .int 0]))] H13 := hP
  have hD : va_D A [(h0, .inr (0, [.ref q1, .ref q3, .ref q7, .ref q8, .null, .null, .null, .null, .null, .null, .null, .null, .int 0, .int 0, .int 0, .int 0])), (q1, .inr (1, [.ref q2, .int 0])), (q2, .inl (cA1, 300, .inl (fun _ => (0 : Int32)))), (q3, .inr (2, [.ref q4, .ref q5, .ref q6, .int 0, .int 0, .int 0, .int (-1)])), (q8, .inr (5, [.ref q9, .ref q10, .ref q11, .ref q12, .ref q13, .int 0, .int 0, .int 0, .int 0])), (q14, .inr (6, [.null, .null, .null, .null, .null, .int 0, .int 0, .int 0]))] := hD
  refine W.widen (k := 30) (n := 1388) (Nat.le_of_ble_eq_true rfl) (Nat.le_of_ble_eq_true rfl) ?_
  refine lv_dup hx hb d_LS_init_52 rfl ?_
  have hPc := hP.sub (ws' := [(q14, .inr (6, [.null, .null, .null, .null, .null, .int 0, .int 0, .int 0]))]) [5] rfl
  have hDc := hD.sub (ws' := [(q14, .inr (6, [.null, .null, .null, .null, .null, .int 0, .int 0, .int 0]))]) [5] (by decide) rfl
  have hKc := hK.sub (tys' := []) [] rfl
  have hFc := va_free (wc := [(q14, .inr (6, [.null, .null, .null, .null, .null, .int 0, .int 0, .int 0]))]) hD hS hA [5] rfl
  refine va_callv (va_runIN (As := []) (rest := [.ref q14, .ref h0]) ⟨hx, hb, hml, hown, hts⟩ (c_SE_init l dC dI (q14) H13.size) (wd_IN 0 hts k_201 k_7 (hN.1 _ nw_28) k_200 rfl rfl rfl (by decide +kernel) ⟨Nat.le_of_ble_eq_true rfl, Nat.le_of_ble_eq_true rfl⟩) ⟨fun a U g mk q => by obtain ⟨q0, q1, qP, qK, qD, qN⟩ := q; exact ⟨q0, q1, qP, va_K.moved (u := U) (U := U.calling g mk a) (Vm.Alike.refl U.vm) qK, qD, nw_ok.same (s := U) (U := U.calling g mk a) rfl qN⟩, fun U hU hW => ⟨rfl, by rw [hU], by rw [hU]; exact hPc, va_K.moved hW.alike hKc, hDc.weaken (fun _ _ _ _ => trivial), nw_ok.warm hW hN⟩⟩ rfl rfl hl.1 rfl (lv_room (Nat.le_of_ble_eq_true rfl)) d_LS_init_53 ⟨Nat.le_of_ble_eq_true rfl, Nat.le_of_ble_eq_true rfl⟩) hS (fun q _ h => hFc q h) hFc (fun u t H14 locs ht hvm hr5 hB hz1 hk1 hS => ?_)
  obtain ⟨hP1, hK1, hD1⟩ := hB
  rw [ht] at hP1
  have hK1 := va_K.moved hvm.symm hK1
  obtain ⟨hP, hD⟩ := va_join (wr := [(h0, .inr (0, [.ref q1, .ref q3, .ref q7, .ref q8, .null, .null, .null, .null, .null, .null, .null, .null, .int 0, .int 0, .int 0, .int 0])), (q1, .inr (1, [.ref q2, .int 0])), (q2, .inl (cA1, 300, .inl (fun _ => (0 : Int32)))), (q3, .inr (2, [.ref q4, .ref q5, .ref q6, .int 0, .int 0, .int 0, .int (-1)])), (q8, .inr (5, [.ref q9, .ref q10, .ref q11, .ref q12, .ref q13, .int 0, .int 0, .int 0, .int 0]))]) (w1 := []) hP hD [5] [0, 1, 2, 3, 4] rfl rfl (by decide) (by decide) hk1 hFc hP1 hD1
  have hK := (hK.sub (tys' := [(cA1, .byte)]) [0] rfl).app hK1
  have hK : va_K (dC, dI) cls [(cA1, .byte)] s := hK
  have hP : va_P (dC, dI) cls [(h0, .inr (0, [.ref q1, .ref q3, .ref q7, .ref q8, .null, .null, .null, .null, .null, .null, .null, .null, .int 0, .int 0, .int 0, .int 0])), (q1, .inr (1, [.ref q2, .int 0])), (q2, .inl (cA1, 300, .inl (fun _ => (0 : Int32)))), (q3, .inr (2, [.ref q4, .ref q5, .ref q6, .int 0, .int 0, .int 0, .int (-1)])), (q8, .inr (5, [.ref q9, .ref q10, .ref q11, .ref q12, .ref q13, .int 0, .int 0, .int 0, .int 0]))] H14 := hP
  have hD : va_D A [(h0, .inr (0, [.ref q1, .ref q3, .ref q7, .ref q8, .null, .null, .null, .null, .null, .null, .null, .null, .int 0, .int 0, .int 0, .int 0])), (q1, .inr (1, [.ref q2, .int 0])), (q2, .inl (cA1, 300, .inl (fun _ => (0 : Int32)))), (q3, .inr (2, [.ref q4, .ref q5, .ref q6, .int 0, .int 0, .int 0, .int (-1)])), (q8, .inr (5, [.ref q9, .ref q10, .ref q11, .ref q12, .ref q13, .int 0, .int 0, .int 0, .int 0]))] := hD
  refine W.widen (k := 47) (n := 1490) (Nat.le_of_ble_eq_true rfl) (Nat.le_of_ble_eq_true rfl) ?_
  refine va_putF (D := (dC, dI)) (ci := 0) (v := .ref q14) (ty := (.object "LeastSolutions$Search")) (C := R_LS) (T := T_LS) (N := 16) hx hb hts in_LS t_LS t_LS_ok n_LS hown hK hP hD hS 0 rfl rfl 4 (by decide) (hts _ k_293) (fun _ h9 => h9) rfl hin rfl (by decide +kernel) rfl rfl (Nat.le_of_ble_eq_true rfl) d_LS_init_56 (fun H15 locs hP hD hS => ?_)
  have hP : va_P (dC, dI) cls [(h0, .inr (0, [.ref q1, .ref q3, .ref q7, .ref q8, .ref q14, .null, .null, .null, .null, .null, .null, .null, .int 0, .int 0, .int 0, .int 0])), (q1, .inr (1, [.ref q2, .int 0])), (q2, .inl (cA1, 300, .inl (fun _ => (0 : Int32)))), (q3, .inr (2, [.ref q4, .ref q5, .ref q6, .int 0, .int 0, .int 0, .int (-1)])), (q8, .inr (5, [.ref q9, .ref q10, .ref q11, .ref q12, .ref q13, .int 0, .int 0, .int 0, .int 0]))] H15 := hP
  have hD : va_D A [(h0, .inr (0, [.ref q1, .ref q3, .ref q7, .ref q8, .ref q14, .null, .null, .null, .null, .null, .null, .null, .int 0, .int 0, .int 0, .int 0])), (q1, .inr (1, [.ref q2, .int 0])), (q2, .inl (cA1, 300, .inl (fun _ => (0 : Int32)))), (q3, .inr (2, [.ref q4, .ref q5, .ref q6, .int 0, .int 0, .int 0, .int (-1)])), (q8, .inr (5, [.ref q9, .ref q10, .ref q11, .ref q12, .ref q13, .int 0, .int 0, .int 0, .int 0]))] := hD
  refine lv_aload_n hx hb d_LS_init_59 rfl (lv_at hl 0 rfl) ?_
  refine lv_iconst (v := 3) hx hb d_LS_init_60 (by decide) ?_
  refine va_newq (C := "LeastSolutions$VectorList") (N' := 3) hx hb hown (hts _ k_229) hN.2.2.2 hK hP hD hS hA (by decide) (by decide) (by decide) (Nat.le_of_ble_eq_true rfl) (Nat.le_of_ble_eq_true rfl) d_LS_init_61 (fun q15 cA2 H16 hK hP hD hS => ?_)
  have hK : va_K (dC, dI) cls [(cA1, .byte), (cA2, .object "LeastSolutions$VectorList")] s := hK
  have hP : va_P (dC, dI) cls [(h0, .inr (0, [.ref q1, .ref q3, .ref q7, .ref q8, .ref q14, .null, .null, .null, .null, .null, .null, .null, .int 0, .int 0, .int 0, .int 0])), (q1, .inr (1, [.ref q2, .int 0])), (q2, .inl (cA1, 300, .inl (fun _ => (0 : Int32)))), (q3, .inr (2, [.ref q4, .ref q5, .ref q6, .int 0, .int 0, .int 0, .int (-1)])), (q8, .inr (5, [.ref q9, .ref q10, .ref q11, .ref q12, .ref q13, .int 0, .int 0, .int 0, .int 0])), (q15, .inl (cA2, 3, .inr (.inr (.inr (.inr (fun _ => none))))))] H16 := hP
  have hD : va_D A [(h0, .inr (0, [.ref q1, .ref q3, .ref q7, .ref q8, .ref q14, .null, .null, .null, .null, .null, .null, .null, .int 0, .int 0, .int 0, .int 0])), (q1, .inr (1, [.ref q2, .int 0])), (q2, .inl (cA1, 300, .inl (fun _ => (0 : Int32)))), (q3, .inr (2, [.ref q4, .ref q5, .ref q6, .int 0, .int 0, .int 0, .int (-1)])), (q8, .inr (5, [.ref q9, .ref q10, .ref q11, .ref q12, .ref q13, .int 0, .int 0, .int 0, .int 0])), (q15, .inl (cA2, 3, .inr (.inr (.inr (.inr (fun _ => none))))))] := hD
  refine W.widen (k := 48) (n := 1493) (Nat.le_of_ble_eq_true rfl) (Nat.le_of_ble_eq_true rfl) ?_
  refine va_putF (D := (dC, dI)) (ci := 0) (v := .ref q15) (ty := (.array (.object "LeastSolutions$VectorList"))) (C := R_LS) (T := T_LS) (N := 16) hx hb hts in_LS t_LS t_LS_ok n_LS hown hK hP hD hS 0 rfl rfl 5 (by decide) (hts _ k_294) (fun _ h9 => h9) rfl hin rfl (by decide +kernel) rfl rfl (Nat.le_of_ble_eq_true rfl) d_LS_init_64 (fun H17 locs hP hD hS => ?_)
  have hP : va_P (dC, dI) cls [(h0, .inr (0, [.ref q1, .ref q3, .ref q7, .ref q8, .ref q14, .ref q15, .null, .null, .null, .null, .null, .null, .int 0, .int 0, .int 0, .int 0])), (q1, .inr (1, [.ref q2, .int 0])), (q2, .inl (cA1, 300, .inl (fun _ => (0 : Int32)))), (q3, .inr (2, [.ref q4, .ref q5, .ref q6, .int 0, .int 0, .int 0, .int (-1)])), (q8, .inr (5, [.ref q9, .ref q10, .ref q11, .ref q12, .ref q13, .int 0, .int 0, .int 0, .int 0])), (q15, .inl (cA2, 3, .inr (.inr (.inr (.inr (fun _ => none))))))] H17 := hP
  have hD : va_D A [(h0, .inr (0, [.ref q1, .ref q3, .ref q7, .ref q8, .ref q14, .ref q15, .null, .null, .null, .null, .null, .null, .int 0, .int 0, .int 0, .int 0])), (q1, .inr (1, [.ref q2, .int 0])), (q2, .inl (cA1, 300, .inl (fun _ => (0 : Int32)))), (q3, .inr (2, [.ref q4, .ref q5, .ref q6, .int 0, .int 0, .int 0, .int (-1)])), (q8, .inr (5, [.ref q9, .ref q10, .ref q11, .ref q12, .ref q13, .int 0, .int 0, .int 0, .int 0])), (q15, .inl (cA2, 3, .inr (.inr (.inr (.inr (fun _ => none))))))] := hD
  refine lv_aload_n hx hb d_LS_init_67 rfl (lv_at hl 0 rfl) ?_
  refine va_new (ci := 8) (fs := [.null, .null, .int 0, .int 0, .int 0]) (C := R_CH) (T := T_CH) (N := 5) hx hb hts in_CH t_CH t_CH_ok hown (hts _ k_231) (hts _ k_232) (hts _ k_9) hK hP hD hS hA rfl (fun j hj => dv_CH j hj) (Nat.le_of_ble_eq_true rfl) (Nat.le_of_ble_eq_true rfl) d_LS_init_68 (fun q16 H18 hP hD hS => ?_)
  have hP : va_P (dC, dI) cls [(h0, .inr (0, [.ref q1, .ref q3, .ref q7, .ref q8, .ref q14, .ref q15, .null, .null, .null, .null, .null, .null, .int 0, .int 0, .int 0, .int 0])), (q1, .inr (1, [.ref q2, .int 0])), (q2, .inl (cA1, 300, .inl (fun _ => (0 : Int32)))), (q3, .inr (2, [.ref q4, .ref q5, .ref q6, .int 0, .int 0, .int 0, .int (-1)])), (q8, .inr (5, [.ref q9, .ref q10, .ref q11, .ref q12, .ref q13, .int 0, .int 0, .int 0, .int 0])), (q15, .inl (cA2, 3, .inr (.inr (.inr (.inr (fun _ => none)))))), (q16, .inr (8, [.null, .null, .int 0, .int 0, .int 0]))] H18 := hP
  have hD : va_D A [(h0, .inr (0, [.ref q1, .ref q3, .ref q7, .ref q8, .ref q14, .ref q15, .null, .null, .null, .null, .null, .null, .int 0, .int 0, .int 0, .int 0])), (q1, .inr (1, [.ref q2, .int 0])), (q2, .inl (cA1, 300, .inl (fun _ => (0 : Int32)))), (q3, .inr (2, [.ref q4, .ref q5, .ref q6, .int 0, .int 0, .int 0, .int (-1)])), (q8, .inr (5, [.ref q9, .ref q10, .ref q11, .ref q12, .ref q13, .int 0, .int 0, .int 0, .int 0])), (q15, .inl (cA2, 3, .inr (.inr (.inr (.inr (fun _ => none)))))), (q16, .inr (8, [.null, .null, .int 0, .int 0, .int 0]))] := hD
  refine W.widen (k := 49) (n := 1498) (Nat.le_of_ble_eq_true rfl) (Nat.le_of_ble_eq_true rfl) ?_
  refine lv_dup hx hb d_LS_init_71 rfl ?_
  have hPc := hP.sub (ws' := [(q16, .inr (8, [.null, .null, .int 0, .int 0, .int 0]))]) [6] rfl
  have hDc := hD.sub (ws' := [(q16, .inr (8, [.null, .null, .int 0, .int 0, .int 0]))]) [6] (by decide) rfl
  have hKc := hK.sub (tys' := []) [] rfl
  have hFc := va_free (wc := [(q16, .inr (8, [.null, .null, .int 0, .int 0, .int 0]))]) hD hS hA [6] rfl
  refine va_callv (va_runIN (As := []) (rest := [.ref q16, .ref h0]) ⟨hx, hb, hml, hown, hts⟩ (c_CH_init l dC dI (q16) H18.size) (wd_IN 0 hts k_235 k_9 (hN.1 _ nw_29) k_234 rfl rfl rfl (by decide +kernel) ⟨Nat.le_of_ble_eq_true rfl, Nat.le_of_ble_eq_true rfl⟩) ⟨fun a U g mk q => by obtain ⟨q0, q1, qP, qK, qD, qN⟩ := q; exact ⟨q0, q1, qP, va_K.moved (u := U) (U := U.calling g mk a) (Vm.Alike.refl U.vm) qK, qD, nw_ok.same (s := U) (U := U.calling g mk a) rfl qN⟩, fun U hU hW => ⟨rfl, by rw [hU], by rw [hU]; exact hPc, va_K.moved hW.alike hKc, hDc.weaken (fun _ _ _ _ => trivial), nw_ok.warm hW hN⟩⟩ rfl rfl hl.1 rfl (lv_room (Nat.le_of_ble_eq_true rfl)) d_LS_init_72 ⟨Nat.le_of_ble_eq_true rfl, Nat.le_of_ble_eq_true rfl⟩) hS (fun q _ h => hFc q h) hFc (fun u t H19 locs ht hvm hr6 hB hz1 hk1 hS => ?_)
  obtain ⟨hP1, hK1, hD1⟩ := hB
  rw [ht] at hP1
  have hK1 := va_K.moved hvm.symm hK1
  obtain ⟨hP, hD⟩ := va_join (wr := [(h0, .inr (0, [.ref q1, .ref q3, .ref q7, .ref q8, .ref q14, .ref q15, .null, .null, .null, .null, .null, .null, .int 0, .int 0, .int 0, .int 0])), (q1, .inr (1, [.ref q2, .int 0])), (q2, .inl (cA1, 300, .inl (fun _ => (0 : Int32)))), (q3, .inr (2, [.ref q4, .ref q5, .ref q6, .int 0, .int 0, .int 0, .int (-1)])), (q8, .inr (5, [.ref q9, .ref q10, .ref q11, .ref q12, .ref q13, .int 0, .int 0, .int 0, .int 0])), (q15, .inl (cA2, 3, .inr (.inr (.inr (.inr (fun _ => none))))))]) (w1 := []) hP hD [6] [0, 1, 2, 3, 4, 5] rfl rfl (by decide) (by decide) hk1 hFc hP1 hD1
  have hK := (hK.sub (tys' := [(cA1, .byte), (cA2, .object "LeastSolutions$VectorList")]) [0, 1] rfl).app hK1
  have hK : va_K (dC, dI) cls [(cA1, .byte), (cA2, .object "LeastSolutions$VectorList")] s := hK
  have hP : va_P (dC, dI) cls [(h0, .inr (0, [.ref q1, .ref q3, .ref q7, .ref q8, .ref q14, .ref q15, .null, .null, .null, .null, .null, .null, .int 0, .int 0, .int 0, .int 0])), (q1, .inr (1, [.ref q2, .int 0])), (q2, .inl (cA1, 300, .inl (fun _ => (0 : Int32)))), (q3, .inr (2, [.ref q4, .ref q5, .ref q6, .int 0, .int 0, .int 0, .int (-1)])), (q8, .inr (5, [.ref q9, .ref q10, .ref q11, .ref q12, .ref q13, .int 0, .int 0, .int 0, .int 0])), (q15, .inl (cA2, 3, .inr (.inr (.inr (.inr (fun _ => none))))))] H19 := hP
  have hD : va_D A [(h0, .inr (0, [.ref q1, .ref q3, .ref q7, .ref q8, .ref q14, .ref q15, .null, .null, .null, .null, .null, .null, .int 0, .int 0, .int 0, .int 0])), (q1, .inr (1, [.ref q2, .int 0])), (q2, .inl (cA1, 300, .inl (fun _ => (0 : Int32)))), (q3, .inr (2, [.ref q4, .ref q5, .ref q6, .int 0, .int 0, .int 0, .int (-1)])), (q8, .inr (5, [.ref q9, .ref q10, .ref q11, .ref q12, .ref q13, .int 0, .int 0, .int 0, .int 0])), (q15, .inl (cA2, 3, .inr (.inr (.inr (.inr (fun _ => none))))))] := hD
  refine W.widen (k := 51) (n := 1510) (Nat.le_of_ble_eq_true rfl) (Nat.le_of_ble_eq_true rfl) ?_
  refine va_putF (D := (dC, dI)) (ci := 0) (v := .ref q16) (ty := (.object "LeastSolutions$Cheapest")) (C := R_LS) (T := T_LS) (N := 16) hx hb hts in_LS t_LS t_LS_ok n_LS hown hK hP hD hS 0 rfl rfl 6 (by decide) (hts _ k_295) (fun _ h9 => h9) rfl hin rfl (by decide +kernel) rfl rfl (Nat.le_of_ble_eq_true rfl) d_LS_init_75 (fun H20 locs hP hD hS => ?_)
  have hP : va_P (dC, dI) cls [(h0, .inr (0, [.ref q1, .ref q3, .ref q7, .ref q8, .ref q14, .ref q15, .ref q16, .null, .null, .null, .null, .null, .int 0, .int 0, .int 0, .int 0])), (q1, .inr (1, [.ref q2, .int 0])), (q2, .inl (cA1, 300, .inl (fun _ => (0 : Int32)))), (q3, .inr (2, [.ref q4, .ref q5, .ref q6, .int 0, .int 0, .int 0, .int (-1)])), (q8, .inr (5, [.ref q9, .ref q10, .ref q11, .ref q12, .ref q13, .int 0, .int 0, .int 0, .int 0])), (q15, .inl (cA2, 3, .inr (.inr (.inr (.inr (fun _ => none))))))] H20 := hP
  have hD : va_D A [(h0, .inr (0, [.ref q1, .ref q3, .ref q7, .ref q8, .ref q14, .ref q15, .ref q16, .null, .null, .null, .null, .null, .int 0, .int 0, .int 0, .int 0])), (q1, .inr (1, [.ref q2, .int 0])), (q2, .inl (cA1, 300, .inl (fun _ => (0 : Int32)))), (q3, .inr (2, [.ref q4, .ref q5, .ref q6, .int 0, .int 0, .int 0, .int (-1)])), (q8, .inr (5, [.ref q9, .ref q10, .ref q11, .ref q12, .ref q13, .int 0, .int 0, .int 0, .int 0])), (q15, .inl (cA2, 3, .inr (.inr (.inr (.inr (fun _ => none))))))] := hD
  refine lv_aload_n hx hb d_LS_init_78 rfl (lv_at hl 0 rfl) ?_
  refine lv_bipush (v := 6) hx hb d_LS_init_79 (by decide) ?_
  refine va_newa (atype := .int) (ty := .int) (N' := 6) (a0 := (6, .inl (fun _ => (0 : Int32)))) hx hb (hts _ k_79) rfl hK hP hD hS hA (fun _ => rfl) (by decide) (by decide) (by decide) (Nat.le_of_ble_eq_true rfl) (Nat.le_of_ble_eq_true rfl) d_LS_init_81 (fun q17 cA3 H21 hK hP hD hS => ?_)
  have hK : va_K (dC, dI) cls [(cA1, .byte), (cA2, .object "LeastSolutions$VectorList"), (cA3, .int)] s := hK
  have hP : va_P (dC, dI) cls [(h0, .inr (0, [.ref q1, .ref q3, .ref q7, .ref q8, .ref q14, .ref q15, .ref q16, .null, .null, .null, .null, .null, .int 0, .int 0, .int 0, .int 0])), (q1, .inr (1, [.ref q2, .int 0])), (q2, .inl (cA1, 300, .inl (fun _ => (0 : Int32)))), (q3, .inr (2, [.ref q4, .ref q5, .ref q6, .int 0, .int 0, .int 0, .int (-1)])), (q8, .inr (5, [.ref q9, .ref q10, .ref q11, .ref q12, .ref q13, .int 0, .int 0, .int 0, .int 0])), (q15, .inl (cA2, 3, .inr (.inr (.inr (.inr (fun _ => none)))))), (q17, .inl (cA3, 6, .inl (fun _ => (0 : Int32))))] H21 := hP
  have hD : va_D A [(h0, .inr (0, [.ref q1, .ref q3, .ref q7, .ref q8, .ref q14, .ref q15, .ref q16, .null, .null, .null, .null, .null, .int 0, .int 0, .int 0, .int 0])), (q1, .inr (1, [.ref q2, .int 0])), (q2, .inl (cA1, 300, .inl (fun _ => (0 : Int32)))), (q3, .inr (2, [.ref q4, .ref q5, .ref q6, .int 0, .int 0, .int 0, .int (-1)])), (q8, .inr (5, [.ref q9, .ref q10, .ref q11, .ref q12, .ref q13, .int 0, .int 0, .int 0, .int 0])), (q15, .inl (cA2, 3, .inr (.inr (.inr (.inr (fun _ => none)))))), (q17, .inl (cA3, 6, .inl (fun _ => (0 : Int32))))] := hD
  refine W.widen (k := 52) (n := 1516) (Nat.le_of_ble_eq_true rfl) (Nat.le_of_ble_eq_true rfl) ?_
  refine va_putF (D := (dC, dI)) (ci := 0) (v := .ref q17) (ty := (.array .int)) (C := R_LS) (T := T_LS) (N := 16) hx hb hts in_LS t_LS t_LS_ok n_LS hown hK hP hD hS 0 rfl rfl 7 (by decide) (hts _ k_296) (fun _ h9 => h9) rfl hin rfl (by decide +kernel) rfl rfl (Nat.le_of_ble_eq_true rfl) d_LS_init_83 (fun H22 locs hP hD hS => ?_)
  have hP : va_P (dC, dI) cls [(h0, .inr (0, [.ref q1, .ref q3, .ref q7, .ref q8, .ref q14, .ref q15, .ref q16, .ref q17, .null, .null, .null, .null, .int 0, .int 0, .int 0, .int 0])), (q1, .inr (1, [.ref q2, .int 0])), (q2, .inl (cA1, 300, .inl (fun _ => (0 : Int32)))), (q3, .inr (2, [.ref q4, .ref q5, .ref q6, .int 0, .int 0, .int 0, .int (-1)])), (q8, .inr (5, [.ref q9, .ref q10, .ref q11, .ref q12, .ref q13, .int 0, .int 0, .int 0, .int 0])), (q15, .inl (cA2, 3, .inr (.inr (.inr (.inr (fun _ => none)))))), (q17, .inl (cA3, 6, .inl (fun _ => (0 : Int32))))] H22 := hP
  have hD : va_D A [(h0, .inr (0, [.ref q1, .ref q3, .ref q7, .ref q8, .ref q14, .ref q15, .ref q16, .ref q17, .null, .null, .null, .null, .int 0, .int 0, .int 0, .int 0])), (q1, .inr (1, [.ref q2, .int 0])), (q2, .inl (cA1, 300, .inl (fun _ => (0 : Int32)))), (q3, .inr (2, [.ref q4, .ref q5, .ref q6, .int 0, .int 0, .int 0, .int (-1)])), (q8, .inr (5, [.ref q9, .ref q10, .ref q11, .ref q12, .ref q13, .int 0, .int 0, .int 0, .int 0])), (q15, .inl (cA2, 3, .inr (.inr (.inr (.inr (fun _ => none)))))), (q17, .inl (cA3, 6, .inl (fun _ => (0 : Int32))))] := hD
  have hP := hP.sub (ws' := [(h0, .inr (0, [.ref q1, .ref q3, .ref q7, .ref q8, .ref q14, .ref q15, .ref q16, .ref q17, .null, .null, .null, .null, .int 0, .int 0, .int 0, .int 0])), (q1, .inr (1, [.ref q2, .int 0])), (q2, .inl (cA1, 300, .inl (fun _ => (0 : Int32)))), (q3, .inr (2, [.ref q4, .ref q5, .ref q6, .int 0, .int 0, .int 0, .int (-1)])), (q8, .inr (5, [.ref q9, .ref q10, .ref q11, .ref q12, .ref q13, .int 0, .int 0, .int 0, .int 0])), (q15, .inl (cA2, 3, .inr (.inr (.inr (.inr (fun _ => none))))))]) [0, 1, 2, 3, 4, 5] rfl
  have hD := hD.sub (ws' := [(h0, .inr (0, [.ref q1, .ref q3, .ref q7, .ref q8, .ref q14, .ref q15, .ref q16, .ref q17, .null, .null, .null, .null, .int 0, .int 0, .int 0, .int 0])), (q1, .inr (1, [.ref q2, .int 0])), (q2, .inl (cA1, 300, .inl (fun _ => (0 : Int32)))), (q3, .inr (2, [.ref q4, .ref q5, .ref q6, .int 0, .int 0, .int 0, .int (-1)])), (q8, .inr (5, [.ref q9, .ref q10, .ref q11, .ref q12, .ref q13, .int 0, .int 0, .int 0, .int 0])), (q15, .inl (cA2, 3, .inr (.inr (.inr (.inr (fun _ => none))))))]) [0, 1, 2, 3, 4, 5] (by decide) rfl
  refine lv_aload_n hx hb d_LS_init_86 rfl (lv_at hl 0 rfl) ?_
  refine lv_bipush (v := 6) hx hb d_LS_init_87 (by decide) ?_
  refine va_newa (atype := .int) (ty := .int) (N' := 6) (a0 := (6, .inl (fun _ => (0 : Int32)))) hx hb (hts _ k_79) rfl hK hP hD hS hA (fun _ => rfl) (by decide) (by decide) (by decide) (Nat.le_of_ble_eq_true rfl) (Nat.le_of_ble_eq_true rfl) d_LS_init_89 (fun q18 cA4 H23 hK hP hD hS => ?_)
  have hK : va_K (dC, dI) cls [(cA1, .byte), (cA2, .object "LeastSolutions$VectorList"), (cA3, .int), (cA4, .int)] s := hK
  have hP : va_P (dC, dI) cls [(h0, .inr (0, [.ref q1, .ref q3, .ref q7, .ref q8, .ref q14, .ref q15, .ref q16, .ref q17, .null, .null, .null, .null, .int 0, .int 0, .int 0, .int 0])), (q1, .inr (1, [.ref q2, .int 0])), (q2, .inl (cA1, 300, .inl (fun _ => (0 : Int32)))), (q3, .inr (2, [.ref q4, .ref q5, .ref q6, .int 0, .int 0, .int 0, .int (-1)])), (q8, .inr (5, [.ref q9, .ref q10, .ref q11, .ref q12, .ref q13, .int 0, .int 0, .int 0, .int 0])), (q15, .inl (cA2, 3, .inr (.inr (.inr (.inr (fun _ => none)))))), (q18, .inl (cA4, 6, .inl (fun _ => (0 : Int32))))] H23 := hP
  have hD : va_D A [(h0, .inr (0, [.ref q1, .ref q3, .ref q7, .ref q8, .ref q14, .ref q15, .ref q16, .ref q17, .null, .null, .null, .null, .int 0, .int 0, .int 0, .int 0])), (q1, .inr (1, [.ref q2, .int 0])), (q2, .inl (cA1, 300, .inl (fun _ => (0 : Int32)))), (q3, .inr (2, [.ref q4, .ref q5, .ref q6, .int 0, .int 0, .int 0, .int (-1)])), (q8, .inr (5, [.ref q9, .ref q10, .ref q11, .ref q12, .ref q13, .int 0, .int 0, .int 0, .int 0])), (q15, .inl (cA2, 3, .inr (.inr (.inr (.inr (fun _ => none)))))), (q18, .inl (cA4, 6, .inl (fun _ => (0 : Int32))))] := hD
  refine W.widen (k := 53) (n := 1522) (Nat.le_of_ble_eq_true rfl) (Nat.le_of_ble_eq_true rfl) ?_
  refine va_putF (D := (dC, dI)) (ci := 0) (v := .ref q18) (ty := (.array .int)) (C := R_LS) (T := T_LS) (N := 16) hx hb hts in_LS t_LS t_LS_ok n_LS hown hK hP hD hS 0 rfl rfl 8 (by decide) (hts _ k_297) (fun _ h9 => h9) rfl hin rfl (by decide +kernel) rfl rfl (Nat.le_of_ble_eq_true rfl) d_LS_init_91 (fun H24 locs hP hD hS => ?_)
  have hP : va_P (dC, dI) cls [(h0, .inr (0, [.ref q1, .ref q3, .ref q7, .ref q8, .ref q14, .ref q15, .ref q16, .ref q17, .ref q18, .null, .null, .null, .int 0, .int 0, .int 0, .int 0])), (q1, .inr (1, [.ref q2, .int 0])), (q2, .inl (cA1, 300, .inl (fun _ => (0 : Int32)))), (q3, .inr (2, [.ref q4, .ref q5, .ref q6, .int 0, .int 0, .int 0, .int (-1)])), (q8, .inr (5, [.ref q9, .ref q10, .ref q11, .ref q12, .ref q13, .int 0, .int 0, .int 0, .int 0])), (q15, .inl (cA2, 3, .inr (.inr (.inr (.inr (fun _ => none)))))), (q18, .inl (cA4, 6, .inl (fun _ => (0 : Int32))))] H24 := hP
  have hD : va_D A [(h0, .inr (0, [.ref q1, .ref q3, .ref q7, .ref q8, .ref q14, .ref q15, .ref q16, .ref q17, .ref q18, .null, .null, .null, .int 0, .int 0, .int 0, .int 0])), (q1, .inr (1, [.ref q2, .int 0])), (q2, .inl (cA1, 300, .inl (fun _ => (0 : Int32)))), (q3, .inr (2, [.ref q4, .ref q5, .ref q6, .int 0, .int 0, .int 0, .int (-1)])), (q8, .inr (5, [.ref q9, .ref q10, .ref q11, .ref q12, .ref q13, .int 0, .int 0, .int 0, .int 0])), (q15, .inl (cA2, 3, .inr (.inr (.inr (.inr (fun _ => none)))))), (q18, .inl (cA4, 6, .inl (fun _ => (0 : Int32))))] := hD
  have hP := hP.sub (ws' := [(h0, .inr (0, [.ref q1, .ref q3, .ref q7, .ref q8, .ref q14, .ref q15, .ref q16, .ref q17, .ref q18, .null, .null, .null, .int 0, .int 0, .int 0, .int 0])), (q1, .inr (1, [.ref q2, .int 0])), (q2, .inl (cA1, 300, .inl (fun _ => (0 : Int32)))), (q3, .inr (2, [.ref q4, .ref q5, .ref q6, .int 0, .int 0, .int 0, .int (-1)])), (q8, .inr (5, [.ref q9, .ref q10, .ref q11, .ref q12, .ref q13, .int 0, .int 0, .int 0, .int 0])), (q15, .inl (cA2, 3, .inr (.inr (.inr (.inr (fun _ => none))))))]) [0, 1, 2, 3, 4, 5] rfl
  have hD := hD.sub (ws' := [(h0, .inr (0, [.ref q1, .ref q3, .ref q7, .ref q8, .ref q14, .ref q15, .ref q16, .ref q17, .ref q18, .null, .null, .null, .int 0, .int 0, .int 0, .int 0])), (q1, .inr (1, [.ref q2, .int 0])), (q2, .inl (cA1, 300, .inl (fun _ => (0 : Int32)))), (q3, .inr (2, [.ref q4, .ref q5, .ref q6, .int 0, .int 0, .int 0, .int (-1)])), (q8, .inr (5, [.ref q9, .ref q10, .ref q11, .ref q12, .ref q13, .int 0, .int 0, .int 0, .int 0])), (q15, .inl (cA2, 3, .inr (.inr (.inr (.inr (fun _ => none))))))]) [0, 1, 2, 3, 4, 5] (by decide) rfl
  refine lv_aload_n hx hb d_LS_init_94 rfl (lv_at hl 0 rfl) ?_
  refine lv_sipush (v := 2000) hx hb d_LS_init_95 (by decide) ?_
  refine va_newa (atype := .int) (ty := .int) (N' := 2000) (a0 := (2000, .inl (fun _ => (0 : Int32)))) hx hb (hts _ k_79) rfl hK hP hD hS hA (fun _ => rfl) (by decide) (by decide) (by decide) (Nat.le_of_ble_eq_true rfl) (Nat.le_of_ble_eq_true rfl) d_LS_init_98 (fun q19 cA5 H25 hK hP hD hS => ?_)
  have hK : va_K (dC, dI) cls [(cA1, .byte), (cA2, .object "LeastSolutions$VectorList"), (cA3, .int), (cA4, .int), (cA5, .int)] s := hK
  have hP : va_P (dC, dI) cls [(h0, .inr (0, [.ref q1, .ref q3, .ref q7, .ref q8, .ref q14, .ref q15, .ref q16, .ref q17, .ref q18, .null, .null, .null, .int 0, .int 0, .int 0, .int 0])), (q1, .inr (1, [.ref q2, .int 0])), (q2, .inl (cA1, 300, .inl (fun _ => (0 : Int32)))), (q3, .inr (2, [.ref q4, .ref q5, .ref q6, .int 0, .int 0, .int 0, .int (-1)])), (q8, .inr (5, [.ref q9, .ref q10, .ref q11, .ref q12, .ref q13, .int 0, .int 0, .int 0, .int 0])), (q15, .inl (cA2, 3, .inr (.inr (.inr (.inr (fun _ => none)))))), (q19, .inl (cA5, 2000, .inl (fun _ => (0 : Int32))))] H25 := hP
  have hD : va_D A [(h0, .inr (0, [.ref q1, .ref q3, .ref q7, .ref q8, .ref q14, .ref q15, .ref q16, .ref q17, .ref q18, .null, .null, .null, .int 0, .int 0, .int 0, .int 0])), (q1, .inr (1, [.ref q2, .int 0])), (q2, .inl (cA1, 300, .inl (fun _ => (0 : Int32)))), (q3, .inr (2, [.ref q4, .ref q5, .ref q6, .int 0, .int 0, .int 0, .int (-1)])), (q8, .inr (5, [.ref q9, .ref q10, .ref q11, .ref q12, .ref q13, .int 0, .int 0, .int 0, .int 0])), (q15, .inl (cA2, 3, .inr (.inr (.inr (.inr (fun _ => none)))))), (q19, .inl (cA5, 2000, .inl (fun _ => (0 : Int32))))] := hD
  refine W.widen (k := 54) (n := 3522) (Nat.le_of_ble_eq_true rfl) (Nat.le_of_ble_eq_true rfl) ?_
  refine va_putF (D := (dC, dI)) (ci := 0) (v := .ref q19) (ty := (.array .int)) (C := R_LS) (T := T_LS) (N := 16) hx hb hts in_LS t_LS t_LS_ok n_LS hown hK hP hD hS 0 rfl rfl 9 (by decide) (hts _ k_298) (fun _ h9 => h9) rfl hin rfl (by decide +kernel) rfl rfl (Nat.le_of_ble_eq_true rfl) d_LS_init_100 (fun H26 locs hP hD hS => ?_)
  have hP : va_P (dC, dI) cls [(h0, .inr (0, [.ref q1, .ref q3, .ref q7, .ref q8, .ref q14, .ref q15, .ref q16, .ref q17, .ref q18, .ref q19, .null, .null, .int 0, .int 0, .int 0, .int 0])), (q1, .inr (1, [.ref q2, .int 0])), (q2, .inl (cA1, 300, .inl (fun _ => (0 : Int32)))), (q3, .inr (2, [.ref q4, .ref q5, .ref q6, .int 0, .int 0, .int 0, .int (-1)])), (q8, .inr (5, [.ref q9, .ref q10, .ref q11, .ref q12, .ref q13, .int 0, .int 0, .int 0, .int 0])), (q15, .inl (cA2, 3, .inr (.inr (.inr (.inr (fun _ => none)))))), (q19, .inl (cA5, 2000, .inl (fun _ => (0 : Int32))))] H26 := hP
  have hD : va_D A [(h0, .inr (0, [.ref q1, .ref q3, .ref q7, .ref q8, .ref q14, .ref q15, .ref q16, .ref q17, .ref q18, .ref q19, .null, .null, .int 0, .int 0, .int 0, .int 0])), (q1, .inr (1, [.ref q2, .int 0])), (q2, .inl (cA1, 300, .inl (fun _ => (0 : Int32)))), (q3, .inr (2, [.ref q4, .ref q5, .ref q6, .int 0, .int 0, .int 0, .int (-1)])), (q8, .inr (5, [.ref q9, .ref q10, .ref q11, .ref q12, .ref q13, .int 0, .int 0, .int 0, .int 0])), (q15, .inl (cA2, 3, .inr (.inr (.inr (.inr (fun _ => none)))))), (q19, .inl (cA5, 2000, .inl (fun _ => (0 : Int32))))] := hD
  have hP := hP.sub (ws' := [(h0, .inr (0, [.ref q1, .ref q3, .ref q7, .ref q8, .ref q14, .ref q15, .ref q16, .ref q17, .ref q18, .ref q19, .null, .null, .int 0, .int 0, .int 0, .int 0])), (q1, .inr (1, [.ref q2, .int 0])), (q2, .inl (cA1, 300, .inl (fun _ => (0 : Int32)))), (q3, .inr (2, [.ref q4, .ref q5, .ref q6, .int 0, .int 0, .int 0, .int (-1)])), (q8, .inr (5, [.ref q9, .ref q10, .ref q11, .ref q12, .ref q13, .int 0, .int 0, .int 0, .int 0])), (q15, .inl (cA2, 3, .inr (.inr (.inr (.inr (fun _ => none))))))]) [0, 1, 2, 3, 4, 5] rfl
  have hD := hD.sub (ws' := [(h0, .inr (0, [.ref q1, .ref q3, .ref q7, .ref q8, .ref q14, .ref q15, .ref q16, .ref q17, .ref q18, .ref q19, .null, .null, .int 0, .int 0, .int 0, .int 0])), (q1, .inr (1, [.ref q2, .int 0])), (q2, .inl (cA1, 300, .inl (fun _ => (0 : Int32)))), (q3, .inr (2, [.ref q4, .ref q5, .ref q6, .int 0, .int 0, .int 0, .int (-1)])), (q8, .inr (5, [.ref q9, .ref q10, .ref q11, .ref q12, .ref q13, .int 0, .int 0, .int 0, .int 0])), (q15, .inl (cA2, 3, .inr (.inr (.inr (.inr (fun _ => none))))))]) [0, 1, 2, 3, 4, 5] (by decide) rfl
  refine lv_aload_n hx hb d_LS_init_103 rfl (lv_at hl 0 rfl) ?_
  refine lv_bipush (v := 6) hx hb d_LS_init_104 (by decide) ?_
  refine va_newa (atype := .int) (ty := .int) (N' := 6) (a0 := (6, .inl (fun _ => (0 : Int32)))) hx hb (hts _ k_79) rfl hK hP hD hS hA (fun _ => rfl) (by decide) (by decide) (by decide) (Nat.le_of_ble_eq_true rfl) (Nat.le_of_ble_eq_true rfl) d_LS_init_106 (fun q20 cA6 H27 hK hP hD hS => ?_)
  have hK : va_K (dC, dI) cls [(cA1, .byte), (cA2, .object "LeastSolutions$VectorList"), (cA3, .int), (cA4, .int), (cA5, .int), (cA6, .int)] s := hK
  have hP : va_P (dC, dI) cls [(h0, .inr (0, [.ref q1, .ref q3, .ref q7, .ref q8, .ref q14, .ref q15, .ref q16, .ref q17, .ref q18, .ref q19, .null, .null, .int 0, .int 0, .int 0, .int 0])), (q1, .inr (1, [.ref q2, .int 0])), (q2, .inl (cA1, 300, .inl (fun _ => (0 : Int32)))), (q3, .inr (2, [.ref q4, .ref q5, .ref q6, .int 0, .int 0, .int 0, .int (-1)])), (q8, .inr (5, [.ref q9, .ref q10, .ref q11, .ref q12, .ref q13, .int 0, .int 0, .int 0, .int 0])), (q15, .inl (cA2, 3, .inr (.inr (.inr (.inr (fun _ => none)))))), (q20, .inl (cA6, 6, .inl (fun _ => (0 : Int32))))] H27 := hP
  have hD : va_D A [(h0, .inr (0, [.ref q1, .ref q3, .ref q7, .ref q8, .ref q14, .ref q15, .ref q16, .ref q17, .ref q18, .ref q19, .null, .null, .int 0, .int 0, .int 0, .int 0])), (q1, .inr (1, [.ref q2, .int 0])), (q2, .inl (cA1, 300, .inl (fun _ => (0 : Int32)))), (q3, .inr (2, [.ref q4, .ref q5, .ref q6, .int 0, .int 0, .int 0, .int (-1)])), (q8, .inr (5, [.ref q9, .ref q10, .ref q11, .ref q12, .ref q13, .int 0, .int 0, .int 0, .int 0])), (q15, .inl (cA2, 3, .inr (.inr (.inr (.inr (fun _ => none)))))), (q20, .inl (cA6, 6, .inl (fun _ => (0 : Int32))))] := hD
  refine W.widen (k := 55) (n := 3528) (Nat.le_of_ble_eq_true rfl) (Nat.le_of_ble_eq_true rfl) ?_
  refine va_putF (D := (dC, dI)) (ci := 0) (v := .ref q20) (ty := (.array .int)) (C := R_LS) (T := T_LS) (N := 16) hx hb hts in_LS t_LS t_LS_ok n_LS hown hK hP hD hS 0 rfl rfl 10 (by decide) (hts _ k_299) (fun _ h9 => h9) rfl hin rfl (by decide +kernel) rfl rfl (Nat.le_of_ble_eq_true rfl) d_LS_init_108 (fun H28 locs hP hD hS => ?_)
  have hP : va_P (dC, dI) cls [(h0, .inr (0, [.ref q1, .ref q3, .ref q7, .ref q8, .ref q14, .ref q15, .ref q16, .ref q17, .ref q18, .ref q19, .ref q20, .null, .int 0, .int 0, .int 0, .int 0])), (q1, .inr (1, [.ref q2, .int 0])), (q2, .inl (cA1, 300, .inl (fun _ => (0 : Int32)))), (q3, .inr (2, [.ref q4, .ref q5, .ref q6, .int 0, .int 0, .int 0, .int (-1)])), (q8, .inr (5, [.ref q9, .ref q10, .ref q11, .ref q12, .ref q13, .int 0, .int 0, .int 0, .int 0])), (q15, .inl (cA2, 3, .inr (.inr (.inr (.inr (fun _ => none)))))), (q20, .inl (cA6, 6, .inl (fun _ => (0 : Int32))))] H28 := hP
  have hD : va_D A [(h0, .inr (0, [.ref q1, .ref q3, .ref q7, .ref q8, .ref q14, .ref q15, .ref q16, .ref q17, .ref q18, .ref q19, .ref q20, .null, .int 0, .int 0, .int 0, .int 0])), (q1, .inr (1, [.ref q2, .int 0])), (q2, .inl (cA1, 300, .inl (fun _ => (0 : Int32)))), (q3, .inr (2, [.ref q4, .ref q5, .ref q6, .int 0, .int 0, .int 0, .int (-1)])), (q8, .inr (5, [.ref q9, .ref q10, .ref q11, .ref q12, .ref q13, .int 0, .int 0, .int 0, .int 0])), (q15, .inl (cA2, 3, .inr (.inr (.inr (.inr (fun _ => none)))))), (q20, .inl (cA6, 6, .inl (fun _ => (0 : Int32))))] := hD
  have hP := hP.sub (ws' := [(h0, .inr (0, [.ref q1, .ref q3, .ref q7, .ref q8, .ref q14, .ref q15, .ref q16, .ref q17, .ref q18, .ref q19, .ref q20, .null, .int 0, .int 0, .int 0, .int 0])), (q1, .inr (1, [.ref q2, .int 0])), (q2, .inl (cA1, 300, .inl (fun _ => (0 : Int32)))), (q3, .inr (2, [.ref q4, .ref q5, .ref q6, .int 0, .int 0, .int 0, .int (-1)])), (q8, .inr (5, [.ref q9, .ref q10, .ref q11, .ref q12, .ref q13, .int 0, .int 0, .int 0, .int 0])), (q15, .inl (cA2, 3, .inr (.inr (.inr (.inr (fun _ => none))))))]) [0, 1, 2, 3, 4, 5] rfl
  have hD := hD.sub (ws' := [(h0, .inr (0, [.ref q1, .ref q3, .ref q7, .ref q8, .ref q14, .ref q15, .ref q16, .ref q17, .ref q18, .ref q19, .ref q20, .null, .int 0, .int 0, .int 0, .int 0])), (q1, .inr (1, [.ref q2, .int 0])), (q2, .inl (cA1, 300, .inl (fun _ => (0 : Int32)))), (q3, .inr (2, [.ref q4, .ref q5, .ref q6, .int 0, .int 0, .int 0, .int (-1)])), (q8, .inr (5, [.ref q9, .ref q10, .ref q11, .ref q12, .ref q13, .int 0, .int 0, .int 0, .int 0])), (q15, .inl (cA2, 3, .inr (.inr (.inr (.inr (fun _ => none))))))]) [0, 1, 2, 3, 4, 5] (by decide) rfl
  refine lv_aload_n hx hb d_LS_init_111 rfl (lv_at hl 0 rfl) ?_
  refine va_new (ci := 4) (fs := [.null, .null, .null, .null, .null, .int 0, .int 0, .int 0]) (C := R_EQ) (T := T_EQ) (N := 8) hx hb hts in_EQ t_EQ t_EQ_ok hown (hts _ k_260) (hts _ k_87) (hts _ k_5) hK hP hD hS hA rfl (fun j hj => dv_EQ j hj) (Nat.le_of_ble_eq_true rfl) (Nat.le_of_ble_eq_true rfl) d_LS_init_112 (fun q21 H29 hP hD hS => ?_)
  have hP : va_P (dC, dI) cls [(h0, .inr (0, [.ref q1, .ref q3, .ref q7, .ref q8, .ref q14, .ref q15, .ref q16, .ref q17, .ref q18, .ref q19, .ref q20, .null, .int 0, .int 0, .int 0, .int 0])), (q1, .inr (1, [.ref q2, .int 0])), (q2, .inl (cA1, 300, .inl (fun _ => (0 : Int32)))), (q3, .inr (2, [.ref q4, .ref q5, .ref q6, .int 0, .int 0, .int 0, .int (-1)])), (q8, .inr (5, [.ref q9, .ref q10, .ref q11, .ref q12, .ref q13, .int 0, .int 0, .int 0, .int 0])), (q15, .inl (cA2, 3, .inr (.inr (.inr (.inr (fun _ => none)))))), (q21, .inr (4, [.null, .null, .null, .null, .null, .int 0, .int 0, .int 0]))] H29 := hP
  have hD : va_D A [(h0, .inr (0, [.ref q1, .ref q3, .ref q7, .ref q8, .ref q14, .ref q15, .ref q16, .ref q17, .ref q18, .ref q19, .ref q20, .null, .int 0, .int 0, .int 0, .int 0])), (q1, .inr (1, [.ref q2, .int 0])), (q2, .inl (cA1, 300, .inl (fun _ => (0 : Int32)))), (q3, .inr (2, [.ref q4, .ref q5, .ref q6, .int 0, .int 0, .int 0, .int (-1)])), (q8, .inr (5, [.ref q9, .ref q10, .ref q11, .ref q12, .ref q13, .int 0, .int 0, .int 0, .int 0])), (q15, .inl (cA2, 3, .inr (.inr (.inr (.inr (fun _ => none)))))), (q21, .inr (4, [.null, .null, .null, .null, .null, .int 0, .int 0, .int 0]))] := hD
  refine W.widen (k := 56) (n := 3536) (Nat.le_of_ble_eq_true rfl) (Nat.le_of_ble_eq_true rfl) ?_
  refine lv_dup hx hb d_LS_init_115 rfl ?_
  have hPc := hP.sub (ws' := [(q21, .inr (4, [.null, .null, .null, .null, .null, .int 0, .int 0, .int 0]))]) [6] rfl
  have hDc := hD.sub (ws' := [(q21, .inr (4, [.null, .null, .null, .null, .null, .int 0, .int 0, .int 0]))]) [6] (by decide) rfl
  have hKc := hK.sub (tys' := []) [] rfl
  have hFc := va_free (wc := [(q21, .inr (4, [.null, .null, .null, .null, .null, .int 0, .int 0, .int 0]))]) hD hS hA [6] rfl
  refine va_callv (va_runIN (As := []) (rest := [.ref q21, .ref h0]) ⟨hx, hb, hml, hown, hts⟩ (c_EQ_init l dC dI (q21) H29.size) (wd_IN 0 hts k_90 k_5 (hN.1 _ nw_35) k_89 rfl rfl rfl (by decide +kernel) ⟨Nat.le_of_ble_eq_true rfl, Nat.le_of_ble_eq_true rfl⟩) ⟨fun a U g mk q => by obtain ⟨q0, q1, qP, qK, qD, qN⟩ := q; exact ⟨q0, q1, qP, va_K.moved (u := U) (U := U.calling g mk a) (Vm.Alike.refl U.vm) qK, qD, nw_ok.same (s := U) (U := U.calling g mk a) rfl qN⟩, fun U hU hW => ⟨rfl, by rw [hU], by rw [hU]; exact hPc, va_K.moved hW.alike hKc, hDc.weaken (fun _ _ _ _ => trivial), nw_ok.warm hW hN⟩⟩ rfl rfl hl.1 rfl (lv_room (Nat.le_of_ble_eq_true rfl)) d_LS_init_116 ⟨Nat.le_of_ble_eq_true rfl, Nat.le_of_ble_eq_true rfl⟩) hS (fun q _ h => hFc q h) hFc (fun u t H30 locs ht hvm hr7 hB hz1 hk1 hS => ?_)
  obtain ⟨q22, q23, q24, q25, q26, hP1, hK1, hD1⟩ := hB
  rw [ht] at hP1
  have hK1 := va_K.moved hvm.symm hK1
  obtain ⟨hP, hD⟩ := va_join (wr := [(h0, .inr (0, [.ref q1, .ref q3, .ref q7, .ref q8, .ref q14, .ref q15, .ref q16, .ref q17, .ref q18, .ref q19, .ref q20, .null, .int 0, .int 0, .int 0, .int 0])), (q1, .inr (1, [.ref q2, .int 0])), (q2, .inl (cA1, 300, .inl (fun _ => (0 : Int32)))), (q3, .inr (2, [.ref q4, .ref q5, .ref q6, .int 0, .int 0, .int 0, .int (-1)])), (q8, .inr (5, [.ref q9, .ref q10, .ref q11, .ref q12, .ref q13, .int 0, .int 0, .int 0, .int 0])), (q15, .inl (cA2, 3, .inr (.inr (.inr (.inr (fun _ => none))))))]) (w1 := [(q21, .inr (4, [.ref q22, .ref q23, .ref q24, .ref q25, .ref q26, .int 0, .int 0, .int 0]))]) hP hD [6] [0, 1, 2, 3, 4, 5] rfl rfl (by decide) (by decide) hk1 hFc hP1 hD1
  have hK := (hK.sub (tys' := [(cA1, .byte), (cA2, .object "LeastSolutions$VectorList"), (cA3, .int), (cA4, .int), (cA5, .int), (cA6, .int)]) [0, 1, 2, 3, 4, 5] rfl).app hK1
  have hK : va_K (dC, dI) cls [(cA1, .byte), (cA2, .object "LeastSolutions$VectorList"), (cA3, .int), (cA4, .int), (cA5, .int), (cA6, .int)] s := hK
  have hP : va_P (dC, dI) cls [(h0, .inr (0, [.ref q1, .ref q3, .ref q7, .ref q8, .ref q14, .ref q15, .ref q16, .ref q17, .ref q18, .ref q19, .ref q20, .null, .int 0, .int 0, .int 0, .int 0])), (q1, .inr (1, [.ref q2, .int 0])), (q2, .inl (cA1, 300, .inl (fun _ => (0 : Int32)))), (q3, .inr (2, [.ref q4, .ref q5, .ref q6, .int 0, .int 0, .int 0, .int (-1)])), (q8, .inr (5, [.ref q9, .ref q10, .ref q11, .ref q12, .ref q13, .int 0, .int 0, .int 0, .int 0])), (q15, .inl (cA2, 3, .inr (.inr (.inr (.inr (fun _ => none)))))), (q21, .inr (4, [.ref q22, .ref q23, .ref q24, .ref q25, .ref q26, .int 0, .int 0, .int 0]))] H30 := hP
  have hD : va_D A [(h0, .inr (0, [.ref q1, .ref q3, .ref q7, .ref q8, .ref q14, .ref q15, .ref q16, .ref q17, .ref q18, .ref q19, .ref q20, .null, .int 0, .int 0, .int 0, .int 0])), (q1, .inr (1, [.ref q2, .int 0])), (q2, .inl (cA1, 300, .inl (fun _ => (0 : Int32)))), (q3, .inr (2, [.ref q4, .ref q5, .ref q6, .int 0, .int 0, .int 0, .int (-1)])), (q8, .inr (5, [.ref q9, .ref q10, .ref q11, .ref q12, .ref q13, .int 0, .int 0, .int 0, .int 0])), (q15, .inl (cA2, 3, .inr (.inr (.inr (.inr (fun _ => none)))))), (q21, .inr (4, [.ref q22, .ref q23, .ref q24, .ref q25, .ref q26, .int 0, .int 0, .int 0]))] := hD
  refine W.widen (k := 65) (n := 3586) (Nat.le_of_ble_eq_true rfl) (Nat.le_of_ble_eq_true rfl) ?_
  refine va_put (D := (dC, dI)) (ci := 0) (v := .ref q21) (ty := (.object "LeastSolutions$Equations")) (C := R_LS) (T := T_LS) (N := 16) hx hb hts in_LS t_LS t_LS_ok n_LS hown hK hP hD hS 0 rfl rfl 11 (by decide) (hts _ k_300) (fun _ h9 => h9) rfl (by decide +kernel) rfl rfl (Nat.le_of_ble_eq_true rfl) d_LS_init_119 (fun H31 locs hP hD hS => ?_)
  have hP : va_P (dC, dI) cls [(h0, .inr (0, [.ref q1, .ref q3, .ref q7, .ref q8, .ref q14, .ref q15, .ref q16, .ref q17, .ref q18, .ref q19, .ref q20, .ref q21, .int 0, .int 0, .int 0, .int 0])), (q1, .inr (1, [.ref q2, .int 0])), (q2, .inl (cA1, 300, .inl (fun _ => (0 : Int32)))), (q3, .inr (2, [.ref q4, .ref q5, .ref q6, .int 0, .int 0, .int 0, .int (-1)])), (q8, .inr (5, [.ref q9, .ref q10, .ref q11, .ref q12, .ref q13, .int 0, .int 0, .int 0, .int 0])), (q15, .inl (cA2, 3, .inr (.inr (.inr (.inr (fun _ => none)))))), (q21, .inr (4, [.ref q22, .ref q23, .ref q24, .ref q25, .ref q26, .int 0, .int 0, .int 0]))] H31 := hP
  have hD : va_D A [(h0, .inr (0, [.ref q1, .ref q3, .ref q7, .ref q8, .ref q14, .ref q15, .ref q16, .ref q17, .ref q18, .ref q19, .ref q20, .ref q21, .int 0, .int 0, .int 0, .int 0])), (q1, .inr (1, [.ref q2, .int 0])), (q2, .inl (cA1, 300, .inl (fun _ => (0 : Int32)))), (q3, .inr (2, [.ref q4, .ref q5, .ref q6, .int 0, .int 0, .int 0, .int (-1)])), (q8, .inr (5, [.ref q9, .ref q10, .ref q11, .ref q12, .ref q13, .int 0, .int 0, .int 0, .int 0])), (q15, .inl (cA2, 3, .inr (.inr (.inr (.inr (fun _ => none)))))), (q21, .inr (4, [.ref q22, .ref q23, .ref q24, .ref q25, .ref q26, .int 0, .int 0, .int 0]))] := hD
  refine lv_aload_n hx hb d_LS_init_122 rfl (lv_at hl 0 rfl) ?_
  refine lv_iconst (v := 0) hx hb d_LS_init_123 (by decide) ?_
  refine va_put (D := (dC, dI)) (ci := 0) (v := .int 0) (ty := .boolean) (C := R_LS) (T := T_LS) (N := 16) hx hb hts in_LS t_LS t_LS_ok n_LS hown hK hP hD hS 0 rfl rfl 12 (by decide) (hts _ k_301) (fun _ h9 => h9) rfl (by decide +kernel) (by decide +kernel) (by decide +kernel) (Nat.le_of_ble_eq_true rfl) d_LS_init_124 (fun H32 locs hP hD hS => ?_)
  have hP : va_P (dC, dI) cls [(h0, .inr (0, [.ref q1, .ref q3, .ref q7, .ref q8, .ref q14, .ref q15, .ref q16, .ref q17, .ref q18, .ref q19, .ref q20, .ref q21, .int 0, .int 0, .int 0, .int 0])), (q1, .inr (1, [.ref q2, .int 0])), (q2, .inl (cA1, 300, .inl (fun _ => (0 : Int32)))), (q3, .inr (2, [.ref q4, .ref q5, .ref q6, .int 0, .int 0, .int 0, .int (-1)])), (q8, .inr (5, [.ref q9, .ref q10, .ref q11, .ref q12, .ref q13, .int 0, .int 0, .int 0, .int 0])), (q15, .inl (cA2, 3, .inr (.inr (.inr (.inr (fun _ => none)))))), (q21, .inr (4, [.ref q22, .ref q23, .ref q24, .ref q25, .ref q26, .int 0, .int 0, .int 0]))] H32 := hP
  have hD : va_D A [(h0, .inr (0, [.ref q1, .ref q3, .ref q7, .ref q8, .ref q14, .ref q15, .ref q16, .ref q17, .ref q18, .ref q19, .ref q20, .ref q21, .int 0, .int 0, .int 0, .int 0])), (q1, .inr (1, [.ref q2, .int 0])), (q2, .inl (cA1, 300, .inl (fun _ => (0 : Int32)))), (q3, .inr (2, [.ref q4, .ref q5, .ref q6, .int 0, .int 0, .int 0, .int (-1)])), (q8, .inr (5, [.ref q9, .ref q10, .ref q11, .ref q12, .ref q13, .int 0, .int 0, .int 0, .int 0])), (q15, .inl (cA2, 3, .inr (.inr (.inr (.inr (fun _ => none)))))), (q21, .inr (4, [.ref q22, .ref q23, .ref q24, .ref q25, .ref q26, .int 0, .int 0, .int 0]))] := hD
  refine lv_aload_n hx hb d_LS_init_127 rfl (lv_at hl 0 rfl) ?_
  refine lv_iconst (v := 0) hx hb d_LS_init_128 (by decide) ?_
  refine va_put (D := (dC, dI)) (ci := 0) (v := .int 0) (ty := .boolean) (C := R_LS) (T := T_LS) (N := 16) hx hb hts in_LS t_LS t_LS_ok n_LS hown hK hP hD hS 0 rfl rfl 13 (by decide) (hts _ k_302) (fun _ h9 => h9) rfl (by decide +kernel) (by decide +kernel) (by decide +kernel) (Nat.le_of_ble_eq_true rfl) d_LS_init_129 (fun H33 locs hP hD hS => ?_)
  have hP : va_P (dC, dI) cls [(h0, .inr (0, [.ref q1, .ref q3, .ref q7, .ref q8, .ref q14, .ref q15, .ref q16, .ref q17, .ref q18, .ref q19, .ref q20, .ref q21, .int 0, .int 0, .int 0, .int 0])), (q1, .inr (1, [.ref q2, .int 0])), (q2, .inl (cA1, 300, .inl (fun _ => (0 : Int32)))), (q3, .inr (2, [.ref q4, .ref q5, .ref q6, .int 0, .int 0, .int 0, .int (-1)])), (q8, .inr (5, [.ref q9, .ref q10, .ref q11, .ref q12, .ref q13, .int 0, .int 0, .int 0, .int 0])), (q15, .inl (cA2, 3, .inr (.inr (.inr (.inr (fun _ => none)))))), (q21, .inr (4, [.ref q22, .ref q23, .ref q24, .ref q25, .ref q26, .int 0, .int 0, .int 0]))] H33 := hP
  have hD : va_D A [(h0, .inr (0, [.ref q1, .ref q3, .ref q7, .ref q8, .ref q14, .ref q15, .ref q16, .ref q17, .ref q18, .ref q19, .ref q20, .ref q21, .int 0, .int 0, .int 0, .int 0])), (q1, .inr (1, [.ref q2, .int 0])), (q2, .inl (cA1, 300, .inl (fun _ => (0 : Int32)))), (q3, .inr (2, [.ref q4, .ref q5, .ref q6, .int 0, .int 0, .int 0, .int (-1)])), (q8, .inr (5, [.ref q9, .ref q10, .ref q11, .ref q12, .ref q13, .int 0, .int 0, .int 0, .int 0])), (q15, .inl (cA2, 3, .inr (.inr (.inr (.inr (fun _ => none)))))), (q21, .inr (4, [.ref q22, .ref q23, .ref q24, .ref q25, .ref q26, .int 0, .int 0, .int 0]))] := hD
  refine lv_aload_n hx hb d_LS_init_132 rfl (lv_at hl 0 rfl) ?_
  refine lv_iconst (v := 0) hx hb d_LS_init_133 (by decide) ?_
  refine va_put (D := (dC, dI)) (ci := 0) (v := .int 0) (ty := .boolean) (C := R_LS) (T := T_LS) (N := 16) hx hb hts in_LS t_LS t_LS_ok n_LS hown hK hP hD hS 0 rfl rfl 14 (by decide) (hts _ k_303) (fun _ h9 => h9) rfl (by decide +kernel) (by decide +kernel) (by decide +kernel) (Nat.le_of_ble_eq_true rfl) d_LS_init_134 (fun H34 locs hP hD hS => ?_)
  have hP : va_P (dC, dI) cls [(h0, .inr (0, [.ref q1, .ref q3, .ref q7, .ref q8, .ref q14, .ref q15, .ref q16, .ref q17, .ref q18, .ref q19, .ref q20, .ref q21, .int 0, .int 0, .int 0, .int 0])), (q1, .inr (1, [.ref q2, .int 0])), (q2, .inl (cA1, 300, .inl (fun _ => (0 : Int32)))), (q3, .inr (2, [.ref q4, .ref q5, .ref q6, .int 0, .int 0, .int 0, .int (-1)])), (q8, .inr (5, [.ref q9, .ref q10, .ref q11, .ref q12, .ref q13, .int 0, .int 0, .int 0, .int 0])), (q15, .inl (cA2, 3, .inr (.inr (.inr (.inr (fun _ => none)))))), (q21, .inr (4, [.ref q22, .ref q23, .ref q24, .ref q25, .ref q26, .int 0, .int 0, .int 0]))] H34 := hP
  have hD : va_D A [(h0, .inr (0, [.ref q1, .ref q3, .ref q7, .ref q8, .ref q14, .ref q15, .ref q16, .ref q17, .ref q18, .ref q19, .ref q20, .ref q21, .int 0, .int 0, .int 0, .int 0])), (q1, .inr (1, [.ref q2, .int 0])), (q2, .inl (cA1, 300, .inl (fun _ => (0 : Int32)))), (q3, .inr (2, [.ref q4, .ref q5, .ref q6, .int 0, .int 0, .int 0, .int (-1)])), (q8, .inr (5, [.ref q9, .ref q10, .ref q11, .ref q12, .ref q13, .int 0, .int 0, .int 0, .int 0])), (q15, .inl (cA2, 3, .inr (.inr (.inr (.inr (fun _ => none)))))), (q21, .inr (4, [.ref q22, .ref q23, .ref q24, .ref q25, .ref q26, .int 0, .int 0, .int 0]))] := hD
  refine lv_aload_n hx hb d_LS_init_137 rfl (lv_at hl 0 rfl) ?_
  refine lv_iconst (v := (-1)) hx hb d_LS_init_138 (by decide) ?_
  refine va_put (D := (dC, dI)) (ci := 0) (v := .int (-1)) (ty := .int) (C := R_LS) (T := T_LS) (N := 16) hx hb hts in_LS t_LS t_LS_ok n_LS hown hK hP hD hS 0 rfl rfl 15 (by decide) (hts _ k_304) (fun _ h9 => h9) rfl (by decide +kernel) rfl rfl (Nat.le_of_ble_eq_true rfl) d_LS_init_139 (fun H35 locs hP hD hS => ?_)
  have hP : va_P (dC, dI) cls [(h0, .inr (0, [.ref q1, .ref q3, .ref q7, .ref q8, .ref q14, .ref q15, .ref q16, .ref q17, .ref q18, .ref q19, .ref q20, .ref q21, .int 0, .int 0, .int 0, .int (-1)])), (q1, .inr (1, [.ref q2, .int 0])), (q2, .inl (cA1, 300, .inl (fun _ => (0 : Int32)))), (q3, .inr (2, [.ref q4, .ref q5, .ref q6, .int 0, .int 0, .int 0, .int (-1)])), (q8, .inr (5, [.ref q9, .ref q10, .ref q11, .ref q12, .ref q13, .int 0, .int 0, .int 0, .int 0])), (q15, .inl (cA2, 3, .inr (.inr (.inr (.inr (fun _ => none)))))), (q21, .inr (4, [.ref q22, .ref q23, .ref q24, .ref q25, .ref q26, .int 0, .int 0, .int 0]))] H35 := hP
  have hD : va_D A [(h0, .inr (0, [.ref q1, .ref q3, .ref q7, .ref q8, .ref q14, .ref q15, .ref q16, .ref q17, .ref q18, .ref q19, .ref q20, .ref q21, .int 0, .int 0, .int 0, .int (-1)])), (q1, .inr (1, [.ref q2, .int 0])), (q2, .inl (cA1, 300, .inl (fun _ => (0 : Int32)))), (q3, .inr (2, [.ref q4, .ref q5, .ref q6, .int 0, .int 0, .int 0, .int (-1)])), (q8, .inr (5, [.ref q9, .ref q10, .ref q11, .ref q12, .ref q13, .int 0, .int 0, .int 0, .int 0])), (q15, .inl (cA2, 3, .inr (.inr (.inr (.inr (fun _ => none)))))), (q21, .inr (4, [.ref q22, .ref q23, .ref q24, .ref q25, .ref q26, .int 0, .int 0, .int 0]))] := hD
  refine lv_iconst (v := 0) hx hb d_LS_init_142 (by decide) ?_
  refine lv_istore_n hx hb d_LS_init_143 rfl hl (by decide) rfl (fun ls hl => ?_)
  have hl : lv_has ls 2 [(1, .int 0), (0, .ref h0)] := hl
  refine lv_iload_n hx hb d_LS_init_144 rfl (lv_at hl 0 rfl) ?_
  refine lv_iconst (v := 2) hx hb d_LS_init_145 (by decide) ?_
  refine lv_icmp_gt (tgt := 168) hx hb d_LS_init_146 (by decide) (fun h9 => absurd h9 (by decide)) (fun _ => ?_)
  refine lv_aload_n hx hb d_LS_init_149 rfl (lv_at hl 1 rfl) ?_
  refine va_get (D := (dC, dI)) (ci := 0) (v := .ref q15) (C := R_LS) (T := T_LS) (N := 16) hx hb hts in_LS hown hK hP 0 rfl rfl 5 (by decide) (hts _ k_294) (fun _ h9 => h9) rfl d_LS_init_150 ?_
  refine lv_iload_n hx hb d_LS_init_153 rfl (lv_at hl 0 rfl) ?_
  refine va_new (ci := 7) (fs := [.null, .int 0, .int 0, .int 0, .int 0, .int 0]) (C := R_VL) (T := T_VL) (N := 6) hx hb hts in_VL t_VL t_VL_ok hown (hts _ k_229) (hts _ k_262) (hts _ k_10) hK hP hD hS hA rfl (fun j hj => dv_VL j hj) (Nat.le_of_ble_eq_true rfl) (Nat.le_of_ble_eq_true rfl) d_LS_init_154 (fun q27 H36 hP hD hS => ?_)
  have hP : va_P (dC, dI) cls [(h0, .inr (0, [.ref q1, .ref q3, .ref q7, .ref q8, .ref q14, .ref q15, .ref q16, .ref q17, .ref q18, .ref q19, .ref q20, .ref q21, .int 0, .int 0, .int 0, .int (-1)])), (q1, .inr (1, [.ref q2, .int 0])), (q2, .inl (cA1, 300, .inl (fun _ => (0 : Int32)))), (q3, .inr (2, [.ref q4, .ref q5, .ref q6, .int 0, .int 0, .int 0, .int (-1)])), (q8, .inr (5, [.ref q9, .ref q10, .ref q11, .ref q12, .ref q13, .int 0, .int 0, .int 0, .int 0])), (q15, .inl (cA2, 3, .inr (.inr (.inr (.inr (fun _ => none)))))), (q21, .inr (4, [.ref q22, .ref q23, .ref q24, .ref q25, .ref q26, .int 0, .int 0, .int 0])), (q27, .inr (7, [.null, .int 0, .int 0, .int 0, .int 0, .int 0]))] H36 := hP
  have hD : va_D A [(h0, .inr (0, [.ref q1, .ref q3, .ref q7, .ref q8, .ref q14, .ref q15, .ref q16, .ref q17, .ref q18, .ref q19, .ref q20, .ref q21, .int 0, .int 0, .int 0, .int (-1)])), (q1, .inr (1, [.ref q2, .int 0])), (q2, .inl (cA1, 300, .inl (fun _ => (0 : Int32)))), (q3, .inr (2, [.ref q4, .ref q5, .ref q6, .int 0, .int 0, .int 0, .int (-1)])), (q8, .inr (5, [.ref q9, .ref q10, .ref q11, .ref q12, .ref q13, .int 0, .int 0, .int 0, .int 0])), (q15, .inl (cA2, 3, .inr (.inr (.inr (.inr (fun _ => none)))))), (q21, .inr (4, [.ref q22, .ref q23, .ref q24, .ref q25, .ref q26, .int 0, .int 0, .int 0])), (q27, .inr (7, [.null, .int 0, .int 0, .int 0, .int 0, .int 0]))] := hD
  refine W.widen (k := 66) (n := 3592) (Nat.le_of_ble_eq_true rfl) (Nat.le_of_ble_eq_true rfl) ?_
  refine lv_dup hx hb d_LS_init_157 rfl ?_
  have hPc := hP.sub (ws' := [(q27, .inr (7, [.null, .int 0, .int 0, .int 0, .int 0, .int 0]))]) [7] rfl
  have hDc := hD.sub (ws' := [(q27, .inr (7, [.null, .int 0, .int 0, .int 0, .int 0, .int 0]))]) [7] (by decide) rfl
  have hKc := hK.sub (tys' := []) [] rfl
  have hFc := va_free (wc := [(q27, .inr (7, [.null, .int 0, .int 0, .int 0, .int 0, .int 0]))]) hD hS hA [7] rfl
  refine va_callv (va_runIN (As := []) (rest := [.ref q27, .int 0, .ref q15]) ⟨hx, hb, hml, hown, hts⟩ (c_VL_init l dC dI (q27) H36.size) (wd_IN 0 hts k_265 k_10 (hN.1 _ nw_36) k_264 rfl rfl rfl (by decide +kernel) ⟨Nat.le_of_ble_eq_true rfl, Nat.le_of_ble_eq_true rfl⟩) ⟨fun a U g mk q => by obtain ⟨q0, q1, qP, qK, qD, qN⟩ := q; exact ⟨q0, q1, qP, va_K.moved (u := U) (U := U.calling g mk a) (Vm.Alike.refl U.vm) qK, qD, nw_ok.same (s := U) (U := U.calling g mk a) rfl qN⟩, fun U hU hW => ⟨rfl, by rw [hU], by rw [hU]; exact hPc, va_K.moved hW.alike hKc, hDc.weaken (fun _ _ _ _ => trivial), nw_ok.warm hW hN⟩⟩ rfl rfl hl.1 rfl (lv_room (Nat.le_of_ble_eq_true rfl)) d_LS_init_158 ⟨Nat.le_of_ble_eq_true rfl, Nat.le_of_ble_eq_true rfl⟩) hS (fun q _ h => hFc q h) hFc (fun u t H37 locs ht hvm hr8 hB hz1 hk1 hS => ?_)
  obtain ⟨q28, hP1, hK1, hD1⟩ := hB
  rw [ht] at hP1
  have hK1 := va_K.moved hvm.symm hK1
  obtain ⟨hP, hD⟩ := va_join (wr := [(h0, .inr (0, [.ref q1, .ref q3, .ref q7, .ref q8, .ref q14, .ref q15, .ref q16, .ref q17, .ref q18, .ref q19, .ref q20, .ref q21, .int 0, .int 0, .int 0, .int (-1)])), (q1, .inr (1, [.ref q2, .int 0])), (q2, .inl (cA1, 300, .inl (fun _ => (0 : Int32)))), (q3, .inr (2, [.ref q4, .ref q5, .ref q6, .int 0, .int 0, .int 0, .int (-1)])), (q8, .inr (5, [.ref q9, .ref q10, .ref q11, .ref q12, .ref q13, .int 0, .int 0, .int 0, .int 0])), (q15, .inl (cA2, 3, .inr (.inr (.inr (.inr (fun _ => none)))))), (q21, .inr (4, [.ref q22, .ref q23, .ref q24, .ref q25, .ref q26, .int 0, .int 0, .int 0]))]) (w1 := [(q27, .inr (7, [.ref q28, .int 0, .int 0, .int 0, .int 0, .int 0]))]) hP hD [7] [0, 1, 2, 3, 4, 5, 6] rfl rfl (by decide) (by decide) hk1 hFc hP1 hD1
  have hK := (hK.sub (tys' := [(cA1, .byte), (cA2, .object "LeastSolutions$VectorList"), (cA3, .int), (cA4, .int), (cA5, .int), (cA6, .int)]) [0, 1, 2, 3, 4, 5] rfl).app hK1
  have hK : va_K (dC, dI) cls [(cA1, .byte), (cA2, .object "LeastSolutions$VectorList"), (cA3, .int), (cA4, .int), (cA5, .int), (cA6, .int)] s := hK
  have hP : va_P (dC, dI) cls [(h0, .inr (0, [.ref q1, .ref q3, .ref q7, .ref q8, .ref q14, .ref q15, .ref q16, .ref q17, .ref q18, .ref q19, .ref q20, .ref q21, .int 0, .int 0, .int 0, .int (-1)])), (q1, .inr (1, [.ref q2, .int 0])), (q2, .inl (cA1, 300, .inl (fun _ => (0 : Int32)))), (q3, .inr (2, [.ref q4, .ref q5, .ref q6, .int 0, .int 0, .int 0, .int (-1)])), (q8, .inr (5, [.ref q9, .ref q10, .ref q11, .ref q12, .ref q13, .int 0, .int 0, .int 0, .int 0])), (q15, .inl (cA2, 3, .inr (.inr (.inr (.inr (fun _ => none)))))), (q21, .inr (4, [.ref q22, .ref q23, .ref q24, .ref q25, .ref q26, .int 0, .int 0, .int 0])), (q27, .inr (7, [.ref q28, .int 0, .int 0, .int 0, .int 0, .int 0]))] H37 := hP
  have hD : va_D A [(h0, .inr (0, [.ref q1, .ref q3, .ref q7, .ref q8, .ref q14, .ref q15, .ref q16, .ref q17, .ref q18, .ref q19, .ref q20, .ref q21, .int 0, .int 0, .int 0, .int (-1)])), (q1, .inr (1, [.ref q2, .int 0])), (q2, .inl (cA1, 300, .inl (fun _ => (0 : Int32)))), (q3, .inr (2, [.ref q4, .ref q5, .ref q6, .int 0, .int 0, .int 0, .int (-1)])), (q8, .inr (5, [.ref q9, .ref q10, .ref q11, .ref q12, .ref q13, .int 0, .int 0, .int 0, .int 0])), (q15, .inl (cA2, 3, .inr (.inr (.inr (.inr (fun _ => none)))))), (q21, .inr (4, [.ref q22, .ref q23, .ref q24, .ref q25, .ref q26, .int 0, .int 0, .int 0])), (q27, .inr (7, [.ref q28, .int 0, .int 0, .int 0, .int 0, .int 0]))] := hD
  refine W.widen (k := 67) (n := 15592) (Nat.le_of_ble_eq_true rfl) (Nat.le_of_ble_eq_true rfl) ?_
  refine va_astq (r := (R_VL, T_VL, 6)) hx hb hK hP hD hS 5 1 7 7 rfl rfl rfl rfl (show ¬ ((0 : Int32) < 0 ∨ 3 ≤ (0 : Int32).toNatClampNeg) from by decide) d_LS_init_161 (fun H38 locs hP hD hS => ?_)
  have hP : va_P (dC, dI) cls [(h0, .inr (0, [.ref q1, .ref q3, .ref q7, .ref q8, .ref q14, .ref q15, .ref q16, .ref q17, .ref q18, .ref q19, .ref q20, .ref q21, .int 0, .int 0, .int 0, .int (-1)])), (q1, .inr (1, [.ref q2, .int 0])), (q2, .inl (cA1, 300, .inl (fun _ => (0 : Int32)))), (q3, .inr (2, [.ref q4, .ref q5, .ref q6, .int 0, .int 0, .int 0, .int (-1)])), (q8, .inr (5, [.ref q9, .ref q10, .ref q11, .ref q12, .ref q13, .int 0, .int 0, .int 0, .int 0])), (q15, .inl (cA2, 3, .inr (.inr (.inr (.inr (va_up (fun _ => none) (0 : Int32).toNatClampNeg (some q27))))))), (q21, .inr (4, [.ref q22, .ref q23, .ref q24, .ref q25, .ref q26, .int 0, .int 0, .int 0])), (q27, .inr (7, [.ref q28, .int 0, .int 0, .int 0, .int 0, .int 0]))] H38 := hP
  have hD : va_D A [(h0, .inr (0, [.ref q1, .ref q3, .ref q7, .ref q8, .ref q14, .ref q15, .ref q16, .ref q17, .ref q18, .ref q19, .ref q20, .ref q21, .int 0, .int 0, .int 0, .int (-1)])), (q1, .inr (1, [.ref q2, .int 0])), (q2, .inl (cA1, 300, .inl (fun _ => (0 : Int32)))), (q3, .inr (2, [.ref q4, .ref q5, .ref q6, .int 0, .int 0, .int 0, .int (-1)])), (q8, .inr (5, [.ref q9, .ref q10, .ref q11, .ref q12, .ref q13, .int 0, .int 0, .int 0, .int 0])), (q15, .inl (cA2, 3, .inr (.inr (.inr (.inr (va_up (fun _ => none) (0 : Int32).toNatClampNeg (some q27))))))), (q21, .inr (4, [.ref q22, .ref q23, .ref q24, .ref q25, .ref q26, .int 0, .int 0, .int 0])), (q27, .inr (7, [.ref q28, .int 0, .int 0, .int 0, .int 0, .int 0]))] := hD
  refine lv_iinc (k := 0) (v := 1) hx hb d_LS_init_162 hl rfl (by decide) (by decide) rfl (fun ls hl => ?_)
  have hl : lv_has ls 2 [(1, .int 1), (0, .ref h0)] := hl
  refine lv_goto (tgt := 144) hx hb d_LS_init_165 (by decide) ?_
  refine lv_iload_n hx hb d_LS_init_144 rfl (lv_at hl 0 rfl) ?_
  refine lv_iconst (v := 2) hx hb d_LS_init_145 (by decide) ?_
  refine lv_icmp_gt (tgt := 168) hx hb d_LS_init_146 (by decide) (fun h9 => absurd h9 (by decide)) (fun _ => ?_)
  refine lv_aload_n hx hb d_LS_init_149 rfl (lv_at hl 1 rfl) ?_
  refine va_get (D := (dC, dI)) (ci := 0) (v := .ref q15) (C := R_LS) (T := T_LS) (N := 16) hx hb hts in_LS hown hK hP 0 rfl rfl 5 (by decide) (hts _ k_294) (fun _ h9 => h9) rfl d_LS_init_150 ?_
  refine lv_iload_n hx hb d_LS_init_153 rfl (lv_at hl 0 rfl) ?_
  refine va_new (ci := 7) (fs := [.null, .int 0, .int 0, .int 0, .int 0, .int 0]) (C := R_VL) (T := T_VL) (N := 6) hx hb hts in_VL t_VL t_VL_ok hown (hts _ k_229) (hts _ k_262) (hts _ k_10) hK hP hD hS hA rfl (fun j hj => dv_VL j hj) (Nat.le_of_ble_eq_true rfl) (Nat.le_of_ble_eq_true rfl) d_LS_init_154 (fun q29 H39 hP hD hS => ?_)
  have hP : va_P (dC, dI) cls [(h0, .inr (0, [.ref q1, .ref q3, .ref q7, .ref q8, .ref q14, .ref q15, .ref q16, .ref q17, .ref q18, .ref q19, .ref q20, .ref q21, .int 0, .int 0, .int 0, .int (-1)])), (q1, .inr (1, [.ref q2, .int 0])), (q2, .inl (cA1, 300, .inl (fun _ => (0 : Int32)))), (q3, .inr (2, [.ref q4, .ref q5, .ref q6, .int 0, .int 0, .int 0, .int (-1)])), (q8, .inr (5, [.ref q9, .ref q10, .ref q11, .ref q12, .ref q13, .int 0, .int 0, .int 0, .int 0])), (q15, .inl (cA2, 3, .inr (.inr (.inr (.inr (va_up (fun _ => none) (0 : Int32).toNatClampNeg (some q27))))))), (q21, .inr (4, [.ref q22, .ref q23, .ref q24, .ref q25, .ref q26, .int 0, .int 0, .int 0])), (q27, .inr (7, [.ref q28, .int 0, .int 0, .int 0, .int 0, .int 0])), (q29, .inr (7, [.null, .int 0, .int 0, .int 0, .int 0, .int 0]))] H39 := hP
  have hD : va_D A [(h0, .inr (0, [.ref q1, .ref q3, .ref q7, .ref q8, .ref q14, .ref q15, .ref q16, .ref q17, .ref q18, .ref q19, .ref q20, .ref q21, .int 0, .int 0, .int 0, .int (-1)])), (q1, .inr (1, [.ref q2, .int 0])), (q2, .inl (cA1, 300, .inl (fun _ => (0 : Int32)))), (q3, .inr (2, [.ref q4, .ref q5, .ref q6, .int 0, .int 0, .int 0, .int (-1)])), (q8, .inr (5, [.ref q9, .ref q10, .ref q11, .ref q12, .ref q13, .int 0, .int 0, .int 0, .int 0])), (q15, .inl (cA2, 3, .inr (.inr (.inr (.inr (va_up (fun _ => none) (0 : Int32).toNatClampNeg (some q27))))))), (q21, .inr (4, [.ref q22, .ref q23, .ref q24, .ref q25, .ref q26, .int 0, .int 0, .int 0])), (q27, .inr (7, [.ref q28, .int 0, .int 0, .int 0, .int 0, .int 0])), (q29, .inr (7, [.null, .int 0, .int 0, .int 0, .int 0, .int 0]))] := hD
  refine W.widen (k := 68) (n := 15598) (Nat.le_of_ble_eq_true rfl) (Nat.le_of_ble_eq_true rfl) ?_
  refine lv_dup hx hb d_LS_init_157 rfl ?_
  have hPc := hP.sub (ws' := [(q29, .inr (7, [.null, .int 0, .int 0, .int 0, .int 0, .int 0]))]) [8] rfl
  have hDc := hD.sub (ws' := [(q29, .inr (7, [.null, .int 0, .int 0, .int 0, .int 0, .int 0]))]) [8] (by decide) rfl
  have hKc := hK.sub (tys' := []) [] rfl
  have hFc := va_free (wc := [(q29, .inr (7, [.null, .int 0, .int 0, .int 0, .int 0, .int 0]))]) hD hS hA [8] rfl
  refine va_callv (va_runIN (As := []) (rest := [.ref q29, .int 1, .ref q15]) ⟨hx, hb, hml, hown, hts⟩ (c_VL_init l dC dI (q29) H39.size) (wd_IN 0 hts k_265 k_10 (hN.1 _ nw_36) k_264 rfl rfl rfl (by decide +kernel) ⟨Nat.le_of_ble_eq_true rfl, Nat.le_of_ble_eq_true rfl⟩) ⟨fun a U g mk q => by obtain ⟨q0, q1, qP, qK, qD, qN⟩ := q; exact ⟨q0, q1, qP, va_K.moved (u := U) (U := U.calling g mk a) (Vm.Alike.refl U.vm) qK, qD, nw_ok.same (s := U) (U := U.calling g mk a) rfl qN⟩, fun U hU hW => ⟨rfl, by rw [hU], by rw [hU]; exact hPc, va_K.moved hW.alike hKc, hDc.weaken (fun _ _ _ _ => trivial), nw_ok.warm hW hN⟩⟩ rfl rfl hl.1 rfl (lv_room (Nat.le_of_ble_eq_true rfl)) d_LS_init_158 ⟨Nat.le_of_ble_eq_true rfl, Nat.le_of_ble_eq_true rfl⟩) hS (fun q _ h => hFc q h) hFc (fun u t H40 locs ht hvm hr9 hB hz1 hk1 hS => ?_)
  obtain ⟨q30, hP1, hK1, hD1⟩ := hB
  rw [ht] at hP1
  have hK1 := va_K.moved hvm.symm hK1
  obtain ⟨hP, hD⟩ := va_join (wr := [(h0, .inr (0, [.ref q1, .ref q3, .ref q7, .ref q8, .ref q14, .ref q15, .ref q16, .ref q17, .ref q18, .ref q19, .ref q20, .ref q21, .int 0, .int 0, .int 0, .int (-1)])), (q1, .inr (1, [.ref q2, .int 0])), (q2, .inl (cA1, 300, .inl (fun _ => (0 : Int32)))), (q3, .inr (2, [.ref q4, .ref q5, .ref q6, .int 0, .int 0, .int 0, .int (-1)])), (q8, .inr (5, [.ref q9, .ref q10, .ref q11, .ref q12, .ref q13, .int 0, .int 0, .int 0, .int 0])), (q15, .inl (cA2, 3, .inr (.inr (.inr (.inr (va_up (fun _ => none) (0 : Int32).toNatClampNeg (some q27))))))), (q21, .inr (4, [.ref q22, .ref q23, .ref q24, .ref q25, .ref q26, .int 0, .int 0, .int 0])), (q27, .inr (7, [.ref q28, .int 0, .int 0, .int 0, .int 0, .int 0]))]) (w1 := [(q29, .inr (7, [.ref q30, .int 0, .int 0, .int 0, .int 0, .int 0]))]) hP hD [8] [0, 1, 2, 3, 4, 5, 6, 7] rfl rfl (by decide) (by decide) hk1 hFc hP1 hD1
  have hK := (hK.sub (tys' := [(cA1, .byte), (cA2, .object "LeastSolutions$VectorList"), (cA3, .int), (cA4, .int), (cA5, .int), (cA6, .int)]) [0, 1, 2, 3, 4, 5] rfl).app hK1
  have hK : va_K (dC, dI) cls [(cA1, .byte), (cA2, .object "LeastSolutions$VectorList"), (cA3, .int), (cA4, .int), (cA5, .int), (cA6, .int)] s := hK
  have hP : va_P (dC, dI) cls [(h0, .inr (0, [.ref q1, .ref q3, .ref q7, .ref q8, .ref q14, .ref q15, .ref q16, .ref q17, .ref q18, .ref q19, .ref q20, .ref q21, .int 0, .int 0, .int 0, .int (-1)])), (q1, .inr (1, [.ref q2, .int 0])), (q2, .inl (cA1, 300, .inl (fun _ => (0 : Int32)))), (q3, .inr (2, [.ref q4, .ref q5, .ref q6, .int 0, .int 0, .int 0, .int (-1)])), (q8, .inr (5, [.ref q9, .ref q10, .ref q11, .ref q12, .ref q13, .int 0, .int 0, .int 0, .int 0])), (q15, .inl (cA2, 3, .inr (.inr (.inr (.inr (va_up (fun _ => none) (0 : Int32).toNatClampNeg (some q27))))))), (q21, .inr (4, [.ref q22, .ref q23, .ref q24, .ref q25, .ref q26, .int 0, .int 0, .int 0])), (q27, .inr (7, [.ref q28, .int 0, .int 0, .int 0, .int 0, .int 0])), (q29, .inr (7, [.ref q30, .int 0, .int 0, .int 0, .int 0, .int 0]))] H40 := hP
  have hD : va_D A [(h0, .inr (0, [.ref q1, .ref q3, .ref q7, .ref q8, .ref q14, .ref q15, .ref q16, .ref q17, .ref q18, .ref q19, .ref q20, .ref q21, .int 0, .int 0, .int 0, .int (-1)])), (q1, .inr (1, [.ref q2, .int 0])), (q2, .inl (cA1, 300, .inl (fun _ => (0 : Int32)))), (q3, .inr (2, [.ref q4, .ref q5, .ref q6, .int 0, .int 0, .int 0, .int (-1)])), (q8, .inr (5, [.ref q9, .ref q10, .ref q11, .ref q12, .ref q13, .int 0, .int 0, .int 0, .int 0])), (q15, .inl (cA2, 3, .inr (.inr (.inr (.inr (va_up (fun _ => none) (0 : Int32).toNatClampNeg (some q27))))))), (q21, .inr (4, [.ref q22, .ref q23, .ref q24, .ref q25, .ref q26, .int 0, .int 0, .int 0])), (q27, .inr (7, [.ref q28, .int 0, .int 0, .int 0, .int 0, .int 0])), (q29, .inr (7, [.ref q30, .int 0, .int 0, .int 0, .int 0, .int 0]))] := hD
  refine W.widen (k := 69) (n := 27598) (Nat.le_of_ble_eq_true rfl) (Nat.le_of_ble_eq_true rfl) ?_
  refine va_astq (r := (R_VL, T_VL, 6)) hx hb hK hP hD hS 5 1 8 7 rfl rfl rfl rfl (show ¬ ((1 : Int32) < 0 ∨ 3 ≤ (1 : Int32).toNatClampNeg) from by decide) d_LS_init_161 (fun H41 locs hP hD hS => ?_)
  have hP : va_P (dC, dI) cls [(h0, .inr (0, [.ref q1, .ref q3, .ref q7, .ref q8, .ref q14, .ref q15, .ref q16, .ref q17, .ref q18, .ref q19, .ref q20, .ref q21, .int 0, .int 0, .int 0, .int (-1)])), (q1, .inr (1, [.ref q2, .int 0])), (q2, .inl (cA1, 300, .inl (fun _ => (0 : Int32)))), (q3, .inr (2, [.ref q4, .ref q5, .ref q6, .int 0, .int 0, .int 0, .int (-1)])), (q8, .inr (5, [.ref q9, .ref q10, .ref q11, .ref q12, .ref q13, .int 0, .int 0, .int 0, .int 0])), (q15, .inl (cA2, 3, .inr (.inr (.inr (.inr (va_up (va_up (fun _ => none) (0 : Int32).toNatClampNeg (some q27)) (1 : Int32).toNatClampNeg (some q29))))))), (q21, .inr (4, [.ref q22, .ref q23, .ref q24, .ref q25, .ref q26, .int 0, .int 0, .int 0])), (q27, .inr (7, [.ref q28, .int 0, .int 0, .int 0, .int 0, .int 0])), (q29, .inr (7, [.ref q30, .int 0, .int 0, .int 0, .int 0, .int 0]))] H41 := hP
  have hD : va_D A [(h0, .inr (0, [.ref q1, .ref q3, .ref q7, .ref q8, .ref q14, .ref q15, .ref q16, .ref q17, .ref q18, .ref q19, .ref q20, .ref q21, .int 0, .int 0, .int 0, .int (-1)])), (q1, .inr (1, [.ref q2, .int 0])), (q2, .inl (cA1, 300, .inl (fun _ => (0 : Int32)))), (q3, .inr (2, [.ref q4, .ref q5, .ref q6, .int 0, .int 0, .int 0, .int (-1)])), (q8, .inr (5, [.ref q9, .ref q10, .ref q11, .ref q12, .ref q13, .int 0, .int 0, .int 0, .int 0])), (q15, .inl (cA2, 3, .inr (.inr (.inr (.inr (va_up (va_up (fun _ => none) (0 : Int32).toNatClampNeg (some q27)) (1 : Int32).toNatClampNeg (some q29))))))), (q21, .inr (4, [.ref q22, .ref q23, .ref q24, .ref q25, .ref q26, .int 0, .int 0, .int 0])), (q27, .inr (7, [.ref q28, .int 0, .int 0, .int 0, .int 0, .int 0])), (q29, .inr (7, [.ref q30, .int 0, .int 0, .int 0, .int 0, .int 0]))] := hD
  refine lv_iinc (k := 0) (v := 2) hx hb d_LS_init_162 hl rfl (by decide) (by decide) rfl (fun ls hl => ?_)
  have hl : lv_has ls 2 [(1, .int 2), (0, .ref h0)] := hl
  refine lv_goto (tgt := 144) hx hb d_LS_init_165 (by decide) ?_
  refine lv_iload_n hx hb d_LS_init_144 rfl (lv_at hl 0 rfl) ?_
  refine lv_iconst (v := 2) hx hb d_LS_init_145 (by decide) ?_
  refine lv_icmp_gt (tgt := 168) hx hb d_LS_init_146 (by decide) (fun h9 => absurd h9 (by decide)) (fun _ => ?_)
  refine lv_aload_n hx hb d_LS_init_149 rfl (lv_at hl 1 rfl) ?_
  refine va_get (D := (dC, dI)) (ci := 0) (v := .ref q15) (C := R_LS) (T := T_LS) (N := 16) hx hb hts in_LS hown hK hP 0 rfl rfl 5 (by decide) (hts _ k_294) (fun _ h9 => h9) rfl d_LS_init_150 ?_
  refine lv_iload_n hx hb d_LS_init_153 rfl (lv_at hl 0 rfl) ?_
  refine va_new (ci := 7) (fs := [.null, .int 0, .int 0, .int 0, .int 0, .int 0]) (C := R_VL) (T := T_VL) (N := 6) hx hb hts in_VL t_VL t_VL_ok hown (hts _ k_229) (hts _ k_262) (hts _ k_10) hK hP hD hS hA rfl (fun j hj => dv_VL j hj) (Nat.le_of_ble_eq_true rfl) (Nat.le_of_ble_eq_true rfl) d_LS_init_154 (fun q31 H42 hP hD hS => ?_)
  have hP : va_P (dC, dI) cls [(h0, .inr (0, [.ref q1, .ref q3, .ref q7, .ref q8, .ref q14, .ref q15, .ref q16, .ref q17, .ref q18, .ref q19, .ref q20, .ref q21, .int 0, .int 0, .int 0, .int (-1)])), (q1, .inr (1, [.ref q2, .int 0])), (q2, .inl (cA1, 300, .inl (fun _ => (0 : Int32)))), (q3, .inr (2, [.ref q4, .ref q5, .ref q6, .int 0, .int 0, .int 0, .int (-1)])), (q8, .inr (5, [.ref q9, .ref q10, .ref q11, .ref q12, .ref q13, .int 0, .int 0, .int 0, .int 0])), (q15, .inl (cA2, 3, .inr (.inr (.inr (.inr (va_up (va_up (fun _ => none) (0 : Int32).toNatClampNeg (some q27)) (1 : Int32).toNatClampNeg (some q29))))))), (q21, .inr (4, [.ref q22, .ref q23, .ref q24, .ref q25, .ref q26, .int 0, .int 0, .int 0])), (q27, .inr (7, [.ref q28, .int 0, .int 0, .int 0, .int 0, .int 0])), (q29, .inr (7, [.ref q30, .int 0, .int 0, .int 0, .int 0, .int 0])), (q31, .inr (7, [.null, .int 0, .int 0, .int 0, .int 0, .int 0]))] H42 := hP
  have hD : va_D A [(h0, .inr (0, [.ref q1, .ref q3, .ref q7, .ref q8, .ref q14, .ref q15, .ref q16, .ref q17, .ref q18, .ref q19, .ref q20, .ref q21, .int 0, .int 0, .int 0, .int (-1)])), (q1, .inr (1, [.ref q2, .int 0])), (q2, .inl (cA1, 300, .inl (fun _ => (0 : Int32)))), (q3, .inr (2, [.ref q4, .ref q5, .ref q6, .int 0, .int 0, .int 0, .int (-1)])), (q8, .inr (5, [.ref q9, .ref q10, .ref q11, .ref q12, .ref q13, .int 0, .int 0, .int 0, .int 0])), (q15, .inl (cA2, 3, .inr (.inr (.inr (.inr (va_up (va_up (fun _ => none) (0 : Int32).toNatClampNeg (some q27)) (1 : Int32).toNatClampNeg (some q29))))))), (q21, .inr (4, [.ref q22, .ref q23, .ref q24, .ref q25, .ref q26, .int 0, .int 0, .int 0])), (q27, .inr (7, [.ref q28, .int 0, .int 0, .int 0, .int 0, .int 0])), (q29, .inr (7, [.ref q30, .int 0, .int 0, .int 0, .int 0, .int 0])), (q31, .inr (7, [.null, .int 0, .int 0, .int 0, .int 0, .int 0]))] := hD
  refine W.widen (k := 70) (n := 27604) (Nat.le_of_ble_eq_true rfl) (Nat.le_of_ble_eq_true rfl) ?_
  refine lv_dup hx hb d_LS_init_157 rfl ?_
  have hPc := hP.sub (ws' := [(q31, .inr (7, [.null, .int 0, .int 0, .int 0, .int 0, .int 0]))]) [9] rfl
  have hDc := hD.sub (ws' := [(q31, .inr (7, [.null, .int 0, .int 0, .int 0, .int 0, .int 0]))]) [9] (by decide) rfl
  have hKc := hK.sub (tys' := []) [] rfl
  have hFc := va_free (wc := [(q31, .inr (7, [.null, .int 0, .int 0, .int 0, .int 0, .int 0]))]) hD hS hA [9] rfl
  refine va_callv (va_runIN (As := []) (rest := [.ref q31, .int 2, .ref q15]) ⟨hx, hb, hml, hown, hts⟩ (c_VL_init l dC dI (q31) H42.size) (wd_IN 0 hts k_265 k_10 (hN.1 _ nw_36) k_264 rfl rfl rfl (by decide +kernel) ⟨Nat.le_of_ble_eq_true rfl, Nat.le_of_ble_eq_true rfl⟩) ⟨fun a U g mk q => by obtain ⟨q0, q1, qP, qK, qD, qN⟩ := q; exact ⟨q0, q1, qP, va_K.moved (u := U) (U := U.calling g mk a) (Vm.Alike.refl U.vm) qK, qD, nw_ok.same (s := U) (U := U.calling g mk a) rfl qN⟩, fun U hU hW => ⟨rfl, by rw [hU], by rw [hU]; exact hPc, va_K.moved hW.alike hKc, hDc.weaken (fun _ _ _ _ => trivial), nw_ok.warm hW hN⟩⟩ rfl rfl hl.1 rfl (lv_room (Nat.le_of_ble_eq_true rfl)) d_LS_init_158 ⟨Nat.le_of_ble_eq_true rfl, Nat.le_of_ble_eq_true rfl⟩) hS (fun q _ h => hFc q h) hFc (fun u t H43 locs ht hvm hr10 hB hz1 hk1 hS => ?_)
  obtain ⟨q32, hP1, hK1, hD1⟩ := hB
  rw [ht] at hP1
  have hK1 := va_K.moved hvm.symm hK1
  obtain ⟨hP, hD⟩ := va_join (wr := [(h0, .inr (0, [.ref q1, .ref q3, .ref q7, .ref q8, .ref q14, .ref q15, .ref q16, .ref q17, .ref q18, .ref q19, .ref q20, .ref q21, .int 0, .int 0, .int 0, .int (-1)])), (q1, .inr (1, [.ref q2, .int 0])), (q2, .inl (cA1, 300, .inl (fun _ => (0 : Int32)))), (q3, .inr (2, [.ref q4, .ref q5, .ref q6, .int 0, .int 0, .int 0, .int (-1)])), (q8, .inr (5, [.ref q9, .ref q10, .ref q11, .ref q12, .ref q13, .int 0, .int 0, .int 0, .int 0])), (q15, .inl (cA2, 3, .inr (.inr (.inr (.inr (va_up (va_up (fun _ => none) (0 : Int32).toNatClampNeg (some q27)) (1 : Int32).toNatClampNeg (some q29))))))), (q21, .inr (4, [.ref q22, .ref q23, .ref q24, .ref q25, .ref q26, .int 0, .int 0, .int 0])), (q27, .inr (7, [.ref q28, .int 0, .int 0, .int 0, .int 0, .int 0])), (q29, .inr (7, [.ref q30, .int 0, .int 0, .int 0, .int 0, .int 0]))]) (w1 := [(q31, .inr (7, [.ref q32, .int 0, .int 0, .int 0, .int 0, .int 0]))]) hP hD [9] [0, 1, 2, 3, 4, 5, 6, 7, 8] rfl rfl (by decide) (by decide) hk1 hFc hP1 hD1
  have hK := (hK.sub (tys' := [(cA1, .byte), (cA2, .object "LeastSolutions$VectorList"), (cA3, .int), (cA4, .int), (cA5, .int), (cA6, .int)]) [0, 1, 2, 3, 4, 5] rfl).app hK1
  have hK : va_K (dC, dI) cls [(cA1, .byte), (cA2, .object "LeastSolutions$VectorList"), (cA3, .int), (cA4, .int), (cA5, .int), (cA6, .int)] s := hK
  have hP : va_P (dC, dI) cls [(h0, .inr (0, [.ref q1, .ref q3, .ref q7, .ref q8, .ref q14, .ref q15, .ref q16, .ref q17, .ref q18, .ref q19, .ref q20, .ref q21, .int 0, .int 0, .int 0, .int (-1)])), (q1, .inr (1, [.ref q2, .int 0])), (q2, .inl (cA1, 300, .inl (fun _ => (0 : Int32)))), (q3, .inr (2, [.ref q4, .ref q5, .ref q6, .int 0, .int 0, .int 0, .int (-1)])), (q8, .inr (5, [.ref q9, .ref q10, .ref q11, .ref q12, .ref q13, .int 0, .int 0, .int 0, .int 0])), (q15, .inl (cA2, 3, .inr (.inr (.inr (.inr (va_up (va_up (fun _ => none) (0 : Int32).toNatClampNeg (some q27)) (1 : Int32).toNatClampNeg (some q29))))))), (q21, .inr (4, [.ref q22, .ref q23, .ref q24, .ref q25, .ref q26, .int 0, .int 0, .int 0])), (q27, .inr (7, [.ref q28, .int 0, .int 0, .int 0, .int 0, .int 0])), (q29, .inr (7, [.ref q30, .int 0, .int 0, .int 0, .int 0, .int 0])), (q31, .inr (7, [.ref q32, .int 0, .int 0, .int 0, .int 0, .int 0]))] H43 := hP
  have hD : va_D A [(h0, .inr (0, [.ref q1, .ref q3, .ref q7, .ref q8, .ref q14, .ref q15, .ref q16, .ref q17, .ref q18, .ref q19, .ref q20, .ref q21, .int 0, .int 0, .int 0, .int (-1)])), (q1, .inr (1, [.ref q2, .int 0])), (q2, .inl (cA1, 300, .inl (fun _ => (0 : Int32)))), (q3, .inr (2, [.ref q4, .ref q5, .ref q6, .int 0, .int 0, .int 0, .int (-1)])), (q8, .inr (5, [.ref q9, .ref q10, .ref q11, .ref q12, .ref q13, .int 0, .int 0, .int 0, .int 0])), (q15, .inl (cA2, 3, .inr (.inr (.inr (.inr (va_up (va_up (fun _ => none) (0 : Int32).toNatClampNeg (some q27)) (1 : Int32).toNatClampNeg (some q29))))))), (q21, .inr (4, [.ref q22, .ref q23, .ref q24, .ref q25, .ref q26, .int 0, .int 0, .int 0])), (q27, .inr (7, [.ref q28, .int 0, .int 0, .int 0, .int 0, .int 0])), (q29, .inr (7, [.ref q30, .int 0, .int 0, .int 0, .int 0, .int 0])), (q31, .inr (7, [.ref q32, .int 0, .int 0, .int 0, .int 0, .int 0]))] := hD
  refine W.widen (k := 71) (n := 39604) (Nat.le_of_ble_eq_true rfl) (Nat.le_of_ble_eq_true rfl) ?_
  refine va_astq (r := (R_VL, T_VL, 6)) hx hb hK hP hD hS 5 1 9 7 rfl rfl rfl rfl (show ¬ ((2 : Int32) < 0 ∨ 3 ≤ (2 : Int32).toNatClampNeg) from by decide) d_LS_init_161 (fun H44 locs hP hD hS => ?_)
  have hP : va_P (dC, dI) cls [(h0, .inr (0, [.ref q1, .ref q3, .ref q7, .ref q8, .ref q14, .ref q15, .ref q16, .ref q17, .ref q18, .ref q19, .ref q20, .ref q21, .int 0, .int 0, .int 0, .int (-1)])), (q1, .inr (1, [.ref q2, .int 0])), (q2, .inl (cA1, 300, .inl (fun _ => (0 : Int32)))), (q3, .inr (2, [.ref q4, .ref q5, .ref q6, .int 0, .int 0, .int 0, .int (-1)])), (q8, .inr (5, [.ref q9, .ref q10, .ref q11, .ref q12, .ref q13, .int 0, .int 0, .int 0, .int 0])), (q15, .inl (cA2, 3, .inr (.inr (.inr (.inr (va_up (va_up (va_up (fun _ => none) (0 : Int32).toNatClampNeg (some q27)) (1 : Int32).toNatClampNeg (some q29)) (2 : Int32).toNatClampNeg (some q31))))))), (q21, .inr (4, [.ref q22, .ref q23, .ref q24, .ref q25, .ref q26, .int 0, .int 0, .int 0])), (q27, .inr (7, [.ref q28, .int 0, .int 0, .int 0, .int 0, .int 0])), (q29, .inr (7, [.ref q30, .int 0, .int 0, .int 0, .int 0, .int 0])), (q31, .inr (7, [.ref q32, .int 0, .int 0, .int 0, .int 0, .int 0]))] H44 := hP
  have hD : va_D A [(h0, .inr (0, [.ref q1, .ref q3, .ref q7, .ref q8, .ref q14, .ref q15, .ref q16, .ref q17, .ref q18, .ref q19, .ref q20, .ref q21, .int 0, .int 0, .int 0, .int (-1)])), (q1, .inr (1, [.ref q2, .int 0])), (q2, .inl (cA1, 300, .inl (fun _ => (0 : Int32)))), (q3, .inr (2, [.ref q4, .ref q5, .ref q6, .int 0, .int 0, .int 0, .int (-1)])), (q8, .inr (5, [.ref q9, .ref q10, .ref q11, .ref q12, .ref q13, .int 0, .int 0, .int 0, .int 0])), (q15, .inl (cA2, 3, .inr (.inr (.inr (.inr (va_up (va_up (va_up (fun _ => none) (0 : Int32).toNatClampNeg (some q27)) (1 : Int32).toNatClampNeg (some q29)) (2 : Int32).toNatClampNeg (some q31))))))), (q21, .inr (4, [.ref q22, .ref q23, .ref q24, .ref q25, .ref q26, .int 0, .int 0, .int 0])), (q27, .inr (7, [.ref q28, .int 0, .int 0, .int 0, .int 0, .int 0])), (q29, .inr (7, [.ref q30, .int 0, .int 0, .int 0, .int 0, .int 0])), (q31, .inr (7, [.ref q32, .int 0, .int 0, .int 0, .int 0, .int 0]))] := hD
  refine lv_iinc (k := 0) (v := 3) hx hb d_LS_init_162 hl rfl (by decide) (by decide) rfl (fun ls hl => ?_)
  have hl : lv_has ls 2 [(1, .int 3), (0, .ref h0)] := hl
  refine lv_goto (tgt := 144) hx hb d_LS_init_165 (by decide) ?_
  refine lv_iload_n hx hb d_LS_init_144 rfl (lv_at hl 0 rfl) ?_
  refine lv_iconst (v := 2) hx hb d_LS_init_145 (by decide) ?_
  refine lv_icmp_gt (tgt := 168) hx hb d_LS_init_146 (by decide) (fun _ => ?_) (fun h9 => absurd (by decide) h9)
  have hP9 := hP.sub (ws' := [(h0, .inr (0, [.ref q1, .ref q3, .ref q7, .ref q8, .ref q14, .ref q15, .ref q16, .ref q17, .ref q18, .ref q19, .ref q20, .ref q21, .int 0, .int 0, .int 0, .int (-1)])), (q1, .inr (1, [.ref q2, .int 0])), (q2, .inl (cA1, 300, .inl (fun _ => (0 : Int32)))), (q3, .inr (2, [.ref q4, .ref q5, .ref q6, .int 0, .int 0, .int 0, .int (-1)])), (q8, .inr (5, [.ref q9, .ref q10, .ref q11, .ref q12, .ref q13, .int 0, .int 0, .int 0, .int 0])), (q15, .inl (cA2, 3, .inr (.inr (.inr (.inr (va_up (va_up (va_up (fun _ => none) (0 : Int32).toNatClampNeg (some q27)) (1 : Int32).toNatClampNeg (some q29)) (2 : Int32).toNatClampNeg (some q31))))))), (q27, .inr (7, [.ref q28, .int 0, .int 0, .int 0, .int 0, .int 0])), (q29, .inr (7, [.ref q30, .int 0, .int 0, .int 0, .int 0, .int 0])), (q31, .inr (7, [.ref q32, .int 0, .int 0, .int 0, .int 0, .int 0])), (q21, .inr (4, [.ref q22, .ref q23, .ref q24, .ref q25, .ref q26, .int 0, .int 0, .int 0]))]) [0, 1, 2, 3, 4, 5, 7, 8, 9, 6] rfl
  have hD9 := hD.sub (ws' := [(h0, .inr (0, [.ref q1, .ref q3, .ref q7, .ref q8, .ref q14, .ref q15, .ref q16, .ref q17, .ref q18, .ref q19, .ref q20, .ref q21, .int 0, .int 0, .int 0, .int (-1)])), (q1, .inr (1, [.ref q2, .int 0])), (q2, .inl (cA1, 300, .inl (fun _ => (0 : Int32)))), (q3, .inr (2, [.ref q4, .ref q5, .ref q6, .int 0, .int 0, .int 0, .int (-1)])), (q8, .inr (5, [.ref q9, .ref q10, .ref q11, .ref q12, .ref q13, .int 0, .int 0, .int 0, .int 0])), (q15, .inl (cA2, 3, .inr (.inr (.inr (.inr (va_up (va_up (va_up (fun _ => none) (0 : Int32).toNatClampNeg (some q27)) (1 : Int32).toNatClampNeg (some q29)) (2 : Int32).toNatClampNeg (some q31))))))), (q27, .inr (7, [.ref q28, .int 0, .int 0, .int 0, .int 0, .int 0])), (q29, .inr (7, [.ref q30, .int 0, .int 0, .int 0, .int 0, .int 0])), (q31, .inr (7, [.ref q32, .int 0, .int 0, .int 0, .int 0, .int 0])), (q21, .inr (4, [.ref q22, .ref q23, .ref q24, .ref q25, .ref q26, .int 0, .int 0, .int 0]))]) [0, 1, 2, 3, 4, 5, 7, 8, 9, 6] (by decide) rfl
  have hK9 := hK.sub (tys' := [(cA1, .byte), (cA2, .object "LeastSolutions$VectorList")]) [0, 1] rfl
  exact W.vret hx hb hr (fun t ht hW => ⟨⟨(), rfl, trivial, q1, q3, q7, q8, q14, q15, q16, q17, q18, q19, q20, q21, q2, q4, q5, q6, q9, q10, q11, q12, q13, q27, q28, q29, q30, q31, q32, q22, q23, q24, q25, q26, cA1, cA2, (va_up (va_up (va_up (fun _ => none) (0 : Int32).toNatClampNeg (some q27)) (1 : Int32).toNatClampNeg (some q29)) (2 : Int32).toNatClampNeg (some q31)), by rw [ht]; exact hP9, va_K.moved hW.alike hK9, hD9, rfl, rfl, rfl⟩, hS.F ht⟩) hS.2.2 d_LS_init_168

set_option maxHeartbeats 4000000 in
set_option maxRecDepth 100000 in
theorem c_MO_init (l : Launch) (dC : Nat → ClassId) (dI : Nat → Nat → Nat) (h0 : Nat) (sz : Nat) : Met l y_MO_init (Cond.code y_MO_init b_MO_init 1 (Option.none : Option Jvm.ClassFile.FieldType) :: wd) { frames := 1, cells := 21, slots := 39356, locals := 20 } (va_Pc [.ref h0] (fun U => U.heap.size = sz ∧ va_P (dC, dI) cls [(h0, .inr (9, [.int 0, .null, .int 0, .int 0, .null, .null, .null, .int 0, .null, .int 0, .int 0, .int 0, .null, .null, .int 0, .int 0, .int 0, .int 0, .null, .null, .null, .null, .null, .null, .null, .null, .int 0, .null, .int 0, .null, .null, .int 0, .null, .int 0, .null, .null]))] U.heap ∧ va_K (dC, dI) cls [] U ∧ va_D (fun _ => True) [(h0, .inr (9, [.int 0, .null, .int 0, .int 0, .null, .null, .null, .int 0, .null, .int 0, .int 0, .int 0, .null, .null, .int 0, .int 0, .int 0, .int 0, .null, .null, .null, .null, .null, .null, .null, .null, .int 0, .null, .int 0, .null, .null, .int 0, .null, .int 0, .null, .null]))] ∧ nw_ok U)) (va_Qv (fun _ : Unit => True) (fun (_ : Unit) t => ∃ (q1 q2 q3 q4 q5 q6 q7 q8 q9 q10 q11 q12 q13 q14 q15 q16 q17 q18 q19 q20 q21 : Nat) (cA1 cA2 cA3 cA4 : ClassId) , va_P (dC, dI) cls [(h0, .inr (9, [.int 0, .ref q1, .int 0, .int (-1), .ref q2, .ref q3, .ref q4, .int 0, .ref q5, .int 0, .int 0, .int 0, .ref q6, .ref q7, .int 0, .int 0, .int 0, .int 0, .ref q8, .ref q9, .ref q10, .ref q11, .ref q12, .ref q13, .ref q14, .ref q15, .int 0, .ref q16, .int 0, .ref q17, .ref q18, .int 0, .ref q19, .int 0, .ref q20, .ref q21])), (q1, .inl (cA1, 300, .inl (fun _ => (0 : Int32)))), (q2, .inl (cA2, 301, .inl (fun _ => (0 : Int32)))), (q3, .inl (cA3, 301, .inl (fun _ => (0 : Int32)))), (q4, .inl (cA4, 301, .inl (fun _ => (0 : Int32))))] t.heap ∧ va_K (dC, dI) cls [(cA1, .int), (cA2, .int), (cA3, .int), (cA4, .int)] t ∧ va_D (va_A [(h0, .inr (9, [.int 0, .null, .int 0, .int 0, .null, .null, .null, .int 0, .null, .int 0, .int 0, .int 0, .null, .null, .int 0, .int 0, .int 0, .int 0, .null, .null, .null, .null, .null, .null, .null, .null, .int 0, .null, .int 0, .null, .null, .int 0, .null, .int 0, .null, .null]))] sz) [(h0, .inr (9, [.int 0, .ref q1, .int 0, .int (-1), .ref q2, .ref q3, .ref q4, .int 0, .ref q5, .int 0, .int 0, .int 0, .ref q6, .ref q7, .int 0, .int 0, .int 0, .int 0, .ref q8, .ref q9, .ref q10, .ref q11, .ref q12, .ref q13, .ref q14, .ref q15, .int 0, .ref q16, .int 0, .ref q17, .ref q18, .int 0, .ref q19, .int 0, .ref q20, .ref q21])), (q1, .inl (cA1, 300, .inl (fun _ => (0 : Int32)))), (q2, .inl (cA2, 301, .inl (fun _ => (0 : Int32)))), (q3, .inl (cA3, 301, .inl (fun _ => (0 : Int32)))), (q4, .inl (cA4, 301, .inl (fun _ => (0 : Int32))))]) (va_A [(h0, .inr (9, [.int 0, .null, .int 0, .int 0, .null, .null, .null, .int 0, .null, .int 0, .int 0, .int 0, .null, .null, .int 0, .int 0, .int 0, .int 0, .null, .null, .null, .null, .null, .null, .null, .null, .int 0, .null, .int 0, .null, .null, .int 0, .null, .int 0, .null, .null]))] sz)) 21 39356 (va_A [(h0, .inr (9, [.int 0, .null, .int 0, .int 0, .null, .null, .null, .int 0, .null, .int 0, .int 0, .int 0, .null, .null, .int 0, .int 0, .int 0, .int 0, .null, .null, .null, .null, .null, .null, .null, .null, .int 0, .null, .int 0, .null, .null, .int 0, .null, .int 0, .null, .null]))] sz) := by
  refine Met.ofW (cc := b_MO_init) (maxL := 1) (ret := (Option.none : Option Jvm.ClassFile.FieldType)) (by decide) rfl ?_
  intro p e s m args below meth c s₁ B hml hv
  obtain ⟨rfl, hsz, hP, hK, hD0, hN⟩ := hv
  have hx := B.exec
  have hb := B.bytes
  have hr := B.returns
  have hlocks := B.notSynchronized
  have hin : meth.name = "<init>" := (name_of_methodNamed B.named B.method).1
  have hts : ∀ w ∈ wd, w.before ([.ref h0] : List Value).toArray s = true := fun w hw => atoms_spec (ws := (Cond.code y_MO_init b_MO_init 1 (Option.none : Option Jvm.ClassFile.FieldType) :: wd)) B.pre w (List.mem_cons_of_mem _ hw)
  have hown : s.vm.findClass "LeastSolutionsModel" = some m.cls := findClass_of_methodNamed B.named
  subst hsz
  have hD := hD0.self (sz := s.heap.size)
  generalize hAe : va_A [(h0, .inr (9, [.int 0, .null, .int 0, .int 0, .null, .null, .null, .int 0, .null, .int 0, .int 0, .int 0, .null, .null, .int 0, .int 0, .int 0, .int 0, .null, .null, .null, .null, .null, .null, .null, .null, .int 0, .null, .int 0, .null, .null, .int 0, .null, .int 0, .null, .null]))] s.heap.size = A at hD ⊢
  have hA : ∀ q : Nat, s.heap.size ≤ q → A q := fun q h => by rw [← hAe]; exact Or.inr h
  have hS : va_S A s.heap s.heap [] := va_S.rf
  have hl := lv_entry ([.ref h0]) (n := 1) (Nat.le_of_ble_eq_true rfl)
  rw [lg_entry_eq]
  generalize (lg_sl ([.ref h0]) ++ List.replicate (1 - (lg_sl ([.ref h0])).length) Slot.unset).toArray = ls at hl ⊢
  have hl : lv_has ls 1 [(0, .ref h0)] := hl
  refine lv_aload_n hx hb d_MO_init_0 rfl (lv_at hl 0 rfl) ?_
  refine W.objInit hx hb hown (hts _ k_884) (hts _ k_28) (hts _ k_29) rfl (by rw [hml]; exact hl.1) rfl d_MO_init_1 (Nat.le_of_ble_eq_true rfl) (Nat.le_of_ble_eq_true rfl) ?_
  refine W.eq (g2 := F0 m 4 ls []) rfl ?_
  refine lv_aload_n hx hb d_MO_init_4 rfl (lv_at hl 0 rfl) ?_
  refine lv_sipush (v := 300) hx hb d_MO_init_5 (by decide) ?_
  refine va_newa (atype := .int) (ty := .int) (N' := 300) (a0 := (300, .inl (fun _ => (0 : Int32)))) hx hb (hts _ k_79) rfl hK hP hD hS hA (fun _ => rfl) (by decide) (by decide) (by decide) (Nat.le_of_ble_eq_true rfl) (Nat.le_of_ble_eq_true rfl) d_MO_init_8 (fun q1 cA1 H1 hK hP hD hS => ?_)
  have hK : va_K (dC, dI) cls [(cA1, .int)] s := hK
  have hP : va_P (dC, dI) cls [(h0, .inr (9, [.int 0, .null, .int 0, .int 0, .null, .null, .null, .int 0, .null, .int 0, .int 0, .int 0, .null, .null, .int 0, .int 0, .int 0, .int 0, .null, .null, .null, .null, .null, .null, .null, .null, .int 0, .null, .int 0, .null, .null, .int 0, .null, .int 0, .null, .null])), (q1, .inl (cA1, 300, .inl (fun _ => (0 : Int32))))] H1 := hP
  have hD : va_D A [(h0, .inr (9, [.int 0, .null, .int 0, .int 0, .null, .null, .null, .int 0, .null, .int 0, .int 0, .int 0, .null, .null, .int 0, .int 0, .int 0, .int 0, .null, .null, .null, .null, .null, .null, .null, .null, .int 0, .null, .int 0, .null, .null, .int 0, .null, .int 0, .null, .null])), (q1, .inl (cA1, 300, .inl (fun _ => (0 : Int32))))] := hD
  refine W.widen (k := 1) (n := 300) (Nat.le_of_ble_eq_true rfl) (Nat.le_of_ble_eq_true rfl) ?_
  refine va_putF (D := (dC, dI)) (ci := 9) (v := .ref q1) (ty := (.array .int)) (C := R_MO) (T := T_MO) (N := 36) hx hb hts in_MO t_MO t_MO_ok n_MO hown hK hP hD hS 0 rfl rfl 1 (by decide) (hts _ k_887) (fun _ h9 => h9) rfl hin rfl (by decide +kernel) rfl rfl (Nat.le_of_ble_eq_true rfl) d_MO_init_10 (fun H2 locs hP hD hS => ?_)
  have hP : va_P (dC, dI) cls [(h0, .inr (9, [.int 0, .ref q1, .int 0, .int 0, .null, .null, .null, .int 0, .null, .int 0, .int 0, .int 0, .null, .null, .int 0, .int 0, .int 0, .int 0, .null, .null, .null, .null, .null, .null, .null, .null, .int 0, .null, .int 0, .null, .null, .int 0, .null, .int 0, .null, .null])), (q1, .inl (cA1, 300, .inl (fun _ => (0 : Int32))))] H2 := hP
  have hD : va_D A [(h0, .inr (9, [.int 0, .ref q1, .int 0, .int 0, .null, .null, .null, .int 0, .null, .int 0, .int 0, .int 0, .null, .null, .int 0, .int 0, .int 0, .int 0, .null, .null, .null, .null, .null, .null, .null, .null, .int 0, .null, .int 0, .null, .null, .int 0, .null, .int 0, .null, .null])), (q1, .inl (cA1, 300, .inl (fun _ => (0 : Int32))))] := hD
  refine lv_aload_n hx hb d_MO_init_13 rfl (lv_at hl 0 rfl) ?_
  refine lv_iconst (v := (-1)) hx hb d_MO_init_14 (by decide) ?_
  refine va_put (D := (dC, dI)) (ci := 9) (v := .int (-1)) (ty := .int) (C := R_MO) (T := T_MO) (N := 36) hx hb hts in_MO t_MO t_MO_ok n_MO hown hK hP hD hS 0 rfl rfl 3 (by decide) (hts _ k_889) (fun _ h9 => h9) rfl (by decide +kernel) rfl rfl (Nat.le_of_ble_eq_true rfl) d_MO_init_15 (fun H3 locs hP hD hS => ?_)
  have hP : va_P (dC, dI) cls [(h0, .inr (9, [.int 0, .ref q1, .int 0, .int (-1), .null, .null, .null, .int 0, .null, .int 0, .int 0, .int 0, .null, .null, .int 0, .int 0, .int 0, .int 0, .null, .null, .null, .null, .null, .null, .null, .null, .int 0, .null, .int 0, .null, .null, .int 0, .null, .int 0, .null, .null])), (q1, .inl (cA1, 300, .inl (fun _ => (0 : Int32))))] H3 := hP
  have hD : va_D A [(h0, .inr (9, [.int 0, .ref q1, .int 0, .int (-1), .null, .null, .null, .int 0, .null, .int 0, .int 0, .int 0, .null, .null, .int 0, .int 0, .int 0, .int 0, .null, .null, .null, .null, .null, .null, .null, .null, .int 0, .null, .int 0, .null, .null, .int 0, .null, .int 0, .null, .null])), (q1, .inl (cA1, 300, .inl (fun _ => (0 : Int32))))] := hD
  refine lv_aload_n hx hb d_MO_init_18 rfl (lv_at hl 0 rfl) ?_
  refine lv_sipush (v := 301) hx hb d_MO_init_19 (by decide) ?_
  refine va_newa (atype := .int) (ty := .int) (N' := 301) (a0 := (301, .inl (fun _ => (0 : Int32)))) hx hb (hts _ k_79) rfl hK hP hD hS hA (fun _ => rfl) (by decide) (by decide) (by decide) (Nat.le_of_ble_eq_true rfl) (Nat.le_of_ble_eq_true rfl) d_MO_init_22 (fun q2 cA2 H4 hK hP hD hS => ?_)
  have hK : va_K (dC, dI) cls [(cA1, .int), (cA2, .int)] s := hK
  have hP : va_P (dC, dI) cls [(h0, .inr (9, [.int 0, .ref q1, .int 0, .int (-1), .null, .null, .null, .int 0, .null, .int 0, .int 0, .int 0, .null, .null, .int 0, .int 0, .int 0, .int 0, .null, .null, .null, .null, .null, .null, .null, .null, .int 0, .null, .int 0, .null, .null, .int 0, .null, .int 0, .null, .null])), (q1, .inl (cA1, 300, .inl (fun _ => (0 : Int32)))), (q2, .inl (cA2, 301, .inl (fun _ => (0 : Int32))))] H4 := hP
  have hD : va_D A [(h0, .inr (9, [.int 0, .ref q1, .int 0, .int (-1), .null, .null, .null, .int 0, .null, .int 0, .int 0, .int 0, .null, .null, .int 0, .int 0, .int 0, .int 0, .null, .null, .null, .null, .null, .null, .null, .null, .int 0, .null, .int 0, .null, .null, .int 0, .null, .int 0, .null, .null])), (q1, .inl (cA1, 300, .inl (fun _ => (0 : Int32)))), (q2, .inl (cA2, 301, .inl (fun _ => (0 : Int32))))] := hD
  refine W.widen (k := 2) (n := 601) (Nat.le_of_ble_eq_true rfl) (Nat.le_of_ble_eq_true rfl) ?_
  refine va_putF (D := (dC, dI)) (ci := 9) (v := .ref q2) (ty := (.array .int)) (C := R_MO) (T := T_MO) (N := 36) hx hb hts in_MO t_MO t_MO_ok n_MO hown hK hP hD hS 0 rfl rfl 4 (by decide) (hts _ k_890) (fun _ h9 => h9) rfl hin rfl (by decide +kernel) rfl rfl (Nat.le_of_ble_eq_true rfl) d_MO_init_24 (fun H5 locs hP hD hS => ?_)
  have hP : va_P (dC, dI) cls [(h0, .inr (9, [.int 0, .ref q1, .int 0, .int (-1), .ref q2, .null, .null, .int 0, .null, .int 0, .int 0, .int 0, .null, .null, .int 0, .int 0, .int 0, .int 0, .null, .null, .null, .null, .null, .null, .null, .null, .int 0, .null, .int 0, .null, .null, .int 0, .null, .int 0, .null, .null])), (q1, .inl (cA1, 300, .inl (fun _ => (0 : Int32)))), (q2, .inl (cA2, 301, .inl (fun _ => (0 : Int32))))] H5 := hP
  have hD : va_D A [(h0, .inr (9, [.int 0, .ref q1, .int 0, .int (-1), .ref q2, .null, .null, .int 0, .null, .int 0, .int 0, .int 0, .null, .null, .int 0, .int 0, .int 0, .int 0, .null, .null, .null, .null, .null, .null, .null, .null, .int 0, .null, .int 0, .null, .null, .int 0, .null, .int 0, .null, .null])), (q1, .inl (cA1, 300, .inl (fun _ => (0 : Int32)))), (q2, .inl (cA2, 301, .inl (fun _ => (0 : Int32))))] := hD
  refine lv_aload_n hx hb d_MO_init_27 rfl (lv_at hl 0 rfl) ?_
  refine lv_sipush (v := 301) hx hb d_MO_init_28 (by decide) ?_
  refine va_newa (atype := .int) (ty := .int) (N' := 301) (a0 := (301, .inl (fun _ => (0 : Int32)))) hx hb (hts _ k_79) rfl hK hP hD hS hA (fun _ => rfl) (by decide) (by decide) (by decide) (Nat.le_of_ble_eq_true rfl) (Nat.le_of_ble_eq_true rfl) d_MO_init_31 (fun q3 cA3 H6 hK hP hD hS => ?_)
  have hK : va_K (dC, dI) cls [(cA1, .int), (cA2, .int), (cA3, .int)] s := hK
  have hP : va_P (dC, dI) cls [(h0, .inr (9, [.int 0, .ref q1, .int 0, .int (-1), .ref q2, .null, .null, .int 0, .null, .int 0, .int 0, .int 0, .null, .null, .int 0, .int 0, .int 0, .int 0, .null, .null, .null, .null, .null, .null, .null, .null, .int 0, .null, .int 0, .null, .null, .int 0, .null, .int 0, .null, .null])), (q1, .inl (cA1, 300, .inl (fun _ => (0 : Int32)))), (q2, .inl (cA2, 301, .inl (fun _ => (0 : Int32)))), (q3, .inl (cA3, 301, .inl (fun _ => (0 : Int32))))] H6 := hP
  have hD : va_D A [(h0, .inr (9, [.int 0, .ref q1, .int 0, .int (-1), .ref q2, .null, .null, .int 0, .null, .int 0, .int 0, .int 0, .null, .null, .int 0, .int 0, .int 0, .int 0, .null, .null, .null, .null, .null, .null, .null, .null, .int 0, .null, .int 0, .null, .null, .int 0, .null, .int 0, .null, .null])), (q1, .inl (cA1, 300, .inl (fun _ => (0 : Int32)))), (q2, .inl (cA2, 301, .inl (fun _ => (0 : Int32)))), (q3, .inl (cA3, 301, .inl (fun _ => (0 : Int32))))] := hD
  refine W.widen (k := 3) (n := 902) (Nat.le_of_ble_eq_true rfl) (Nat.le_of_ble_eq_true rfl) ?_
  refine va_putF (D := (dC, dI)) (ci := 9) (v := .ref q3) (ty := (.array .int)) (C := R_MO) (T := T_MO) (N := 36) hx hb hts in_MO t_MO t_MO_ok n_MO hown hK hP hD hS 0 rfl rfl 5 (by decide) (hts _ k_891) (fun _ h9 => h9) rfl hin rfl (by decide +kernel) rfl rfl (Nat.le_of_ble_eq_true rfl) d_MO_init_33 (fun H7 locs hP hD hS => ?_)
  have hP : va_P (dC, dI) cls [(h0, .inr (9, [.int 0, .ref q1, .int 0, .int (-1), .ref q2, .ref q3, .null, .int 0, .null, .int 0, .int 0, .int 0, .null, .null, .int 0, .int 0, .int 0, .int 0, .null, .null, .null, .null, .null, .null, .null, .null, .int 0, .null, .int 0, .null, .null, .int 0, .null, .int 0, .null, .null])), (q1, .inl (cA1, 300, .inl (fun _ => (0 : Int32)))), (q2, .inl (cA2, 301, .inl (fun _ => (0 : Int32)))), (q3, .inl (cA3, 301, .inl (fun _ => (0 : Int32))))] H7 := hP
  have hD : va_D A [(h0, .inr (9, [.int 0, .ref q1, .int 0, .int (-1), .ref q2, .ref q3, .null, .int 0, .null, .int 0, .int 0, .int 0, .null, .null, .int 0, .int 0, .int 0, .int 0, .null, .null, .null, .null, .null, .null, .null, .null, .int 0, .null, .int 0, .null, .null, .int 0, .null, .int 0, .null, .null])), (q1, .inl (cA1, 300, .inl (fun _ => (0 : Int32)))), (q2, .inl (cA2, 301, .inl (fun _ => (0 : Int32)))), (q3, .inl (cA3, 301, .inl (fun _ => (0 : Int32))))] := hD
  refine lv_aload_n hx hb d_MO_init_36 rfl (lv_at hl 0 rfl) ?_
  refine lv_sipush (v := 301) hx hb d_MO_init_37 (by decide) ?_
  refine va_newa (atype := .int) (ty := .int) (N' := 301) (a0 := (301, .inl (fun _ => (0 : Int32)))) hx hb (hts _ k_79) rfl hK hP hD hS hA (fun _ => rfl) (by decide) (by decide) (by decide) (Nat.le_of_ble_eq_true rfl) (Nat.le_of_ble_eq_true rfl) d_MO_init_40 (fun q4 cA4 H8 hK hP hD hS => ?_)
  have hK : va_K (dC, dI) cls [(cA1, .int), (cA2, .int), (cA3, .int), (cA4, .int)] s := hK
  have hP : va_P (dC, dI) cls [(h0, .inr (9, [.int 0, .ref q1, .int 0, .int (-1), .ref q2, .ref q3, .null, .int 0, .null, .int 0, .int 0, .int 0, .null, .null, .int 0, .int 0, .int 0, .int 0, .null, .null, .null, .null, .null, .null, .null, .null, .int 0, .null, .int 0, .null, .null, .int 0, .null, .int 0, .null, .null])), (q1, .inl (cA1, 300, .inl (fun _ => (0 : Int32)))), (q2, .inl (cA2, 301, .inl (fun _ => (0 : Int32)))), (q3, .inl (cA3, 301, .inl (fun _ => (0 : Int32)))), (q4, .inl (cA4, 301, .inl (fun _ => (0 : Int32))))] H8 := hP
  have hD : va_D A [(h0, .inr (9, [.int 0, .ref q1, .int 0, .int (-1), .ref q2, .ref q3, .null, .int 0, .null, .int 0, .int 0, .int 0, .null, .null, .int 0, .int 0, .int 0, .int 0, .null, .null, .null, .null, .null, .null, .null, .null, .int 0, .null, .int 0, .null, .null, .int 0, .null, .int 0, .null, .null])), (q1, .inl (cA1, 300, .inl (fun _ => (0 : Int32)))), (q2, .inl (cA2, 301, .inl (fun _ => (0 : Int32)))), (q3, .inl (cA3, 301, .inl (fun _ => (0 : Int32)))), (q4, .inl (cA4, 301, .inl (fun _ => (0 : Int32))))] := hD
  refine W.widen (k := 4) (n := 1203) (Nat.le_of_ble_eq_true rfl) (Nat.le_of_ble_eq_true rfl) ?_
  refine va_putF (D := (dC, dI)) (ci := 9) (v := .ref q4) (ty := (.array .int)) (C := R_MO) (T := T_MO) (N := 36) hx hb hts in_MO t_MO t_MO_ok n_MO hown hK hP hD hS 0 rfl rfl 6 (by decide) (hts _ k_892) (fun _ h9 => h9) rfl hin rfl (by decide +kernel) rfl rfl (Nat.le_of_ble_eq_true rfl) d_MO_init_42 (fun H9 locs hP hD hS => ?_)
  have hP : va_P (dC, dI) cls [(h0, .inr (9, [.int 0, .ref q1, .int 0, .int (-1), .ref q2, .ref q3, .ref q4, .int 0, .null, .int 0, .int 0, .int 0, .null, .null, .int 0, .int 0, .int 0, .int 0, .null, .null, .null, .null, .null, .null, .null, .null, .int 0, .null, .int 0, .null, .null, .int 0, .null, .int 0, .null, .null])), (q1, .inl (cA1, 300, .inl (fun _ => (0 : Int32)))), (q2, .inl (cA2, 301, .inl (fun _ => (0 : Int32)))), (q3, .inl (cA3, 301, .inl (fun _ => (0 : Int32)))), (q4, .inl (cA4, 301, .inl (fun _ => (0 : Int32))))] H9 := hP
  have hD : va_D A [(h0, .inr (9, [.int 0, .ref q1, .int 0, .int (-1), .ref q2, .ref q3, .ref q4, .int 0, .null, .int 0, .int 0, .int 0, .null, .null, .int 0, .int 0, .int 0, .int 0, .null, .null, .null, .null, .null, .null, .null, .null, .int 0, .null, .int 0, .null, .null, .int 0, .null, .int 0, .null, .null])), (q1, .inl (cA1, 300, .inl (fun _ => (0 : Int32)))), (q2, .inl (cA2, 301, .inl (fun _ => (0 : Int32)))), (q3, .inl (cA3, 301, .inl (fun _ => (0 : Int32)))), (q4, .inl (cA4, 301, .inl (fun _ => (0 : Int32))))] := hD
  refine lv_aload_n hx hb d_MO_init_45 rfl (lv_at hl 0 rfl) ?_
  refine lv_bipush (v := 6) hx hb d_MO_init_46 (by decide) ?_
  refine va_newa (atype := .int) (ty := .int) (N' := 6) (a0 := (6, .inl (fun _ => (0 : Int32)))) hx hb (hts _ k_79) rfl hK hP hD hS hA (fun _ => rfl) (by decide) (by decide) (by decide) (Nat.le_of_ble_eq_true rfl) (Nat.le_of_ble_eq_true rfl) d_MO_init_48 (fun q5 cA5 H10 hK hP hD hS => ?_)
  have hK : va_K (dC, dI) cls [(cA1, .int), (cA2, .int), (cA3, .int), (cA4, .int), (cA5, .int)] s := hK
  have hP : va_P (dC, dI) cls [(h0, .inr (9, [.int 0, .ref q1, .int 0, .int (-1), .ref q2, .ref q3, .ref q4, .int 0, .null, .int 0, .int 0, .int 0, .null, .null, .int 0, .int 0, .int 0, .int 0, .null, .null, .null, .null, .null, .null, .null, .null, .int 0, .null, .int 0, .null, .null, .int 0, .null, .int 0, .null, .null])), (q1, .inl (cA1, 300, .inl (fun _ => (0 : Int32)))), (q2, .inl (cA2, 301, .inl (fun _ => (0 : Int32)))), (q3, .inl (cA3, 301, .inl (fun _ => (0 : Int32)))), (q4, .inl (cA4, 301, .inl (fun _ => (0 : Int32)))), (q5, .inl (cA5, 6, .inl (fun _ => (0 : Int32))))] H10 := hP
  have hD : va_D A [(h0, .inr (9, [.int 0, .ref q1, .int 0, .int (-1), .ref q2, .ref q3, .ref q4, .int 0, .null, .int 0, .int 0, .int 0, .null, .null, .int 0, .int 0, .int 0, .int 0, .null, .null, .null, .null, .null, .null, .null, .null, .int 0, .null, .int 0, .null, .null, .int 0, .null, .int 0, .null, .null])), (q1, .inl (cA1, 300, .inl (fun _ => (0 : Int32)))), (q2, .inl (cA2, 301, .inl (fun _ => (0 : Int32)))), (q3, .inl (cA3, 301, .inl (fun _ => (0 : Int32)))), (q4, .inl (cA4, 301, .inl (fun _ => (0 : Int32)))), (q5, .inl (cA5, 6, .inl (fun _ => (0 : Int32))))] := hD
  refine W.widen (k := 5) (n := 1209) (Nat.le_of_ble_eq_true rfl) (Nat.le_of_ble_eq_true rfl) ?_
  refine va_putF (D := (dC, dI)) (ci := 9) (v := .ref q5) (ty := (.array .int)) (C := R_MO) (T := T_MO) (N := 36) hx hb hts in_MO t_MO t_MO_ok n_MO hown hK hP hD hS 0 rfl rfl 8 (by decide) (hts _ k_894) (fun _ h9 => h9) rfl hin rfl (by decide +kernel) rfl rfl (Nat.le_of_ble_eq_true rfl) d_MO_init_50 (fun H11 locs hP hD hS => ?_)
  have hP : va_P (dC, dI) cls [(h0, .inr (9, [.int 0, .ref q1, .int 0, .int (-1), .ref q2, .ref q3, .ref q4, .int 0, .ref q5, .int 0, .int 0, .int 0, .null, .null, .int 0, .int 0, .int 0, .int 0, .null, .null, .null, .null, .null, .null, .null, .null, .int 0, .null, .int 0, .null, .null, .int 0, .null, .int 0, .null, .null])), (q1, .inl (cA1, 300, .inl (fun _ => (0 : Int32)))), (q2, .inl (cA2, 301, .inl (fun _ => (0 : Int32)))), (q3, .inl (cA3, 301, .inl (fun _ => (0 : Int32)))), (q4, .inl (cA4, 301, .inl (fun _ => (0 : Int32)))), (q5, .inl (cA5, 6, .inl (fun _ => (0 : Int32))))] H11 := hP
  have hD : va_D A [(h0, .inr (9, [.int 0, .ref q1, .int 0, .int (-1), .ref q2, .ref q3, .ref q4, .int 0, .ref q5, .int 0, .int 0, .int 0, .null, .null, .int 0, .int 0, .int 0, .int 0, .null, .null, .null, .null, .null, .null, .null, .null, .int 0, .null, .int 0, .null, .null, .int 0, .null, .int 0, .null, .null])), (q1, .inl (cA1, 300, .inl (fun _ => (0 : Int32)))), (q2, .inl (cA2, 301, .inl (fun _ => (0 : Int32)))), (q3, .inl (cA3, 301, .inl (fun _ => (0 : Int32)))), (q4, .inl (cA4, 301, .inl (fun _ => (0 : Int32)))), (q5, .inl (cA5, 6, .inl (fun _ => (0 : Int32))))] := hD
  refine lv_aload_n hx hb d_MO_init_53 rfl (lv_at hl 0 rfl) ?_
  refine lv_bipush (v := 28) hx hb d_MO_init_54 (by decide) ?_
  refine va_newa (atype := .int) (ty := .int) (N' := 28) (a0 := (28, .inl (fun _ => (0 : Int32)))) hx hb (hts _ k_79) rfl hK hP hD hS hA (fun _ => rfl) (by decide) (by decide) (by decide) (Nat.le_of_ble_eq_true rfl) (Nat.le_of_ble_eq_true rfl) d_MO_init_56 (fun q6 cA6 H12 hK hP hD hS => ?_)
  have hK : va_K (dC, dI) cls [(cA1, .int), (cA2, .int), (cA3, .int), (cA4, .int), (cA5, .int), (cA6, .int)] s := hK
  have hP : va_P (dC, dI) cls [(h0, .inr (9, [.int 0, .ref q1, .int 0, .int (-1), .ref q2, .ref q3, .ref q4, .int 0, .ref q5, .int 0, .int 0, .int 0, .null, .null, .int 0, .int 0, .int 0, .int 0, .null, .null, .null, .null, .null, .null, .null, .null, .int 0, .null, .int 0, .null, .null, .int 0, .null, .int 0, .null, .null])), (q1, .inl (cA1, 300, .inl (fun _ => (0 : Int32)))), (q2, .inl (cA2, 301, .inl (fun _ => (0 : Int32)))), (q3, .inl (cA3, 301, .inl (fun _ => (0 : Int32)))), (q4, .inl (cA4, 301, .inl (fun _ => (0 : Int32)))), (q5, .inl (cA5, 6, .inl (fun _ => (0 : Int32)))), (q6, .inl (cA6, 28, .inl (fun _ => (0 : Int32))))] H12 := hP
  have hD : va_D A [(h0, .inr (9, [.int 0, .ref q1, .int 0, .int (-1), .ref q2, .ref q3, .ref q4, .int 0, .ref q5, .int 0, .int 0, .int 0, .null, .null, .int 0, .int 0, .int 0, .int 0, .null, .null, .null, .null, .null, .null, .null, .null, .int 0, .null, .int 0, .null, .null, .int 0, .null, .int 0, .null, .null])), (q1, .inl (cA1, 300, .inl (fun _ => (0 : Int32)))), (q2, .inl (cA2, 301, .inl (fun _ => (0 : Int32)))), (q3, .inl (cA3, 301, .inl (fun _ => (0 : Int32)))), (q4, .inl (cA4, 301, .inl (fun _ => (0 : Int32)))), (q5, .inl (cA5, 6, .inl (fun _ => (0 : Int32)))), (q6, .inl (cA6, 28, .inl (fun _ => (0 : Int32))))] := hD
  refine W.widen (k := 6) (n := 1237) (Nat.le_of_ble_eq_true rfl) (Nat.le_of_ble_eq_true rfl) ?_
  refine va_putF (D := (dC, dI)) (ci := 9) (v := .ref q6) (ty := (.array .int)) (C := R_MO) (T := T_MO) (N := 36) hx hb hts in_MO t_MO t_MO_ok n_MO hown hK hP hD hS 0 rfl rfl 12 (by decide) (hts _ k_898) (fun _ h9 => h9) rfl hin rfl (by decide +kernel) rfl rfl (Nat.le_of_ble_eq_true rfl) d_MO_init_58 (fun H13 locs hP hD hS => ?_)
  have hP : va_P (dC, dI) cls [(h0, .inr (9, [.int 0, .ref q1, .int 0, .int (-1), .ref q2, .ref q3, .ref q4, .int 0, .ref q5, .int 0, .int 0, .int 0, .ref q6, .null, .int 0, .int 0, .int 0, .int 0, .null, .null, .null, .null, .null, .null, .null, .null, .int 0, .null, .int 0, .null, .null, .int 0, .null, .int 0, .null, .null])), (q1, .inl (cA1, 300, .inl (fun _ => (0 : Int32)))), (q2, .inl (cA2, 301, .inl (fun _ => (0 : Int32)))), (q3, .inl (cA3, 301, .inl (fun _ => (0 : Int32)))), (q4, .inl (cA4, 301, .inl (fun _ => (0 : Int32)))), (q5, .inl (cA5, 6, .inl (fun _ => (0 : Int32)))), (q6, .inl (cA6, 28, .inl (fun _ => (0 : Int32))))] H13 := hP
  have hD : va_D A [(h0, .inr (9, [.int 0, .ref q1, .int 0, .int (-1), .ref q2, .ref q3, .ref q4, .int 0, .ref q5, .int 0, .int 0, .int 0, .ref q6, .null, .int 0, .int 0, .int 0, .int 0, .null, .null, .null, .null, .null, .null, .null, .null, .int 0, .null, .int 0, .null, .null, .int 0, .null, .int 0, .null, .null])), (q1, .inl (cA1, 300, .inl (fun _ => (0 : Int32)))), (q2, .inl (cA2, 301, .inl (fun _ => (0 : Int32)))), (q3, .inl (cA3, 301, .inl (fun _ => (0 : Int32)))), (q4, .inl (cA4, 301, .inl (fun _ => (0 : Int32)))), (q5, .inl (cA5, 6, .inl (fun _ => (0 : Int32)))), (q6, .inl (cA6, 28, .inl (fun _ => (0 : Int32))))] := hD
  refine lv_aload_n hx hb d_MO_init_61 rfl (lv_at hl 0 rfl) ?_
  refine lv_iconst (v := 4) hx hb d_MO_init_62 (by decide) ?_
  refine va_newa (atype := .int) (ty := .int) (N' := 4) (a0 := (4, .inl (fun _ => (0 : Int32)))) hx hb (hts _ k_79) rfl hK hP hD hS hA (fun _ => rfl) (by decide) (by decide) (by decide) (Nat.le_of_ble_eq_true rfl) (Nat.le_of_ble_eq_true rfl) d_MO_init_63 (fun q7 cA7 H14 hK hP hD hS => ?_)
  have hK : va_K (dC, dI) cls [(cA1, .int), (cA2, .int), (cA3, .int), (cA4, .int), (cA5, .int), (cA6, .int), (cA7, .int)] s := hK
  have hP : va_P (dC, dI) cls [(h0, .inr (9, [.int 0, .ref q1, .int 0, .int (-1), .ref q2, .ref q3, .ref q4, .int 0, .ref q5, .int 0, .int 0, .int 0, .ref q6, .null, .int 0, .int 0, .int 0, .int 0, .null, .null, .null, .null, .null, .null, .null, .null, .int 0, .null, .int 0, .null, .null, .int 0, .null, .int 0, .null, .null])), (q1, .inl (cA1, 300, .inl (fun _ => (0 : Int32)))), (q2, .inl (cA2, 301, .inl (fun _ => (0 : Int32)))), (q3, .inl (cA3, 301, .inl (fun _ => (0 : Int32)))), (q4, .inl (cA4, 301, .inl (fun _ => (0 : Int32)))), (q5, .inl (cA5, 6, .inl (fun _ => (0 : Int32)))), (q6, .inl (cA6, 28, .inl (fun _ => (0 : Int32)))), (q7, .inl (cA7, 4, .inl (fun _ => (0 : Int32))))] H14 := hP
  have hD : va_D A [(h0, .inr (9, [.int 0, .ref q1, .int 0, .int (-1), .ref q2, .ref q3, .ref q4, .int 0, .ref q5, .int 0, .int 0, .int 0, .ref q6, .null, .int 0, .int 0, .int 0, .int 0, .null, .null, .null, .null, .null, .null, .null, .null, .int 0, .null, .int 0, .null, .null, .int 0, .null, .int 0, .null, .null])), (q1, .inl (cA1, 300, .inl (fun _ => (0 : Int32)))), (q2, .inl (cA2, 301, .inl (fun _ => (0 : Int32)))), (q3, .inl (cA3, 301, .inl (fun _ => (0 : Int32)))), (q4, .inl (cA4, 301, .inl (fun _ => (0 : Int32)))), (q5, .inl (cA5, 6, .inl (fun _ => (0 : Int32)))), (q6, .inl (cA6, 28, .inl (fun _ => (0 : Int32)))), (q7, .inl (cA7, 4, .inl (fun _ => (0 : Int32))))] := hD
  refine W.widen (k := 7) (n := 1241) (Nat.le_of_ble_eq_true rfl) (Nat.le_of_ble_eq_true rfl) ?_
  refine va_putF (D := (dC, dI)) (ci := 9) (v := .ref q7) (ty := (.array .int)) (C := R_MO) (T := T_MO) (N := 36) hx hb hts in_MO t_MO t_MO_ok n_MO hown hK hP hD hS 0 rfl rfl 13 (by decide) (hts _ k_899) (fun _ h9 => h9) rfl hin rfl (by decide +kernel) rfl rfl (Nat.le_of_ble_eq_true rfl) d_MO_init_65 (fun H15 locs hP hD hS => ?_)
  have hP : va_P (dC, dI) cls [(h0, .inr (9, [.int 0, .ref q1, .int 0, .int (-1), .ref q2, .ref q3, .ref q4, .int 0, .ref q5, .int 0, .int 0, .int 0, .ref q6, .ref q7, .int 0, .int 0, .int 0, .int 0, .null, .null, .null, .null, .null, .null, .null, .null, .int 0, .null, .int 0, .null, .null, .int 0, .null, .int 0, .null, .null])), (q1, .inl (cA1, 300, .inl (fun _ => (0 : Int32)))), (q2, .inl (cA2, 301, .inl (fun _ => (0 : Int32)))), (q3, .inl (cA3, 301, .inl (fun _ => (0 : Int32)))), (q4, .inl (cA4, 301, .inl (fun _ => (0 : Int32)))), (q5, .inl (cA5, 6, .inl (fun _ => (0 : Int32)))), (q6, .inl (cA6, 28, .inl (fun _ => (0 : Int32)))), (q7, .inl (cA7, 4, .inl (fun _ => (0 : Int32))))] H15 := hP
  have hD : va_D A [(h0, .inr (9, [.int 0, .ref q1, .int 0, .int (-1), .ref q2, .ref q3, .ref q4, .int 0, .ref q5, .int 0, .int 0, .int 0, .ref q6, .ref q7, .int 0, .int 0, .int 0, .int 0, .null, .null, .null, .null, .null, .null, .null, .null, .int 0, .null, .int 0, .null, .null, .int 0, .null, .int 0, .null, .null])), (q1, .inl (cA1, 300, .inl (fun _ => (0 : Int32)))), (q2, .inl (cA2, 301, .inl (fun _ => (0 : Int32)))), (q3, .inl (cA3, 301, .inl (fun _ => (0 : Int32)))), (q4, .inl (cA4, 301, .inl (fun _ => (0 : Int32)))), (q5, .inl (cA5, 6, .inl (fun _ => (0 : Int32)))), (q6, .inl (cA6, 28, .inl (fun _ => (0 : Int32)))), (q7, .inl (cA7, 4, .inl (fun _ => (0 : Int32))))] := hD
  refine lv_aload_n hx hb d_MO_init_68 rfl (lv_at hl 0 rfl) ?_
  refine lv_bipush (v := 6) hx hb d_MO_init_69 (by decide) ?_
  refine va_newa (atype := .int) (ty := .int) (N' := 6) (a0 := (6, .inl (fun _ => (0 : Int32)))) hx hb (hts _ k_79) rfl hK hP hD hS hA (fun _ => rfl) (by decide) (by decide) (by decide) (Nat.le_of_ble_eq_true rfl) (Nat.le_of_ble_eq_true rfl) d_MO_init_71 (fun q8 cA8 H16 hK hP hD hS => ?_)
  have hK : va_K (dC, dI) cls [(cA1, .int), (cA2, .int), (cA3, .int), (cA4, .int), (cA5, .int), (cA6, .int), (cA7, .int), (cA8, .int)] s := hK
  have hP : va_P (dC, dI) cls [(h0, .inr (9, [.int 0, .ref q1, .int 0, .int (-1), .ref q2, .ref q3, .ref q4, .int 0, .ref q5, .int 0, .int 0, .int 0, .ref q6, .ref q7, .int 0, .int 0, .int 0, .int 0, .null, .null, .null, .null, .null, .null, .null, .null, .int 0, .null, .int 0, .null, .null, .int 0, .null, .int 0, .null, .null])), (q1, .inl (cA1, 300, .inl (fun _ => (0 : Int32)))), (q2, .inl (cA2, 301, .inl (fun _ => (0 : Int32)))), (q3, .inl (cA3, 301, .inl (fun _ => (0 : Int32)))), (q4, .inl (cA4, 301, .inl (fun _ => (0 : Int32)))), (q5, .inl (cA5, 6, .inl (fun _ => (0 : Int32)))), (q6, .inl (cA6, 28, .inl (fun _ => (0 : Int32)))), (q7, .inl (cA7, 4, .inl (fun _ => (0 : Int32)))), (q8, .inl (cA8, 6, .inl (fun _ => (0 : Int32))))] H16 := hP
  have hD : va_D A [(h0, .inr (9, [.int 0, .ref q1, .int 0, .int (-1), .ref q2, .ref q3, .ref q4, .int 0, .ref q5, .int 0, .int 0, .int 0, .ref q6, .ref q7, .int 0, .int 0, .int 0, .int 0, .null, .null, .null, .null, .null, .null, .null, .null, .int 0, .null, .int 0, .null, .null, .int 0, .null, .int 0, .null, .null])), (q1, .inl (cA1, 300, .inl (fun _ => (0 : Int32)))), (q2, .inl (cA2, 301, .inl (fun _ => (0 : Int32)))), (q3, .inl (cA3, 301, .inl (fun _ => (0 : Int32)))), (q4, .inl (cA4, 301, .inl (fun _ => (0 : Int32)))), (q5, .inl (cA5, 6, .inl (fun _ => (0 : Int32)))), (q6, .inl (cA6, 28, .inl (fun _ => (0 : Int32)))), (q7, .inl (cA7, 4, .inl (fun _ => (0 : Int32)))), (q8, .inl (cA8, 6, .inl (fun _ => (0 : Int32))))] := hD
  refine W.widen (k := 8) (n := 1247) (Nat.le_of_ble_eq_true rfl) (Nat.le_of_ble_eq_true rfl) ?_
  refine va_putF (D := (dC, dI)) (ci := 9) (v := .ref q8) (ty := (.array .int)) (C := R_MO) (T := T_MO) (N := 36) hx hb hts in_MO t_MO t_MO_ok n_MO hown hK hP hD hS 0 rfl rfl 18 (by decide) (hts _ k_904) (fun _ h9 => h9) rfl hin rfl (by decide +kernel) rfl rfl (Nat.le_of_ble_eq_true rfl) d_MO_init_73 (fun H17 locs hP hD hS => ?_)
  have hP : va_P (dC, dI) cls [(h0, .inr (9, [.int 0, .ref q1, .int 0, .int (-1), .ref q2, .ref q3, .ref q4, .int 0, .ref q5, .int 0, .int 0, .int 0, .ref q6, .ref q7, .int 0, .int 0, .int 0, .int 0, .ref q8, .null, .null, .null, .null, .null, .null, .null, .int 0, .null, .int 0, .null, .null, .int 0, .null, .int 0, .null, .null])), (q1, .inl (cA1, 300, .inl (fun _ => (0 : Int32)))), (q2, .inl (cA2, 301, .inl (fun _ => (0 : Int32)))), (q3, .inl (cA3, 301, .inl (fun _ => (0 : Int32)))), (q4, .inl (cA4, 301, .inl (fun _ => (0 : Int32)))), (q5, .inl (cA5, 6, .inl (fun _ => (0 : Int32)))), (q6, .inl (cA6, 28, .inl (fun _ => (0 : Int32)))), (q7, .inl (cA7, 4, .inl (fun _ => (0 : Int32)))), (q8, .inl (cA8, 6, .inl (fun _ => (0 : Int32))))] H17 := hP
  have hD : va_D A [(h0, .inr (9, [.int 0, .ref q1, .int 0, .int (-1), .ref q2, .ref q3, .ref q4, .int 0, .ref q5, .int 0, .int 0, .int 0, .ref q6, .ref q7, .int 0, .int 0, .int 0, .int 0, .ref q8, .null, .null, .null, .null, .null, .null, .null, .int 0, .null, .int 0, .null, .null, .int 0, .null, .int 0, .null, .null])), (q1, .inl (cA1, 300, .inl (fun _ => (0 : Int32)))), (q2, .inl (cA2, 301, .inl (fun _ => (0 : Int32)))), (q3, .inl (cA3, 301, .inl (fun _ => (0 : Int32)))), (q4, .inl (cA4, 301, .inl (fun _ => (0 : Int32)))), (q5, .inl (cA5, 6, .inl (fun _ => (0 : Int32)))), (q6, .inl (cA6, 28, .inl (fun _ => (0 : Int32)))), (q7, .inl (cA7, 4, .inl (fun _ => (0 : Int32)))), (q8, .inl (cA8, 6, .inl (fun _ => (0 : Int32))))] := hD
  refine lv_aload_n hx hb d_MO_init_76 rfl (lv_at hl 0 rfl) ?_
  refine lv_bipush (v := 28) hx hb d_MO_init_77 (by decide) ?_
  refine va_newa (atype := .int) (ty := .int) (N' := 28) (a0 := (28, .inl (fun _ => (0 : Int32)))) hx hb (hts _ k_79) rfl hK hP hD hS hA (fun _ => rfl) (by decide) (by decide) (by decide) (Nat.le_of_ble_eq_true rfl) (Nat.le_of_ble_eq_true rfl) d_MO_init_79 (fun q9 cA9 H18 hK hP hD hS => ?_)
  have hK : va_K (dC, dI) cls [(cA1, .int), (cA2, .int), (cA3, .int), (cA4, .int), (cA5, .int), (cA6, .int), (cA7, .int), (cA8, .int), (cA9, .int)] s := hK
  have hP : va_P (dC, dI) cls [(h0, .inr (9, [.int 0, .ref q1, .int 0, .int (-1), .ref q2, .ref q3, .ref q4, .int 0, .ref q5, .int 0, .int 0, .int 0, .ref q6, .ref q7, .int 0, .int 0, .int 0, .int 0, .ref q8, .null, .null, .null, .null, .null, .null, .null, .int 0, .null, .int 0, .null, .null, .int 0, .null, .int 0, .null, .null])), (q1, .inl (cA1, 300, .inl (fun _ => (0 : Int32)))), (q2, .inl (cA2, 301, .inl (fun _ => (0 : Int32)))), (q3, .inl (cA3, 301, .inl (fun _ => (0 : Int32)))), (q4, .inl (cA4, 301, .inl (fun _ => (0 : Int32)))), (q5, .inl (cA5, 6, .inl (fun _ => (0 : Int32)))), (q6, .inl (cA6, 28, .inl (fun _ => (0 : Int32)))), (q7, .inl (cA7, 4, .inl (fun _ => (0 : Int32)))), (q8, .inl (cA8, 6, .inl (fun _ => (0 : Int32)))), (q9, .inl (cA9, 28, .inl (fun _ => (0 : Int32))))] H18 := hP
  have hD : va_D A [(h0, .inr (9, [.int 0, .ref q1, .int 0, .int (-1), .ref q2, .ref q3, .ref q4, .int 0, .ref q5, .int 0, .int 0, .int 0, .ref q6, .ref q7, .int 0, .int 0, .int 0, .int 0, .ref q8, .null, .null, .null, .null, .null, .null, .null, .int 0, .null, .int 0, .null, .null, .int 0, .null, .int 0, .null, .null])), (q1, .inl (cA1, 300, .inl (fun _ => (0 : Int32)))), (q2, .inl (cA2, 301, .inl (fun _ => (0 : Int32)))), (q3, .inl (cA3, 301, .inl (fun _ => (0 : Int32)))), (q4, .inl (cA4, 301, .inl (fun _ => (0 : Int32)))), (q5, .inl (cA5, 6, .inl (fun _ => (0 : Int32)))), (q6, .inl (cA6, 28, .inl (fun _ => (0 : Int32)))), (q7, .inl (cA7, 4, .inl (fun _ => (0 : Int32)))), (q8, .inl (cA8, 6, .inl (fun _ => (0 : Int32)))), (q9, .inl (cA9, 28, .inl (fun _ => (0 : Int32))))] := hD
  refine W.widen (k := 9) (n := 1275) (Nat.le_of_ble_eq_true rfl) (Nat.le_of_ble_eq_true rfl) ?_
  refine va_putF (D := (dC, dI)) (ci := 9) (v := .ref q9) (ty := (.array .int)) (C := R_MO) (T := T_MO) (N := 36) hx hb hts in_MO t_MO t_MO_ok n_MO hown hK hP hD hS 0 rfl rfl 19 (by decide) (hts _ k_905) (fun _ h9 => h9) rfl hin rfl (by decide +kernel) rfl rfl (Nat.le_of_ble_eq_true rfl) d_MO_init_81 (fun H19 locs hP hD hS => ?_)
  have hP : va_P (dC, dI) cls [(h0, .inr (9, [.int 0, .ref q1, .int 0, .int (-1), .ref q2, .ref q3, .ref q4, .int 0, .ref q5, .int 0, .int 0, .int 0, .ref q6, .ref q7, .int 0, .int 0, .int 0, .int 0, .ref q8, .ref q9, .null, .null, .null, .null, .null, .null, .int 0, .null, .int 0, .null, .null, .int 0, .null, .int 0, .null, .null])), (q1, .inl (cA1, 300, .inl (fun _ => (0 : Int32)))), (q2, .inl (cA2, 301, .inl (fun _ => (0 : Int32)))), (q3, .inl (cA3, 301, .inl (fun _ => (0 : Int32)))), (q4, .inl (cA4, 301, .inl (fun _ => (0 : Int32)))), (q5, .inl (cA5, 6, .inl (fun _ => (0 : Int32)))), (q6, .inl (cA6, 28, .inl (fun _ => (0 : Int32)))), (q7, .inl (cA7, 4, .inl (fun _ => (0 : Int32)))), (q8, .inl (cA8, 6, .inl (fun _ => (0 : Int32)))), (q9, .inl (cA9, 28, .inl (fun _ => (0 : Int32))))] H19 := hP
  have hD : va_D A [(h0, .inr (9, [.int 0, .ref q1, .int 0, .int (-1), .ref q2, .ref q3, .ref q4, .int 0, .ref q5, .int 0, .int 0, .int 0, .ref q6, .ref q7, .int 0, .int 0, .int 0, .int 0, .ref q8, .ref q9, .null, .null, .null, .null, .null, .null, .int 0, .null, .int 0, .null, .null, .int 0, .null, .int 0, .null, .null])), (q1, .inl (cA1, 300, .inl (fun _ => (0 : Int32)))), (q2, .inl (cA2, 301, .inl (fun _ => (0 : Int32)))), (q3, .inl (cA3, 301, .inl (fun _ => (0 : Int32)))), (q4, .inl (cA4, 301, .inl (fun _ => (0 : Int32)))), (q5, .inl (cA5, 6, .inl (fun _ => (0 : Int32)))), (q6, .inl (cA6, 28, .inl (fun _ => (0 : Int32)))), (q7, .inl (cA7, 4, .inl (fun _ => (0 : Int32)))), (q8, .inl (cA8, 6, .inl (fun _ => (0 : Int32)))), (q9, .inl (cA9, 28, .inl (fun _ => (0 : Int32))))] := hD
  refine lv_aload_n hx hb d_MO_init_84 rfl (lv_at hl 0 rfl) ?_
  refine lv_iconst (v := 3) hx hb d_MO_init_85 (by decide) ?_
  refine va_newa (atype := .boolean) (ty := .boolean) (N' := 3) (a0 := (3, .inl (fun _ => (0 : Int32)))) hx hb (hts _ k_995) rfl hK hP hD hS hA (fun _ => rfl) (by decide) (by decide) (by decide) (Nat.le_of_ble_eq_true rfl) (Nat.le_of_ble_eq_true rfl) d_MO_init_86 (fun q10 cA10 H20 hK hP hD hS => ?_)
  have hK : va_K (dC, dI) cls [(cA1, .int), (cA2, .int), (cA3, .int), (cA4, .int), (cA5, .int), (cA6, .int), (cA7, .int), (cA8, .int), (cA9, .int), (cA10, .boolean)] s := hK
  have hP : va_P (dC, dI) cls [(h0, .inr (9, [.int 0, .ref q1, .int 0, .int (-1), .ref q2, .ref q3, .ref q4, .int 0, .ref q5, .int 0, .int 0, .int 0, .ref q6, .ref q7, .int 0, .int 0, .int 0, .int 0, .ref q8, .ref q9, .null, .null, .null, .null, .null, .null, .int 0, .null, .int 0, .null, .null, .int 0, .null, .int 0, .null, .null])), (q1, .inl (cA1, 300, .inl (fun _ => (0 : Int32)))), (q2, .inl (cA2, 301, .inl (fun _ => (0 : Int32)))), (q3, .inl (cA3, 301, .inl (fun _ => (0 : Int32)))), (q4, .inl (cA4, 301, .inl (fun _ => (0 : Int32)))), (q5, .inl (cA5, 6, .inl (fun _ => (0 : Int32)))), (q6, .inl (cA6, 28, .inl (fun _ => (0 : Int32)))), (q7, .inl (cA7, 4, .inl (fun _ => (0 : Int32)))), (q8, .inl (cA8, 6, .inl (fun _ => (0 : Int32)))), (q9, .inl (cA9, 28, .inl (fun _ => (0 : Int32)))), (q10, .inl (cA10, 3, .inl (fun _ => (0 : Int32))))] H20 := hP
  have hD : va_D A [(h0, .inr (9, [.int 0, .ref q1, .int 0, .int (-1), .ref q2, .ref q3, .ref q4, .int 0, .ref q5, .int 0, .int 0, .int 0, .ref q6, .ref q7, .int 0, .int 0, .int 0, .int 0, .ref q8, .ref q9, .null, .null, .null, .null, .null, .null, .int 0, .null, .int 0, .null, .null, .int 0, .null, .int 0, .null, .null])), (q1, .inl (cA1, 300, .inl (fun _ => (0 : Int32)))), (q2, .inl (cA2, 301, .inl (fun _ => (0 : Int32)))), (q3, .inl (cA3, 301, .inl (fun _ => (0 : Int32)))), (q4, .inl (cA4, 301, .inl (fun _ => (0 : Int32)))), (q5, .inl (cA5, 6, .inl (fun _ => (0 : Int32)))), (q6, .inl (cA6, 28, .inl (fun _ => (0 : Int32)))), (q7, .inl (cA7, 4, .inl (fun _ => (0 : Int32)))), (q8, .inl (cA8, 6, .inl (fun _ => (0 : Int32)))), (q9, .inl (cA9, 28, .inl (fun _ => (0 : Int32)))), (q10, .inl (cA10, 3, .inl (fun _ => (0 : Int32))))] := hD
  refine W.widen (k := 10) (n := 1278) (Nat.le_of_ble_eq_true rfl) (Nat.le_of_ble_eq_true rfl) ?_
  refine va_putF (D := (dC, dI)) (ci := 9) (v := .ref q10) (ty := (.array .boolean)) (C := R_MO) (T := T_MO) (N := 36) hx hb hts in_MO t_MO t_MO_ok n_MO hown hK hP hD hS 0 rfl rfl 20 (by decide) (hts _ k_906) (fun _ h9 => h9) rfl hin rfl (by decide +kernel) rfl rfl (Nat.le_of_ble_eq_true rfl) d_MO_init_88 (fun H21 locs hP hD hS => ?_)
  have hP : va_P (dC, dI) cls [(h0, .inr (9, [.int 0, .ref q1, .int 0, .int (-1), .ref q2, .ref q3, .ref q4, .int 0, .ref q5, .int 0, .int 0, .int 0, .ref q6, .ref q7, .int 0, .int 0, .int 0, .int 0, .ref q8, .ref q9, .ref q10, .null, .null, .null, .null, .null, .int 0, .null, .int 0, .null, .null, .int 0, .null, .int 0, .null, .null])), (q1, .inl (cA1, 300, .inl (fun _ => (0 : Int32)))), (q2, .inl (cA2, 301, .inl (fun _ => (0 : Int32)))), (q3, .inl (cA3, 301, .inl (fun _ => (0 : Int32)))), (q4, .inl (cA4, 301, .inl (fun _ => (0 : Int32)))), (q5, .inl (cA5, 6, .inl (fun _ => (0 : Int32)))), (q6, .inl (cA6, 28, .inl (fun _ => (0 : Int32)))), (q7, .inl (cA7, 4, .inl (fun _ => (0 : Int32)))), (q8, .inl (cA8, 6, .inl (fun _ => (0 : Int32)))), (q9, .inl (cA9, 28, .inl (fun _ => (0 : Int32)))), (q10, .inl (cA10, 3, .inl (fun _ => (0 : Int32))))] H21 := hP
  have hD : va_D A [(h0, .inr (9, [.int 0, .ref q1, .int 0, .int (-1), .ref q2, .ref q3, .ref q4, .int 0, .ref q5, .int 0, .int 0, .int 0, .ref q6, .ref q7, .int 0, .int 0, .int 0, .int 0, .ref q8, .ref q9, .ref q10, .null, .null, .null, .null, .null, .int 0, .null, .int 0, .null, .null, .int 0, .null, .int 0, .null, .null])), (q1, .inl (cA1, 300, .inl (fun _ => (0 : Int32)))), (q2, .inl (cA2, 301, .inl (fun _ => (0 : Int32)))), (q3, .inl (cA3, 301, .inl (fun _ => (0 : Int32)))), (q4, .inl (cA4, 301, .inl (fun _ => (0 : Int32)))), (q5, .inl (cA5, 6, .inl (fun _ => (0 : Int32)))), (q6, .inl (cA6, 28, .inl (fun _ => (0 : Int32)))), (q7, .inl (cA7, 4, .inl (fun _ => (0 : Int32)))), (q8, .inl (cA8, 6, .inl (fun _ => (0 : Int32)))), (q9, .inl (cA9, 28, .inl (fun _ => (0 : Int32)))), (q10, .inl (cA10, 3, .inl (fun _ => (0 : Int32))))] := hD
  refine lv_aload_n hx hb d_MO_init_91 rfl (lv_at hl 0 rfl) ?_
  refine lv_iconst (v := 3) hx hb d_MO_init_92 (by decide) ?_
  refine va_newa (atype := .int) (ty := .int) (N' := 3) (a0 := (3, .inl (fun _ => (0 : Int32)))) hx hb (hts _ k_79) rfl hK hP hD hS hA (fun _ => rfl) (by decide) (by decide) (by decide) (Nat.le_of_ble_eq_true rfl) (Nat.le_of_ble_eq_true rfl) d_MO_init_93 (fun q11 cA11 H22 hK hP hD hS => ?_)
  have hK : va_K (dC, dI) cls [(cA1, .int), (cA2, .int), (cA3, .int), (cA4, .int), (cA5, .int), (cA6, .int), (cA7, .int), (cA8, .int), (cA9, .int), (cA10, .boolean), (cA11, .int)] s := hK
  have hP : va_P (dC, dI) cls [(h0, .inr (9, [.int 0, .ref q1, .int 0, .int (-1), .ref q2, .ref q3, .ref q4, .int 0, .ref q5, .int 0, .int 0, .int 0, .ref q6, .ref q7, .int 0, .int 0, .int 0, .int 0, .ref q8, .ref q9, .ref q10, .null, .null, .null, .null, .null, .int 0, .null, .int 0, .null, .null, .int 0, .null, .int 0, .null, .null])), (q1, .inl (cA1, 300, .inl (fun _ => (0 : Int32)))), (q2, .inl (cA2, 301, .inl (fun _ => (0 : Int32)))), (q3, .inl (cA3, 301, .inl (fun _ => (0 : Int32)))), (q4, .inl (cA4, 301, .inl (fun _ => (0 : Int32)))), (q5, .inl (cA5, 6, .inl (fun _ => (0 : Int32)))), (q6, .inl (cA6, 28, .inl (fun _ => (0 : Int32)))), (q7, .inl (cA7, 4, .inl (fun _ => (0 : Int32)))), (q8, .inl (cA8, 6, .inl (fun _ => (0 : Int32)))), (q9, .inl (cA9, 28, .inl (fun _ => (0 : Int32)))), (q10, .inl (cA10, 3, .inl (fun _ => (0 : Int32)))), (q11, .inl (cA11, 3, .inl (fun _ => (0 : Int32))))] H22 := hP
  have hD : va_D A [(h0, .inr (9, [.int 0, .ref q1, .int 0, .int (-1), .ref q2, .ref q3, .ref q4, .int 0, .ref q5, .int 0, .int 0, .int 0, .ref q6, .ref q7, .int 0, .int 0, .int 0, .int 0, .ref q8, .ref q9, .ref q10, .null, .null, .null, .null, .null, .int 0, .null, .int 0, .null, .null, .int 0, .null, .int 0, .null, .null])), (q1, .inl (cA1, 300, .inl (fun _ => (0 : Int32)))), (q2, .inl (cA2, 301, .inl (fun _ => (0 : Int32)))), (q3, .inl (cA3, 301, .inl (fun _ => (0 : Int32)))), (q4, .inl (cA4, 301, .inl (fun _ => (0 : Int32)))), (q5, .inl (cA5, 6, .inl (fun _ => (0 : Int32)))), (q6, .inl (cA6, 28, .inl (fun _ => (0 : Int32)))), (q7, .inl (cA7, 4, .inl (fun _ => (0 : Int32)))), (q8, .inl (cA8, 6, .inl (fun _ => (0 : Int32)))), (q9, .inl (cA9, 28, .inl (fun _ => (0 : Int32)))), (q10, .inl (cA10, 3, .inl (fun _ => (0 : Int32)))), (q11, .inl (cA11, 3, .inl (fun _ => (0 : Int32))))] := hD
  refine W.widen (k := 11) (n := 1281) (Nat.le_of_ble_eq_true rfl) (Nat.le_of_ble_eq_true rfl) ?_
  refine va_putF (D := (dC, dI)) (ci := 9) (v := .ref q11) (ty := (.array .int)) (C := R_MO) (T := T_MO) (N := 36) hx hb hts in_MO t_MO t_MO_ok n_MO hown hK hP hD hS 0 rfl rfl 21 (by decide) (hts _ k_907) (fun _ h9 => h9) rfl hin rfl (by decide +kernel) rfl rfl (Nat.le_of_ble_eq_true rfl) d_MO_init_95 (fun H23 locs hP hD hS => ?_)
  have hP : va_P (dC, dI) cls [(h0, .inr (9, [.int 0, .ref q1, .int 0, .int (-1), .ref q2, .ref q3, .ref q4, .int 0, .ref q5, .int 0, .int 0, .int 0, .ref q6, .ref q7, .int 0, .int 0, .int 0, .int 0, .ref q8, .ref q9, .ref q10, .ref q11, .null, .null, .null, .null, .int 0, .null, .int 0, .null, .null, .int 0, .null, .int 0, .null, .null])), (q1, .inl (cA1, 300, .inl (fun _ => (0 : Int32)))), (q2, .inl (cA2, 301, .inl (fun _ => (0 : Int32)))), (q3, .inl (cA3, 301, .inl (fun _ => (0 : Int32)))), (q4, .inl (cA4, 301, .inl (fun _ => (0 : Int32)))), (q5, .inl (cA5, 6, .inl (fun _ => (0 : Int32)))), (q6, .inl (cA6, 28, .inl (fun _ => (0 : Int32)))), (q7, .inl (cA7, 4, .inl (fun _ => (0 : Int32)))), (q8, .inl (cA8, 6, .inl (fun _ => (0 : Int32)))), (q9, .inl (cA9, 28, .inl (fun _ => (0 : Int32)))), (q10, .inl (cA10, 3, .inl (fun _ => (0 : Int32)))), (q11, .inl (cA11, 3, .inl (fun _ => (0 : Int32))))] H23 := hP
  have hD : va_D A [(h0, .inr (9, [.int 0, .ref q1, .int 0, .int (-1), .ref q2, .ref q3, .ref q4, .int 0, .ref q5, .int 0, .int 0, .int 0, .ref q6, .ref q7, .int 0, .int 0, .int 0, .int 0, .ref q8, .ref q9, .ref q10, .ref q11, .null, .null, .null, .null, .int 0, .null, .int 0, .null, .null, .int 0, .null, .int 0, .null, .null])), (q1, .inl (cA1, 300, .inl (fun _ => (0 : Int32)))), (q2, .inl (cA2, 301, .inl (fun _ => (0 : Int32)))), (q3, .inl (cA3, 301, .inl (fun _ => (0 : Int32)))), (q4, .inl (cA4, 301, .inl (fun _ => (0 : Int32)))), (q5, .inl (cA5, 6, .inl (fun _ => (0 : Int32)))), (q6, .inl (cA6, 28, .inl (fun _ => (0 : Int32)))), (q7, .inl (cA7, 4, .inl (fun _ => (0 : Int32)))), (q8, .inl (cA8, 6, .inl (fun _ => (0 : Int32)))), (q9, .inl (cA9, 28, .inl (fun _ => (0 : Int32)))), (q10, .inl (cA10, 3, .inl (fun _ => (0 : Int32)))), (q11, .inl (cA11, 3, .inl (fun _ => (0 : Int32))))] := hD
  refine lv_aload_n hx hb d_MO_init_98 rfl (lv_at hl 0 rfl) ?_
  refine lv_iconst (v := 3) hx hb d_MO_init_99 (by decide) ?_
  refine va_newa (atype := .int) (ty := .int) (N' := 3) (a0 := (3, .inl (fun _ => (0 : Int32)))) hx hb (hts _ k_79) rfl hK hP hD hS hA (fun _ => rfl) (by decide) (by decide) (by decide) (Nat.le_of_ble_eq_true rfl) (Nat.le_of_ble_eq_true rfl) d_MO_init_100 (fun q12 cA12 H24 hK hP hD hS => ?_)
  have hK : va_K (dC, dI) cls [(cA1, .int), (cA2, .int), (cA3, .int), (cA4, .int), (cA5, .int), (cA6, .int), (cA7, .int), (cA8, .int), (cA9, .int), (cA10, .boolean), (cA11, .int), (cA12, .int)] s := hK
  have hP : va_P (dC, dI) cls [(h0, .inr (9, [.int 0, .ref q1, .int 0, .int (-1), .ref q2, .ref q3, .ref q4, .int 0, .ref q5, .int 0, .int 0, .int 0, .ref q6, .ref q7, .int 0, .int 0, .int 0, .int 0, .ref q8, .ref q9, .ref q10, .ref q11, .null, .null, .null, .null, .int 0, .null, .int 0, .null, .null, .int 0, .null, .int 0, .null, .null])), (q1, .inl (cA1, 300, .inl (fun _ => (0 : Int32)))), (q2, .inl (cA2, 301, .inl (fun _ => (0 : Int32)))), (q3, .inl (cA3, 301, .inl (fun _ => (0 : Int32)))), (q4, .inl (cA4, 301, .inl (fun _ => (0 : Int32)))), (q5, .inl (cA5, 6, .inl (fun _ => (0 : Int32)))), (q6, .inl (cA6, 28, .inl (fun _ => (0 : Int32)))), (q7, .inl (cA7, 4, .inl (fun _ => (0 : Int32)))), (q8, .inl (cA8, 6, .inl (fun _ => (0 : Int32)))), (q9, .inl (cA9, 28, .inl (fun _ => (0 : Int32)))), (q10, .inl (cA10, 3, .inl (fun _ => (0 : Int32)))), (q11, .inl (cA11, 3, .inl (fun _ => (0 : Int32)))), (q12, .inl (cA12, 3, .inl (fun _ => (0 : Int32))))] H24 := hP
  have hD : va_D A [(h0, .inr (9, [.int 0, .ref q1, .int 0, .int (-1), .ref q2, .ref q3, .ref q4, .int 0, .ref q5, .int 0, .int 0, .int 0, .ref q6, .ref q7, .int 0, .int 0, .int 0, .int 0, .ref q8, .ref q9, .ref q10, .ref q11, .null, .null, .null, .null, .int 0, .null, .int 0, .null, .null, .int 0, .null, .int 0, .null, .null])), (q1, .inl (cA1, 300, .inl (fun _ => (0 : Int32)))), (q2, .inl (cA2, 301, .inl (fun _ => (0 : Int32)))), (q3, .inl (cA3, 301, .inl (fun _ => (0 : Int32)))), (q4, .inl (cA4, 301, .inl (fun _ => (0 : Int32)))), (q5, .inl (cA5, 6, .inl (fun _ => (0 : Int32)))), (q6, .inl (cA6, 28, .inl (fun _ => (0 : Int32)))), (q7, .inl (cA7, 4, .inl (fun _ => (0 : Int32)))), (q8, .inl (cA8, 6, .inl (fun _ => (0 : Int32)))), (q9, .inl (cA9, 28, .inl (fun _ => (0 : Int32)))), (q10, .inl (cA10, 3, .inl (fun _ => (0 : Int32)))), (q11, .inl (cA11, 3, .inl (fun _ => (0 : Int32)))), (q12, .inl (cA12, 3, .inl (fun _ => (0 : Int32))))] := hD
  refine W.widen (k := 12) (n := 1284) (Nat.le_of_ble_eq_true rfl) (Nat.le_of_ble_eq_true rfl) ?_
  refine va_putF (D := (dC, dI)) (ci := 9) (v := .ref q12) (ty := (.array .int)) (C := R_MO) (T := T_MO) (N := 36) hx hb hts in_MO t_MO t_MO_ok n_MO hown hK hP hD hS 0 rfl rfl 22 (by decide) (hts _ k_908) (fun _ h9 => h9) rfl hin rfl (by decide +kernel) rfl rfl (Nat.le_of_ble_eq_true rfl) d_MO_init_102 (fun H25 locs hP hD hS => ?_)
  have hP : va_P (dC, dI) cls [(h0, .inr (9, [.int 0, .ref q1, .int 0, .int (-1), .ref q2, .ref q3, .ref q4, .int 0, .ref q5, .int 0, .int 0, .int 0, .ref q6, .ref q7, .int 0, .int 0, .int 0, .int 0, .ref q8, .ref q9, .ref q10, .ref q11, .ref q12, .null, .null, .null, .int 0, .null, .int 0, .null, .null, .int 0, .null, .int 0, .null, .null])), (q1, .inl (cA1, 300, .inl (fun _ => (0 : Int32)))), (q2, .inl (cA2, 301, .inl (fun _ => (0 : Int32)))), (q3, .inl (cA3, 301, .inl (fun _ => (0 : Int32)))), (q4, .inl (cA4, 301, .inl (fun _ => (0 : Int32)))), (q5, .inl (cA5, 6, .inl (fun _ => (0 : Int32)))), (q6, .inl (cA6, 28, .inl (fun _ => (0 : Int32)))), (q7, .inl (cA7, 4, .inl (fun _ => (0 : Int32)))), (q8, .inl (cA8, 6, .inl (fun _ => (0 : Int32)))), (q9, .inl (cA9, 28, .inl (fun _ => (0 : Int32)))), (q10, .inl (cA10, 3, .inl (fun _ => (0 : Int32)))), (q11, .inl (cA11, 3, .inl (fun _ => (0 : Int32)))), (q12, .inl (cA12, 3, .inl (fun _ => (0 : Int32))))] H25 := hP
  have hD : va_D A [(h0, .inr (9, [.int 0, .ref q1, .int 0, .int (-1), .ref q2, .ref q3, .ref q4, .int 0, .ref q5, .int 0, .int 0, .int 0, .ref q6, .ref q7, .int 0, .int 0, .int 0, .int 0, .ref q8, .ref q9, .ref q10, .ref q11, .ref q12, .null, .null, .null, .int 0, .null, .int 0, .null, .null, .int 0, .null, .int 0, .null, .null])), (q1, .inl (cA1, 300, .inl (fun _ => (0 : Int32)))), (q2, .inl (cA2, 301, .inl (fun _ => (0 : Int32)))), (q3, .inl (cA3, 301, .inl (fun _ => (0 : Int32)))), (q4, .inl (cA4, 301, .inl (fun _ => (0 : Int32)))), (q5, .inl (cA5, 6, .inl (fun _ => (0 : Int32)))), (q6, .inl (cA6, 28, .inl (fun _ => (0 : Int32)))), (q7, .inl (cA7, 4, .inl (fun _ => (0 : Int32)))), (q8, .inl (cA8, 6, .inl (fun _ => (0 : Int32)))), (q9, .inl (cA9, 28, .inl (fun _ => (0 : Int32)))), (q10, .inl (cA10, 3, .inl (fun _ => (0 : Int32)))), (q11, .inl (cA11, 3, .inl (fun _ => (0 : Int32)))), (q12, .inl (cA12, 3, .inl (fun _ => (0 : Int32))))] := hD
  refine lv_aload_n hx hb d_MO_init_105 rfl (lv_at hl 0 rfl) ?_
  refine lv_ldc (v := 36000) hx hb hown (hts _ k_885) d_MO_init_106 ?_
  refine va_newa (atype := .byte) (ty := .byte) (N' := 36000) (a0 := (36000, .inl (fun _ => (0 : Int32)))) hx hb (hts _ k_45) rfl hK hP hD hS hA (fun _ => rfl) (by decide) (by decide) (by decide) (Nat.le_of_ble_eq_true rfl) (Nat.le_of_ble_eq_true rfl) d_MO_init_108 (fun q13 cA13 H26 hK hP hD hS => ?_)
  have hK : va_K (dC, dI) cls [(cA1, .int), (cA2, .int), (cA3, .int), (cA4, .int), (cA5, .int), (cA6, .int), (cA7, .int), (cA8, .int), (cA9, .int), (cA10, .boolean), (cA11, .int), (cA12, .int), (cA13, .byte)] s := hK
  have hP : va_P (dC, dI) cls [(h0, .inr (9, [.int 0, .ref q1, .int 0, .int (-1), .ref q2, .ref q3, .ref q4, .int 0, .ref q5, .int 0, .int 0, .int 0, .ref q6, .ref q7, .int 0, .int 0, .int 0, .int 0, .ref q8, .ref q9, .ref q10, .ref q11, .ref q12, .null, .null, .null, .int 0, .null, .int 0, .null, .null, .int 0, .null, .int 0, .null, .null])), (q1, .inl (cA1, 300, .inl (fun _ => (0 : Int32)))), (q2, .inl (cA2, 301, .inl (fun _ => (0 : Int32)))), (q3, .inl (cA3, 301, .inl (fun _ => (0 : Int32)))), (q4, .inl (cA4, 301, .inl (fun _ => (0 : Int32)))), (q5, .inl (cA5, 6, .inl (fun _ => (0 : Int32)))), (q6, .inl (cA6, 28, .inl (fun _ => (0 : Int32)))), (q7, .inl (cA7, 4, .inl (fun _ => (0 : Int32)))), (q8, .inl (cA8, 6, .inl (fun _ => (0 : Int32)))), (q9, .inl (cA9, 28, .inl (fun _ => (0 : Int32)))), (q10, .inl (cA10, 3, .inl (fun _ => (0 : Int32)))), (q11, .inl (cA11, 3, .inl (fun _ => (0 : Int32)))), (q12, .inl (cA12, 3, .inl (fun _ => (0 : Int32)))), (q13, .inl (cA13, 36000, .inl (fun _ => (0 : Int32))))] H26 := hP
  have hD : va_D A [(h0, .inr (9, [.int 0, .ref q1, .int 0, .int (-1), .ref q2, .ref q3, .ref q4, .int 0, .ref q5, .int 0, .int 0, .int 0, .ref q6, .ref q7, .int 0, .int 0, .int 0, .int 0, .ref q8, .ref q9, .ref q10, .ref q11, .ref q12, .null, .null, .null, .int 0, .null, .int 0, .null, .null, .int 0, .null, .int 0, .null, .null])), (q1, .inl (cA1, 300, .inl (fun _ => (0 : Int32)))), (q2, .inl (cA2, 301, .inl (fun _ => (0 : Int32)))), (q3, .inl (cA3, 301, .inl (fun _ => (0 : Int32)))), (q4, .inl (cA4, 301, .inl (fun _ => (0 : Int32)))), (q5, .inl (cA5, 6, .inl (fun _ => (0 : Int32)))), (q6, .inl (cA6, 28, .inl (fun _ => (0 : Int32)))), (q7, .inl (cA7, 4, .inl (fun _ => (0 : Int32)))), (q8, .inl (cA8, 6, .inl (fun _ => (0 : Int32)))), (q9, .inl (cA9, 28, .inl (fun _ => (0 : Int32)))), (q10, .inl (cA10, 3, .inl (fun _ => (0 : Int32)))), (q11, .inl (cA11, 3, .inl (fun _ => (0 : Int32)))), (q12, .inl (cA12, 3, .inl (fun _ => (0 : Int32)))), (q13, .inl (cA13, 36000, .inl (fun _ => (0 : Int32))))] := hD
  refine W.widen (k := 13) (n := 37284) (Nat.le_of_ble_eq_true rfl) (Nat.le_of_ble_eq_true rfl) ?_
  refine va_putF (D := (dC, dI)) (ci := 9) (v := .ref q13) (ty := (.array .byte)) (C := R_MO) (T := T_MO) (N := 36) hx hb hts in_MO t_MO t_MO_ok n_MO hown hK hP hD hS 0 rfl rfl 23 (by decide) (hts _ k_909) (fun _ h9 => h9) rfl hin rfl (by decide +kernel) rfl rfl (Nat.le_of_ble_eq_true rfl) d_MO_init_110 (fun H27 locs hP hD hS => ?_)
  have hP : va_P (dC, dI) cls [(h0, .inr (9, [.int 0, .ref q1, .int 0, .int (-1), .ref q2, .ref q3, .ref q4, .int 0, .ref q5, .int 0, .int 0, .int 0, .ref q6, .ref q7, .int 0, .int 0, .int 0, .int 0, .ref q8, .ref q9, .ref q10, .ref q11, .ref q12, .ref q13, .null, .null, .int 0, .null, .int 0, .null, .null, .int 0, .null, .int 0, .null, .null])), (q1, .inl (cA1, 300, .inl (fun _ => (0 : Int32)))), (q2, .inl (cA2, 301, .inl (fun _ => (0 : Int32)))), (q3, .inl (cA3, 301, .inl (fun _ => (0 : Int32)))), (q4, .inl (cA4, 301, .inl (fun _ => (0 : Int32)))), (q5, .inl (cA5, 6, .inl (fun _ => (0 : Int32)))), (q6, .inl (cA6, 28, .inl (fun _ => (0 : Int32)))), (q7, .inl (cA7, 4, .inl (fun _ => (0 : Int32)))), (q8, .inl (cA8, 6, .inl (fun _ => (0 : Int32)))), (q9, .inl (cA9, 28, .inl (fun _ => (0 : Int32)))), (q10, .inl (cA10, 3, .inl (fun _ => (0 : Int32)))), (q11, .inl (cA11, 3, .inl (fun _ => (0 : Int32)))), (q12, .inl (cA12, 3, .inl (fun _ => (0 : Int32)))), (q13, .inl (cA13, 36000, .inl (fun _ => (0 : Int32))))] H27 := hP
  have hD : va_D A [(h0, .inr (9, [.int 0, .ref q1, .int 0, .int (-1), .ref q2, .ref q3, .ref q4, .int 0, .ref q5, .int 0, .int 0, .int 0, .ref q6, .ref q7, .int 0, .int 0, .int 0, .int 0, .ref q8, .ref q9, .ref q10, .ref q11, .ref q12, .ref q13, .null, .null, .int 0, .null, .int 0, .null, .null, .int 0, .null, .int 0, .null, .null])), (q1, .inl (cA1, 300, .inl (fun _ => (0 : Int32)))), (q2, .inl (cA2, 301, .inl (fun _ => (0 : Int32)))), (q3, .inl (cA3, 301, .inl (fun _ => (0 : Int32)))), (q4, .inl (cA4, 301, .inl (fun _ => (0 : Int32)))), (q5, .inl (cA5, 6, .inl (fun _ => (0 : Int32)))), (q6, .inl (cA6, 28, .inl (fun _ => (0 : Int32)))), (q7, .inl (cA7, 4, .inl (fun _ => (0 : Int32)))), (q8, .inl (cA8, 6, .inl (fun _ => (0 : Int32)))), (q9, .inl (cA9, 28, .inl (fun _ => (0 : Int32)))), (q10, .inl (cA10, 3, .inl (fun _ => (0 : Int32)))), (q11, .inl (cA11, 3, .inl (fun _ => (0 : Int32)))), (q12, .inl (cA12, 3, .inl (fun _ => (0 : Int32)))), (q13, .inl (cA13, 36000, .inl (fun _ => (0 : Int32))))] := hD
  refine lv_aload_n hx hb d_MO_init_113 rfl (lv_at hl 0 rfl) ?_
  refine lv_bipush (v := 6) hx hb d_MO_init_114 (by decide) ?_
  refine va_newa (atype := .int) (ty := .int) (N' := 6) (a0 := (6, .inl (fun _ => (0 : Int32)))) hx hb (hts _ k_79) rfl hK hP hD hS hA (fun _ => rfl) (by decide) (by decide) (by decide) (Nat.le_of_ble_eq_true rfl) (Nat.le_of_ble_eq_true rfl) d_MO_init_116 (fun q14 cA14 H28 hK hP hD hS => ?_)
  have hK : va_K (dC, dI) cls [(cA1, .int), (cA2, .int), (cA3, .int), (cA4, .int), (cA5, .int), (cA6, .int), (cA7, .int), (cA8, .int), (cA9, .int), (cA10, .boolean), (cA11, .int), (cA12, .int), (cA13, .byte), (cA14, .int)] s := hK
  have hP : va_P (dC, dI) cls [(h0, .inr (9, [.int 0, .ref q1, .int 0, .int (-1), .ref q2, .ref q3, .ref q4, .int 0, .ref q5, .int 0, .int 0, .int 0, .ref q6, .ref q7, .int 0, .int 0, .int 0, .int 0, .ref q8, .ref q9, .ref q10, .ref q11, .ref q12, .ref q13, .null, .null, .int 0, .null, .int 0, .null, .null, .int 0, .null, .int 0, .null, .null])), (q1, .inl (cA1, 300, .inl (fun _ => (0 : Int32)))), (q2, .inl (cA2, 301, .inl (fun _ => (0 : Int32)))), (q3, .inl (cA3, 301, .inl (fun _ => (0 : Int32)))), (q4, .inl (cA4, 301, .inl (fun _ => (0 : Int32)))), (q5, .inl (cA5, 6, .inl (fun _ => (0 : Int32)))), (q6, .inl (cA6, 28, .inl (fun _ => (0 : Int32)))), (q7, .inl (cA7, 4, .inl (fun _ => (0 : Int32)))), (q8, .inl (cA8, 6, .inl (fun _ => (0 : Int32)))), (q9, .inl (cA9, 28, .inl (fun _ => (0 : Int32)))), (q10, .inl (cA10, 3, .inl (fun _ => (0 : Int32)))), (q11, .inl (cA11, 3, .inl (fun _ => (0 : Int32)))), (q12, .inl (cA12, 3, .inl (fun _ => (0 : Int32)))), (q13, .inl (cA13, 36000, .inl (fun _ => (0 : Int32)))), (q14, .inl (cA14, 6, .inl (fun _ => (0 : Int32))))] H28 := hP
  have hD : va_D A [(h0, .inr (9, [.int 0, .ref q1, .int 0, .int (-1), .ref q2, .ref q3, .ref q4, .int 0, .ref q5, .int 0, .int 0, .int 0, .ref q6, .ref q7, .int 0, .int 0, .int 0, .int 0, .ref q8, .ref q9, .ref q10, .ref q11, .ref q12, .ref q13, .null, .null, .int 0, .null, .int 0, .null, .null, .int 0, .null, .int 0, .null, .null])), (q1, .inl (cA1, 300, .inl (fun _ => (0 : Int32)))), (q2, .inl (cA2, 301, .inl (fun _ => (0 : Int32)))), (q3, .inl (cA3, 301, .inl (fun _ => (0 : Int32)))), (q4, .inl (cA4, 301, .inl (fun _ => (0 : Int32)))), (q5, .inl (cA5, 6, .inl (fun _ => (0 : Int32)))), (q6, .inl (cA6, 28, .inl (fun _ => (0 : Int32)))), (q7, .inl (cA7, 4, .inl (fun _ => (0 : Int32)))), (q8, .inl (cA8, 6, .inl (fun _ => (0 : Int32)))), (q9, .inl (cA9, 28, .inl (fun _ => (0 : Int32)))), (q10, .inl (cA10, 3, .inl (fun _ => (0 : Int32)))), (q11, .inl (cA11, 3, .inl (fun _ => (0 : Int32)))), (q12, .inl (cA12, 3, .inl (fun _ => (0 : Int32)))), (q13, .inl (cA13, 36000, .inl (fun _ => (0 : Int32)))), (q14, .inl (cA14, 6, .inl (fun _ => (0 : Int32))))] := hD
  refine W.widen (k := 14) (n := 37290) (Nat.le_of_ble_eq_true rfl) (Nat.le_of_ble_eq_true rfl) ?_
  refine va_putF (D := (dC, dI)) (ci := 9) (v := .ref q14) (ty := (.array .int)) (C := R_MO) (T := T_MO) (N := 36) hx hb hts in_MO t_MO t_MO_ok n_MO hown hK hP hD hS 0 rfl rfl 24 (by decide) (hts _ k_910) (fun _ h9 => h9) rfl hin rfl (by decide +kernel) rfl rfl (Nat.le_of_ble_eq_true rfl) d_MO_init_118 (fun H29 locs hP hD hS => ?_)
  have hP : va_P (dC, dI) cls [(h0, .inr (9, [.int 0, .ref q1, .int 0, .int (-1), .ref q2, .ref q3, .ref q4, .int 0, .ref q5, .int 0, .int 0, .int 0, .ref q6, .ref q7, .int 0, .int 0, .int 0, .int 0, .ref q8, .ref q9, .ref q10, .ref q11, .ref q12, .ref q13, .ref q14, .null, .int 0, .null, .int 0, .null, .null, .int 0, .null, .int 0, .null, .null])), (q1, .inl (cA1, 300, .inl (fun _ => (0 : Int32)))), (q2, .inl (cA2, 301, .inl (fun _ => (0 : Int32)))), (q3, .inl (cA3, 301, .inl (fun _ => (0 : Int32)))), (q4, .inl (cA4, 301, .inl (fun _ => (0 : Int32)))), (q5, .inl (cA5, 6, .inl (fun _ => (0 : Int32)))), (q6, .inl (cA6, 28, .inl (fun _ => (0 : Int32)))), (q7, .inl (cA7, 4, .inl (fun _ => (0 : Int32)))), (q8, .inl (cA8, 6, .inl (fun _ => (0 : Int32)))), (q9, .inl (cA9, 28, .inl (fun _ => (0 : Int32)))), (q10, .inl (cA10, 3, .inl (fun _ => (0 : Int32)))), (q11, .inl (cA11, 3, .inl (fun _ => (0 : Int32)))), (q12, .inl (cA12, 3, .inl (fun _ => (0 : Int32)))), (q13, .inl (cA13, 36000, .inl (fun _ => (0 : Int32)))), (q14, .inl (cA14, 6, .inl (fun _ => (0 : Int32))))] H29 := hP
  have hD : va_D A [(h0, .inr (9, [.int 0, .ref q1, .int 0, .int (-1), .ref q2, .ref q3, .ref q4, .int 0, .ref q5, .int 0, .int 0, .int 0, .ref q6, .ref q7, .int 0, .int 0, .int 0, .int 0, .ref q8, .ref q9, .ref q10, .ref q11, .ref q12, .ref q13, .ref q14, .null, .int 0, .null, .int 0, .null, .null, .int 0, .null, .int 0, .null, .null])), (q1, .inl (cA1, 300, .inl (fun _ => (0 : Int32)))), (q2, .inl (cA2, 301, .inl (fun _ => (0 : Int32)))), (q3, .inl (cA3, 301, .inl (fun _ => (0 : Int32)))), (q4, .inl (cA4, 301, .inl (fun _ => (0 : Int32)))), (q5, .inl (cA5, 6, .inl (fun _ => (0 : Int32)))), (q6, .inl (cA6, 28, .inl (fun _ => (0 : Int32)))), (q7, .inl (cA7, 4, .inl (fun _ => (0 : Int32)))), (q8, .inl (cA8, 6, .inl (fun _ => (0 : Int32)))), (q9, .inl (cA9, 28, .inl (fun _ => (0 : Int32)))), (q10, .inl (cA10, 3, .inl (fun _ => (0 : Int32)))), (q11, .inl (cA11, 3, .inl (fun _ => (0 : Int32)))), (q12, .inl (cA12, 3, .inl (fun _ => (0 : Int32)))), (q13, .inl (cA13, 36000, .inl (fun _ => (0 : Int32)))), (q14, .inl (cA14, 6, .inl (fun _ => (0 : Int32))))] := hD
  refine lv_aload_n hx hb d_MO_init_121 rfl (lv_at hl 0 rfl) ?_
  refine lv_bipush (v := 6) hx hb d_MO_init_122 (by decide) ?_
  refine va_newa (atype := .int) (ty := .int) (N' := 6) (a0 := (6, .inl (fun _ => (0 : Int32)))) hx hb (hts _ k_79) rfl hK hP hD hS hA (fun _ => rfl) (by decide) (by decide) (by decide) (Nat.le_of_ble_eq_true rfl) (Nat.le_of_ble_eq_true rfl) d_MO_init_124 (fun q15 cA15 H30 hK hP hD hS => ?_)
  have hK : va_K (dC, dI) cls [(cA1, .int), (cA2, .int), (cA3, .int), (cA4, .int), (cA5, .int), (cA6, .int), (cA7, .int), (cA8, .int), (cA9, .int), (cA10, .boolean), (cA11, .int), (cA12, .int), (cA13, .byte), (cA14, .int), (cA15, .int)] s := hK
  have hP : va_P (dC, dI) cls [(h0, .inr (9, [.int 0, .ref q1, .int 0, .int (-1), .ref q2, .ref q3, .ref q4, .int 0, .ref q5, .int 0, .int 0, .int 0, .ref q6, .ref q7, .int 0, .int 0, .int 0, .int 0, .ref q8, .ref q9, .ref q10, .ref q11, .ref q12, .ref q13, .ref q14, .null, .int 0, .null, .int 0, .null, .null, .int 0, .null, .int 0, .null, .null])), (q1, .inl (cA1, 300, .inl (fun _ => (0 : Int32)))), (q2, .inl (cA2, 301, .inl (fun _ => (0 : Int32)))), (q3, .inl (cA3, 301, .inl (fun _ => (0 : Int32)))), (q4, .inl (cA4, 301, .inl (fun _ => (0 : Int32)))), (q5, .inl (cA5, 6, .inl (fun _ => (0 : Int32)))), (q6, .inl (cA6, 28, .inl (fun _ => (0 : Int32)))), (q7, .inl (cA7, 4, .inl (fun _ => (0 : Int32)))), (q8, .inl (cA8, 6, .inl (fun _ => (0 : Int32)))), (q9, .inl (cA9, 28, .inl (fun _ => (0 : Int32)))), (q10, .inl (cA10, 3, .inl (fun _ => (0 : Int32)))), (q11, .inl (cA11, 3, .inl (fun _ => (0 : Int32)))), (q12, .inl (cA12, 3, .inl (fun _ => (0 : Int32)))), (q13, .inl (cA13, 36000, .inl (fun _ => (0 : Int32)))), (q14, .inl (cA14, 6, .inl (fun _ => (0 : Int32)))), (q15, .inl (cA15, 6, .inl (fun _ => (0 : Int32))))] H30 := hP
  have hD : va_D A [(h0, .inr (9, [.int 0, .ref q1, .int 0, .int (-1), .ref q2, .ref q3, .ref q4, .int 0, .ref q5, .int 0, .int 0, .int 0, .ref q6, .ref q7, .int 0, .int 0, .int 0, .int 0, .ref q8, .ref q9, .ref q10, .ref q11, .ref q12, .ref q13, .ref q14, .null, .int 0, .null, .int 0, .null, .null, .int 0, .null, .int 0, .null, .null])), (q1, .inl (cA1, 300, .inl (fun _ => (0 : Int32)))), (q2, .inl (cA2, 301, .inl (fun _ => (0 : Int32)))), (q3, .inl (cA3, 301, .inl (fun _ => (0 : Int32)))), (q4, .inl (cA4, 301, .inl (fun _ => (0 : Int32)))), (q5, .inl (cA5, 6, .inl (fun _ => (0 : Int32)))), (q6, .inl (cA6, 28, .inl (fun _ => (0 : Int32)))), (q7, .inl (cA7, 4, .inl (fun _ => (0 : Int32)))), (q8, .inl (cA8, 6, .inl (fun _ => (0 : Int32)))), (q9, .inl (cA9, 28, .inl (fun _ => (0 : Int32)))), (q10, .inl (cA10, 3, .inl (fun _ => (0 : Int32)))), (q11, .inl (cA11, 3, .inl (fun _ => (0 : Int32)))), (q12, .inl (cA12, 3, .inl (fun _ => (0 : Int32)))), (q13, .inl (cA13, 36000, .inl (fun _ => (0 : Int32)))), (q14, .inl (cA14, 6, .inl (fun _ => (0 : Int32)))), (q15, .inl (cA15, 6, .inl (fun _ => (0 : Int32))))] := hD
  refine W.widen (k := 15) (n := 37296) (Nat.le_of_ble_eq_true rfl) (Nat.le_of_ble_eq_true rfl) ?_
  refine va_putF (D := (dC, dI)) (ci := 9) (v := .ref q15) (ty := (.array .int)) (C := R_MO) (T := T_MO) (N := 36) hx hb hts in_MO t_MO t_MO_ok n_MO hown hK hP hD hS 0 rfl rfl 25 (by decide) (hts _ k_911) (fun _ h9 => h9) rfl hin rfl (by decide +kernel) rfl rfl (Nat.le_of_ble_eq_true rfl) d_MO_init_126 (fun H31 locs hP hD hS => ?_)
  have hP : va_P (dC, dI) cls [(h0, .inr (9, [.int 0, .ref q1, .int 0, .int (-1), .ref q2, .ref q3, .ref q4, .int 0, .ref q5, .int 0, .int 0, .int 0, .ref q6, .ref q7, .int 0, .int 0, .int 0, .int 0, .ref q8, .ref q9, .ref q10, .ref q11, .ref q12, .ref q13, .ref q14, .ref q15, .int 0, .null, .int 0, .null, .null, .int 0, .null, .int 0, .null, .null])), (q1, .inl (cA1, 300, .inl (fun _ => (0 : Int32)))), (q2, .inl (cA2, 301, .inl (fun _ => (0 : Int32)))), (q3, .inl (cA3, 301, .inl (fun _ => (0 : Int32)))), (q4, .inl (cA4, 301, .inl (fun _ => (0 : Int32)))), (q5, .inl (cA5, 6, .inl (fun _ => (0 : Int32)))), (q6, .inl (cA6, 28, .inl (fun _ => (0 : Int32)))), (q7, .inl (cA7, 4, .inl (fun _ => (0 : Int32)))), (q8, .inl (cA8, 6, .inl (fun _ => (0 : Int32)))), (q9, .inl (cA9, 28, .inl (fun _ => (0 : Int32)))), (q10, .inl (cA10, 3, .inl (fun _ => (0 : Int32)))), (q11, .inl (cA11, 3, .inl (fun _ => (0 : Int32)))), (q12, .inl (cA12, 3, .inl (fun _ => (0 : Int32)))), (q13, .inl (cA13, 36000, .inl (fun _ => (0 : Int32)))), (q14, .inl (cA14, 6, .inl (fun _ => (0 : Int32)))), (q15, .inl (cA15, 6, .inl (fun _ => (0 : Int32))))] H31 := hP
  have hD : va_D A [(h0, .inr (9, [.int 0, .ref q1, .int 0, .int (-1), .ref q2, .ref q3, .ref q4, .int 0, .ref q5, .int 0, .int 0, .int 0, .ref q6, .ref q7, .int 0, .int 0, .int 0, .int 0, .ref q8, .ref q9, .ref q10, .ref q11, .ref q12, .ref q13, .ref q14, .ref q15, .int 0, .null, .int 0, .null, .null, .int 0, .null, .int 0, .null, .null])), (q1, .inl (cA1, 300, .inl (fun _ => (0 : Int32)))), (q2, .inl (cA2, 301, .inl (fun _ => (0 : Int32)))), (q3, .inl (cA3, 301, .inl (fun _ => (0 : Int32)))), (q4, .inl (cA4, 301, .inl (fun _ => (0 : Int32)))), (q5, .inl (cA5, 6, .inl (fun _ => (0 : Int32)))), (q6, .inl (cA6, 28, .inl (fun _ => (0 : Int32)))), (q7, .inl (cA7, 4, .inl (fun _ => (0 : Int32)))), (q8, .inl (cA8, 6, .inl (fun _ => (0 : Int32)))), (q9, .inl (cA9, 28, .inl (fun _ => (0 : Int32)))), (q10, .inl (cA10, 3, .inl (fun _ => (0 : Int32)))), (q11, .inl (cA11, 3, .inl (fun _ => (0 : Int32)))), (q12, .inl (cA12, 3, .inl (fun _ => (0 : Int32)))), (q13, .inl (cA13, 36000, .inl (fun _ => (0 : Int32)))), (q14, .inl (cA14, 6, .inl (fun _ => (0 : Int32)))), (q15, .inl (cA15, 6, .inl (fun _ => (0 : Int32))))] := hD
  refine lv_aload_n hx hb d_MO_init_129 rfl (lv_at hl 0 rfl) ?_
  refine lv_sipush (v := 2000) hx hb d_MO_init_130 (by decide) ?_
  refine va_newa (atype := .int) (ty := .int) (N' := 2000) (a0 := (2000, .inl (fun _ => (0 : Int32)))) hx hb (hts _ k_79) rfl hK hP hD hS hA (fun _ => rfl) (by decide) (by decide) (by decide) (Nat.le_of_ble_eq_true rfl) (Nat.le_of_ble_eq_true rfl) d_MO_init_133 (fun q16 cA16 H32 hK hP hD hS => ?_)
  have hK : va_K (dC, dI) cls [(cA1, .int), (cA2, .int), (cA3, .int), (cA4, .int), (cA5, .int), (cA6, .int), (cA7, .int), (cA8, .int), (cA9, .int), (cA10, .boolean), (cA11, .int), (cA12, .int), (cA13, .byte), (cA14, .int), (cA15, .int), (cA16, .int)] s := hK
  have hP : va_P (dC, dI) cls [(h0, .inr (9, [.int 0, .ref q1, .int 0, .int (-1), .ref q2, .ref q3, .ref q4, .int 0, .ref q5, .int 0, .int 0, .int 0, .ref q6, .ref q7, .int 0, .int 0, .int 0, .int 0, .ref q8, .ref q9, .ref q10, .ref q11, .ref q12, .ref q13, .ref q14, .ref q15, .int 0, .null, .int 0, .null, .null, .int 0, .null, .int 0, .null, .null])), (q1, .inl (cA1, 300, .inl (fun _ => (0 : Int32)))), (q2, .inl (cA2, 301, .inl (fun _ => (0 : Int32)))), (q3, .inl (cA3, 301, .inl (fun _ => (0 : Int32)))), (q4, .inl (cA4, 301, .inl (fun _ => (0 : Int32)))), (q5, .inl (cA5, 6, .inl (fun _ => (0 : Int32)))), (q6, .inl (cA6, 28, .inl (fun _ => (0 : Int32)))), (q7, .inl (cA7, 4, .inl (fun _ => (0 : Int32)))), (q8, .inl (cA8, 6, .inl (fun _ => (0 : Int32)))), (q9, .inl (cA9, 28, .inl (fun _ => (0 : Int32)))), (q10, .inl (cA10, 3, .inl (fun _ => (0 : Int32)))), (q11, .inl (cA11, 3, .inl (fun _ => (0 : Int32)))), (q12, .inl (cA12, 3, .inl (fun _ => (0 : Int32)))), (q13, .inl (cA13, 36000, .inl (fun _ => (0 : Int32)))), (q14, .inl (cA14, 6, .inl (fun _ => (0 : Int32)))), (q15, .inl (cA15, 6, .inl (fun _ => (0 : Int32)))), (q16, .inl (cA16, 2000, .inl (fun _ => (0 : Int32))))] H32 := hP
  have hD : va_D A [(h0, .inr (9, [.int 0, .ref q1, .int 0, .int (-1), .ref q2, .ref q3, .ref q4, .int 0, .ref q5, .int 0, .int 0, .int 0, .ref q6, .ref q7, .int 0, .int 0, .int 0, .int 0, .ref q8, .ref q9, .ref q10, .ref q11, .ref q12, .ref q13, .ref q14, .ref q15, .int 0, .null, .int 0, .null, .null, .int 0, .null, .int 0, .null, .null])), (q1, .inl (cA1, 300, .inl (fun _ => (0 : Int32)))), (q2, .inl (cA2, 301, .inl (fun _ => (0 : Int32)))), (q3, .inl (cA3, 301, .inl (fun _ => (0 : Int32)))), (q4, .inl (cA4, 301, .inl (fun _ => (0 : Int32)))), (q5, .inl (cA5, 6, .inl (fun _ => (0 : Int32)))), (q6, .inl (cA6, 28, .inl (fun _ => (0 : Int32)))), (q7, .inl (cA7, 4, .inl (fun _ => (0 : Int32)))), (q8, .inl (cA8, 6, .inl (fun _ => (0 : Int32)))), (q9, .inl (cA9, 28, .inl (fun _ => (0 : Int32)))), (q10, .inl (cA10, 3, .inl (fun _ => (0 : Int32)))), (q11, .inl (cA11, 3, .inl (fun _ => (0 : Int32)))), (q12, .inl (cA12, 3, .inl (fun _ => (0 : Int32)))), (q13, .inl (cA13, 36000, .inl (fun _ => (0 : Int32)))), (q14, .inl (cA14, 6, .inl (fun _ => (0 : Int32)))), (q15, .inl (cA15, 6, .inl (fun _ => (0 : Int32)))), (q16, .inl (cA16, 2000, .inl (fun _ => (0 : Int32))))] := hD
  refine W.widen (k := 16) (n := 39296) (Nat.le_of_ble_eq_true rfl) (Nat.le_of_ble_eq_true rfl) ?_
  refine va_putF (D := (dC, dI)) (ci := 9) (v := .ref q16) (ty := (.array .int)) (C := R_MO) (T := T_MO) (N := 36) hx hb hts in_MO t_MO t_MO_ok n_MO hown hK hP hD hS 0 rfl rfl 27 (by decide) (hts _ k_913) (fun _ h9 => h9) rfl hin rfl (by decide +kernel) rfl rfl (Nat.le_of_ble_eq_true rfl) d_MO_init_135 (fun H33 locs hP hD hS => ?_)
  have hP : va_P (dC, dI) cls [(h0, .inr (9, [.int 0, .ref q1, .int 0, .int (-1), .ref q2, .ref q3, .ref q4, .int 0, .ref q5, .int 0, .int 0, .int 0, .ref q6, .ref q7, .int 0, .int 0, .int 0, .int 0, .ref q8, .ref q9, .ref q10, .ref q11, .ref q12, .ref q13, .ref q14, .ref q15, .int 0, .ref q16, .int 0, .null, .null, .int 0, .null, .int 0, .null, .null])), (q1, .inl (cA1, 300, .inl (fun _ => (0 : Int32)))), (q2, .inl (cA2, 301, .inl (fun _ => (0 : Int32)))), (q3, .inl (cA3, 301, .inl (fun _ => (0 : Int32)))), (q4, .inl (cA4, 301, .inl (fun _ => (0 : Int32)))), (q5, .inl (cA5, 6, .inl (fun _ => (0 : Int32)))), (q6, .inl (cA6, 28, .inl (fun _ => (0 : Int32)))), (q7, .inl (cA7, 4, .inl (fun _ => (0 : Int32)))), (q8, .inl (cA8, 6, .inl (fun _ => (0 : Int32)))), (q9, .inl (cA9, 28, .inl (fun _ => (0 : Int32)))), (q10, .inl (cA10, 3, .inl (fun _ => (0 : Int32)))), (q11, .inl (cA11, 3, .inl (fun _ => (0 : Int32)))), (q12, .inl (cA12, 3, .inl (fun _ => (0 : Int32)))), (q13, .inl (cA13, 36000, .inl (fun _ => (0 : Int32)))), (q14, .inl (cA14, 6, .inl (fun _ => (0 : Int32)))), (q15, .inl (cA15, 6, .inl (fun _ => (0 : Int32)))), (q16, .inl (cA16, 2000, .inl (fun _ => (0 : Int32))))] H33 := hP
  have hD : va_D A [(h0, .inr (9, [.int 0, .ref q1, .int 0, .int (-1), .ref q2, .ref q3, .ref q4, .int 0, .ref q5, .int 0, .int 0, .int 0, .ref q6, .ref q7, .int 0, .int 0, .int 0, .int 0, .ref q8, .ref q9, .ref q10, .ref q11, .ref q12, .ref q13, .ref q14, .ref q15, .int 0, .ref q16, .int 0, .null, .null, .int 0, .null, .int 0, .null, .null])), (q1, .inl (cA1, 300, .inl (fun _ => (0 : Int32)))), (q2, .inl (cA2, 301, .inl (fun _ => (0 : Int32)))), (q3, .inl (cA3, 301, .inl (fun _ => (0 : Int32)))), (q4, .inl (cA4, 301, .inl (fun _ => (0 : Int32)))), (q5, .inl (cA5, 6, .inl (fun _ => (0 : Int32)))), (q6, .inl (cA6, 28, .inl (fun _ => (0 : Int32)))), (q7, .inl (cA7, 4, .inl (fun _ => (0 : Int32)))), (q8, .inl (cA8, 6, .inl (fun _ => (0 : Int32)))), (q9, .inl (cA9, 28, .inl (fun _ => (0 : Int32)))), (q10, .inl (cA10, 3, .inl (fun _ => (0 : Int32)))), (q11, .inl (cA11, 3, .inl (fun _ => (0 : Int32)))), (q12, .inl (cA12, 3, .inl (fun _ => (0 : Int32)))), (q13, .inl (cA13, 36000, .inl (fun _ => (0 : Int32)))), (q14, .inl (cA14, 6, .inl (fun _ => (0 : Int32)))), (q15, .inl (cA15, 6, .inl (fun _ => (0 : Int32)))), (q16, .inl (cA16, 2000, .inl (fun _ => (0 : Int32))))] := hD
  refine lv_aload_n hx hb d_MO_init_138 rfl (lv_at hl 0 rfl) ?_
  refine lv_bipush (v := 6) hx hb d_MO_init_139 (by decide) ?_
  refine va_newa (atype := .int) (ty := .int) (N' := 6) (a0 := (6, .inl (fun _ => (0 : Int32)))) hx hb (hts _ k_79) rfl hK hP hD hS hA (fun _ => rfl) (by decide) (by decide) (by decide) (Nat.le_of_ble_eq_true rfl) (Nat.le_of_ble_eq_true rfl) d_MO_init_141 (fun q17 cA17 H34 hK hP hD hS => ?_)
  have hK : va_K (dC, dI) cls [(cA1, .int), (cA2, .int), (cA3, .int), (cA4, .int), (cA5, .int), (cA6, .int), (cA7, .int), (cA8, .int), (cA9, .int), (cA10, .boolean), (cA11, .int), (cA12, .int), (cA13, .byte), (cA14, .int), (cA15, .int), (cA16, .int), (cA17, .int)] s := hK
  have hP : va_P (dC, dI) cls [(h0, .inr (9, [.int 0, .ref q1, .int 0, .int (-1), .ref q2, .ref q3, .ref q4, .int 0, .ref q5, .int 0, .int 0, .int 0, .ref q6, .ref q7, .int 0, .int 0, .int 0, .int 0, .ref q8, .ref q9, .ref q10, .ref q11, .ref q12, .ref q13, .ref q14, .ref q15, .int 0, .ref q16, .int 0, .null, .null, .int 0, .null, .int 0, .null, .null])), (q1, .inl (cA1, 300, .inl (fun _ => (0 : Int32)))), (q2, .inl (cA2, 301, .inl (fun _ => (0 : Int32)))), (q3, .inl (cA3, 301, .inl (fun _ => (0 : Int32)))), (q4, .inl (cA4, 301, .inl (fun _ => (0 : Int32)))), (q5, .inl (cA5, 6, .inl (fun _ => (0 : Int32)))), (q6, .inl (cA6, 28, .inl (fun _ => (0 : Int32)))), (q7, .inl (cA7, 4, .inl (fun _ => (0 : Int32)))), (q8, .inl (cA8, 6, .inl (fun _ => (0 : Int32)))), (q9, .inl (cA9, 28, .inl (fun _ => (0 : Int32)))), (q10, .inl (cA10, 3, .inl (fun _ => (0 : Int32)))), (q11, .inl (cA11, 3, .inl (fun _ => (0 : Int32)))), (q12, .inl (cA12, 3, .inl (fun _ => (0 : Int32)))), (q13, .inl (cA13, 36000, .inl (fun _ => (0 : Int32)))), (q14, .inl (cA14, 6, .inl (fun _ => (0 : Int32)))), (q15, .inl (cA15, 6, .inl (fun _ => (0 : Int32)))), (q16, .inl (cA16, 2000, .inl (fun _ => (0 : Int32)))), (q17, .inl (cA17, 6, .inl (fun _ => (0 : Int32))))] H34 := hP
  have hD : va_D A [(h0, .inr (9, [.int 0, .ref q1, .int 0, .int (-1), .ref q2, .ref q3, .ref q4, .int 0, .ref q5, .int 0, .int 0, .int 0, .ref q6, .ref q7, .int 0, .int 0, .int 0, .int 0, .ref q8, .ref q9, .ref q10, .ref q11, .ref q12, .ref q13, .ref q14, .ref q15, .int 0, .ref q16, .int 0, .null, .null, .int 0, .null, .int 0, .null, .null])), (q1, .inl (cA1, 300, .inl (fun _ => (0 : Int32)))), (q2, .inl (cA2, 301, .inl (fun _ => (0 : Int32)))), (q3, .inl (cA3, 301, .inl (fun _ => (0 : Int32)))), (q4, .inl (cA4, 301, .inl (fun _ => (0 : Int32)))), (q5, .inl (cA5, 6, .inl (fun _ => (0 : Int32)))), (q6, .inl (cA6, 28, .inl (fun _ => (0 : Int32)))), (q7, .inl (cA7, 4, .inl (fun _ => (0 : Int32)))), (q8, .inl (cA8, 6, .inl (fun _ => (0 : Int32)))), (q9, .inl (cA9, 28, .inl (fun _ => (0 : Int32)))), (q10, .inl (cA10, 3, .inl (fun _ => (0 : Int32)))), (q11, .inl (cA11, 3, .inl (fun _ => (0 : Int32)))), (q12, .inl (cA12, 3, .inl (fun _ => (0 : Int32)))), (q13, .inl (cA13, 36000, .inl (fun _ => (0 : Int32)))), (q14, .inl (cA14, 6, .inl (fun _ => (0 : Int32)))), (q15, .inl (cA15, 6, .inl (fun _ => (0 : Int32)))), (q16, .inl (cA16, 2000, .inl (fun _ => (0 : Int32)))), (q17, .inl (cA17, 6, .inl (fun _ => (0 : Int32))))] := hD
  refine W.widen (k := 17) (n := 39302) (Nat.le_of_ble_eq_true rfl) (Nat.le_of_ble_eq_true rfl) ?_
  refine va_putF (D := (dC, dI)) (ci := 9) (v := .ref q17) (ty := (.array .int)) (C := R_MO) (T := T_MO) (N := 36) hx hb hts in_MO t_MO t_MO_ok n_MO hown hK hP hD hS 0 rfl rfl 29 (by decide) (hts _ k_915) (fun _ h9 => h9) rfl hin rfl (by decide +kernel) rfl rfl (Nat.le_of_ble_eq_true rfl) d_MO_init_143 (fun H35 locs hP hD hS => ?_)
  have hP : va_P (dC, dI) cls [(h0, .inr (9, [.int 0, .ref q1, .int 0, .int (-1), .ref q2, .ref q3, .ref q4, .int 0, .ref q5, .int 0, .int 0, .int 0, .ref q6, .ref q7, .int 0, .int 0, .int 0, .int 0, .ref q8, .ref q9, .ref q10, .ref q11, .ref q12, .ref q13, .ref q14, .ref q15, .int 0, .ref q16, .int 0, .ref q17, .null, .int 0, .null, .int 0, .null, .null])), (q1, .inl (cA1, 300, .inl (fun _ => (0 : Int32)))), (q2, .inl (cA2, 301, .inl (fun _ => (0 : Int32)))), (q3, .inl (cA3, 301, .inl (fun _ => (0 : Int32)))), (q4, .inl (cA4, 301, .inl (fun _ => (0 : Int32)))), (q5, .inl (cA5, 6, .inl (fun _ => (0 : Int32)))), (q6, .inl (cA6, 28, .inl (fun _ => (0 : Int32)))), (q7, .inl (cA7, 4, .inl (fun _ => (0 : Int32)))), (q8, .inl (cA8, 6, .inl (fun _ => (0 : Int32)))), (q9, .inl (cA9, 28, .inl (fun _ => (0 : Int32)))), (q10, .inl (cA10, 3, .inl (fun _ => (0 : Int32)))), (q11, .inl (cA11, 3, .inl (fun _ => (0 : Int32)))), (q12, .inl (cA12, 3, .inl (fun _ => (0 : Int32)))), (q13, .inl (cA13, 36000, .inl (fun _ => (0 : Int32)))), (q14, .inl (cA14, 6, .inl (fun _ => (0 : Int32)))), (q15, .inl (cA15, 6, .inl (fun _ => (0 : Int32)))), (q16, .inl (cA16, 2000, .inl (fun _ => (0 : Int32)))), (q17, .inl (cA17, 6, .inl (fun _ => (0 : Int32))))] H35 := hP
  have hD : va_D A [(h0, .inr (9, [.int 0, .ref q1, .int 0, .int (-1), .ref q2, .ref q3, .ref q4, .int 0, .ref q5, .int 0, .int 0, .int 0, .ref q6, .ref q7, .int 0, .int 0, .int 0, .int 0, .ref q8, .ref q9, .ref q10, .ref q11, .ref q12, .ref q13, .ref q14, .ref q15, .int 0, .ref q16, .int 0, .ref q17, .null, .int 0, .null, .int 0, .null, .null])), (q1, .inl (cA1, 300, .inl (fun _ => (0 : Int32)))), (q2, .inl (cA2, 301, .inl (fun _ => (0 : Int32)))), (q3, .inl (cA3, 301, .inl (fun _ => (0 : Int32)))), (q4, .inl (cA4, 301, .inl (fun _ => (0 : Int32)))), (q5, .inl (cA5, 6, .inl (fun _ => (0 : Int32)))), (q6, .inl (cA6, 28, .inl (fun _ => (0 : Int32)))), (q7, .inl (cA7, 4, .inl (fun _ => (0 : Int32)))), (q8, .inl (cA8, 6, .inl (fun _ => (0 : Int32)))), (q9, .inl (cA9, 28, .inl (fun _ => (0 : Int32)))), (q10, .inl (cA10, 3, .inl (fun _ => (0 : Int32)))), (q11, .inl (cA11, 3, .inl (fun _ => (0 : Int32)))), (q12, .inl (cA12, 3, .inl (fun _ => (0 : Int32)))), (q13, .inl (cA13, 36000, .inl (fun _ => (0 : Int32)))), (q14, .inl (cA14, 6, .inl (fun _ => (0 : Int32)))), (q15, .inl (cA15, 6, .inl (fun _ => (0 : Int32)))), (q16, .inl (cA16, 2000, .inl (fun _ => (0 : Int32)))), (q17, .inl (cA17, 6, .inl (fun _ => (0 : Int32))))] := hD
  refine lv_aload_n hx hb d_MO_init_146 rfl (lv_at hl 0 rfl) ?_
  refine lv_bipush (v := 36) hx hb d_MO_init_147 (by decide) ?_
  refine va_newa (atype := .long) (ty := .long) (N' := 36) (a0 := (36, .inr (.inl (fun _ => (0 : Int64))))) hx hb (hts _ k_196) rfl hK hP hD hS hA (fun _ => rfl) (by decide) (by decide) (by decide) (Nat.le_of_ble_eq_true rfl) (Nat.le_of_ble_eq_true rfl) d_MO_init_149 (fun q18 cA18 H36 hK hP hD hS => ?_)
  have hK : va_K (dC, dI) cls [(cA1, .int), (cA2, .int), (cA3, .int), (cA4, .int), (cA5, .int), (cA6, .int), (cA7, .int), (cA8, .int), (cA9, .int), (cA10, .boolean), (cA11, .int), (cA12, .int), (cA13, .byte), (cA14, .int), (cA15, .int), (cA16, .int), (cA17, .int), (cA18, .long)] s := hK
  have hP : va_P (dC, dI) cls [(h0, .inr (9, [.int 0, .ref q1, .int 0, .int (-1), .ref q2, .ref q3, .ref q4, .int 0, .ref q5, .int 0, .int 0, .int 0, .ref q6, .ref q7, .int 0, .int 0, .int 0, .int 0, .ref q8, .ref q9, .ref q10, .ref q11, .ref q12, .ref q13, .ref q14, .ref q15, .int 0, .ref q16, .int 0, .ref q17, .null, .int 0, .null, .int 0, .null, .null])), (q1, .inl (cA1, 300, .inl (fun _ => (0 : Int32)))), (q2, .inl (cA2, 301, .inl (fun _ => (0 : Int32)))), (q3, .inl (cA3, 301, .inl (fun _ => (0 : Int32)))), (q4, .inl (cA4, 301, .inl (fun _ => (0 : Int32)))), (q5, .inl (cA5, 6, .inl (fun _ => (0 : Int32)))), (q6, .inl (cA6, 28, .inl (fun _ => (0 : Int32)))), (q7, .inl (cA7, 4, .inl (fun _ => (0 : Int32)))), (q8, .inl (cA8, 6, .inl (fun _ => (0 : Int32)))), (q9, .inl (cA9, 28, .inl (fun _ => (0 : Int32)))), (q10, .inl (cA10, 3, .inl (fun _ => (0 : Int32)))), (q11, .inl (cA11, 3, .inl (fun _ => (0 : Int32)))), (q12, .inl (cA12, 3, .inl (fun _ => (0 : Int32)))), (q13, .inl (cA13, 36000, .inl (fun _ => (0 : Int32)))), (q14, .inl (cA14, 6, .inl (fun _ => (0 : Int32)))), (q15, .inl (cA15, 6, .inl (fun _ => (0 : Int32)))), (q16, .inl (cA16, 2000, .inl (fun _ => (0 : Int32)))), (q17, .inl (cA17, 6, .inl (fun _ => (0 : Int32)))), (q18, .inl (cA18, 36, .inr (.inl (fun _ => (0 : Int64)))))] H36 := hP
  have hD : va_D A [(h0, .inr (9, [.int 0, .ref q1, .int 0, .int (-1), .ref q2, .ref q3, .ref q4, .int 0, .ref q5, .int 0, .int 0, .int 0, .ref q6, .ref q7, .int 0, .int 0, .int 0, .int 0, .ref q8, .ref q9, .ref q10, .ref q11, .ref q12, .ref q13, .ref q14, .ref q15, .int 0, .ref q16, .int 0, .ref q17, .null, .int 0, .null, .int 0, .null, .null])), (q1, .inl (cA1, 300, .inl (fun _ => (0 : Int32)))), (q2, .inl (cA2, 301, .inl (fun _ => (0 : Int32)))), (q3, .inl (cA3, 301, .inl (fun _ => (0 : Int32)))), (q4, .inl (cA4, 301, .inl (fun _ => (0 : Int32)))), (q5, .inl (cA5, 6, .inl (fun _ => (0 : Int32)))), (q6, .inl (cA6, 28, .inl (fun _ => (0 : Int32)))), (q7, .inl (cA7, 4, .inl (fun _ => (0 : Int32)))), (q8, .inl (cA8, 6, .inl (fun _ => (0 : Int32)))), (q9, .inl (cA9, 28, .inl (fun _ => (0 : Int32)))), (q10, .inl (cA10, 3, .inl (fun _ => (0 : Int32)))), (q11, .inl (cA11, 3, .inl (fun _ => (0 : Int32)))), (q12, .inl (cA12, 3, .inl (fun _ => (0 : Int32)))), (q13, .inl (cA13, 36000, .inl (fun _ => (0 : Int32)))), (q14, .inl (cA14, 6, .inl (fun _ => (0 : Int32)))), (q15, .inl (cA15, 6, .inl (fun _ => (0 : Int32)))), (q16, .inl (cA16, 2000, .inl (fun _ => (0 : Int32)))), (q17, .inl (cA17, 6, .inl (fun _ => (0 : Int32)))), (q18, .inl (cA18, 36, .inr (.inl (fun _ => (0 : Int64)))))] := hD
  refine W.widen (k := 18) (n := 39338) (Nat.le_of_ble_eq_true rfl) (Nat.le_of_ble_eq_true rfl) ?_
  refine va_putF (D := (dC, dI)) (ci := 9) (v := .ref q18) (ty := (.array .long)) (C := R_MO) (T := T_MO) (N := 36) hx hb hts in_MO t_MO t_MO_ok n_MO hown hK hP hD hS 0 rfl rfl 30 (by decide) (hts _ k_916) (fun _ h9 => h9) rfl hin rfl (by decide +kernel) rfl rfl (Nat.le_of_ble_eq_true rfl) d_MO_init_151 (fun H37 locs hP hD hS => ?_)
  have hP : va_P (dC, dI) cls [(h0, .inr (9, [.int 0, .ref q1, .int 0, .int (-1), .ref q2, .ref q3, .ref q4, .int 0, .ref q5, .int 0, .int 0, .int 0, .ref q6, .ref q7, .int 0, .int 0, .int 0, .int 0, .ref q8, .ref q9, .ref q10, .ref q11, .ref q12, .ref q13, .ref q14, .ref q15, .int 0, .ref q16, .int 0, .ref q17, .ref q18, .int 0, .null, .int 0, .null, .null])), (q1, .inl (cA1, 300, .inl (fun _ => (0 : Int32)))), (q2, .inl (cA2, 301, .inl (fun _ => (0 : Int32)))), (q3, .inl (cA3, 301, .inl (fun _ => (0 : Int32)))), (q4, .inl (cA4, 301, .inl (fun _ => (0 : Int32)))), (q5, .inl (cA5, 6, .inl (fun _ => (0 : Int32)))), (q6, .inl (cA6, 28, .inl (fun _ => (0 : Int32)))), (q7, .inl (cA7, 4, .inl (fun _ => (0 : Int32)))), (q8, .inl (cA8, 6, .inl (fun _ => (0 : Int32)))), (q9, .inl (cA9, 28, .inl (fun _ => (0 : Int32)))), (q10, .inl (cA10, 3, .inl (fun _ => (0 : Int32)))), (q11, .inl (cA11, 3, .inl (fun _ => (0 : Int32)))), (q12, .inl (cA12, 3, .inl (fun _ => (0 : Int32)))), (q13, .inl (cA13, 36000, .inl (fun _ => (0 : Int32)))), (q14, .inl (cA14, 6, .inl (fun _ => (0 : Int32)))), (q15, .inl (cA15, 6, .inl (fun _ => (0 : Int32)))), (q16, .inl (cA16, 2000, .inl (fun _ => (0 : Int32)))), (q17, .inl (cA17, 6, .inl (fun _ => (0 : Int32)))), (q18, .inl (cA18, 36, .inr (.inl (fun _ => (0 : Int64)))))] H37 := hP
  have hD : va_D A [(h0, .inr (9, [.int 0, .ref q1, .int 0, .int (-1), .ref q2, .ref q3, .ref q4, .int 0, .ref q5, .int 0, .int 0, .int 0, .ref q6, .ref q7, .int 0, .int 0, .int 0, .int 0, .ref q8, .ref q9, .ref q10, .ref q11, .ref q12, .ref q13, .ref q14, .ref q15, .int 0, .ref q16, .int 0, .ref q17, .ref q18, .int 0, .null, .int 0, .null, .null])), (q1, .inl (cA1, 300, .inl (fun _ => (0 : Int32)))), (q2, .inl (cA2, 301, .inl (fun _ => (0 : Int32)))), (q3, .inl (cA3, 301, .inl (fun _ => (0 : Int32)))), (q4, .inl (cA4, 301, .inl (fun _ => (0 : Int32)))), (q5, .inl (cA5, 6, .inl (fun _ => (0 : Int32)))), (q6, .inl (cA6, 28, .inl (fun _ => (0 : Int32)))), (q7, .inl (cA7, 4, .inl (fun _ => (0 : Int32)))), (q8, .inl (cA8, 6, .inl (fun _ => (0 : Int32)))), (q9, .inl (cA9, 28, .inl (fun _ => (0 : Int32)))), (q10, .inl (cA10, 3, .inl (fun _ => (0 : Int32)))), (q11, .inl (cA11, 3, .inl (fun _ => (0 : Int32)))), (q12, .inl (cA12, 3, .inl (fun _ => (0 : Int32)))), (q13, .inl (cA13, 36000, .inl (fun _ => (0 : Int32)))), (q14, .inl (cA14, 6, .inl (fun _ => (0 : Int32)))), (q15, .inl (cA15, 6, .inl (fun _ => (0 : Int32)))), (q16, .inl (cA16, 2000, .inl (fun _ => (0 : Int32)))), (q17, .inl (cA17, 6, .inl (fun _ => (0 : Int32)))), (q18, .inl (cA18, 36, .inr (.inl (fun _ => (0 : Int64)))))] := hD
  refine lv_aload_n hx hb d_MO_init_154 rfl (lv_at hl 0 rfl) ?_
  refine lv_bipush (v := 6) hx hb d_MO_init_155 (by decide) ?_
  refine va_newa (atype := .long) (ty := .long) (N' := 6) (a0 := (6, .inr (.inl (fun _ => (0 : Int64))))) hx hb (hts _ k_196) rfl hK hP hD hS hA (fun _ => rfl) (by decide) (by decide) (by decide) (Nat.le_of_ble_eq_true rfl) (Nat.le_of_ble_eq_true rfl) d_MO_init_157 (fun q19 cA19 H38 hK hP hD hS => ?_)
  have hK : va_K (dC, dI) cls [(cA1, .int), (cA2, .int), (cA3, .int), (cA4, .int), (cA5, .int), (cA6, .int), (cA7, .int), (cA8, .int), (cA9, .int), (cA10, .boolean), (cA11, .int), (cA12, .int), (cA13, .byte), (cA14, .int), (cA15, .int), (cA16, .int), (cA17, .int), (cA18, .long), (cA19, .long)] s := hK
  have hP : va_P (dC, dI) cls [(h0, .inr (9, [.int 0, .ref q1, .int 0, .int (-1), .ref q2, .ref q3, .ref q4, .int 0, .ref q5, .int 0, .int 0, .int 0, .ref q6, .ref q7, .int 0, .int 0, .int 0, .int 0, .ref q8, .ref q9, .ref q10, .ref q11, .ref q12, .ref q13, .ref q14, .ref q15, .int 0, .ref q16, .int 0, .ref q17, .ref q18, .int 0, .null, .int 0, .null, .null])), (q1, .inl (cA1, 300, .inl (fun _ => (0 : Int32)))), (q2, .inl (cA2, 301, .inl (fun _ => (0 : Int32)))), (q3, .inl (cA3, 301, .inl (fun _ => (0 : Int32)))), (q4, .inl (cA4, 301, .inl (fun _ => (0 : Int32)))), (q5, .inl (cA5, 6, .inl (fun _ => (0 : Int32)))), (q6, .inl (cA6, 28, .inl (fun _ => (0 : Int32)))), (q7, .inl (cA7, 4, .inl (fun _ => (0 : Int32)))), (q8, .inl (cA8, 6, .inl (fun _ => (0 : Int32)))), (q9, .inl (cA9, 28, .inl (fun _ => (0 : Int32)))), (q10, .inl (cA10, 3, .inl (fun _ => (0 : Int32)))), (q11, .inl (cA11, 3, .inl (fun _ => (0 : Int32)))), (q12, .inl (cA12, 3, .inl (fun _ => (0 : Int32)))), (q13, .inl (cA13, 36000, .inl (fun _ => (0 : Int32)))), (q14, .inl (cA14, 6, .inl (fun _ => (0 : Int32)))), (q15, .inl (cA15, 6, .inl (fun _ => (0 : Int32)))), (q16, .inl (cA16, 2000, .inl (fun _ => (0 : Int32)))), (q17, .inl (cA17, 6, .inl (fun _ => (0 : Int32)))), (q18, .inl (cA18, 36, .inr (.inl (fun _ => (0 : Int64))))), (q19, .inl (cA19, 6, .inr (.inl (fun _ => (0 : Int64)))))] H38 := hP
  have hD : va_D A [(h0, .inr (9, [.int 0, .ref q1, .int 0, .int (-1), .ref q2, .ref q3, .ref q4, .int 0, .ref q5, .int 0, .int 0, .int 0, .ref q6, .ref q7, .int 0, .int 0, .int 0, .int 0, .ref q8, .ref q9, .ref q10, .ref q11, .ref q12, .ref q13, .ref q14, .ref q15, .int 0, .ref q16, .int 0, .ref q17, .ref q18, .int 0, .null, .int 0, .null, .null])), (q1, .inl (cA1, 300, .inl (fun _ => (0 : Int32)))), (q2, .inl (cA2, 301, .inl (fun _ => (0 : Int32)))), (q3, .inl (cA3, 301, .inl (fun _ => (0 : Int32)))), (q4, .inl (cA4, 301, .inl (fun _ => (0 : Int32)))), (q5, .inl (cA5, 6, .inl (fun _ => (0 : Int32)))), (q6, .inl (cA6, 28, .inl (fun _ => (0 : Int32)))), (q7, .inl (cA7, 4, .inl (fun _ => (0 : Int32)))), (q8, .inl (cA8, 6, .inl (fun _ => (0 : Int32)))), (q9, .inl (cA9, 28, .inl (fun _ => (0 : Int32)))), (q10, .inl (cA10, 3, .inl (fun _ => (0 : Int32)))), (q11, .inl (cA11, 3, .inl (fun _ => (0 : Int32)))), (q12, .inl (cA12, 3, .inl (fun _ => (0 : Int32)))), (q13, .inl (cA13, 36000, .inl (fun _ => (0 : Int32)))), (q14, .inl (cA14, 6, .inl (fun _ => (0 : Int32)))), (q15, .inl (cA15, 6, .inl (fun _ => (0 : Int32)))), (q16, .inl (cA16, 2000, .inl (fun _ => (0 : Int32)))), (q17, .inl (cA17, 6, .inl (fun _ => (0 : Int32)))), (q18, .inl (cA18, 36, .inr (.inl (fun _ => (0 : Int64))))), (q19, .inl (cA19, 6, .inr (.inl (fun _ => (0 : Int64)))))] := hD
  refine W.widen (k := 19) (n := 39344) (Nat.le_of_ble_eq_true rfl) (Nat.le_of_ble_eq_true rfl) ?_
  refine va_putF (D := (dC, dI)) (ci := 9) (v := .ref q19) (ty := (.array .long)) (C := R_MO) (T := T_MO) (N := 36) hx hb hts in_MO t_MO t_MO_ok n_MO hown hK hP hD hS 0 rfl rfl 32 (by decide) (hts _ k_918) (fun _ h9 => h9) rfl hin rfl (by decide +kernel) rfl rfl (Nat.le_of_ble_eq_true rfl) d_MO_init_159 (fun H39 locs hP hD hS => ?_)
  have hP : va_P (dC, dI) cls [(h0, .inr (9, [.int 0, .ref q1, .int 0, .int (-1), .ref q2, .ref q3, .ref q4, .int 0, .ref q5, .int 0, .int 0, .int 0, .ref q6, .ref q7, .int 0, .int 0, .int 0, .int 0, .ref q8, .ref q9, .ref q10, .ref q11, .ref q12, .ref q13, .ref q14, .ref q15, .int 0, .ref q16, .int 0, .ref q17, .ref q18, .int 0, .ref q19, .int 0, .null, .null])), (q1, .inl (cA1, 300, .inl (fun _ => (0 : Int32)))), (q2, .inl (cA2, 301, .inl (fun _ => (0 : Int32)))), (q3, .inl (cA3, 301, .inl (fun _ => (0 : Int32)))), (q4, .inl (cA4, 301, .inl (fun _ => (0 : Int32)))), (q5, .inl (cA5, 6, .inl (fun _ => (0 : Int32)))), (q6, .inl (cA6, 28, .inl (fun _ => (0 : Int32)))), (q7, .inl (cA7, 4, .inl (fun _ => (0 : Int32)))), (q8, .inl (cA8, 6, .inl (fun _ => (0 : Int32)))), (q9, .inl (cA9, 28, .inl (fun _ => (0 : Int32)))), (q10, .inl (cA10, 3, .inl (fun _ => (0 : Int32)))), (q11, .inl (cA11, 3, .inl (fun _ => (0 : Int32)))), (q12, .inl (cA12, 3, .inl (fun _ => (0 : Int32)))), (q13, .inl (cA13, 36000, .inl (fun _ => (0 : Int32)))), (q14, .inl (cA14, 6, .inl (fun _ => (0 : Int32)))), (q15, .inl (cA15, 6, .inl (fun _ => (0 : Int32)))), (q16, .inl (cA16, 2000, .inl (fun _ => (0 : Int32)))), (q17, .inl (cA17, 6, .inl (fun _ => (0 : Int32)))), (q18, .inl (cA18, 36, .inr (.inl (fun _ => (0 : Int64))))), (q19, .inl (cA19, 6, .inr (.inl (fun _ => (0 : Int64)))))] H39 := hP
  have hD : va_D A [(h0, .inr (9, [.int 0, .ref q1, .int 0, .int (-1), .ref q2, .ref q3, .ref q4, .int 0, .ref q5, .int 0, .int 0, .int 0, .ref q6, .ref q7, .int 0, .int 0, .int 0, .int 0, .ref q8, .ref q9, .ref q10, .ref q11, .ref q12, .ref q13, .ref q14, .ref q15, .int 0, .ref q16, .int 0, .ref q17, .ref q18, .int 0, .ref q19, .int 0, .null, .null])), (q1, .inl (cA1, 300, .inl (fun _ => (0 : Int32)))), (q2, .inl (cA2, 301, .inl (fun _ => (0 : Int32)))), (q3, .inl (cA3, 301, .inl (fun _ => (0 : Int32)))), (q4, .inl (cA4, 301, .inl (fun _ => (0 : Int32)))), (q5, .inl (cA5, 6, .inl (fun _ => (0 : Int32)))), (q6, .inl (cA6, 28, .inl (fun _ => (0 : Int32)))), (q7, .inl (cA7, 4, .inl (fun _ => (0 : Int32)))), (q8, .inl (cA8, 6, .inl (fun _ => (0 : Int32)))), (q9, .inl (cA9, 28, .inl (fun _ => (0 : Int32)))), (q10, .inl (cA10, 3, .inl (fun _ => (0 : Int32)))), (q11, .inl (cA11, 3, .inl (fun _ => (0 : Int32)))), (q12, .inl (cA12, 3, .inl (fun _ => (0 : Int32)))), (q13, .inl (cA13, 36000, .inl (fun _ => (0 : Int32)))), (q14, .inl (cA14, 6, .inl (fun _ => (0 : Int32)))), (q15, .inl (cA15, 6, .inl (fun _ => (0 : Int32)))), (q16, .inl (cA16, 2000, .inl (fun _ => (0 : Int32)))), (q17, .inl (cA17, 6, .inl (fun _ => (0 : Int32)))), (q18, .inl (cA18, 36, .inr (.inl (fun _ => (0 : Int64))))), (q19, .inl (cA19, 6, .inr (.inl (fun _ => (0 : Int64)))))] := hD
  refine lv_aload_n hx hb d_MO_init_162 rfl (lv_at hl 0 rfl) ?_
  refine lv_bipush (v := 6) hx hb d_MO_init_163 (by decide) ?_
  refine va_newa (atype := .long) (ty := .long) (N' := 6) (a0 := (6, .inr (.inl (fun _ => (0 : Int64))))) hx hb (hts _ k_196) rfl hK hP hD hS hA (fun _ => rfl) (by decide) (by decide) (by decide) (Nat.le_of_ble_eq_true rfl) (Nat.le_of_ble_eq_true rfl) d_MO_init_165 (fun q20 cA20 H40 hK hP hD hS => ?_)
  have hK : va_K (dC, dI) cls [(cA1, .int), (cA2, .int), (cA3, .int), (cA4, .int), (cA5, .int), (cA6, .int), (cA7, .int), (cA8, .int), (cA9, .int), (cA10, .boolean), (cA11, .int), (cA12, .int), (cA13, .byte), (cA14, .int), (cA15, .int), (cA16, .int), (cA17, .int), (cA18, .long), (cA19, .long), (cA20, .long)] s := hK
  have hP : va_P (dC, dI) cls [(h0, .inr (9, [.int 0, .ref q1, .int 0, .int (-1), .ref q2, .ref q3, .ref q4, .int 0, .ref q5, .int 0, .int 0, .int 0, .ref q6, .ref q7, .int 0, .int 0, .int 0, .int 0, .ref q8, .ref q9, .ref q10, .ref q11, .ref q12, .ref q13, .ref q14, .ref q15, .int 0, .ref q16, .int 0, .ref q17, .ref q18, .int 0, .ref q19, .int 0, .null, .null])), (q1, .inl (cA1, 300, .inl (fun _ => (0 : Int32)))), (q2, .inl (cA2, 301, .inl (fun _ => (0 : Int32)))), (q3, .inl (cA3, 301, .inl (fun _ => (0 : Int32)))), (q4, .inl (cA4, 301, .inl (fun _ => (0 : Int32)))), (q5, .inl (cA5, 6, .inl (fun _ => (0 : Int32)))), (q6, .inl (cA6, 28, .inl (fun _ => (0 : Int32)))), (q7, .inl (cA7, 4, .inl (fun _ => (0 : Int32)))), (q8, .inl (cA8, 6, .inl (fun _ => (0 : Int32)))), (q9, .inl (cA9, 28, .inl (fun _ => (0 : Int32)))), (q10, .inl (cA10, 3, .inl (fun _ => (0 : Int32)))), (q11, .inl (cA11, 3, .inl (fun _ => (0 : Int32)))), (q12, .inl (cA12, 3, .inl (fun _ => (0 : Int32)))), (q13, .inl (cA13, 36000, .inl (fun _ => (0 : Int32)))), (q14, .inl (cA14, 6, .inl (fun _ => (0 : Int32)))), (q15, .inl (cA15, 6, .inl (fun _ => (0 : Int32)))), (q16, .inl (cA16, 2000, .inl (fun _ => (0 : Int32)))), (q17, .inl (cA17, 6, .inl (fun _ => (0 : Int32)))), (q18, .inl (cA18, 36, .inr (.inl (fun _ => (0 : Int64))))), (q19, .inl (cA19, 6, .inr (.inl (fun _ => (0 : Int64))))), (q20, .inl (cA20, 6, .inr (.inl (fun _ => (0 : Int64)))))] H40 := hP
  have hD : va_D A [(h0, .inr (9, [.int 0, .ref q1, .int 0, .int (-1), .ref q2, .ref q3, .ref q4, .int 0, .ref q5, .int 0, .int 0, .int 0, .ref q6, .ref q7, .int 0, .int 0, .int 0, .int 0, .ref q8, .ref q9, .ref q10, .ref q11, .ref q12, .ref q13, .ref q14, .ref q15, .int 0, .ref q16, .int 0, .ref q17, .ref q18, .int 0, .ref q19, .int 0, .null, .null])), (q1, .inl (cA1, 300, .inl (fun _ => (0 : Int32)))), (q2, .inl (cA2, 301, .inl (fun _ => (0 : Int32)))), (q3, .inl (cA3, 301, .inl (fun _ => (0 : Int32)))), (q4, .inl (cA4, 301, .inl (fun _ => (0 : Int32)))), (q5, .inl (cA5, 6, .inl (fun _ => (0 : Int32)))), (q6, .inl (cA6, 28, .inl (fun _ => (0 : Int32)))), (q7, .inl (cA7, 4, .inl (fun _ => (0 : Int32)))), (q8, .inl (cA8, 6, .inl (fun _ => (0 : Int32)))), (q9, .inl (cA9, 28, .inl (fun _ => (0 : Int32)))), (q10, .inl (cA10, 3, .inl (fun _ => (0 : Int32)))), (q11, .inl (cA11, 3, .inl (fun _ => (0 : Int32)))), (q12, .inl (cA12, 3, .inl (fun _ => (0 : Int32)))), (q13, .inl (cA13, 36000, .inl (fun _ => (0 : Int32)))), (q14, .inl (cA14, 6, .inl (fun _ => (0 : Int32)))), (q15, .inl (cA15, 6, .inl (fun _ => (0 : Int32)))), (q16, .inl (cA16, 2000, .inl (fun _ => (0 : Int32)))), (q17, .inl (cA17, 6, .inl (fun _ => (0 : Int32)))), (q18, .inl (cA18, 36, .inr (.inl (fun _ => (0 : Int64))))), (q19, .inl (cA19, 6, .inr (.inl (fun _ => (0 : Int64))))), (q20, .inl (cA20, 6, .inr (.inl (fun _ => (0 : Int64)))))] := hD
  refine W.widen (k := 20) (n := 39350) (Nat.le_of_ble_eq_true rfl) (Nat.le_of_ble_eq_true rfl) ?_
  refine va_putF (D := (dC, dI)) (ci := 9) (v := .ref q20) (ty := (.array .long)) (C := R_MO) (T := T_MO) (N := 36) hx hb hts in_MO t_MO t_MO_ok n_MO hown hK hP hD hS 0 rfl rfl 34 (by decide) (hts _ k_920) (fun _ h9 => h9) rfl hin rfl (by decide +kernel) rfl rfl (Nat.le_of_ble_eq_true rfl) d_MO_init_167 (fun H41 locs hP hD hS => ?_)
  have hP : va_P (dC, dI) cls [(h0, .inr (9, [.int 0, .ref q1, .int 0, .int (-1), .ref q2, .ref q3, .ref q4, .int 0, .ref q5, .int 0, .int 0, .int 0, .ref q6, .ref q7, .int 0, .int 0, .int 0, .int 0, .ref q8, .ref q9, .ref q10, .ref q11, .ref q12, .ref q13, .ref q14, .ref q15, .int 0, .ref q16, .int 0, .ref q17, .ref q18, .int 0, .ref q19, .int 0, .ref q20, .null])), (q1, .inl (cA1, 300, .inl (fun _ => (0 : Int32)))), (q2, .inl (cA2, 301, .inl (fun _ => (0 : Int32)))), (q3, .inl (cA3, 301, .inl (fun _ => (0 : Int32)))), (q4, .inl (cA4, 301, .inl (fun _ => (0 : Int32)))), (q5, .inl (cA5, 6, .inl (fun _ => (0 : Int32)))), (q6, .inl (cA6, 28, .inl (fun _ => (0 : Int32)))), (q7, .inl (cA7, 4, .inl (fun _ => (0 : Int32)))), (q8, .inl (cA8, 6, .inl (fun _ => (0 : Int32)))), (q9, .inl (cA9, 28, .inl (fun _ => (0 : Int32)))), (q10, .inl (cA10, 3, .inl (fun _ => (0 : Int32)))), (q11, .inl (cA11, 3, .inl (fun _ => (0 : Int32)))), (q12, .inl (cA12, 3, .inl (fun _ => (0 : Int32)))), (q13, .inl (cA13, 36000, .inl (fun _ => (0 : Int32)))), (q14, .inl (cA14, 6, .inl (fun _ => (0 : Int32)))), (q15, .inl (cA15, 6, .inl (fun _ => (0 : Int32)))), (q16, .inl (cA16, 2000, .inl (fun _ => (0 : Int32)))), (q17, .inl (cA17, 6, .inl (fun _ => (0 : Int32)))), (q18, .inl (cA18, 36, .inr (.inl (fun _ => (0 : Int64))))), (q19, .inl (cA19, 6, .inr (.inl (fun _ => (0 : Int64))))), (q20, .inl (cA20, 6, .inr (.inl (fun _ => (0 : Int64)))))] H41 := hP
  have hD : va_D A [(h0, .inr (9, [.int 0, .ref q1, .int 0, .int (-1), .ref q2, .ref q3, .ref q4, .int 0, .ref q5, .int 0, .int 0, .int 0, .ref q6, .ref q7, .int 0, .int 0, .int 0, .int 0, .ref q8, .ref q9, .ref q10, .ref q11, .ref q12, .ref q13, .ref q14, .ref q15, .int 0, .ref q16, .int 0, .ref q17, .ref q18, .int 0, .ref q19, .int 0, .ref q20, .null])), (q1, .inl (cA1, 300, .inl (fun _ => (0 : Int32)))), (q2, .inl (cA2, 301, .inl (fun _ => (0 : Int32)))), (q3, .inl (cA3, 301, .inl (fun _ => (0 : Int32)))), (q4, .inl (cA4, 301, .inl (fun _ => (0 : Int32)))), (q5, .inl (cA5, 6, .inl (fun _ => (0 : Int32)))), (q6, .inl (cA6, 28, .inl (fun _ => (0 : Int32)))), (q7, .inl (cA7, 4, .inl (fun _ => (0 : Int32)))), (q8, .inl (cA8, 6, .inl (fun _ => (0 : Int32)))), (q9, .inl (cA9, 28, .inl (fun _ => (0 : Int32)))), (q10, .inl (cA10, 3, .inl (fun _ => (0 : Int32)))), (q11, .inl (cA11, 3, .inl (fun _ => (0 : Int32)))), (q12, .inl (cA12, 3, .inl (fun _ => (0 : Int32)))), (q13, .inl (cA13, 36000, .inl (fun _ => (0 : Int32)))), (q14, .inl (cA14, 6, .inl (fun _ => (0 : Int32)))), (q15, .inl (cA15, 6, .inl (fun _ => (0 : Int32)))), (q16, .inl (cA16, 2000, .inl (fun _ => (0 : Int32)))), (q17, .inl (cA17, 6, .inl (fun _ => (0 : Int32)))), (q18, .inl (cA18, 36, .inr (.inl (fun _ => (0 : Int64))))), (q19, .inl (cA19, 6, .inr (.inl (fun _ => (0 : Int64))))), (q20, .inl (cA20, 6, .inr (.inl (fun _ => (0 : Int64)))))] := hD
  refine lv_aload_n hx hb d_MO_init_170 rfl (lv_at hl 0 rfl) ?_
  refine lv_bipush (v := 6) hx hb d_MO_init_171 (by decide) ?_
  refine va_newa (atype := .int) (ty := .int) (N' := 6) (a0 := (6, .inl (fun _ => (0 : Int32)))) hx hb (hts _ k_79) rfl hK hP hD hS hA (fun _ => rfl) (by decide) (by decide) (by decide) (Nat.le_of_ble_eq_true rfl) (Nat.le_of_ble_eq_true rfl) d_MO_init_173 (fun q21 cA21 H42 hK hP hD hS => ?_)
  have hK : va_K (dC, dI) cls [(cA1, .int), (cA2, .int), (cA3, .int), (cA4, .int), (cA5, .int), (cA6, .int), (cA7, .int), (cA8, .int), (cA9, .int), (cA10, .boolean), (cA11, .int), (cA12, .int), (cA13, .byte), (cA14, .int), (cA15, .int), (cA16, .int), (cA17, .int), (cA18, .long), (cA19, .long), (cA20, .long), (cA21, .int)] s := hK
  have hP : va_P (dC, dI) cls [(h0, .inr (9, [.int 0, .ref q1, .int 0, .int (-1), .ref q2, .ref q3, .ref q4, .int 0, .ref q5, .int 0, .int 0, .int 0, .ref q6, .ref q7, .int 0, .int 0, .int 0, .int 0, .ref q8, .ref q9, .ref q10, .ref q11, .ref q12, .ref q13, .ref q14, .ref q15, .int 0, .ref q16, .int 0, .ref q17, .ref q18, .int 0, .ref q19, .int 0, .ref q20, .null])), (q1, .inl (cA1, 300, .inl (fun _ => (0 : Int32)))), (q2, .inl (cA2, 301, .inl (fun _ => (0 : Int32)))), (q3, .inl (cA3, 301, .inl (fun _ => (0 : Int32)))), (q4, .inl (cA4, 301, .inl (fun _ => (0 : Int32)))), (q5, .inl (cA5, 6, .inl (fun _ => (0 : Int32)))), (q6, .inl (cA6, 28, .inl (fun _ => (0 : Int32)))), (q7, .inl (cA7, 4, .inl (fun _ => (0 : Int32)))), (q8, .inl (cA8, 6, .inl (fun _ => (0 : Int32)))), (q9, .inl (cA9, 28, .inl (fun _ => (0 : Int32)))), (q10, .inl (cA10, 3, .inl (fun _ => (0 : Int32)))), (q11, .inl (cA11, 3, .inl (fun _ => (0 : Int32)))), (q12, .inl (cA12, 3, .inl (fun _ => (0 : Int32)))), (q13, .inl (cA13, 36000, .inl (fun _ => (0 : Int32)))), (q14, .inl (cA14, 6, .inl (fun _ => (0 : Int32)))), (q15, .inl (cA15, 6, .inl (fun _ => (0 : Int32)))), (q16, .inl (cA16, 2000, .inl (fun _ => (0 : Int32)))), (q17, .inl (cA17, 6, .inl (fun _ => (0 : Int32)))), (q18, .inl (cA18, 36, .inr (.inl (fun _ => (0 : Int64))))), (q19, .inl (cA19, 6, .inr (.inl (fun _ => (0 : Int64))))), (q20, .inl (cA20, 6, .inr (.inl (fun _ => (0 : Int64))))), (q21, .inl (cA21, 6, .inl (fun _ => (0 : Int32))))] H42 := hP
  have hD : va_D A [(h0, .inr (9, [.int 0, .ref q1, .int 0, .int (-1), .ref q2, .ref q3, .ref q4, .int 0, .ref q5, .int 0, .int 0, .int 0, .ref q6, .ref q7, .int 0, .int 0, .int 0, .int 0, .ref q8, .ref q9, .ref q10, .ref q11, .ref q12, .ref q13, .ref q14, .ref q15, .int 0, .ref q16, .int 0, .ref q17, .ref q18, .int 0, .ref q19, .int 0, .ref q20, .null])), (q1, .inl (cA1, 300, .inl (fun _ => (0 : Int32)))), (q2, .inl (cA2, 301, .inl (fun _ => (0 : Int32)))), (q3, .inl (cA3, 301, .inl (fun _ => (0 : Int32)))), (q4, .inl (cA4, 301, .inl (fun _ => (0 : Int32)))), (q5, .inl (cA5, 6, .inl (fun _ => (0 : Int32)))), (q6, .inl (cA6, 28, .inl (fun _ => (0 : Int32)))), (q7, .inl (cA7, 4, .inl (fun _ => (0 : Int32)))), (q8, .inl (cA8, 6, .inl (fun _ => (0 : Int32)))), (q9, .inl (cA9, 28, .inl (fun _ => (0 : Int32)))), (q10, .inl (cA10, 3, .inl (fun _ => (0 : Int32)))), (q11, .inl (cA11, 3, .inl (fun _ => (0 : Int32)))), (q12, .inl (cA12, 3, .inl (fun _ => (0 : Int32)))), (q13, .inl (cA13, 36000, .inl (fun _ => (0 : Int32)))), (q14, .inl (cA14, 6, .inl (fun _ => (0 : Int32)))), (q15, .inl (cA15, 6, .inl (fun _ => (0 : Int32)))), (q16, .inl (cA16, 2000, .inl (fun _ => (0 : Int32)))), (q17, .inl (cA17, 6, .inl (fun _ => (0 : Int32)))), (q18, .inl (cA18, 36, .inr (.inl (fun _ => (0 : Int64))))), (q19, .inl (cA19, 6, .inr (.inl (fun _ => (0 : Int64))))), (q20, .inl (cA20, 6, .inr (.inl (fun _ => (0 : Int64))))), (q21, .inl (cA21, 6, .inl (fun _ => (0 : Int32))))] := hD
  refine W.widen (k := 21) (n := 39356) (Nat.le_of_ble_eq_true rfl) (Nat.le_of_ble_eq_true rfl) ?_
  refine va_putF (D := (dC, dI)) (ci := 9) (v := .ref q21) (ty := (.array .int)) (C := R_MO) (T := T_MO) (N := 36) hx hb hts in_MO t_MO t_MO_ok n_MO hown hK hP hD hS 0 rfl rfl 35 (by decide) (hts _ k_921) (fun _ h9 => h9) rfl hin rfl (by decide +kernel) rfl rfl (Nat.le_of_ble_eq_true rfl) d_MO_init_175 (fun H43 locs hP hD hS => ?_)
  have hP : va_P (dC, dI) cls [(h0, .inr (9, [.int 0, .ref q1, .int 0, .int (-1), .ref q2, .ref q3, .ref q4, .int 0, .ref q5, .int 0, .int 0, .int 0, .ref q6, .ref q7, .int 0, .int 0, .int 0, .int 0, .ref q8, .ref q9, .ref q10, .ref q11, .ref q12, .ref q13, .ref q14, .ref q15, .int 0, .ref q16, .int 0, .ref q17, .ref q18, .int 0, .ref q19, .int 0, .ref q20, .ref q21])), (q1, .inl (cA1, 300, .inl (fun _ => (0 : Int32)))), (q2, .inl (cA2, 301, .inl (fun _ => (0 : Int32)))), (q3, .inl (cA3, 301, .inl (fun _ => (0 : Int32)))), (q4, .inl (cA4, 301, .inl (fun _ => (0 : Int32)))), (q5, .inl (cA5, 6, .inl (fun _ => (0 : Int32)))), (q6, .inl (cA6, 28, .inl (fun _ => (0 : Int32)))), (q7, .inl (cA7, 4, .inl (fun _ => (0 : Int32)))), (q8, .inl (cA8, 6, .inl (fun _ => (0 : Int32)))), (q9, .inl (cA9, 28, .inl (fun _ => (0 : Int32)))), (q10, .inl (cA10, 3, .inl (fun _ => (0 : Int32)))), (q11, .inl (cA11, 3, .inl (fun _ => (0 : Int32)))), (q12, .inl (cA12, 3, .inl (fun _ => (0 : Int32)))), (q13, .inl (cA13, 36000, .inl (fun _ => (0 : Int32)))), (q14, .inl (cA14, 6, .inl (fun _ => (0 : Int32)))), (q15, .inl (cA15, 6, .inl (fun _ => (0 : Int32)))), (q16, .inl (cA16, 2000, .inl (fun _ => (0 : Int32)))), (q17, .inl (cA17, 6, .inl (fun _ => (0 : Int32)))), (q18, .inl (cA18, 36, .inr (.inl (fun _ => (0 : Int64))))), (q19, .inl (cA19, 6, .inr (.inl (fun _ => (0 : Int64))))), (q20, .inl (cA20, 6, .inr (.inl (fun _ => (0 : Int64))))), (q21, .inl (cA21, 6, .inl (fun _ => (0 : Int32))))] H43 := hP
  have hD : va_D A [(h0, .inr (9, [.int 0, .ref q1, .int 0, .int (-1), .ref q2, .ref q3, .ref q4, .int 0, .ref q5, .int 0, .int 0, .int 0, .ref q6, .ref q7, .int 0, .int 0, .int 0, .int 0, .ref q8, .ref q9, .ref q10, .ref q11, .ref q12, .ref q13, .ref q14, .ref q15, .int 0, .ref q16, .int 0, .ref q17, .ref q18, .int 0, .ref q19, .int 0, .ref q20, .ref q21])), (q1, .inl (cA1, 300, .inl (fun _ => (0 : Int32)))), (q2, .inl (cA2, 301, .inl (fun _ => (0 : Int32)))), (q3, .inl (cA3, 301, .inl (fun _ => (0 : Int32)))), (q4, .inl (cA4, 301, .inl (fun _ => (0 : Int32)))), (q5, .inl (cA5, 6, .inl (fun _ => (0 : Int32)))), (q6, .inl (cA6, 28, .inl (fun _ => (0 : Int32)))), (q7, .inl (cA7, 4, .inl (fun _ => (0 : Int32)))), (q8, .inl (cA8, 6, .inl (fun _ => (0 : Int32)))), (q9, .inl (cA9, 28, .inl (fun _ => (0 : Int32)))), (q10, .inl (cA10, 3, .inl (fun _ => (0 : Int32)))), (q11, .inl (cA11, 3, .inl (fun _ => (0 : Int32)))), (q12, .inl (cA12, 3, .inl (fun _ => (0 : Int32)))), (q13, .inl (cA13, 36000, .inl (fun _ => (0 : Int32)))), (q14, .inl (cA14, 6, .inl (fun _ => (0 : Int32)))), (q15, .inl (cA15, 6, .inl (fun _ => (0 : Int32)))), (q16, .inl (cA16, 2000, .inl (fun _ => (0 : Int32)))), (q17, .inl (cA17, 6, .inl (fun _ => (0 : Int32)))), (q18, .inl (cA18, 36, .inr (.inl (fun _ => (0 : Int64))))), (q19, .inl (cA19, 6, .inr (.inl (fun _ => (0 : Int64))))), (q20, .inl (cA20, 6, .inr (.inl (fun _ => (0 : Int64))))), (q21, .inl (cA21, 6, .inl (fun _ => (0 : Int32))))] := hD
  have hP9 := hP.sub (ws' := [(h0, .inr (9, [.int 0, .ref q1, .int 0, .int (-1), .ref q2, .ref q3, .ref q4, .int 0, .ref q5, .int 0, .int 0, .int 0, .ref q6, .ref q7, .int 0, .int 0, .int 0, .int 0, .ref q8, .ref q9, .ref q10, .ref q11, .ref q12, .ref q13, .ref q14, .ref q15, .int 0, .ref q16, .int 0, .ref q17, .ref q18, .int 0, .ref q19, .int 0, .ref q20, .ref q21])), (q1, .inl (cA1, 300, .inl (fun _ => (0 : Int32)))), (q2, .inl (cA2, 301, .inl (fun _ => (0 : Int32)))), (q3, .inl (cA3, 301, .inl (fun _ => (0 : Int32)))), (q4, .inl (cA4, 301, .inl (fun _ => (0 : Int32))))]) [0, 1, 2, 3, 4] rfl
  have hD9 := hD.sub (ws' := [(h0, .inr (9, [.int 0, .ref q1, .int 0, .int (-1), .ref q2, .ref q3, .ref q4, .int 0, .ref q5, .int 0, .int 0, .int 0, .ref q6, .ref q7, .int 0, .int 0, .int 0, .int 0, .ref q8, .ref q9, .ref q10, .ref q11, .ref q12, .ref q13, .ref q14, .ref q15, .int 0, .ref q16, .int 0, .ref q17, .ref q18, .int 0, .ref q19, .int 0, .ref q20, .ref q21])), (q1, .inl (cA1, 300, .inl (fun _ => (0 : Int32)))), (q2, .inl (cA2, 301, .inl (fun _ => (0 : Int32)))), (q3, .inl (cA3, 301, .inl (fun _ => (0 : Int32)))), (q4, .inl (cA4, 301, .inl (fun _ => (0 : Int32))))]) [0, 1, 2, 3, 4] (by decide) rfl
  have hK9 := hK.sub (tys' := [(cA1, .int), (cA2, .int), (cA3, .int), (cA4, .int)]) [0, 1, 2, 3] rfl
  exact W.vret hx hb hr (fun t ht hW => ⟨⟨(), rfl, trivial, q1, q2, q3, q4, q5, q6, q7, q8, q9, q10, q11, q12, q13, q14, q15, q16, q17, q18, q19, q20, q21, cA1, cA2, cA3, cA4, by rw [ht]; exact hP9, va_K.moved hW.alike hK9, hD9⟩, hS.F ht⟩) hS.2.2 d_MO_init_178
end
