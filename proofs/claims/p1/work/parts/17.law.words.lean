theorem k_0 : (Jvm.Cond.initialized "LeastSolutionsLaw") ∈ wd := wd_t (List.mem_of_getElem? (i := 0) (by decide +kernel)) rfl
theorem k_352 : (Jvm.Cond.methodLink "LeastSolutionsLaw" (64 : Nat) ({ cls := "LeastSolutions", name := "read", desc := "()I" } : Jvm.MethodName)) ∈ wd := wd_t (List.mem_of_getElem? (i := 352) (by decide +kernel)) rfl
theorem k_353 : (Jvm.Cond.instanceMethod ({ cls := "LeastSolutions", name := "read", desc := "()I" } : Jvm.MethodName)) ∈ wd := wd_t (List.mem_of_getElem? (i := 353) (by decide +kernel)) rfl
theorem k_354 : (Jvm.Cond.selects "LeastSolutions" ({ cls := "LeastSolutions", name := "read", desc := "()I" } : Jvm.MethodName) ({ cls := "LeastSolutions", name := "read", desc := "()I" } : Jvm.MethodName)) ∈ wd := wd_t (List.mem_of_getElem? (i := 354) (by decide +kernel)) rfl
theorem k_355 : (Jvm.Cond.code ({ cls := "LeastSolutions", name := "read", desc := "()I" } : Jvm.MethodName) prog_1_method_3_code (2 : Nat) (Option.some Jvm.ClassFile.FieldType.int)) ∈ wd := wd_t (List.mem_of_getElem? (i := 355) (by decide +kernel)) rfl
theorem k_526 : (Jvm.Cond.methodLink "LeastSolutionsLaw" (68 : Nat) ({ cls := "LeastSolutions", name := "place", desc := "()I" } : Jvm.MethodName)) ∈ wd := wd_t (List.mem_of_getElem? (i := 526) (by decide +kernel)) rfl
theorem k_527 : (Jvm.Cond.instanceMethod ({ cls := "LeastSolutions", name := "place", desc := "()I" } : Jvm.MethodName)) ∈ wd := wd_t (List.mem_of_getElem? (i := 527) (by decide +kernel)) rfl
theorem k_528 : (Jvm.Cond.selects "LeastSolutions" ({ cls := "LeastSolutions", name := "place", desc := "()I" } : Jvm.MethodName) ({ cls := "LeastSolutions", name := "place", desc := "()I" } : Jvm.MethodName)) ∈ wd := wd_t (List.mem_of_getElem? (i := 528) (by decide +kernel)) rfl
theorem k_529 : (Jvm.Cond.code ({ cls := "LeastSolutions", name := "place", desc := "()I" } : Jvm.MethodName) prog_1_method_4_code (1 : Nat) (Option.some Jvm.ClassFile.FieldType.int)) ∈ wd := wd_t (List.mem_of_getElem? (i := 529) (by decide +kernel)) rfl
theorem k_530 : (Jvm.Cond.methodLink "LeastSolutionsLaw" (72 : Nat) ({ cls := "LeastSolutions", name := "count", desc := "(I)I" } : Jvm.MethodName)) ∈ wd := wd_t (List.mem_of_getElem? (i := 530) (by decide +kernel)) rfl
theorem k_531 : (Jvm.Cond.instanceMethod ({ cls := "LeastSolutions", name := "count", desc := "(I)I" } : Jvm.MethodName)) ∈ wd := wd_t (List.mem_of_getElem? (i := 531) (by decide +kernel)) rfl
theorem k_532 : (Jvm.Cond.selects "LeastSolutions" ({ cls := "LeastSolutions", name := "count", desc := "(I)I" } : Jvm.MethodName) ({ cls := "LeastSolutions", name := "count", desc := "(I)I" } : Jvm.MethodName)) ∈ wd := wd_t (List.mem_of_getElem? (i := 532) (by decide +kernel)) rfl
theorem k_533 : (Jvm.Cond.code ({ cls := "LeastSolutions", name := "count", desc := "(I)I" } : Jvm.MethodName) prog_1_method_5_code (2 : Nat) (Option.some Jvm.ClassFile.FieldType.int)) ∈ wd := wd_t (List.mem_of_getElem? (i := 533) (by decide +kernel)) rfl
theorem k_535 : (Jvm.Cond.methodLink "LeastSolutionsLaw" (76 : Nat) ({ cls := "LeastSolutions", name := "letter", desc := "(I)I" } : Jvm.MethodName)) ∈ wd := wd_t (List.mem_of_getElem? (i := 535) (by decide +kernel)) rfl
theorem k_536 : (Jvm.Cond.instanceMethod ({ cls := "LeastSolutions", name := "letter", desc := "(I)I" } : Jvm.MethodName)) ∈ wd := wd_t (List.mem_of_getElem? (i := 536) (by decide +kernel)) rfl
theorem k_537 : (Jvm.Cond.selects "LeastSolutions" ({ cls := "LeastSolutions", name := "letter", desc := "(I)I" } : Jvm.MethodName) ({ cls := "LeastSolutions", name := "letter", desc := "(I)I" } : Jvm.MethodName)) ∈ wd := wd_t (List.mem_of_getElem? (i := 537) (by decide +kernel)) rfl
theorem k_538 : (Jvm.Cond.code ({ cls := "LeastSolutions", name := "letter", desc := "(I)I" } : Jvm.MethodName) prog_1_method_6_code (2 : Nat) (Option.some Jvm.ClassFile.FieldType.int)) ∈ wd := wd_t (List.mem_of_getElem? (i := 538) (by decide +kernel)) rfl
theorem k_539 : (Jvm.Cond.methodLink "LeastSolutionsLaw" (113 : Nat) ({ cls := "LeastSolutions", name := "split", desc := "()I" } : Jvm.MethodName)) ∈ wd := wd_t (List.mem_of_getElem? (i := 539) (by decide +kernel)) rfl
theorem k_540 : (Jvm.Cond.instanceMethod ({ cls := "LeastSolutions", name := "split", desc := "()I" } : Jvm.MethodName)) ∈ wd := wd_t (List.mem_of_getElem? (i := 540) (by decide +kernel)) rfl
theorem k_541 : (Jvm.Cond.selects "LeastSolutions" ({ cls := "LeastSolutions", name := "split", desc := "()I" } : Jvm.MethodName) ({ cls := "LeastSolutions", name := "split", desc := "()I" } : Jvm.MethodName)) ∈ wd := wd_t (List.mem_of_getElem? (i := 541) (by decide +kernel)) rfl
theorem k_542 : (Jvm.Cond.code ({ cls := "LeastSolutions", name := "split", desc := "()I" } : Jvm.MethodName) prog_1_method_15_code (3 : Nat) (Option.some Jvm.ClassFile.FieldType.int)) ∈ wd := wd_t (List.mem_of_getElem? (i := 542) (by decide +kernel)) rfl
theorem k_582 : (Jvm.Cond.methodLink "LeastSolutionsLaw" (117 : Nat) ({ cls := "LeastSolutions", name := "times", desc := "(I)I" } : Jvm.MethodName)) ∈ wd := wd_t (List.mem_of_getElem? (i := 582) (by decide +kernel)) rfl
theorem k_583 : (Jvm.Cond.instanceMethod ({ cls := "LeastSolutions", name := "times", desc := "(I)I" } : Jvm.MethodName)) ∈ wd := wd_t (List.mem_of_getElem? (i := 583) (by decide +kernel)) rfl
theorem k_584 : (Jvm.Cond.selects "LeastSolutions" ({ cls := "LeastSolutions", name := "times", desc := "(I)I" } : Jvm.MethodName) ({ cls := "LeastSolutions", name := "times", desc := "(I)I" } : Jvm.MethodName)) ∈ wd := wd_t (List.mem_of_getElem? (i := 584) (by decide +kernel)) rfl
theorem k_585 : (Jvm.Cond.code ({ cls := "LeastSolutions", name := "times", desc := "(I)I" } : Jvm.MethodName) prog_1_method_16_code (2 : Nat) (Option.some Jvm.ClassFile.FieldType.int)) ∈ wd := wd_t (List.mem_of_getElem? (i := 585) (by decide +kernel)) rfl
theorem k_590 : (Jvm.Cond.methodLink "LeastSolutionsLaw" (128 : Nat) ({ cls := "LeastSolutions", name := "bestAt", desc := "(I)I" } : Jvm.MethodName)) ∈ wd := wd_t (List.mem_of_getElem? (i := 590) (by decide +kernel)) rfl
theorem k_591 : (Jvm.Cond.instanceMethod ({ cls := "LeastSolutions", name := "bestAt", desc := "(I)I" } : Jvm.MethodName)) ∈ wd := wd_t (List.mem_of_getElem? (i := 591) (by decide +kernel)) rfl
theorem k_592 : (Jvm.Cond.selects "LeastSolutions" ({ cls := "LeastSolutions", name := "bestAt", desc := "(I)I" } : Jvm.MethodName) ({ cls := "LeastSolutions", name := "bestAt", desc := "(I)I" } : Jvm.MethodName)) ∈ wd := wd_t (List.mem_of_getElem? (i := 592) (by decide +kernel)) rfl
theorem k_593 : (Jvm.Cond.code ({ cls := "LeastSolutions", name := "bestAt", desc := "(I)I" } : Jvm.MethodName) prog_1_method_19_code (2 : Nat) (Option.some Jvm.ClassFile.FieldType.int)) ∈ wd := wd_t (List.mem_of_getElem? (i := 593) (by decide +kernel)) rfl
theorem k_598 : (Jvm.Cond.methodLink "LeastSolutionsLaw" (80 : Nat) ({ cls := "LeastSolutionsLaw", name := "number", desc := "(LLeastSolutions;II[J)I" } : Jvm.MethodName)) ∈ wd := wd_t (List.mem_of_getElem? (i := 598) (by decide +kernel)) rfl
theorem k_599 : (Jvm.Cond.static ({ cls := "LeastSolutionsLaw", name := "number", desc := "(LLeastSolutions;II[J)I" } : Jvm.MethodName)) ∈ wd := wd_t (List.mem_of_getElem? (i := 599) (by decide +kernel)) rfl
theorem k_600 : (Jvm.Cond.codeWith ({ cls := "LeastSolutionsLaw", name := "number", desc := "(LLeastSolutions;II[J)I" } : Jvm.MethodName) method_3_code (5 : Nat) (Option.some Jvm.ClassFile.FieldType.int) [((0 : Nat), (10 : Nat), (13 : Nat), (13 : Nat))]) ∈ wd := wd_t (List.mem_of_getElem? (i := 600) (by decide +kernel)) rfl
theorem k_670 : (Jvm.Cond.methodLink "LeastSolutionsLaw" (89 : Nat) ({ cls := "LeastSolutionsLaw", name := "solvable", desc := "(LLeastSolutions;[J)I" } : Jvm.MethodName)) ∈ wd := wd_t (List.mem_of_getElem? (i := 670) (by decide +kernel)) rfl
theorem k_671 : (Jvm.Cond.static ({ cls := "LeastSolutionsLaw", name := "solvable", desc := "(LLeastSolutions;[J)I" } : Jvm.MethodName)) ∈ wd := wd_t (List.mem_of_getElem? (i := 671) (by decide +kernel)) rfl
theorem k_672 : (Jvm.Cond.codeWith ({ cls := "LeastSolutionsLaw", name := "solvable", desc := "(LLeastSolutions;[J)I" } : Jvm.MethodName) method_4_code (3 : Nat) (Option.some Jvm.ClassFile.FieldType.int) [((0 : Nat), (8 : Nat), (11 : Nat), (19 : Nat))]) ∈ wd := wd_t (List.mem_of_getElem? (i := 672) (by decide +kernel)) rfl
theorem k_705 : (Jvm.Cond.methodLink "LeastSolutionsLaw" (93 : Nat) ({ cls := "LeastSolutionsLaw", name := "kernel", desc := "(LLeastSolutions;[J)I" } : Jvm.MethodName)) ∈ wd := wd_t (List.mem_of_getElem? (i := 705) (by decide +kernel)) rfl
theorem k_706 : (Jvm.Cond.static ({ cls := "LeastSolutionsLaw", name := "kernel", desc := "(LLeastSolutions;[J)I" } : Jvm.MethodName)) ∈ wd := wd_t (List.mem_of_getElem? (i := 706) (by decide +kernel)) rfl
theorem k_707 : (Jvm.Cond.codeWith ({ cls := "LeastSolutionsLaw", name := "kernel", desc := "(LLeastSolutions;[J)I" } : Jvm.MethodName) method_5_code (3 : Nat) (Option.some Jvm.ClassFile.FieldType.int) [((0 : Nat), (8 : Nat), (11 : Nat), (19 : Nat))]) ∈ wd := wd_t (List.mem_of_getElem? (i := 707) (by decide +kernel)) rfl
theorem k_712 : (Jvm.Cond.methodLink "LeastSolutionsLaw" (96 : Nat) ({ cls := "LeastSolutionsLaw", name := "kernelAt", desc := "(LLeastSolutions;II[J)I" } : Jvm.MethodName)) ∈ wd := wd_t (List.mem_of_getElem? (i := 712) (by decide +kernel)) rfl
theorem k_713 : (Jvm.Cond.static ({ cls := "LeastSolutionsLaw", name := "kernelAt", desc := "(LLeastSolutions;II[J)I" } : Jvm.MethodName)) ∈ wd := wd_t (List.mem_of_getElem? (i := 713) (by decide +kernel)) rfl
theorem k_714 : (Jvm.Cond.codeWith ({ cls := "LeastSolutionsLaw", name := "kernelAt", desc := "(LLeastSolutions;II[J)I" } : Jvm.MethodName) method_6_code (5 : Nat) (Option.some Jvm.ClassFile.FieldType.int) [((0 : Nat), (9 : Nat), (12 : Nat), (13 : Nat))]) ∈ wd := wd_t (List.mem_of_getElem? (i := 714) (by decide +kernel)) rfl
theorem k_727 : (Jvm.Cond.methodLink "LeastSolutionsLaw" (99 : Nat) ({ cls := "LeastSolutionsLaw", name := "work", desc := "(LLeastSolutions;II[J)I" } : Jvm.MethodName)) ∈ wd := wd_t (List.mem_of_getElem? (i := 727) (by decide +kernel)) rfl
theorem k_728 : (Jvm.Cond.static ({ cls := "LeastSolutionsLaw", name := "work", desc := "(LLeastSolutions;II[J)I" } : Jvm.MethodName)) ∈ wd := wd_t (List.mem_of_getElem? (i := 728) (by decide +kernel)) rfl
theorem k_729 : (Jvm.Cond.codeWith ({ cls := "LeastSolutionsLaw", name := "work", desc := "(LLeastSolutions;II[J)I" } : Jvm.MethodName) method_7_code (5 : Nat) (Option.some Jvm.ClassFile.FieldType.int) [((0 : Nat), (10 : Nat), (13 : Nat), (31 : Nat)), ((0 : Nat), (10 : Nat), (17 : Nat), (19 : Nat))]) ∈ wd := wd_t (List.mem_of_getElem? (i := 729) (by decide +kernel)) rfl
theorem k_820 : (Jvm.Cond.methodLink "LeastSolutionsLaw" (102 : Nat) ({ cls := "LeastSolutionsLaw", name := "at", desc := "(LLeastSolutions;III[J)I" } : Jvm.MethodName)) ∈ wd := wd_t (List.mem_of_getElem? (i := 820) (by decide +kernel)) rfl
theorem k_821 : (Jvm.Cond.static ({ cls := "LeastSolutionsLaw", name := "at", desc := "(LLeastSolutions;III[J)I" } : Jvm.MethodName)) ∈ wd := wd_t (List.mem_of_getElem? (i := 821) (by decide +kernel)) rfl
theorem k_822 : (Jvm.Cond.codeWith ({ cls := "LeastSolutionsLaw", name := "at", desc := "(LLeastSolutions;III[J)I" } : Jvm.MethodName) method_8_code (6 : Nat) (Option.some Jvm.ClassFile.FieldType.int) [((0 : Nat), (12 : Nat), (15 : Nat), (13 : Nat))]) ∈ wd := wd_t (List.mem_of_getElem? (i := 822) (by decide +kernel)) rfl
theorem k_828 : (Jvm.Cond.methodLink "LeastSolutionsLaw" (106 : Nat) ({ cls := "LeastSolutionsLaw", name := "tell", desc := "(LLeastSolutions;II)I" } : Jvm.MethodName)) ∈ wd := wd_t (List.mem_of_getElem? (i := 828) (by decide +kernel)) rfl
theorem k_829 : (Jvm.Cond.static ({ cls := "LeastSolutionsLaw", name := "tell", desc := "(LLeastSolutions;II)I" } : Jvm.MethodName)) ∈ wd := wd_t (List.mem_of_getElem? (i := 829) (by decide +kernel)) rfl
theorem k_830 : (Jvm.Cond.codeWith ({ cls := "LeastSolutionsLaw", name := "tell", desc := "(LLeastSolutions;II)I" } : Jvm.MethodName) method_9_code (4 : Nat) (Option.some Jvm.ClassFile.FieldType.int) [((0 : Nat), (6 : Nat), (9 : Nat), (13 : Nat)), ((0 : Nat), (6 : Nat), (12 : Nat), (31 : Nat))]) ∈ wd := wd_t (List.mem_of_getElem? (i := 830) (by decide +kernel)) rfl
theorem k_838 : (Jvm.Cond.methodLink "LeastSolutionsLaw" (110 : Nat) ({ cls := "LeastSolutionsLaw", name := "holds", desc := "(LLeastSolutions;[J)I" } : Jvm.MethodName)) ∈ wd := wd_t (List.mem_of_getElem? (i := 838) (by decide +kernel)) rfl
theorem k_839 : (Jvm.Cond.static ({ cls := "LeastSolutionsLaw", name := "holds", desc := "(LLeastSolutions;[J)I" } : Jvm.MethodName)) ∈ wd := wd_t (List.mem_of_getElem? (i := 839) (by decide +kernel)) rfl
theorem k_840 : (Jvm.Cond.codeWith ({ cls := "LeastSolutionsLaw", name := "holds", desc := "(LLeastSolutions;[J)I" } : Jvm.MethodName) method_10_code (3 : Nat) (Option.some Jvm.ClassFile.FieldType.int) [((0 : Nat), (8 : Nat), (11 : Nat), (19 : Nat))]) ∈ wd := wd_t (List.mem_of_getElem? (i := 840) (by decide +kernel)) rfl
theorem k_845 : (Jvm.Cond.methodLink "LeastSolutionsLaw" (121 : Nat) ({ cls := "LeastSolutionsLaw", name := "cost", desc := "(LLeastSolutions;II)I" } : Jvm.MethodName)) ∈ wd := wd_t (List.mem_of_getElem? (i := 845) (by decide +kernel)) rfl
theorem k_846 : (Jvm.Cond.static ({ cls := "LeastSolutionsLaw", name := "cost", desc := "(LLeastSolutions;II)I" } : Jvm.MethodName)) ∈ wd := wd_t (List.mem_of_getElem? (i := 846) (by decide +kernel)) rfl
theorem k_847 : (Jvm.Cond.codeWith ({ cls := "LeastSolutionsLaw", name := "cost", desc := "(LLeastSolutions;II)I" } : Jvm.MethodName) method_11_code (4 : Nat) (Option.some Jvm.ClassFile.FieldType.int) [((0 : Nat), (6 : Nat), (9 : Nat), (13 : Nat)), ((0 : Nat), (6 : Nat), (12 : Nat), (31 : Nat))]) ∈ wd := wd_t (List.mem_of_getElem? (i := 847) (by decide +kernel)) rfl
theorem k_852 : (Jvm.Cond.methodLink "LeastSolutionsLaw" (124 : Nat) ({ cls := "LeastSolutionsLaw", name := "best", desc := "(LLeastSolutions;I[J)I" } : Jvm.MethodName)) ∈ wd := wd_t (List.mem_of_getElem? (i := 852) (by decide +kernel)) rfl
theorem k_853 : (Jvm.Cond.static ({ cls := "LeastSolutionsLaw", name := "best", desc := "(LLeastSolutions;I[J)I" } : Jvm.MethodName)) ∈ wd := wd_t (List.mem_of_getElem? (i := 853) (by decide +kernel)) rfl
theorem k_854 : (Jvm.Cond.codeWith ({ cls := "LeastSolutionsLaw", name := "best", desc := "(LLeastSolutions;I[J)I" } : Jvm.MethodName) method_12_code (4 : Nat) (Option.some Jvm.ClassFile.FieldType.int) [((0 : Nat), (9 : Nat), (12 : Nat), (31 : Nat)), ((0 : Nat), (9 : Nat), (15 : Nat), (19 : Nat)), ((0 : Nat), (9 : Nat), (18 : Nat), (51 : Nat))]) ∈ wd := wd_t (List.mem_of_getElem? (i := 854) (by decide +kernel)) rfl
theorem k_996 : (Jvm.Cond.methodLink "LeastSolutionsLaw" (86 : Nat) ({ cls := "LeastSolutionsModel", name := "thrown", desc := "()I" } : Jvm.MethodName)) ∈ wd := wd_t (List.mem_of_getElem? (i := 996) (by decide +kernel)) rfl
theorem k_997 : (Jvm.Cond.instanceMethod ({ cls := "LeastSolutionsModel", name := "thrown", desc := "()I" } : Jvm.MethodName)) ∈ wd := wd_t (List.mem_of_getElem? (i := 997) (by decide +kernel)) rfl
theorem k_998 : (Jvm.Cond.selects "LeastSolutionsModel" ({ cls := "LeastSolutionsModel", name := "thrown", desc := "()I" } : Jvm.MethodName) ({ cls := "LeastSolutionsModel", name := "thrown", desc := "()I" } : Jvm.MethodName)) ∈ wd := wd_t (List.mem_of_getElem? (i := 998) (by decide +kernel)) rfl
theorem k_999 : (Jvm.Cond.code ({ cls := "LeastSolutionsModel", name := "thrown", desc := "()I" } : Jvm.MethodName) prog_12_method_2_code (1 : Nat) (Option.some Jvm.ClassFile.FieldType.int)) ∈ wd := wd_t (List.mem_of_getElem? (i := 999) (by decide +kernel)) rfl
theorem k_1007 : (Jvm.Cond.methodLink "LeastSolutionsLaw" (67 : Nat) ({ cls := "LeastSolutionsModel", name := "read", desc := "()I" } : Jvm.MethodName)) ∈ wd := wd_t (List.mem_of_getElem? (i := 1007) (by decide +kernel)) rfl
theorem k_1008 : (Jvm.Cond.instanceMethod ({ cls := "LeastSolutionsModel", name := "read", desc := "()I" } : Jvm.MethodName)) ∈ wd := wd_t (List.mem_of_getElem? (i := 1008) (by decide +kernel)) rfl
theorem k_1009 : (Jvm.Cond.selects "LeastSolutionsModel" ({ cls := "LeastSolutionsModel", name := "read", desc := "()I" } : Jvm.MethodName) ({ cls := "LeastSolutionsModel", name := "read", desc := "()I" } : Jvm.MethodName)) ∈ wd := wd_t (List.mem_of_getElem? (i := 1009) (by decide +kernel)) rfl
theorem k_1010 : (Jvm.Cond.code ({ cls := "LeastSolutionsModel", name := "read", desc := "()I" } : Jvm.MethodName) prog_12_method_11_code (3 : Nat) (Option.some Jvm.ClassFile.FieldType.int)) ∈ wd := wd_t (List.mem_of_getElem? (i := 1010) (by decide +kernel)) rfl
theorem k_1043 : (Jvm.Cond.methodLink "LeastSolutionsLaw" (71 : Nat) ({ cls := "LeastSolutionsModel", name := "place", desc := "()I" } : Jvm.MethodName)) ∈ wd := wd_t (List.mem_of_getElem? (i := 1043) (by decide +kernel)) rfl
theorem k_1044 : (Jvm.Cond.instanceMethod ({ cls := "LeastSolutionsModel", name := "place", desc := "()I" } : Jvm.MethodName)) ∈ wd := wd_t (List.mem_of_getElem? (i := 1044) (by decide +kernel)) rfl
theorem k_1045 : (Jvm.Cond.selects "LeastSolutionsModel" ({ cls := "LeastSolutionsModel", name := "place", desc := "()I" } : Jvm.MethodName) ({ cls := "LeastSolutionsModel", name := "place", desc := "()I" } : Jvm.MethodName)) ∈ wd := wd_t (List.mem_of_getElem? (i := 1045) (by decide +kernel)) rfl
theorem k_1046 : (Jvm.Cond.code ({ cls := "LeastSolutionsModel", name := "place", desc := "()I" } : Jvm.MethodName) prog_12_method_13_code (1 : Nat) (Option.some Jvm.ClassFile.FieldType.int)) ∈ wd := wd_t (List.mem_of_getElem? (i := 1046) (by decide +kernel)) rfl
theorem k_1047 : (Jvm.Cond.methodLink "LeastSolutionsLaw" (75 : Nat) ({ cls := "LeastSolutionsModel", name := "count", desc := "(I)I" } : Jvm.MethodName)) ∈ wd := wd_t (List.mem_of_getElem? (i := 1047) (by decide +kernel)) rfl
theorem k_1048 : (Jvm.Cond.instanceMethod ({ cls := "LeastSolutionsModel", name := "count", desc := "(I)I" } : Jvm.MethodName)) ∈ wd := wd_t (List.mem_of_getElem? (i := 1048) (by decide +kernel)) rfl
theorem k_1049 : (Jvm.Cond.selects "LeastSolutionsModel" ({ cls := "LeastSolutionsModel", name := "count", desc := "(I)I" } : Jvm.MethodName) ({ cls := "LeastSolutionsModel", name := "count", desc := "(I)I" } : Jvm.MethodName)) ∈ wd := wd_t (List.mem_of_getElem? (i := 1049) (by decide +kernel)) rfl
theorem k_1050 : (Jvm.Cond.code ({ cls := "LeastSolutionsModel", name := "count", desc := "(I)I" } : Jvm.MethodName) prog_12_method_14_code (2 : Nat) (Option.some Jvm.ClassFile.FieldType.int)) ∈ wd := wd_t (List.mem_of_getElem? (i := 1050) (by decide +kernel)) rfl
theorem k_1051 : (Jvm.Cond.methodLink "LeastSolutionsLaw" (79 : Nat) ({ cls := "LeastSolutionsModel", name := "letter", desc := "(I)I" } : Jvm.MethodName)) ∈ wd := wd_t (List.mem_of_getElem? (i := 1051) (by decide +kernel)) rfl
theorem k_1052 : (Jvm.Cond.instanceMethod ({ cls := "LeastSolutionsModel", name := "letter", desc := "(I)I" } : Jvm.MethodName)) ∈ wd := wd_t (List.mem_of_getElem? (i := 1052) (by decide +kernel)) rfl
theorem k_1053 : (Jvm.Cond.selects "LeastSolutionsModel" ({ cls := "LeastSolutionsModel", name := "letter", desc := "(I)I" } : Jvm.MethodName) ({ cls := "LeastSolutionsModel", name := "letter", desc := "(I)I" } : Jvm.MethodName)) ∈ wd := wd_t (List.mem_of_getElem? (i := 1053) (by decide +kernel)) rfl
theorem k_1054 : (Jvm.Cond.code ({ cls := "LeastSolutionsModel", name := "letter", desc := "(I)I" } : Jvm.MethodName) prog_12_method_15_code (2 : Nat) (Option.some Jvm.ClassFile.FieldType.int)) ∈ wd := wd_t (List.mem_of_getElem? (i := 1054) (by decide +kernel)) rfl
theorem k_1055 : (Jvm.Cond.methodLink "LeastSolutionsLaw" (85 : Nat) ({ cls := "LeastSolutionsModel", name := "number", desc := "(II)I" } : Jvm.MethodName)) ∈ wd := wd_t (List.mem_of_getElem? (i := 1055) (by decide +kernel)) rfl
theorem k_1056 : (Jvm.Cond.instanceMethod ({ cls := "LeastSolutionsModel", name := "number", desc := "(II)I" } : Jvm.MethodName)) ∈ wd := wd_t (List.mem_of_getElem? (i := 1056) (by decide +kernel)) rfl
theorem k_1057 : (Jvm.Cond.selects "LeastSolutionsModel" ({ cls := "LeastSolutionsModel", name := "number", desc := "(II)I" } : Jvm.MethodName) ({ cls := "LeastSolutionsModel", name := "number", desc := "(II)I" } : Jvm.MethodName)) ∈ wd := wd_t (List.mem_of_getElem? (i := 1057) (by decide +kernel)) rfl
theorem k_1058 : (Jvm.Cond.code ({ cls := "LeastSolutionsModel", name := "number", desc := "(II)I" } : Jvm.MethodName) prog_12_method_17_code (3 : Nat) (Option.some Jvm.ClassFile.FieldType.int)) ∈ wd := wd_t (List.mem_of_getElem? (i := 1058) (by decide +kernel)) rfl
theorem k_1059 : (Jvm.Cond.methodLink "LeastSolutionsLaw" (92 : Nat) ({ cls := "LeastSolutionsModel", name := "solvable", desc := "()I" } : Jvm.MethodName)) ∈ wd := wd_t (List.mem_of_getElem? (i := 1059) (by decide +kernel)) rfl
theorem k_1060 : (Jvm.Cond.instanceMethod ({ cls := "LeastSolutionsModel", name := "solvable", desc := "()I" } : Jvm.MethodName)) ∈ wd := wd_t (List.mem_of_getElem? (i := 1060) (by decide +kernel)) rfl
theorem k_1061 : (Jvm.Cond.selects "LeastSolutionsModel" ({ cls := "LeastSolutionsModel", name := "solvable", desc := "()I" } : Jvm.MethodName) ({ cls := "LeastSolutionsModel", name := "solvable", desc := "()I" } : Jvm.MethodName)) ∈ wd := wd_t (List.mem_of_getElem? (i := 1061) (by decide +kernel)) rfl
theorem k_1062 : (Jvm.Cond.code ({ cls := "LeastSolutionsModel", name := "solvable", desc := "()I" } : Jvm.MethodName) prog_12_method_28_code (1 : Nat) (Option.some Jvm.ClassFile.FieldType.int)) ∈ wd := wd_t (List.mem_of_getElem? (i := 1062) (by decide +kernel)) rfl
theorem k_1102 : (Jvm.Cond.methodLink "LeastSolutionsLaw" (95 : Nat) ({ cls := "LeastSolutionsModel", name := "kernel", desc := "()I" } : Jvm.MethodName)) ∈ wd := wd_t (List.mem_of_getElem? (i := 1102) (by decide +kernel)) rfl
theorem k_1103 : (Jvm.Cond.instanceMethod ({ cls := "LeastSolutionsModel", name := "kernel", desc := "()I" } : Jvm.MethodName)) ∈ wd := wd_t (List.mem_of_getElem? (i := 1103) (by decide +kernel)) rfl
theorem k_1104 : (Jvm.Cond.selects "LeastSolutionsModel" ({ cls := "LeastSolutionsModel", name := "kernel", desc := "()I" } : Jvm.MethodName) ({ cls := "LeastSolutionsModel", name := "kernel", desc := "()I" } : Jvm.MethodName)) ∈ wd := wd_t (List.mem_of_getElem? (i := 1104) (by decide +kernel)) rfl
theorem k_1105 : (Jvm.Cond.code ({ cls := "LeastSolutionsModel", name := "kernel", desc := "()I" } : Jvm.MethodName) prog_12_method_29_code (1 : Nat) (Option.some Jvm.ClassFile.FieldType.int)) ∈ wd := wd_t (List.mem_of_getElem? (i := 1105) (by decide +kernel)) rfl
theorem k_1106 : (Jvm.Cond.methodLink "LeastSolutionsLaw" (98 : Nat) ({ cls := "LeastSolutionsModel", name := "kernelAt", desc := "(II)J" } : Jvm.MethodName)) ∈ wd := wd_t (List.mem_of_getElem? (i := 1106) (by decide +kernel)) rfl
theorem k_1107 : (Jvm.Cond.instanceMethod ({ cls := "LeastSolutionsModel", name := "kernelAt", desc := "(II)J" } : Jvm.MethodName)) ∈ wd := wd_t (List.mem_of_getElem? (i := 1107) (by decide +kernel)) rfl
theorem k_1108 : (Jvm.Cond.selects "LeastSolutionsModel" ({ cls := "LeastSolutionsModel", name := "kernelAt", desc := "(II)J" } : Jvm.MethodName) ({ cls := "LeastSolutionsModel", name := "kernelAt", desc := "(II)J" } : Jvm.MethodName)) ∈ wd := wd_t (List.mem_of_getElem? (i := 1108) (by decide +kernel)) rfl
theorem k_1109 : (Jvm.Cond.code ({ cls := "LeastSolutionsModel", name := "kernelAt", desc := "(II)J" } : Jvm.MethodName) prog_12_method_30_code (3 : Nat) (Option.some Jvm.ClassFile.FieldType.long)) ∈ wd := wd_t (List.mem_of_getElem? (i := 1109) (by decide +kernel)) rfl
theorem k_1114 : (Jvm.Cond.methodLink "LeastSolutionsLaw" (101 : Nat) ({ cls := "LeastSolutionsModel", name := "work", desc := "(II)I" } : Jvm.MethodName)) ∈ wd := wd_t (List.mem_of_getElem? (i := 1114) (by decide +kernel)) rfl
theorem k_1115 : (Jvm.Cond.instanceMethod ({ cls := "LeastSolutionsModel", name := "work", desc := "(II)I" } : Jvm.MethodName)) ∈ wd := wd_t (List.mem_of_getElem? (i := 1115) (by decide +kernel)) rfl
theorem k_1116 : (Jvm.Cond.selects "LeastSolutionsModel" ({ cls := "LeastSolutionsModel", name := "work", desc := "(II)I" } : Jvm.MethodName) ({ cls := "LeastSolutionsModel", name := "work", desc := "(II)I" } : Jvm.MethodName)) ∈ wd := wd_t (List.mem_of_getElem? (i := 1116) (by decide +kernel)) rfl
theorem k_1117 : (Jvm.Cond.code ({ cls := "LeastSolutionsModel", name := "work", desc := "(II)I" } : Jvm.MethodName) prog_12_method_38_code (6 : Nat) (Option.some Jvm.ClassFile.FieldType.int)) ∈ wd := wd_t (List.mem_of_getElem? (i := 1117) (by decide +kernel)) rfl
theorem k_1150 : (Jvm.Cond.methodLink "LeastSolutionsLaw" (105 : Nat) ({ cls := "LeastSolutionsModel", name := "at", desc := "(III)I" } : Jvm.MethodName)) ∈ wd := wd_t (List.mem_of_getElem? (i := 1150) (by decide +kernel)) rfl
theorem k_1151 : (Jvm.Cond.instanceMethod ({ cls := "LeastSolutionsModel", name := "at", desc := "(III)I" } : Jvm.MethodName)) ∈ wd := wd_t (List.mem_of_getElem? (i := 1151) (by decide +kernel)) rfl
theorem k_1152 : (Jvm.Cond.selects "LeastSolutionsModel" ({ cls := "LeastSolutionsModel", name := "at", desc := "(III)I" } : Jvm.MethodName) ({ cls := "LeastSolutionsModel", name := "at", desc := "(III)I" } : Jvm.MethodName)) ∈ wd := wd_t (List.mem_of_getElem? (i := 1152) (by decide +kernel)) rfl
theorem k_1153 : (Jvm.Cond.code ({ cls := "LeastSolutionsModel", name := "at", desc := "(III)I" } : Jvm.MethodName) prog_12_method_40_code (5 : Nat) (Option.some Jvm.ClassFile.FieldType.int)) ∈ wd := wd_t (List.mem_of_getElem? (i := 1153) (by decide +kernel)) rfl
theorem k_1154 : (Jvm.Cond.methodLink "LeastSolutionsLaw" (109 : Nat) ({ cls := "LeastSolutionsModel", name := "tell", desc := "(II)V" } : Jvm.MethodName)) ∈ wd := wd_t (List.mem_of_getElem? (i := 1154) (by decide +kernel)) rfl
theorem k_1155 : (Jvm.Cond.instanceMethod ({ cls := "LeastSolutionsModel", name := "tell", desc := "(II)V" } : Jvm.MethodName)) ∈ wd := wd_t (List.mem_of_getElem? (i := 1155) (by decide +kernel)) rfl
theorem k_1156 : (Jvm.Cond.selects "LeastSolutionsModel" ({ cls := "LeastSolutionsModel", name := "tell", desc := "(II)V" } : Jvm.MethodName) ({ cls := "LeastSolutionsModel", name := "tell", desc := "(II)V" } : Jvm.MethodName)) ∈ wd := wd_t (List.mem_of_getElem? (i := 1156) (by decide +kernel)) rfl
theorem k_1157 : (Jvm.Cond.code ({ cls := "LeastSolutionsModel", name := "tell", desc := "(II)V" } : Jvm.MethodName) prog_12_method_41_code (3 : Nat) (Option.none : Option Jvm.ClassFile.FieldType)) ∈ wd := wd_t (List.mem_of_getElem? (i := 1157) (by decide +kernel)) rfl
theorem k_1158 : (Jvm.Cond.methodLink "LeastSolutionsLaw" (112 : Nat) ({ cls := "LeastSolutionsModel", name := "holds", desc := "()I" } : Jvm.MethodName)) ∈ wd := wd_t (List.mem_of_getElem? (i := 1158) (by decide +kernel)) rfl
theorem k_1159 : (Jvm.Cond.instanceMethod ({ cls := "LeastSolutionsModel", name := "holds", desc := "()I" } : Jvm.MethodName)) ∈ wd := wd_t (List.mem_of_getElem? (i := 1159) (by decide +kernel)) rfl
theorem k_1160 : (Jvm.Cond.selects "LeastSolutionsModel" ({ cls := "LeastSolutionsModel", name := "holds", desc := "()I" } : Jvm.MethodName) ({ cls := "LeastSolutionsModel", name := "holds", desc := "()I" } : Jvm.MethodName)) ∈ wd := wd_t (List.mem_of_getElem? (i := 1160) (by decide +kernel)) rfl
theorem k_1161 : (Jvm.Cond.code ({ cls := "LeastSolutionsModel", name := "holds", desc := "()I" } : Jvm.MethodName) prog_12_method_43_code (1 : Nat) (Option.some Jvm.ClassFile.FieldType.int)) ∈ wd := wd_t (List.mem_of_getElem? (i := 1161) (by decide +kernel)) rfl
theorem k_1166 : (Jvm.Cond.methodLink "LeastSolutionsLaw" (116 : Nat) ({ cls := "LeastSolutionsModel", name := "split", desc := "()I" } : Jvm.MethodName)) ∈ wd := wd_t (List.mem_of_getElem? (i := 1166) (by decide +kernel)) rfl
theorem k_1167 : (Jvm.Cond.instanceMethod ({ cls := "LeastSolutionsModel", name := "split", desc := "()I" } : Jvm.MethodName)) ∈ wd := wd_t (List.mem_of_getElem? (i := 1167) (by decide +kernel)) rfl
theorem k_1168 : (Jvm.Cond.selects "LeastSolutionsModel" ({ cls := "LeastSolutionsModel", name := "split", desc := "()I" } : Jvm.MethodName) ({ cls := "LeastSolutionsModel", name := "split", desc := "()I" } : Jvm.MethodName)) ∈ wd := wd_t (List.mem_of_getElem? (i := 1168) (by decide +kernel)) rfl
theorem k_1169 : (Jvm.Cond.code ({ cls := "LeastSolutionsModel", name := "split", desc := "()I" } : Jvm.MethodName) prog_12_method_44_code (5 : Nat) (Option.some Jvm.ClassFile.FieldType.int)) ∈ wd := wd_t (List.mem_of_getElem? (i := 1169) (by decide +kernel)) rfl
theorem k_1170 : (Jvm.Cond.methodLink "LeastSolutionsLaw" (120 : Nat) ({ cls := "LeastSolutionsModel", name := "times", desc := "(I)I" } : Jvm.MethodName)) ∈ wd := wd_t (List.mem_of_getElem? (i := 1170) (by decide +kernel)) rfl
theorem k_1171 : (Jvm.Cond.instanceMethod ({ cls := "LeastSolutionsModel", name := "times", desc := "(I)I" } : Jvm.MethodName)) ∈ wd := wd_t (List.mem_of_getElem? (i := 1171) (by decide +kernel)) rfl
theorem k_1172 : (Jvm.Cond.selects "LeastSolutionsModel" ({ cls := "LeastSolutionsModel", name := "times", desc := "(I)I" } : Jvm.MethodName) ({ cls := "LeastSolutionsModel", name := "times", desc := "(I)I" } : Jvm.MethodName)) ∈ wd := wd_t (List.mem_of_getElem? (i := 1172) (by decide +kernel)) rfl
theorem k_1173 : (Jvm.Cond.code ({ cls := "LeastSolutionsModel", name := "times", desc := "(I)I" } : Jvm.MethodName) prog_12_method_45_code (2 : Nat) (Option.some Jvm.ClassFile.FieldType.int)) ∈ wd := wd_t (List.mem_of_getElem? (i := 1173) (by decide +kernel)) rfl
theorem k_1174 : (Jvm.Cond.methodLink "LeastSolutionsLaw" (123 : Nat) ({ cls := "LeastSolutionsModel", name := "cost", desc := "(II)V" } : Jvm.MethodName)) ∈ wd := wd_t (List.mem_of_getElem? (i := 1174) (by decide +kernel)) rfl
theorem k_1175 : (Jvm.Cond.instanceMethod ({ cls := "LeastSolutionsModel", name := "cost", desc := "(II)V" } : Jvm.MethodName)) ∈ wd := wd_t (List.mem_of_getElem? (i := 1175) (by decide +kernel)) rfl
theorem k_1176 : (Jvm.Cond.selects "LeastSolutionsModel" ({ cls := "LeastSolutionsModel", name := "cost", desc := "(II)V" } : Jvm.MethodName) ({ cls := "LeastSolutionsModel", name := "cost", desc := "(II)V" } : Jvm.MethodName)) ∈ wd := wd_t (List.mem_of_getElem? (i := 1176) (by decide +kernel)) rfl
theorem k_1177 : (Jvm.Cond.code ({ cls := "LeastSolutionsModel", name := "cost", desc := "(II)V" } : Jvm.MethodName) prog_12_method_46_code (3 : Nat) (Option.none : Option Jvm.ClassFile.FieldType)) ∈ wd := wd_t (List.mem_of_getElem? (i := 1177) (by decide +kernel)) rfl
theorem k_1178 : (Jvm.Cond.methodLink "LeastSolutionsLaw" (127 : Nat) ({ cls := "LeastSolutionsModel", name := "best", desc := "(I)I" } : Jvm.MethodName)) ∈ wd := wd_t (List.mem_of_getElem? (i := 1178) (by decide +kernel)) rfl
theorem k_1179 : (Jvm.Cond.instanceMethod ({ cls := "LeastSolutionsModel", name := "best", desc := "(I)I" } : Jvm.MethodName)) ∈ wd := wd_t (List.mem_of_getElem? (i := 1179) (by decide +kernel)) rfl
theorem k_1180 : (Jvm.Cond.selects "LeastSolutionsModel" ({ cls := "LeastSolutionsModel", name := "best", desc := "(I)I" } : Jvm.MethodName) ({ cls := "LeastSolutionsModel", name := "best", desc := "(I)I" } : Jvm.MethodName)) ∈ wd := wd_t (List.mem_of_getElem? (i := 1180) (by decide +kernel)) rfl
theorem k_1181 : (Jvm.Cond.code ({ cls := "LeastSolutionsModel", name := "best", desc := "(I)I" } : Jvm.MethodName) prog_12_method_48_code (8 : Nat) (Option.some Jvm.ClassFile.FieldType.int)) ∈ wd := wd_t (List.mem_of_getElem? (i := 1181) (by decide +kernel)) rfl
theorem k_1186 : (Jvm.Cond.methodLink "LeastSolutionsLaw" (131 : Nat) ({ cls := "LeastSolutionsModel", name := "bestAt", desc := "(I)I" } : Jvm.MethodName)) ∈ wd := wd_t (List.mem_of_getElem? (i := 1186) (by decide +kernel)) rfl
theorem k_1187 : (Jvm.Cond.instanceMethod ({ cls := "LeastSolutionsModel", name := "bestAt", desc := "(I)I" } : Jvm.MethodName)) ∈ wd := wd_t (List.mem_of_getElem? (i := 1187) (by decide +kernel)) rfl
theorem k_1188 : (Jvm.Cond.selects "LeastSolutionsModel" ({ cls := "LeastSolutionsModel", name := "bestAt", desc := "(I)I" } : Jvm.MethodName) ({ cls := "LeastSolutionsModel", name := "bestAt", desc := "(I)I" } : Jvm.MethodName)) ∈ wd := wd_t (List.mem_of_getElem? (i := 1188) (by decide +kernel)) rfl
theorem k_1189 : (Jvm.Cond.code ({ cls := "LeastSolutionsModel", name := "bestAt", desc := "(I)I" } : Jvm.MethodName) prog_12_method_49_code (2 : Nat) (Option.some Jvm.ClassFile.FieldType.int)) ∈ wd := wd_t (List.mem_of_getElem? (i := 1189) (by decide +kernel)) rfl
abbrev y_LW_law : MethodName := ⟨"LeastSolutionsLaw", "law", "([I)Z"⟩
abbrev b_LW_law : ByteArray := code
theorem d_LW_law_23 : decode b_LW_law 23 = .ok (.iload 4, 2) := by decide +kernel
theorem d_LW_law_25 : decode b_LW_law 25 = .ok (.aload_n 0, 1) := by decide +kernel
theorem d_LW_law_26 : decode b_LW_law 26 = .ok (.arraylength, 1) := by decide +kernel
theorem d_LW_law_27 : decode b_LW_law 27 = .ok (.iconst 4, 1) := by decide +kernel
theorem d_LW_law_28 : decode b_LW_law 28 = .ok (.isub, 1) := by decide +kernel
theorem d_LW_law_29 : decode b_LW_law 29 = .ok (.if_icmp .gt 876, 3) := by decide +kernel
theorem d_LW_law_193 : decode b_LW_law 193 = .ok (.aload_n 1, 1) := by decide +kernel
theorem d_LW_law_194 : decode b_LW_law 194 = .ok (.invokevirtual 64, 3) := by decide +kernel
theorem d_LW_law_197 : decode b_LW_law 197 = .ok (.aload_n 2, 1) := by decide +kernel
theorem d_LW_law_198 : decode b_LW_law 198 = .ok (.invokevirtual 67, 3) := by decide +kernel
theorem d_LW_law_201 : decode b_LW_law 201 = .ok (.if_icmp .eq 698, 3) := by decide +kernel
theorem d_LW_law_206 : decode b_LW_law 206 = .ok (.aload_n 1, 1) := by decide +kernel
theorem d_LW_law_207 : decode b_LW_law 207 = .ok (.invokevirtual 68, 3) := by decide +kernel
theorem d_LW_law_210 : decode b_LW_law 210 = .ok (.aload_n 2, 1) := by decide +kernel
theorem d_LW_law_211 : decode b_LW_law 211 = .ok (.invokevirtual 71, 3) := by decide +kernel
theorem d_LW_law_214 : decode b_LW_law 214 = .ok (.if_icmp .eq 685, 3) := by decide +kernel
theorem d_LW_law_219 : decode b_LW_law 219 = .ok (.aload_n 1, 1) := by decide +kernel
theorem d_LW_law_220 : decode b_LW_law 220 = .ok (.aload_n 0, 1) := by decide +kernel
theorem d_LW_law_221 : decode b_LW_law 221 = .ok (.iload 4, 2) := by decide +kernel
theorem d_LW_law_223 : decode b_LW_law 223 = .ok (.iconst 1, 1) := by decide +kernel
theorem d_LW_law_224 : decode b_LW_law 224 = .ok (.iadd, 1) := by decide +kernel
theorem d_LW_law_225 : decode b_LW_law 225 = .ok (.iaload, 1) := by decide +kernel
theorem d_LW_law_226 : decode b_LW_law 226 = .ok (.invokevirtual 72, 3) := by decide +kernel
theorem d_LW_law_229 : decode b_LW_law 229 = .ok (.aload_n 2, 1) := by decide +kernel
theorem d_LW_law_230 : decode b_LW_law 230 = .ok (.aload_n 0, 1) := by decide +kernel
theorem d_LW_law_231 : decode b_LW_law 231 = .ok (.iload 4, 2) := by decide +kernel
theorem d_LW_law_233 : decode b_LW_law 233 = .ok (.iconst 1, 1) := by decide +kernel
theorem d_LW_law_234 : decode b_LW_law 234 = .ok (.iadd, 1) := by decide +kernel
theorem d_LW_law_235 : decode b_LW_law 235 = .ok (.iaload, 1) := by decide +kernel
theorem d_LW_law_236 : decode b_LW_law 236 = .ok (.invokevirtual 75, 3) := by decide +kernel
theorem d_LW_law_239 : decode b_LW_law 239 = .ok (.if_icmp .eq 660, 3) := by decide +kernel
theorem d_LW_law_244 : decode b_LW_law 244 = .ok (.aload_n 1, 1) := by decide +kernel
theorem d_LW_law_245 : decode b_LW_law 245 = .ok (.aload_n 0, 1) := by decide +kernel
theorem d_LW_law_246 : decode b_LW_law 246 = .ok (.iload 4, 2) := by decide +kernel
theorem d_LW_law_248 : decode b_LW_law 248 = .ok (.iconst 1, 1) := by decide +kernel
theorem d_LW_law_249 : decode b_LW_law 249 = .ok (.iadd, 1) := by decide +kernel
theorem d_LW_law_250 : decode b_LW_law 250 = .ok (.iaload, 1) := by decide +kernel
theorem d_LW_law_251 : decode b_LW_law 251 = .ok (.invokevirtual 76, 3) := by decide +kernel
theorem d_LW_law_254 : decode b_LW_law 254 = .ok (.aload_n 2, 1) := by decide +kernel
theorem d_LW_law_255 : decode b_LW_law 255 = .ok (.aload_n 0, 1) := by decide +kernel
theorem d_LW_law_256 : decode b_LW_law 256 = .ok (.iload 4, 2) := by decide +kernel
theorem d_LW_law_258 : decode b_LW_law 258 = .ok (.iconst 1, 1) := by decide +kernel
theorem d_LW_law_259 : decode b_LW_law 259 = .ok (.iadd, 1) := by decide +kernel
theorem d_LW_law_260 : decode b_LW_law 260 = .ok (.iaload, 1) := by decide +kernel
theorem d_LW_law_261 : decode b_LW_law 261 = .ok (.invokevirtual 79, 3) := by decide +kernel
theorem d_LW_law_264 : decode b_LW_law 264 = .ok (.if_icmp .eq 635, 3) := by decide +kernel
theorem d_LW_law_269 : decode b_LW_law 269 = .ok (.aload_n 1, 1) := by decide +kernel
theorem d_LW_law_270 : decode b_LW_law 270 = .ok (.aload_n 0, 1) := by decide +kernel
theorem d_LW_law_271 : decode b_LW_law 271 = .ok (.iload 4, 2) := by decide +kernel
theorem d_LW_law_273 : decode b_LW_law 273 = .ok (.iconst 1, 1) := by decide +kernel
theorem d_LW_law_274 : decode b_LW_law 274 = .ok (.iadd, 1) := by decide +kernel
theorem d_LW_law_275 : decode b_LW_law 275 = .ok (.iaload, 1) := by decide +kernel
theorem d_LW_law_276 : decode b_LW_law 276 = .ok (.aload_n 0, 1) := by decide +kernel
theorem d_LW_law_277 : decode b_LW_law 277 = .ok (.iload 4, 2) := by decide +kernel
theorem d_LW_law_279 : decode b_LW_law 279 = .ok (.iconst 2, 1) := by decide +kernel
theorem d_LW_law_280 : decode b_LW_law 280 = .ok (.iadd, 1) := by decide +kernel
theorem d_LW_law_281 : decode b_LW_law 281 = .ok (.iaload, 1) := by decide +kernel
theorem d_LW_law_282 : decode b_LW_law 282 = .ok (.aload_n 3, 1) := by decide +kernel
theorem d_LW_law_283 : decode b_LW_law 283 = .ok (.invokestatic 80, 3) := by decide +kernel
theorem d_LW_law_286 : decode b_LW_law 286 = .ok (.istore 5, 2) := by decide +kernel
theorem d_LW_law_288 : decode b_LW_law 288 = .ok (.aload_n 2, 1) := by decide +kernel
theorem d_LW_law_289 : decode b_LW_law 289 = .ok (.aload_n 0, 1) := by decide +kernel
theorem d_LW_law_290 : decode b_LW_law 290 = .ok (.iload 4, 2) := by decide +kernel
theorem d_LW_law_292 : decode b_LW_law 292 = .ok (.iconst 1, 1) := by decide +kernel
theorem d_LW_law_293 : decode b_LW_law 293 = .ok (.iadd, 1) := by decide +kernel
theorem d_LW_law_294 : decode b_LW_law 294 = .ok (.iaload, 1) := by decide +kernel
theorem d_LW_law_295 : decode b_LW_law 295 = .ok (.aload_n 0, 1) := by decide +kernel
theorem d_LW_law_296 : decode b_LW_law 296 = .ok (.iload 4, 2) := by decide +kernel
theorem d_LW_law_298 : decode b_LW_law 298 = .ok (.iconst 2, 1) := by decide +kernel
theorem d_LW_law_299 : decode b_LW_law 299 = .ok (.iadd, 1) := by decide +kernel
theorem d_LW_law_300 : decode b_LW_law 300 = .ok (.iaload, 1) := by decide +kernel
theorem d_LW_law_301 : decode b_LW_law 301 = .ok (.invokevirtual 85, 3) := by decide +kernel
theorem d_LW_law_304 : decode b_LW_law 304 = .ok (.istore 6, 2) := by decide +kernel
theorem d_LW_law_306 : decode b_LW_law 306 = .ok (.aload_n 2, 1) := by decide +kernel
theorem d_LW_law_307 : decode b_LW_law 307 = .ok (.invokevirtual 86, 3) := by decide +kernel
theorem d_LW_law_310 : decode b_LW_law 310 = .ok (.iload 5, 2) := by decide +kernel
theorem d_LW_law_312 : decode b_LW_law 312 = .ok (.if_icmp .eq 5, 3) := by decide +kernel
theorem d_LW_law_317 : decode b_LW_law 317 = .ok (.iload 5, 2) := by decide +kernel
theorem d_LW_law_319 : decode b_LW_law 319 = .ok (.ifCond .ne 15, 3) := by decide +kernel
theorem d_LW_law_334 : decode b_LW_law 334 = .ok (.goto 565, 3) := by decide +kernel
theorem d_LW_law_337 : decode b_LW_law 337 = .ok (.aload_n 1, 1) := by decide +kernel
theorem d_LW_law_338 : decode b_LW_law 338 = .ok (.aload_n 3, 1) := by decide +kernel
theorem d_LW_law_339 : decode b_LW_law 339 = .ok (.invokestatic 89, 3) := by decide +kernel
theorem d_LW_law_342 : decode b_LW_law 342 = .ok (.istore 5, 2) := by decide +kernel
theorem d_LW_law_344 : decode b_LW_law 344 = .ok (.aload_n 2, 1) := by decide +kernel
theorem d_LW_law_345 : decode b_LW_law 345 = .ok (.invokevirtual 92, 3) := by decide +kernel
theorem d_LW_law_348 : decode b_LW_law 348 = .ok (.istore 6, 2) := by decide +kernel
theorem d_LW_law_350 : decode b_LW_law 350 = .ok (.aload_n 2, 1) := by decide +kernel
theorem d_LW_law_351 : decode b_LW_law 351 = .ok (.invokevirtual 86, 3) := by decide +kernel
theorem d_LW_law_354 : decode b_LW_law 354 = .ok (.iload 5, 2) := by decide +kernel
theorem d_LW_law_356 : decode b_LW_law 356 = .ok (.if_icmp .eq 5, 3) := by decide +kernel
theorem d_LW_law_361 : decode b_LW_law 361 = .ok (.iload 5, 2) := by decide +kernel
theorem d_LW_law_363 : decode b_LW_law 363 = .ok (.ifCond .ne 15, 3) := by decide +kernel
theorem d_LW_law_378 : decode b_LW_law 378 = .ok (.goto 521, 3) := by decide +kernel
theorem d_LW_law_381 : decode b_LW_law 381 = .ok (.aload_n 1, 1) := by decide +kernel
theorem d_LW_law_382 : decode b_LW_law 382 = .ok (.aload_n 3, 1) := by decide +kernel
theorem d_LW_law_383 : decode b_LW_law 383 = .ok (.invokestatic 93, 3) := by decide +kernel
theorem d_LW_law_386 : decode b_LW_law 386 = .ok (.istore 5, 2) := by decide +kernel
theorem d_LW_law_388 : decode b_LW_law 388 = .ok (.aload_n 2, 1) := by decide +kernel
theorem d_LW_law_389 : decode b_LW_law 389 = .ok (.invokevirtual 95, 3) := by decide +kernel
theorem d_LW_law_392 : decode b_LW_law 392 = .ok (.istore 6, 2) := by decide +kernel
theorem d_LW_law_394 : decode b_LW_law 394 = .ok (.aload_n 2, 1) := by decide +kernel
theorem d_LW_law_395 : decode b_LW_law 395 = .ok (.invokevirtual 86, 3) := by decide +kernel
theorem d_LW_law_398 : decode b_LW_law 398 = .ok (.iload 5, 2) := by decide +kernel
theorem d_LW_law_400 : decode b_LW_law 400 = .ok (.if_icmp .eq 5, 3) := by decide +kernel
theorem d_LW_law_405 : decode b_LW_law 405 = .ok (.iload 5, 2) := by decide +kernel
theorem d_LW_law_407 : decode b_LW_law 407 = .ok (.ifCond .ne 15, 3) := by decide +kernel
theorem d_LW_law_422 : decode b_LW_law 422 = .ok (.goto 477, 3) := by decide +kernel
theorem d_LW_law_425 : decode b_LW_law 425 = .ok (.aload_n 1, 1) := by decide +kernel
theorem d_LW_law_426 : decode b_LW_law 426 = .ok (.aload_n 0, 1) := by decide +kernel
theorem d_LW_law_427 : decode b_LW_law 427 = .ok (.iload 4, 2) := by decide +kernel
theorem d_LW_law_429 : decode b_LW_law 429 = .ok (.iconst 1, 1) := by decide +kernel
theorem d_LW_law_430 : decode b_LW_law 430 = .ok (.iadd, 1) := by decide +kernel
theorem d_LW_law_431 : decode b_LW_law 431 = .ok (.iaload, 1) := by decide +kernel
theorem d_LW_law_432 : decode b_LW_law 432 = .ok (.aload_n 0, 1) := by decide +kernel
theorem d_LW_law_433 : decode b_LW_law 433 = .ok (.iload 4, 2) := by decide +kernel
theorem d_LW_law_435 : decode b_LW_law 435 = .ok (.iconst 2, 1) := by decide +kernel
theorem d_LW_law_436 : decode b_LW_law 436 = .ok (.iadd, 1) := by decide +kernel
theorem d_LW_law_437 : decode b_LW_law 437 = .ok (.iaload, 1) := by decide +kernel
theorem d_LW_law_438 : decode b_LW_law 438 = .ok (.aload_n 3, 1) := by decide +kernel
theorem d_LW_law_439 : decode b_LW_law 439 = .ok (.invokestatic 96, 3) := by decide +kernel
theorem d_LW_law_442 : decode b_LW_law 442 = .ok (.istore 5, 2) := by decide +kernel
theorem d_LW_law_444 : decode b_LW_law 444 = .ok (.aload_n 2, 1) := by decide +kernel
theorem d_LW_law_445 : decode b_LW_law 445 = .ok (.aload_n 0, 1) := by decide +kernel
theorem d_LW_law_446 : decode b_LW_law 446 = .ok (.iload 4, 2) := by decide +kernel
theorem d_LW_law_448 : decode b_LW_law 448 = .ok (.iconst 1, 1) := by decide +kernel
theorem d_LW_law_449 : decode b_LW_law 449 = .ok (.iadd, 1) := by decide +kernel
theorem d_LW_law_450 : decode b_LW_law 450 = .ok (.iaload, 1) := by decide +kernel
theorem d_LW_law_451 : decode b_LW_law 451 = .ok (.aload_n 0, 1) := by decide +kernel
theorem d_LW_law_452 : decode b_LW_law 452 = .ok (.iload 4, 2) := by decide +kernel
theorem d_LW_law_454 : decode b_LW_law 454 = .ok (.iconst 2, 1) := by decide +kernel
theorem d_LW_law_455 : decode b_LW_law 455 = .ok (.iadd, 1) := by decide +kernel
theorem d_LW_law_456 : decode b_LW_law 456 = .ok (.iaload, 1) := by decide +kernel
theorem d_LW_law_457 : decode b_LW_law 457 = .ok (.invokevirtual 98, 3) := by decide +kernel
theorem d_LW_law_460 : decode b_LW_law 460 = .ok (.lstore 6, 2) := by decide +kernel
theorem d_LW_law_462 : decode b_LW_law 462 = .ok (.aload_n 2, 1) := by decide +kernel
theorem d_LW_law_463 : decode b_LW_law 463 = .ok (.invokevirtual 86, 3) := by decide +kernel
theorem d_LW_law_466 : decode b_LW_law 466 = .ok (.iload 5, 2) := by decide +kernel
theorem d_LW_law_468 : decode b_LW_law 468 = .ok (.if_icmp .eq 5, 3) := by decide +kernel
theorem d_LW_law_473 : decode b_LW_law 473 = .ok (.iload 5, 2) := by decide +kernel
theorem d_LW_law_475 : decode b_LW_law 475 = .ok (.ifCond .ne 14, 3) := by decide +kernel
theorem d_LW_law_489 : decode b_LW_law 489 = .ok (.goto 410, 3) := by decide +kernel
theorem d_LW_law_492 : decode b_LW_law 492 = .ok (.aload_n 1, 1) := by decide +kernel
theorem d_LW_law_493 : decode b_LW_law 493 = .ok (.aload_n 0, 1) := by decide +kernel
theorem d_LW_law_494 : decode b_LW_law 494 = .ok (.iload 4, 2) := by decide +kernel
theorem d_LW_law_496 : decode b_LW_law 496 = .ok (.iconst 1, 1) := by decide +kernel
theorem d_LW_law_497 : decode b_LW_law 497 = .ok (.iadd, 1) := by decide +kernel
theorem d_LW_law_498 : decode b_LW_law 498 = .ok (.iaload, 1) := by decide +kernel
theorem d_LW_law_499 : decode b_LW_law 499 = .ok (.aload_n 0, 1) := by decide +kernel
theorem d_LW_law_500 : decode b_LW_law 500 = .ok (.iload 4, 2) := by decide +kernel
theorem d_LW_law_502 : decode b_LW_law 502 = .ok (.iconst 2, 1) := by decide +kernel
theorem d_LW_law_503 : decode b_LW_law 503 = .ok (.iadd, 1) := by decide +kernel
theorem d_LW_law_504 : decode b_LW_law 504 = .ok (.iaload, 1) := by decide +kernel
theorem d_LW_law_505 : decode b_LW_law 505 = .ok (.aload_n 3, 1) := by decide +kernel
theorem d_LW_law_506 : decode b_LW_law 506 = .ok (.invokestatic 99, 3) := by decide +kernel
theorem d_LW_law_509 : decode b_LW_law 509 = .ok (.istore 5, 2) := by decide +kernel
theorem d_LW_law_511 : decode b_LW_law 511 = .ok (.aload_n 2, 1) := by decide +kernel
theorem d_LW_law_512 : decode b_LW_law 512 = .ok (.aload_n 0, 1) := by decide +kernel
theorem d_LW_law_513 : decode b_LW_law 513 = .ok (.iload 4, 2) := by decide +kernel
theorem d_LW_law_515 : decode b_LW_law 515 = .ok (.iconst 1, 1) := by decide +kernel
theorem d_LW_law_516 : decode b_LW_law 516 = .ok (.iadd, 1) := by decide +kernel
theorem d_LW_law_517 : decode b_LW_law 517 = .ok (.iaload, 1) := by decide +kernel
theorem d_LW_law_518 : decode b_LW_law 518 = .ok (.aload_n 0, 1) := by decide +kernel
theorem d_LW_law_519 : decode b_LW_law 519 = .ok (.iload 4, 2) := by decide +kernel
theorem d_LW_law_521 : decode b_LW_law 521 = .ok (.iconst 2, 1) := by decide +kernel
theorem d_LW_law_522 : decode b_LW_law 522 = .ok (.iadd, 1) := by decide +kernel
theorem d_LW_law_523 : decode b_LW_law 523 = .ok (.iaload, 1) := by decide +kernel
theorem d_LW_law_524 : decode b_LW_law 524 = .ok (.invokevirtual 101, 3) := by decide +kernel
theorem d_LW_law_527 : decode b_LW_law 527 = .ok (.istore 6, 2) := by decide +kernel
theorem d_LW_law_529 : decode b_LW_law 529 = .ok (.aload_n 2, 1) := by decide +kernel
theorem d_LW_law_530 : decode b_LW_law 530 = .ok (.invokevirtual 86, 3) := by decide +kernel
theorem d_LW_law_533 : decode b_LW_law 533 = .ok (.iload 5, 2) := by decide +kernel
theorem d_LW_law_535 : decode b_LW_law 535 = .ok (.if_icmp .eq 5, 3) := by decide +kernel
theorem d_LW_law_540 : decode b_LW_law 540 = .ok (.iload 5, 2) := by decide +kernel
theorem d_LW_law_542 : decode b_LW_law 542 = .ok (.ifCond .ne 15, 3) := by decide +kernel
theorem d_LW_law_557 : decode b_LW_law 557 = .ok (.goto 342, 3) := by decide +kernel
theorem d_LW_law_560 : decode b_LW_law 560 = .ok (.aload_n 1, 1) := by decide +kernel
theorem d_LW_law_561 : decode b_LW_law 561 = .ok (.aload_n 0, 1) := by decide +kernel
theorem d_LW_law_562 : decode b_LW_law 562 = .ok (.iload 4, 2) := by decide +kernel
theorem d_LW_law_564 : decode b_LW_law 564 = .ok (.iconst 1, 1) := by decide +kernel
theorem d_LW_law_565 : decode b_LW_law 565 = .ok (.iadd, 1) := by decide +kernel
theorem d_LW_law_566 : decode b_LW_law 566 = .ok (.iaload, 1) := by decide +kernel
theorem d_LW_law_567 : decode b_LW_law 567 = .ok (.aload_n 0, 1) := by decide +kernel
theorem d_LW_law_568 : decode b_LW_law 568 = .ok (.iload 4, 2) := by decide +kernel
theorem d_LW_law_570 : decode b_LW_law 570 = .ok (.iconst 2, 1) := by decide +kernel
theorem d_LW_law_571 : decode b_LW_law 571 = .ok (.iadd, 1) := by decide +kernel
theorem d_LW_law_572 : decode b_LW_law 572 = .ok (.iaload, 1) := by decide +kernel
theorem d_LW_law_573 : decode b_LW_law 573 = .ok (.aload_n 0, 1) := by decide +kernel
theorem d_LW_law_574 : decode b_LW_law 574 = .ok (.iload 4, 2) := by decide +kernel
theorem d_LW_law_576 : decode b_LW_law 576 = .ok (.iconst 3, 1) := by decide +kernel
theorem d_LW_law_577 : decode b_LW_law 577 = .ok (.iadd, 1) := by decide +kernel
theorem d_LW_law_578 : decode b_LW_law 578 = .ok (.iaload, 1) := by decide +kernel
theorem d_LW_law_579 : decode b_LW_law 579 = .ok (.aload_n 3, 1) := by decide +kernel
theorem d_LW_law_580 : decode b_LW_law 580 = .ok (.invokestatic 102, 3) := by decide +kernel
theorem d_LW_law_583 : decode b_LW_law 583 = .ok (.istore 5, 2) := by decide +kernel
theorem d_LW_law_585 : decode b_LW_law 585 = .ok (.aload_n 2, 1) := by decide +kernel
theorem d_LW_law_586 : decode b_LW_law 586 = .ok (.aload_n 0, 1) := by decide +kernel
theorem d_LW_law_587 : decode b_LW_law 587 = .ok (.iload 4, 2) := by decide +kernel
theorem d_LW_law_589 : decode b_LW_law 589 = .ok (.iconst 1, 1) := by decide +kernel
theorem d_LW_law_590 : decode b_LW_law 590 = .ok (.iadd, 1) := by decide +kernel
theorem d_LW_law_591 : decode b_LW_law 591 = .ok (.iaload, 1) := by decide +kernel
theorem d_LW_law_592 : decode b_LW_law 592 = .ok (.aload_n 0, 1) := by decide +kernel
theorem d_LW_law_593 : decode b_LW_law 593 = .ok (.iload 4, 2) := by decide +kernel
theorem d_LW_law_595 : decode b_LW_law 595 = .ok (.iconst 2, 1) := by decide +kernel
theorem d_LW_law_596 : decode b_LW_law 596 = .ok (.iadd, 1) := by decide +kernel
theorem d_LW_law_597 : decode b_LW_law 597 = .ok (.iaload, 1) := by decide +kernel
theorem d_LW_law_598 : decode b_LW_law 598 = .ok (.aload_n 0, 1) := by decide +kernel
theorem d_LW_law_599 : decode b_LW_law 599 = .ok (.iload 4, 2) := by decide +kernel
theorem d_LW_law_601 : decode b_LW_law 601 = .ok (.iconst 3, 1) := by decide +kernel
theorem d_LW_law_602 : decode b_LW_law 602 = .ok (.iadd, 1) := by decide +kernel
theorem d_LW_law_603 : decode b_LW_law 603 = .ok (.iaload, 1) := by decide +kernel
theorem d_LW_law_604 : decode b_LW_law 604 = .ok (.invokevirtual 105, 3) := by decide +kernel
theorem d_LW_law_607 : decode b_LW_law 607 = .ok (.istore 6, 2) := by decide +kernel
theorem d_LW_law_609 : decode b_LW_law 609 = .ok (.aload_n 2, 1) := by decide +kernel
theorem d_LW_law_610 : decode b_LW_law 610 = .ok (.invokevirtual 86, 3) := by decide +kernel
theorem d_LW_law_613 : decode b_LW_law 613 = .ok (.iload 5, 2) := by decide +kernel
theorem d_LW_law_615 : decode b_LW_law 615 = .ok (.if_icmp .eq 5, 3) := by decide +kernel
theorem d_LW_law_620 : decode b_LW_law 620 = .ok (.iload 5, 2) := by decide +kernel
theorem d_LW_law_622 : decode b_LW_law 622 = .ok (.ifCond .ne 15, 3) := by decide +kernel
theorem d_LW_law_637 : decode b_LW_law 637 = .ok (.goto 262, 3) := by decide +kernel
theorem d_LW_law_640 : decode b_LW_law 640 = .ok (.aload_n 1, 1) := by decide +kernel
theorem d_LW_law_641 : decode b_LW_law 641 = .ok (.aload_n 0, 1) := by decide +kernel
theorem d_LW_law_642 : decode b_LW_law 642 = .ok (.iload 4, 2) := by decide +kernel
theorem d_LW_law_644 : decode b_LW_law 644 = .ok (.iconst 1, 1) := by decide +kernel
theorem d_LW_law_645 : decode b_LW_law 645 = .ok (.iadd, 1) := by decide +kernel
theorem d_LW_law_646 : decode b_LW_law 646 = .ok (.iaload, 1) := by decide +kernel
theorem d_LW_law_647 : decode b_LW_law 647 = .ok (.aload_n 0, 1) := by decide +kernel
theorem d_LW_law_648 : decode b_LW_law 648 = .ok (.iload 4, 2) := by decide +kernel
theorem d_LW_law_650 : decode b_LW_law 650 = .ok (.iconst 2, 1) := by decide +kernel
theorem d_LW_law_651 : decode b_LW_law 651 = .ok (.iadd, 1) := by decide +kernel
theorem d_LW_law_652 : decode b_LW_law 652 = .ok (.iaload, 1) := by decide +kernel
theorem d_LW_law_653 : decode b_LW_law 653 = .ok (.invokestatic 106, 3) := by decide +kernel
theorem d_LW_law_656 : decode b_LW_law 656 = .ok (.istore 5, 2) := by decide +kernel
theorem d_LW_law_658 : decode b_LW_law 658 = .ok (.aload_n 2, 1) := by decide +kernel
theorem d_LW_law_659 : decode b_LW_law 659 = .ok (.aload_n 0, 1) := by decide +kernel
theorem d_LW_law_660 : decode b_LW_law 660 = .ok (.iload 4, 2) := by decide +kernel
theorem d_LW_law_662 : decode b_LW_law 662 = .ok (.iconst 1, 1) := by decide +kernel
theorem d_LW_law_663 : decode b_LW_law 663 = .ok (.iadd, 1) := by decide +kernel
theorem d_LW_law_664 : decode b_LW_law 664 = .ok (.iaload, 1) := by decide +kernel
theorem d_LW_law_665 : decode b_LW_law 665 = .ok (.aload_n 0, 1) := by decide +kernel
theorem d_LW_law_666 : decode b_LW_law 666 = .ok (.iload 4, 2) := by decide +kernel
theorem d_LW_law_668 : decode b_LW_law 668 = .ok (.iconst 2, 1) := by decide +kernel
theorem d_LW_law_669 : decode b_LW_law 669 = .ok (.iadd, 1) := by decide +kernel
theorem d_LW_law_670 : decode b_LW_law 670 = .ok (.iaload, 1) := by decide +kernel
theorem d_LW_law_671 : decode b_LW_law 671 = .ok (.invokevirtual 109, 3) := by decide +kernel
theorem d_LW_law_674 : decode b_LW_law 674 = .ok (.aload_n 2, 1) := by decide +kernel
theorem d_LW_law_675 : decode b_LW_law 675 = .ok (.invokevirtual 86, 3) := by decide +kernel
theorem d_LW_law_678 : decode b_LW_law 678 = .ok (.iload 5, 2) := by decide +kernel
theorem d_LW_law_680 : decode b_LW_law 680 = .ok (.if_icmp .eq 5, 3) := by decide +kernel
theorem d_LW_law_685 : decode b_LW_law 685 = .ok (.goto 214, 3) := by decide +kernel
theorem d_LW_law_688 : decode b_LW_law 688 = .ok (.aload_n 1, 1) := by decide +kernel
theorem d_LW_law_689 : decode b_LW_law 689 = .ok (.aload_n 3, 1) := by decide +kernel
theorem d_LW_law_690 : decode b_LW_law 690 = .ok (.invokestatic 110, 3) := by decide +kernel
theorem d_LW_law_693 : decode b_LW_law 693 = .ok (.istore 5, 2) := by decide +kernel
theorem d_LW_law_695 : decode b_LW_law 695 = .ok (.aload_n 2, 1) := by decide +kernel
theorem d_LW_law_696 : decode b_LW_law 696 = .ok (.invokevirtual 112, 3) := by decide +kernel
theorem d_LW_law_699 : decode b_LW_law 699 = .ok (.istore 6, 2) := by decide +kernel
theorem d_LW_law_701 : decode b_LW_law 701 = .ok (.aload_n 2, 1) := by decide +kernel
theorem d_LW_law_702 : decode b_LW_law 702 = .ok (.invokevirtual 86, 3) := by decide +kernel
theorem d_LW_law_705 : decode b_LW_law 705 = .ok (.iload 5, 2) := by decide +kernel
theorem d_LW_law_707 : decode b_LW_law 707 = .ok (.if_icmp .eq 5, 3) := by decide +kernel
theorem d_LW_law_712 : decode b_LW_law 712 = .ok (.iload 5, 2) := by decide +kernel
theorem d_LW_law_714 : decode b_LW_law 714 = .ok (.ifCond .ne 15, 3) := by decide +kernel
theorem d_LW_law_729 : decode b_LW_law 729 = .ok (.goto 170, 3) := by decide +kernel
theorem d_LW_law_732 : decode b_LW_law 732 = .ok (.aload_n 1, 1) := by decide +kernel
theorem d_LW_law_733 : decode b_LW_law 733 = .ok (.invokevirtual 113, 3) := by decide +kernel
theorem d_LW_law_736 : decode b_LW_law 736 = .ok (.aload_n 2, 1) := by decide +kernel
theorem d_LW_law_737 : decode b_LW_law 737 = .ok (.invokevirtual 116, 3) := by decide +kernel
theorem d_LW_law_740 : decode b_LW_law 740 = .ok (.if_icmp .eq 159, 3) := by decide +kernel
theorem d_LW_law_745 : decode b_LW_law 745 = .ok (.aload_n 1, 1) := by decide +kernel
theorem d_LW_law_746 : decode b_LW_law 746 = .ok (.aload_n 0, 1) := by decide +kernel
theorem d_LW_law_747 : decode b_LW_law 747 = .ok (.iload 4, 2) := by decide +kernel
theorem d_LW_law_749 : decode b_LW_law 749 = .ok (.iconst 1, 1) := by decide +kernel
theorem d_LW_law_750 : decode b_LW_law 750 = .ok (.iadd, 1) := by decide +kernel
theorem d_LW_law_751 : decode b_LW_law 751 = .ok (.iaload, 1) := by decide +kernel
theorem d_LW_law_752 : decode b_LW_law 752 = .ok (.invokevirtual 117, 3) := by decide +kernel
theorem d_LW_law_755 : decode b_LW_law 755 = .ok (.aload_n 2, 1) := by decide +kernel
theorem d_LW_law_756 : decode b_LW_law 756 = .ok (.aload_n 0, 1) := by decide +kernel
theorem d_LW_law_757 : decode b_LW_law 757 = .ok (.iload 4, 2) := by decide +kernel
theorem d_LW_law_759 : decode b_LW_law 759 = .ok (.iconst 1, 1) := by decide +kernel
theorem d_LW_law_760 : decode b_LW_law 760 = .ok (.iadd, 1) := by decide +kernel
theorem d_LW_law_761 : decode b_LW_law 761 = .ok (.iaload, 1) := by decide +kernel
theorem d_LW_law_762 : decode b_LW_law 762 = .ok (.invokevirtual 120, 3) := by decide +kernel
theorem d_LW_law_765 : decode b_LW_law 765 = .ok (.if_icmp .eq 134, 3) := by decide +kernel
theorem d_LW_law_770 : decode b_LW_law 770 = .ok (.aload_n 1, 1) := by decide +kernel
theorem d_LW_law_771 : decode b_LW_law 771 = .ok (.aload_n 0, 1) := by decide +kernel
theorem d_LW_law_772 : decode b_LW_law 772 = .ok (.iload 4, 2) := by decide +kernel
theorem d_LW_law_774 : decode b_LW_law 774 = .ok (.iconst 1, 1) := by decide +kernel
theorem d_LW_law_775 : decode b_LW_law 775 = .ok (.iadd, 1) := by decide +kernel
theorem d_LW_law_776 : decode b_LW_law 776 = .ok (.iaload, 1) := by decide +kernel
theorem d_LW_law_777 : decode b_LW_law 777 = .ok (.aload_n 0, 1) := by decide +kernel
theorem d_LW_law_778 : decode b_LW_law 778 = .ok (.iload 4, 2) := by decide +kernel
theorem d_LW_law_780 : decode b_LW_law 780 = .ok (.iconst 2, 1) := by decide +kernel
theorem d_LW_law_781 : decode b_LW_law 781 = .ok (.iadd, 1) := by decide +kernel
theorem d_LW_law_782 : decode b_LW_law 782 = .ok (.iaload, 1) := by decide +kernel
theorem d_LW_law_783 : decode b_LW_law 783 = .ok (.invokestatic 121, 3) := by decide +kernel
theorem d_LW_law_786 : decode b_LW_law 786 = .ok (.istore 5, 2) := by decide +kernel
theorem d_LW_law_788 : decode b_LW_law 788 = .ok (.aload_n 2, 1) := by decide +kernel
theorem d_LW_law_789 : decode b_LW_law 789 = .ok (.aload_n 0, 1) := by decide +kernel
theorem d_LW_law_790 : decode b_LW_law 790 = .ok (.iload 4, 2) := by decide +kernel
theorem d_LW_law_792 : decode b_LW_law 792 = .ok (.iconst 1, 1) := by decide +kernel
theorem d_LW_law_793 : decode b_LW_law 793 = .ok (.iadd, 1) := by decide +kernel
theorem d_LW_law_794 : decode b_LW_law 794 = .ok (.iaload, 1) := by decide +kernel
theorem d_LW_law_795 : decode b_LW_law 795 = .ok (.aload_n 0, 1) := by decide +kernel
theorem d_LW_law_796 : decode b_LW_law 796 = .ok (.iload 4, 2) := by decide +kernel
theorem d_LW_law_798 : decode b_LW_law 798 = .ok (.iconst 2, 1) := by decide +kernel
theorem d_LW_law_799 : decode b_LW_law 799 = .ok (.iadd, 1) := by decide +kernel
theorem d_LW_law_800 : decode b_LW_law 800 = .ok (.iaload, 1) := by decide +kernel
theorem d_LW_law_801 : decode b_LW_law 801 = .ok (.invokevirtual 123, 3) := by decide +kernel
theorem d_LW_law_804 : decode b_LW_law 804 = .ok (.aload_n 2, 1) := by decide +kernel
theorem d_LW_law_805 : decode b_LW_law 805 = .ok (.invokevirtual 86, 3) := by decide +kernel
theorem d_LW_law_808 : decode b_LW_law 808 = .ok (.iload 5, 2) := by decide +kernel
theorem d_LW_law_810 : decode b_LW_law 810 = .ok (.if_icmp .eq 5, 3) := by decide +kernel
theorem d_LW_law_815 : decode b_LW_law 815 = .ok (.goto 84, 3) := by decide +kernel
theorem d_LW_law_818 : decode b_LW_law 818 = .ok (.aload_n 1, 1) := by decide +kernel
theorem d_LW_law_819 : decode b_LW_law 819 = .ok (.aload_n 0, 1) := by decide +kernel
theorem d_LW_law_820 : decode b_LW_law 820 = .ok (.iload 4, 2) := by decide +kernel
theorem d_LW_law_822 : decode b_LW_law 822 = .ok (.iconst 1, 1) := by decide +kernel
theorem d_LW_law_823 : decode b_LW_law 823 = .ok (.iadd, 1) := by decide +kernel
theorem d_LW_law_824 : decode b_LW_law 824 = .ok (.iaload, 1) := by decide +kernel
theorem d_LW_law_825 : decode b_LW_law 825 = .ok (.aload_n 3, 1) := by decide +kernel
theorem d_LW_law_826 : decode b_LW_law 826 = .ok (.invokestatic 124, 3) := by decide +kernel
theorem d_LW_law_829 : decode b_LW_law 829 = .ok (.istore 5, 2) := by decide +kernel
theorem d_LW_law_831 : decode b_LW_law 831 = .ok (.aload_n 2, 1) := by decide +kernel
theorem d_LW_law_832 : decode b_LW_law 832 = .ok (.aload_n 0, 1) := by decide +kernel
theorem d_LW_law_833 : decode b_LW_law 833 = .ok (.iload 4, 2) := by decide +kernel
theorem d_LW_law_835 : decode b_LW_law 835 = .ok (.iconst 1, 1) := by decide +kernel
theorem d_LW_law_836 : decode b_LW_law 836 = .ok (.iadd, 1) := by decide +kernel
theorem d_LW_law_837 : decode b_LW_law 837 = .ok (.iaload, 1) := by decide +kernel
theorem d_LW_law_838 : decode b_LW_law 838 = .ok (.invokevirtual 127, 3) := by decide +kernel
theorem d_LW_law_841 : decode b_LW_law 841 = .ok (.istore 6, 2) := by decide +kernel
theorem d_LW_law_843 : decode b_LW_law 843 = .ok (.aload_n 2, 1) := by decide +kernel
theorem d_LW_law_844 : decode b_LW_law 844 = .ok (.invokevirtual 86, 3) := by decide +kernel
theorem d_LW_law_847 : decode b_LW_law 847 = .ok (.iload 5, 2) := by decide +kernel
theorem d_LW_law_849 : decode b_LW_law 849 = .ok (.if_icmp .eq 5, 3) := by decide +kernel
theorem d_LW_law_854 : decode b_LW_law 854 = .ok (.iload 5, 2) := by decide +kernel
theorem d_LW_law_856 : decode b_LW_law 856 = .ok (.ifCond .ne 15, 3) := by decide +kernel
theorem d_LW_law_871 : decode b_LW_law 871 = .ok (.goto 28, 3) := by decide +kernel
theorem d_LW_law_874 : decode b_LW_law 874 = .ok (.aload_n 1, 1) := by decide +kernel
theorem d_LW_law_875 : decode b_LW_law 875 = .ok (.aload_n 0, 1) := by decide +kernel
theorem d_LW_law_876 : decode b_LW_law 876 = .ok (.iload 4, 2) := by decide +kernel
theorem d_LW_law_878 : decode b_LW_law 878 = .ok (.iconst 1, 1) := by decide +kernel
theorem d_LW_law_879 : decode b_LW_law 879 = .ok (.iadd, 1) := by decide +kernel
theorem d_LW_law_880 : decode b_LW_law 880 = .ok (.iaload, 1) := by decide +kernel
theorem d_LW_law_881 : decode b_LW_law 881 = .ok (.invokevirtual 128, 3) := by decide +kernel
theorem d_LW_law_884 : decode b_LW_law 884 = .ok (.aload_n 2, 1) := by decide +kernel
theorem d_LW_law_885 : decode b_LW_law 885 = .ok (.aload_n 0, 1) := by decide +kernel
theorem d_LW_law_886 : decode b_LW_law 886 = .ok (.iload 4, 2) := by decide +kernel
theorem d_LW_law_888 : decode b_LW_law 888 = .ok (.iconst 1, 1) := by decide +kernel
theorem d_LW_law_889 : decode b_LW_law 889 = .ok (.iadd, 1) := by decide +kernel
theorem d_LW_law_890 : decode b_LW_law 890 = .ok (.iaload, 1) := by decide +kernel
theorem d_LW_law_891 : decode b_LW_law 891 = .ok (.invokevirtual 131, 3) := by decide +kernel
theorem d_LW_law_894 : decode b_LW_law 894 = .ok (.if_icmp .eq 5, 3) := by decide +kernel
theorem d_LW_law_899 : decode b_LW_law 899 = .ok (.iinc 4 4, 3) := by decide +kernel
theorem d_LW_law_902 : decode b_LW_law 902 = .ok (.goto (-879), 3) := by decide +kernel
theorem d_LW_law_905 : decode b_LW_law 905 = .ok (.iconst 1, 1) := by decide +kernel
theorem d_LW_law_906 : decode b_LW_law 906 = .ok (.ireturn, 1) := by decide +kernel
