theorem k_601 : (Jvm.Cond.classLink "LeastSolutionsLaw" (13 : Nat) "java/lang/IndexOutOfBoundsException") ∈ wd := wd_t (List.mem_of_getElem? (i := 601) (by decide +kernel)) rfl
theorem k_602 : (Jvm.Cond.methodLink "LeastSolutionsLaw" (7 : Nat) ({ cls := "LeastSolutions", name := "number", desc := "(II)I" } : Jvm.MethodName)) ∈ wd := wd_t (List.mem_of_getElem? (i := 602) (by decide +kernel)) rfl
theorem k_603 : (Jvm.Cond.instanceMethod ({ cls := "LeastSolutions", name := "number", desc := "(II)I" } : Jvm.MethodName)) ∈ wd := wd_t (List.mem_of_getElem? (i := 603) (by decide +kernel)) rfl
theorem k_604 : (Jvm.Cond.selects "LeastSolutions" ({ cls := "LeastSolutions", name := "number", desc := "(II)I" } : Jvm.MethodName) ({ cls := "LeastSolutions", name := "number", desc := "(II)I" } : Jvm.MethodName)) ∈ wd := wd_t (List.mem_of_getElem? (i := 604) (by decide +kernel)) rfl
theorem k_605 : (Jvm.Cond.code ({ cls := "LeastSolutions", name := "number", desc := "(II)I" } : Jvm.MethodName) prog_1_method_7_code (3 : Nat) (Option.some Jvm.ClassFile.FieldType.int)) ∈ wd := wd_t (List.mem_of_getElem? (i := 605) (by decide +kernel)) rfl
theorem k_673 : (Jvm.Cond.classLink "LeastSolutionsLaw" (19 : Nat) "java/lang/IllegalStateException") ∈ wd := wd_t (List.mem_of_getElem? (i := 673) (by decide +kernel)) rfl
theorem k_674 : (Jvm.Cond.methodLink "LeastSolutionsLaw" (15 : Nat) ({ cls := "LeastSolutions", name := "solvable", desc := "()I" } : Jvm.MethodName)) ∈ wd := wd_t (List.mem_of_getElem? (i := 674) (by decide +kernel)) rfl
theorem k_675 : (Jvm.Cond.instanceMethod ({ cls := "LeastSolutions", name := "solvable", desc := "()I" } : Jvm.MethodName)) ∈ wd := wd_t (List.mem_of_getElem? (i := 675) (by decide +kernel)) rfl
theorem k_676 : (Jvm.Cond.selects "LeastSolutions" ({ cls := "LeastSolutions", name := "solvable", desc := "()I" } : Jvm.MethodName) ({ cls := "LeastSolutions", name := "solvable", desc := "()I" } : Jvm.MethodName)) ∈ wd := wd_t (List.mem_of_getElem? (i := 676) (by decide +kernel)) rfl
theorem k_677 : (Jvm.Cond.code ({ cls := "LeastSolutions", name := "solvable", desc := "()I" } : Jvm.MethodName) prog_1_method_8_code (1 : Nat) (Option.some Jvm.ClassFile.FieldType.int)) ∈ wd := wd_t (List.mem_of_getElem? (i := 677) (by decide +kernel)) rfl
theorem k_708 : (Jvm.Cond.methodLink "LeastSolutionsLaw" (21 : Nat) ({ cls := "LeastSolutions", name := "kernel", desc := "()I" } : Jvm.MethodName)) ∈ wd := wd_t (List.mem_of_getElem? (i := 708) (by decide +kernel)) rfl
theorem k_709 : (Jvm.Cond.instanceMethod ({ cls := "LeastSolutions", name := "kernel", desc := "()I" } : Jvm.MethodName)) ∈ wd := wd_t (List.mem_of_getElem? (i := 709) (by decide +kernel)) rfl
theorem k_710 : (Jvm.Cond.selects "LeastSolutions" ({ cls := "LeastSolutions", name := "kernel", desc := "()I" } : Jvm.MethodName) ({ cls := "LeastSolutions", name := "kernel", desc := "()I" } : Jvm.MethodName)) ∈ wd := wd_t (List.mem_of_getElem? (i := 710) (by decide +kernel)) rfl
theorem k_711 : (Jvm.Cond.code ({ cls := "LeastSolutions", name := "kernel", desc := "()I" } : Jvm.MethodName) prog_1_method_9_code (1 : Nat) (Option.some Jvm.ClassFile.FieldType.int)) ∈ wd := wd_t (List.mem_of_getElem? (i := 711) (by decide +kernel)) rfl
theorem k_715 : (Jvm.Cond.methodLink "LeastSolutionsLaw" (24 : Nat) ({ cls := "LeastSolutions", name := "kernelAt", desc := "(II)J" } : Jvm.MethodName)) ∈ wd := wd_t (List.mem_of_getElem? (i := 715) (by decide +kernel)) rfl
theorem k_716 : (Jvm.Cond.instanceMethod ({ cls := "LeastSolutions", name := "kernelAt", desc := "(II)J" } : Jvm.MethodName)) ∈ wd := wd_t (List.mem_of_getElem? (i := 716) (by decide +kernel)) rfl
theorem k_717 : (Jvm.Cond.selects "LeastSolutions" ({ cls := "LeastSolutions", name := "kernelAt", desc := "(II)J" } : Jvm.MethodName) ({ cls := "LeastSolutions", name := "kernelAt", desc := "(II)J" } : Jvm.MethodName)) ∈ wd := wd_t (List.mem_of_getElem? (i := 717) (by decide +kernel)) rfl
theorem k_718 : (Jvm.Cond.code ({ cls := "LeastSolutions", name := "kernelAt", desc := "(II)J" } : Jvm.MethodName) prog_1_method_10_code (3 : Nat) (Option.some Jvm.ClassFile.FieldType.long)) ∈ wd := wd_t (List.mem_of_getElem? (i := 718) (by decide +kernel)) rfl
theorem k_730 : (Jvm.Cond.classLink "LeastSolutionsLaw" (31 : Nat) "java/lang/IllegalArgumentException") ∈ wd := wd_t (List.mem_of_getElem? (i := 730) (by decide +kernel)) rfl
theorem k_731 : (Jvm.Cond.methodLink "LeastSolutionsLaw" (28 : Nat) ({ cls := "LeastSolutions", name := "work", desc := "(II)I" } : Jvm.MethodName)) ∈ wd := wd_t (List.mem_of_getElem? (i := 731) (by decide +kernel)) rfl
theorem k_732 : (Jvm.Cond.instanceMethod ({ cls := "LeastSolutions", name := "work", desc := "(II)I" } : Jvm.MethodName)) ∈ wd := wd_t (List.mem_of_getElem? (i := 732) (by decide +kernel)) rfl
theorem k_733 : (Jvm.Cond.selects "LeastSolutions" ({ cls := "LeastSolutions", name := "work", desc := "(II)I" } : Jvm.MethodName) ({ cls := "LeastSolutions", name := "work", desc := "(II)I" } : Jvm.MethodName)) ∈ wd := wd_t (List.mem_of_getElem? (i := 733) (by decide +kernel)) rfl
theorem k_734 : (Jvm.Cond.code ({ cls := "LeastSolutions", name := "work", desc := "(II)I" } : Jvm.MethodName) prog_1_method_11_code (4 : Nat) (Option.some Jvm.ClassFile.FieldType.int)) ∈ wd := wd_t (List.mem_of_getElem? (i := 734) (by decide +kernel)) rfl
theorem k_823 : (Jvm.Cond.methodLink "LeastSolutionsLaw" (33 : Nat) ({ cls := "LeastSolutions", name := "at", desc := "(III)I" } : Jvm.MethodName)) ∈ wd := wd_t (List.mem_of_getElem? (i := 823) (by decide +kernel)) rfl
theorem k_824 : (Jvm.Cond.instanceMethod ({ cls := "LeastSolutions", name := "at", desc := "(III)I" } : Jvm.MethodName)) ∈ wd := wd_t (List.mem_of_getElem? (i := 824) (by decide +kernel)) rfl
theorem k_825 : (Jvm.Cond.selects "LeastSolutions" ({ cls := "LeastSolutions", name := "at", desc := "(III)I" } : Jvm.MethodName) ({ cls := "LeastSolutions", name := "at", desc := "(III)I" } : Jvm.MethodName)) ∈ wd := wd_t (List.mem_of_getElem? (i := 825) (by decide +kernel)) rfl
theorem k_826 : (Jvm.Cond.code ({ cls := "LeastSolutions", name := "at", desc := "(III)I" } : Jvm.MethodName) prog_1_method_12_code (4 : Nat) (Option.some Jvm.ClassFile.FieldType.int)) ∈ wd := wd_t (List.mem_of_getElem? (i := 826) (by decide +kernel)) rfl
theorem k_831 : (Jvm.Cond.methodLink "LeastSolutionsLaw" (37 : Nat) ({ cls := "LeastSolutions", name := "tell", desc := "(II)V" } : Jvm.MethodName)) ∈ wd := wd_t (List.mem_of_getElem? (i := 831) (by decide +kernel)) rfl
theorem k_832 : (Jvm.Cond.instanceMethod ({ cls := "LeastSolutions", name := "tell", desc := "(II)V" } : Jvm.MethodName)) ∈ wd := wd_t (List.mem_of_getElem? (i := 832) (by decide +kernel)) rfl
theorem k_833 : (Jvm.Cond.selects "LeastSolutions" ({ cls := "LeastSolutions", name := "tell", desc := "(II)V" } : Jvm.MethodName) ({ cls := "LeastSolutions", name := "tell", desc := "(II)V" } : Jvm.MethodName)) ∈ wd := wd_t (List.mem_of_getElem? (i := 833) (by decide +kernel)) rfl
theorem k_834 : (Jvm.Cond.code ({ cls := "LeastSolutions", name := "tell", desc := "(II)V" } : Jvm.MethodName) prog_1_method_13_code (3 : Nat) (Option.none : Option Jvm.ClassFile.FieldType)) ∈ wd := wd_t (List.mem_of_getElem? (i := 834) (by decide +kernel)) rfl
theorem k_841 : (Jvm.Cond.methodLink "LeastSolutionsLaw" (41 : Nat) ({ cls := "LeastSolutions", name := "holds", desc := "()I" } : Jvm.MethodName)) ∈ wd := wd_t (List.mem_of_getElem? (i := 841) (by decide +kernel)) rfl
theorem k_842 : (Jvm.Cond.instanceMethod ({ cls := "LeastSolutions", name := "holds", desc := "()I" } : Jvm.MethodName)) ∈ wd := wd_t (List.mem_of_getElem? (i := 842) (by decide +kernel)) rfl
theorem k_843 : (Jvm.Cond.selects "LeastSolutions" ({ cls := "LeastSolutions", name := "holds", desc := "()I" } : Jvm.MethodName) ({ cls := "LeastSolutions", name := "holds", desc := "()I" } : Jvm.MethodName)) ∈ wd := wd_t (List.mem_of_getElem? (i := 843) (by decide +kernel)) rfl
theorem k_844 : (Jvm.Cond.code ({ cls := "LeastSolutions", name := "holds", desc := "()I" } : Jvm.MethodName) prog_1_method_14_code (1 : Nat) (Option.some Jvm.ClassFile.FieldType.int)) ∈ wd := wd_t (List.mem_of_getElem? (i := 844) (by decide +kernel)) rfl
theorem k_848 : (Jvm.Cond.methodLink "LeastSolutionsLaw" (44 : Nat) ({ cls := "LeastSolutions", name := "cost", desc := "(II)V" } : Jvm.MethodName)) ∈ wd := wd_t (List.mem_of_getElem? (i := 848) (by decide +kernel)) rfl
theorem k_849 : (Jvm.Cond.instanceMethod ({ cls := "LeastSolutions", name := "cost", desc := "(II)V" } : Jvm.MethodName)) ∈ wd := wd_t (List.mem_of_getElem? (i := 849) (by decide +kernel)) rfl
theorem k_850 : (Jvm.Cond.selects "LeastSolutions" ({ cls := "LeastSolutions", name := "cost", desc := "(II)V" } : Jvm.MethodName) ({ cls := "LeastSolutions", name := "cost", desc := "(II)V" } : Jvm.MethodName)) ∈ wd := wd_t (List.mem_of_getElem? (i := 850) (by decide +kernel)) rfl
theorem k_851 : (Jvm.Cond.code ({ cls := "LeastSolutions", name := "cost", desc := "(II)V" } : Jvm.MethodName) prog_1_method_17_code (3 : Nat) (Option.none : Option Jvm.ClassFile.FieldType)) ∈ wd := wd_t (List.mem_of_getElem? (i := 851) (by decide +kernel)) rfl
theorem k_856 : (Jvm.Cond.methodLink "LeastSolutionsLaw" (47 : Nat) ({ cls := "LeastSolutions", name := "best", desc := "(I)I" } : Jvm.MethodName)) ∈ wd := wd_t (List.mem_of_getElem? (i := 856) (by decide +kernel)) rfl
theorem k_857 : (Jvm.Cond.instanceMethod ({ cls := "LeastSolutions", name := "best", desc := "(I)I" } : Jvm.MethodName)) ∈ wd := wd_t (List.mem_of_getElem? (i := 857) (by decide +kernel)) rfl
theorem k_858 : (Jvm.Cond.selects "LeastSolutions" ({ cls := "LeastSolutions", name := "best", desc := "(I)I" } : Jvm.MethodName) ({ cls := "LeastSolutions", name := "best", desc := "(I)I" } : Jvm.MethodName)) ∈ wd := wd_t (List.mem_of_getElem? (i := 858) (by decide +kernel)) rfl
theorem k_859 : (Jvm.Cond.code ({ cls := "LeastSolutions", name := "best", desc := "(I)I" } : Jvm.MethodName) prog_1_method_18_code (2 : Nat) (Option.some Jvm.ClassFile.FieldType.int)) ∈ wd := wd_t (List.mem_of_getElem? (i := 859) (by decide +kernel)) rfl
abbrev y_LW_at : MethodName := ⟨"LeastSolutionsLaw", "at", "(LLeastSolutions;III[J)I"⟩
abbrev b_LW_at : ByteArray := method_8_code
abbrev y_LW_best : MethodName := ⟨"LeastSolutionsLaw", "best", "(LLeastSolutions;I[J)I"⟩
abbrev b_LW_best : ByteArray := method_12_code
abbrev y_LW_cost : MethodName := ⟨"LeastSolutionsLaw", "cost", "(LLeastSolutions;II)I"⟩
abbrev b_LW_cost : ByteArray := method_11_code
abbrev y_LW_holds : MethodName := ⟨"LeastSolutionsLaw", "holds", "(LLeastSolutions;[J)I"⟩
abbrev b_LW_holds : ByteArray := method_10_code
abbrev y_LW_kernel : MethodName := ⟨"LeastSolutionsLaw", "kernel", "(LLeastSolutions;[J)I"⟩
abbrev b_LW_kernel : ByteArray := method_5_code
abbrev y_LW_kernelAt : MethodName := ⟨"LeastSolutionsLaw", "kernelAt", "(LLeastSolutions;II[J)I"⟩
abbrev b_LW_kernelAt : ByteArray := method_6_code
abbrev y_LW_number : MethodName := ⟨"LeastSolutionsLaw", "number", "(LLeastSolutions;II[J)I"⟩
abbrev b_LW_number : ByteArray := method_3_code
abbrev y_LW_solvable : MethodName := ⟨"LeastSolutionsLaw", "solvable", "(LLeastSolutions;[J)I"⟩
abbrev b_LW_solvable : ByteArray := method_4_code
abbrev y_LW_tell : MethodName := ⟨"LeastSolutionsLaw", "tell", "(LLeastSolutions;II)I"⟩
abbrev b_LW_tell : ByteArray := method_9_code
abbrev y_LW_work : MethodName := ⟨"LeastSolutionsLaw", "work", "(LLeastSolutions;II[J)I"⟩
abbrev b_LW_work : ByteArray := method_7_code
theorem d_LW_at_0 : decode b_LW_at 0 = .ok (.aload 4, 2) := by decide +kernel
theorem d_LW_at_2 : decode b_LW_at 2 = .ok (.iconst 0, 1) := by decide +kernel
theorem d_LW_at_3 : decode b_LW_at 3 = .ok (.aload_n 0, 1) := by decide +kernel
theorem d_LW_at_4 : decode b_LW_at 4 = .ok (.iload_n 1, 1) := by decide +kernel
theorem d_LW_at_5 : decode b_LW_at 5 = .ok (.iload_n 2, 1) := by decide +kernel
theorem d_LW_at_6 : decode b_LW_at 6 = .ok (.iload_n 3, 1) := by decide +kernel
theorem d_LW_at_7 : decode b_LW_at 7 = .ok (.invokevirtual 33, 3) := by decide +kernel
theorem d_LW_at_15 : decode b_LW_at 15 = .ok (.astore 5, 2) := by decide +kernel
theorem d_LW_at_17 : decode b_LW_at 17 = .ok (.iconst 1, 1) := by decide +kernel
theorem d_LW_at_18 : decode b_LW_at 18 = .ok (.ireturn, 1) := by decide +kernel
theorem d_LW_best_0 : decode b_LW_best 0 = .ok (.aload_n 2, 1) := by decide +kernel
theorem d_LW_best_1 : decode b_LW_best 1 = .ok (.iconst 0, 1) := by decide +kernel
theorem d_LW_best_2 : decode b_LW_best 2 = .ok (.aload_n 0, 1) := by decide +kernel
theorem d_LW_best_3 : decode b_LW_best 3 = .ok (.iload_n 1, 1) := by decide +kernel
theorem d_LW_best_4 : decode b_LW_best 4 = .ok (.invokevirtual 47, 3) := by decide +kernel
theorem d_LW_best_12 : decode b_LW_best 12 = .ok (.astore_n 3, 1) := by decide +kernel
theorem d_LW_best_13 : decode b_LW_best 13 = .ok (.iconst 1, 1) := by decide +kernel
theorem d_LW_best_14 : decode b_LW_best 14 = .ok (.ireturn, 1) := by decide +kernel
theorem d_LW_best_15 : decode b_LW_best 15 = .ok (.astore_n 3, 1) := by decide +kernel
theorem d_LW_best_16 : decode b_LW_best 16 = .ok (.iconst 2, 1) := by decide +kernel
theorem d_LW_best_17 : decode b_LW_best 17 = .ok (.ireturn, 1) := by decide +kernel
theorem d_LW_cost_0 : decode b_LW_cost 0 = .ok (.aload_n 0, 1) := by decide +kernel
theorem d_LW_cost_1 : decode b_LW_cost 1 = .ok (.iload_n 1, 1) := by decide +kernel
theorem d_LW_cost_2 : decode b_LW_cost 2 = .ok (.iload_n 2, 1) := by decide +kernel
theorem d_LW_cost_3 : decode b_LW_cost 3 = .ok (.invokevirtual 44, 3) := by decide +kernel
theorem d_LW_cost_9 : decode b_LW_cost 9 = .ok (.astore_n 3, 1) := by decide +kernel
theorem d_LW_cost_10 : decode b_LW_cost 10 = .ok (.iconst 1, 1) := by decide +kernel
theorem d_LW_cost_11 : decode b_LW_cost 11 = .ok (.ireturn, 1) := by decide +kernel
theorem d_LW_holds_0 : decode b_LW_holds 0 = .ok (.aload_n 1, 1) := by decide +kernel
theorem d_LW_holds_1 : decode b_LW_holds 1 = .ok (.iconst 0, 1) := by decide +kernel
theorem d_LW_holds_2 : decode b_LW_holds 2 = .ok (.aload_n 0, 1) := by decide +kernel
theorem d_LW_holds_3 : decode b_LW_holds 3 = .ok (.invokevirtual 41, 3) := by decide +kernel
theorem d_LW_holds_11 : decode b_LW_holds 11 = .ok (.astore_n 2, 1) := by decide +kernel
theorem d_LW_holds_12 : decode b_LW_holds 12 = .ok (.iconst 1, 1) := by decide +kernel
theorem d_LW_holds_13 : decode b_LW_holds 13 = .ok (.ireturn, 1) := by decide +kernel
theorem d_LW_kernel_0 : decode b_LW_kernel 0 = .ok (.aload_n 1, 1) := by decide +kernel
theorem d_LW_kernel_1 : decode b_LW_kernel 1 = .ok (.iconst 0, 1) := by decide +kernel
theorem d_LW_kernel_2 : decode b_LW_kernel 2 = .ok (.aload_n 0, 1) := by decide +kernel
theorem d_LW_kernel_3 : decode b_LW_kernel 3 = .ok (.invokevirtual 21, 3) := by decide +kernel
theorem d_LW_kernel_11 : decode b_LW_kernel 11 = .ok (.astore_n 2, 1) := by decide +kernel
theorem d_LW_kernel_12 : decode b_LW_kernel 12 = .ok (.iconst 1, 1) := by decide +kernel
theorem d_LW_kernel_13 : decode b_LW_kernel 13 = .ok (.ireturn, 1) := by decide +kernel
theorem d_LW_kernelAt_0 : decode b_LW_kernelAt 0 = .ok (.aload_n 3, 1) := by decide +kernel
theorem d_LW_kernelAt_1 : decode b_LW_kernelAt 1 = .ok (.iconst 0, 1) := by decide +kernel
theorem d_LW_kernelAt_2 : decode b_LW_kernelAt 2 = .ok (.aload_n 0, 1) := by decide +kernel
theorem d_LW_kernelAt_3 : decode b_LW_kernelAt 3 = .ok (.iload_n 1, 1) := by decide +kernel
theorem d_LW_kernelAt_4 : decode b_LW_kernelAt 4 = .ok (.iload_n 2, 1) := by decide +kernel
theorem d_LW_kernelAt_5 : decode b_LW_kernelAt 5 = .ok (.invokevirtual 24, 3) := by decide +kernel
theorem d_LW_kernelAt_12 : decode b_LW_kernelAt 12 = .ok (.astore 4, 2) := by decide +kernel
theorem d_LW_kernelAt_14 : decode b_LW_kernelAt 14 = .ok (.iconst 1, 1) := by decide +kernel
theorem d_LW_kernelAt_15 : decode b_LW_kernelAt 15 = .ok (.ireturn, 1) := by decide +kernel
theorem d_LW_number_0 : decode b_LW_number 0 = .ok (.aload_n 3, 1) := by decide +kernel
theorem d_LW_number_1 : decode b_LW_number 1 = .ok (.iconst 0, 1) := by decide +kernel
theorem d_LW_number_2 : decode b_LW_number 2 = .ok (.aload_n 0, 1) := by decide +kernel
theorem d_LW_number_3 : decode b_LW_number 3 = .ok (.iload_n 1, 1) := by decide +kernel
theorem d_LW_number_4 : decode b_LW_number 4 = .ok (.iload_n 2, 1) := by decide +kernel
theorem d_LW_number_5 : decode b_LW_number 5 = .ok (.invokevirtual 7, 3) := by decide +kernel
theorem d_LW_number_13 : decode b_LW_number 13 = .ok (.astore 4, 2) := by decide +kernel
theorem d_LW_number_15 : decode b_LW_number 15 = .ok (.iconst 1, 1) := by decide +kernel
theorem d_LW_number_16 : decode b_LW_number 16 = .ok (.ireturn, 1) := by decide +kernel
theorem d_LW_solvable_0 : decode b_LW_solvable 0 = .ok (.aload_n 1, 1) := by decide +kernel
theorem d_LW_solvable_1 : decode b_LW_solvable 1 = .ok (.iconst 0, 1) := by decide +kernel
theorem d_LW_solvable_2 : decode b_LW_solvable 2 = .ok (.aload_n 0, 1) := by decide +kernel
theorem d_LW_solvable_3 : decode b_LW_solvable 3 = .ok (.invokevirtual 15, 3) := by decide +kernel
theorem d_LW_solvable_11 : decode b_LW_solvable 11 = .ok (.astore_n 2, 1) := by decide +kernel
theorem d_LW_solvable_12 : decode b_LW_solvable 12 = .ok (.iconst 1, 1) := by decide +kernel
theorem d_LW_solvable_13 : decode b_LW_solvable 13 = .ok (.ireturn, 1) := by decide +kernel
theorem d_LW_tell_0 : decode b_LW_tell 0 = .ok (.aload_n 0, 1) := by decide +kernel
theorem d_LW_tell_1 : decode b_LW_tell 1 = .ok (.iload_n 1, 1) := by decide +kernel
theorem d_LW_tell_2 : decode b_LW_tell 2 = .ok (.iload_n 2, 1) := by decide +kernel
theorem d_LW_tell_3 : decode b_LW_tell 3 = .ok (.invokevirtual 37, 3) := by decide +kernel
theorem d_LW_tell_9 : decode b_LW_tell 9 = .ok (.astore_n 3, 1) := by decide +kernel
theorem d_LW_tell_10 : decode b_LW_tell 10 = .ok (.iconst 1, 1) := by decide +kernel
theorem d_LW_tell_11 : decode b_LW_tell 11 = .ok (.ireturn, 1) := by decide +kernel
theorem d_LW_work_0 : decode b_LW_work 0 = .ok (.aload_n 3, 1) := by decide +kernel
theorem d_LW_work_1 : decode b_LW_work 1 = .ok (.iconst 0, 1) := by decide +kernel
theorem d_LW_work_2 : decode b_LW_work 2 = .ok (.aload_n 0, 1) := by decide +kernel
theorem d_LW_work_3 : decode b_LW_work 3 = .ok (.iload_n 1, 1) := by decide +kernel
theorem d_LW_work_4 : decode b_LW_work 4 = .ok (.iload_n 2, 1) := by decide +kernel
theorem d_LW_work_5 : decode b_LW_work 5 = .ok (.invokevirtual 28, 3) := by decide +kernel
theorem d_LW_work_13 : decode b_LW_work 13 = .ok (.astore 4, 2) := by decide +kernel
theorem d_LW_work_15 : decode b_LW_work 15 = .ok (.iconst 1, 1) := by decide +kernel
theorem d_LW_work_16 : decode b_LW_work 16 = .ok (.ireturn, 1) := by decide +kernel
theorem d_LW_work_17 : decode b_LW_work 17 = .ok (.astore 4, 2) := by decide +kernel
theorem d_LW_work_19 : decode b_LW_work 19 = .ok (.iconst 2, 1) := by decide +kernel
theorem d_LW_work_20 : decode b_LW_work 20 = .ok (.ireturn, 1) := by decide +kernel
