theorem k_601 : (Jvm.Cond.classLink "LeastSolutionsLaw" (13 : Nat) "java/lang/IndexOutOfBoundsException") ∈ wd := wd_t (List.mem_of_getElem? (i := 601) (by decide +kernel)) rfl
theorem k_602 : (Jvm.Cond.methodLink "LeastSolutionsLaw" (7 : Nat) ({ cls := "LeastSolutions", name := "number", desc := "(II)I" } : Jvm.MethodName)) ∈ wd := wd_t (List.mem_of_getElem? (i := 602) (by decide +kernel)) rfl
theorem k_603 : (Jvm.Cond.instanceMethod ({ cls := "LeastSolutions", name := "number", desc := "(II)I" } : Jvm.MethodName)) ∈ wd := wd_t (List.mem_of_getElem? (i := 603) (by decide +kernel)) rfl
theorem k_604 : (Jvm.Cond.selects "LeastSolutions" ({ cls := "LeastSolutions", name := "number", desc := "(II)I" } : Jvm.MethodName) ({ cls := "LeastSolutions", name := "number", desc := "(II)I" } : Jvm.MethodName)) ∈ wd := wd_t (List.mem_of_getElem? (i := 604) (by decide +kernel)) rfl
theorem k_605 : (Jvm.Cond.code ({ cls := "LeastSolutions", name := "number", desc := "(II)I" } : Jvm.MethodName) prog_1_method_7_code (3 : Nat) (Option.some Jvm.ClassFile.FieldType.int)) ∈ wd := wd_t (List.mem_of_getElem? (i := 605) (by decide +kernel)) rfl
theorem k_673 : (Jvm.Cond.classLink "LeastSolutionsLaw" (19 : Nat) "java/lang/IllegalStateException") ∈ wd := wd_t (List.mem_of_getElem? (i := 673) (by decide +kernel)) rfl
theorem k_674 : (Jvm.Cond.methodLink "LeastSolutionsLaw" (15 : Nat) ({ cls := "LeastSolutions", name := "solvable", desc := "()I" } : Jvm.MethodName)) ∈ wd := wd_t (List.mem_of_getElem? (i := 674) (by decide +kernel)) rfl
theorem k_675 : (Jvm.Cond.instanceMethod ({ cls := "LeastSolutions", name := "solvable", desc := "()I" } : Jvm.MethodName)) ∈ wd := wd_t (List.mem_of_getElem? (i := 675) (by decide +kernel)) rfl
theorem k_676 : (Jvm.Cond.selects "LeastSolutions" ({ cls := "LeastSolutions", name := "solvable", desc := "()I" } : Jvm.MethodName) ({ cls := "LeastSolutions", name := "solvable", desc := "()I" } : Jvm.MethodName)) ∈ wd := wd_t (List.mem_of_getElem? (i := 676) (by decide +kernel)) rfl
theorem k_677 : (Jvm.Cond.code ({ cls := "LeastSolutions", name := "solvable", desc := "()I" } : Jvm.MethodName) prog_1_method_8_code (1 : Nat) (Option.some Jvm.ClassFile.FieldType.int)) ∈ wd := wd_t (List.mem_of_getElem? (i := 677) (by decide +kernel)) rfl
theorem k_708 : (Jvm.Cond.methodLink "LeastSolutionsLaw" (21 : Nat) ({ cls := "LeastSolutions", name := "kernel", desc := "()I" } : Jvm.MethodName)) ∈ wd := wd_t (List.mem_of_getElem? (i := 708) (by decide +kernel)) rfl
theorem k_709 : (Jvm.Cond.instanceMethod ({ cls := "LeastSolutions", name := "kernel", desc := "()I" } : Jvm.MethodName)) ∈ wd := wd_t (List.mem_of_getElem? (i := 709) (by decide +kernel)) rfl
theorem k_710 : (Jvm.Cond.selects "LeastSolutions" ({ cls := "LeastSolutions", name := "kernel", desc := "()I" } : Jvm.MethodName) ({ cls := "LeastSolutions", name := "kernel", desc := "()I" } : Jvm.MethodName)) ∈ wd := wd_t (List.mem_of_getElem? (i := 710) (by decide +kernel)) rfl
theorem k_711 : (Jvm.Cond.code ({ cls := "LeastSolutions", name := "kernel", desc := "()I" } : Jvm.MethodName) prog_1_method_9_code (1 : Nat) (Option.some Jvm.ClassFile.FieldType.int)) ∈ wd := wd_t (List.mem_of_getElem? (i := 711) (by decide +kernel)) rfl
theorem k_715 : (Jvm.Cond.methodLink "LeastSolutionsLaw" (24 : Nat) ({ cls := "LeastSolutions", name := "kernelAt", desc := "(II)J" } : Jvm.MethodName)) ∈ wd := wd_t (List.mem_of_getElem? (i := 715) (by decide +kernel)) rfl
theorem k_716 : (Jvm.Cond.instanceMethod ({ cls := "LeastSolutions", name := "kernelAt", desc := "(II)J" } : Jvm.MethodName)) ∈ wd := wd_t (List.mem_of_getElem? (i := 716) (by decide +kernel)) rfl
theorem k_717 : (Jvm.Cond.selects "LeastSolutions" ({ cls := "LeastSolutions", name := "kernelAt", desc := "(II)J" } : Jvm.MethodName) ({ cls := "LeastSolutions", name := "kernelAt", desc := "(II)J" } : Jvm.MethodName)) ∈ wd := wd_t (List.mem_of_getElem? (i := 717) (by decide +kernel)) rfl
theorem k_718 : (Jvm.Cond.code ({ cls := "LeastSolutions", name := "kernelAt", desc := "(II)J" } : Jvm.MethodName) prog_1_method_10_code (3 : Nat) (Option.some Jvm.ClassFile.FieldType.long)) ∈ wd := wd_t (List.mem_of_getElem? (i := 718) (by decide +kernel)) rfl
theorem k_841 : (Jvm.Cond.methodLink "LeastSolutionsLaw" (41 : Nat) ({ cls := "LeastSolutions", name := "holds", desc := "()I" } : Jvm.MethodName)) ∈ wd := wd_t (List.mem_of_getElem? (i := 841) (by decide +kernel)) rfl
theorem k_842 : (Jvm.Cond.instanceMethod ({ cls := "LeastSolutions", name := "holds", desc := "()I" } : Jvm.MethodName)) ∈ wd := wd_t (List.mem_of_getElem? (i := 842) (by decide +kernel)) rfl
theorem k_843 : (Jvm.Cond.selects "LeastSolutions" ({ cls := "LeastSolutions", name := "holds", desc := "()I" } : Jvm.MethodName) ({ cls := "LeastSolutions", name := "holds", desc := "()I" } : Jvm.MethodName)) ∈ wd := wd_t (List.mem_of_getElem? (i := 843) (by decide +kernel)) rfl
theorem k_844 : (Jvm.Cond.code ({ cls := "LeastSolutions", name := "holds", desc := "()I" } : Jvm.MethodName) prog_1_method_14_code (1 : Nat) (Option.some Jvm.ClassFile.FieldType.int)) ∈ wd := wd_t (List.mem_of_getElem? (i := 844) (by decide +kernel)) rfl
abbrev y_LW_holds : MethodName := ⟨"LeastSolutionsLaw", "holds", "(LLeastSolutions;[J)I"⟩
abbrev b_LW_holds : ByteArray := method_10_code
abbrev y_LW_kernel : MethodName := ⟨"LeastSolutionsLaw", "kernel", "(LLeastSolutions;[J)I"⟩
abbrev b_LW_kernel : ByteArray := method_5_code
abbrev y_LW_kernelAt : MethodName := ⟨"LeastSolutionsLaw", "kernelAt", "(LLeastSolutions;II[J)I"⟩
abbrev b_LW_kernelAt : ByteArray := method_6_code
abbrev y_LW_number : MethodName := ⟨"LeastSolutionsLaw", "number", "(LLeastSolutions;II[J)I"⟩
abbrev b_LW_number : ByteArray := method_3_code
abbrev y_LW_solvable : MethodName := ⟨"LeastSolutionsLaw", "solvable", "(LLeastSolutions;[J)I"⟩
abbrev b_LW_solvable : ByteArray := method_4_code
