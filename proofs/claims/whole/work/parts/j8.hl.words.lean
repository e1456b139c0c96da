theorem k_855 : (Jvm.Cond.classLink "LeastSolutionsLaw" (51 : Nat) "java/util/NoSuchElementException") ∈ wd := wd_t (List.mem_of_getElem? (i := 855) (by decide +kernel)) rfl
theorem k_856 : (Jvm.Cond.methodLink "LeastSolutionsLaw" (47 : Nat) ({ cls := "LeastSolutions", name := "best", desc := "(I)I" } : Jvm.MethodName)) ∈ wd := wd_t (List.mem_of_getElem? (i := 856) (by decide +kernel)) rfl
theorem k_857 : (Jvm.Cond.instanceMethod ({ cls := "LeastSolutions", name := "best", desc := "(I)I" } : Jvm.MethodName)) ∈ wd := wd_t (List.mem_of_getElem? (i := 857) (by decide +kernel)) rfl
theorem k_858 : (Jvm.Cond.selects "LeastSolutions" ({ cls := "LeastSolutions", name := "best", desc := "(I)I" } : Jvm.MethodName) ({ cls := "LeastSolutions", name := "best", desc := "(I)I" } : Jvm.MethodName)) ∈ wd := wd_t (List.mem_of_getElem? (i := 858) (by decide +kernel)) rfl
theorem k_859 : (Jvm.Cond.code ({ cls := "LeastSolutions", name := "best", desc := "(I)I" } : Jvm.MethodName) prog_1_method_18_code (2 : Nat) (Option.some Jvm.ClassFile.FieldType.int)) ∈ wd := wd_t (List.mem_of_getElem? (i := 859) (by decide +kernel)) rfl
abbrev y_LW_best : MethodName := ⟨"LeastSolutionsLaw", "best", "(LLeastSolutions;I[J)I"⟩
abbrev b_LW_best : ByteArray := method_12_code
