theorem k_731 : (Jvm.Cond.methodLink "LeastSolutionsLaw" (28 : Nat) ({ cls := "LeastSolutions", name := "work", desc := "(II)I" } : Jvm.MethodName)) ∈ wd := wd_t (List.mem_of_getElem? (i := 731) (by decide +kernel)) rfl
theorem k_732 : (Jvm.Cond.instanceMethod ({ cls := "LeastSolutions", name := "work", desc := "(II)I" } : Jvm.MethodName)) ∈ wd := wd_t (List.mem_of_getElem? (i := 732) (by decide +kernel)) rfl
theorem k_733 : (Jvm.Cond.selects "LeastSolutions" ({ cls := "LeastSolutions", name := "work", desc := "(II)I" } : Jvm.MethodName) ({ cls := "LeastSolutions", name := "work", desc := "(II)I" } : Jvm.MethodName)) ∈ wd := wd_t (List.mem_of_getElem? (i := 733) (by decide +kernel)) rfl
theorem k_734 : (Jvm.Cond.code ({ cls := "LeastSolutions", name := "work", desc := "(II)I" } : Jvm.MethodName) prog_1_method_11_code (4 : Nat) (Option.some Jvm.ClassFile.FieldType.int)) ∈ wd := wd_t (List.mem_of_getElem? (i := 734) (by decide +kernel)) rfl
abbrev y_LW_work : MethodName := ⟨"LeastSolutionsLaw", "work", "(LLeastSolutions;II[J)I"⟩
abbrev b_LW_work : ByteArray := method_7_code
