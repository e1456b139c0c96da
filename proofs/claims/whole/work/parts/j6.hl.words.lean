theorem k_730 : (Jvm.Cond.classLink "LeastSolutionsLaw" (31 : Nat) "java/lang/IllegalArgumentException") ∈ wd := wd_t (List.mem_of_getElem? (i := 730) (by decide +kernel)) rfl
theorem k_823 : (Jvm.Cond.methodLink "LeastSolutionsLaw" (33 : Nat) ({ cls := "LeastSolutions", name := "at", desc := "(III)I" } : Jvm.MethodName)) ∈ wd := wd_t (List.mem_of_getElem? (i := 823) (by decide +kernel)) rfl
theorem k_824 : (Jvm.Cond.instanceMethod ({ cls := "LeastSolutions", name := "at", desc := "(III)I" } : Jvm.MethodName)) ∈ wd := wd_t (List.mem_of_getElem? (i := 824) (by decide +kernel)) rfl
theorem k_825 : (Jvm.Cond.selects "LeastSolutions" ({ cls := "LeastSolutions", name := "at", desc := "(III)I" } : Jvm.MethodName) ({ cls := "LeastSolutions", name := "at", desc := "(III)I" } : Jvm.MethodName)) ∈ wd := wd_t (List.mem_of_getElem? (i := 825) (by decide +kernel)) rfl
theorem k_826 : (Jvm.Cond.code ({ cls := "LeastSolutions", name := "at", desc := "(III)I" } : Jvm.MethodName) prog_1_method_12_code (4 : Nat) (Option.some Jvm.ClassFile.FieldType.int)) ∈ wd := wd_t (List.mem_of_getElem? (i := 826) (by decide +kernel)) rfl
theorem k_831 : (Jvm.Cond.methodLink "LeastSolutionsLaw" (37 : Nat) ({ cls := "LeastSolutions", name := "tell", desc := "(II)V" } : Jvm.MethodName)) ∈ wd := wd_t (List.mem_of_getElem? (i := 831) (by decide +kernel)) rfl
theorem k_832 : (Jvm.Cond.instanceMethod ({ cls := "LeastSolutions", name := "tell", desc := "(II)V" } : Jvm.MethodName)) ∈ wd := wd_t (List.mem_of_getElem? (i := 832) (by decide +kernel)) rfl
theorem k_833 : (Jvm.Cond.selects "LeastSolutions" ({ cls := "LeastSolutions", name := "tell", desc := "(II)V" } : Jvm.MethodName) ({ cls := "LeastSolutions", name := "tell", desc := "(II)V" } : Jvm.MethodName)) ∈ wd := wd_t (List.mem_of_getElem? (i := 833) (by decide +kernel)) rfl
theorem k_834 : (Jvm.Cond.code ({ cls := "LeastSolutions", name := "tell", desc := "(II)V" } : Jvm.MethodName) prog_1_method_13_code (3 : Nat) (Option.none : Option Jvm.ClassFile.FieldType)) ∈ wd := wd_t (List.mem_of_getElem? (i := 834) (by decide +kernel)) rfl
theorem k_848 : (Jvm.Cond.methodLink "LeastSolutionsLaw" (44 : Nat) ({ cls := "LeastSolutions", name := "cost", desc := "(II)V" } : Jvm.MethodName)) ∈ wd := wd_t (List.mem_of_getElem? (i := 848) (by decide +kernel)) rfl
theorem k_849 : (Jvm.Cond.instanceMethod ({ cls := "LeastSolutions", name := "cost", desc := "(II)V" } : Jvm.MethodName)) ∈ wd := wd_t (List.mem_of_getElem? (i := 849) (by decide +kernel)) rfl
theorem k_850 : (Jvm.Cond.selects "LeastSolutions" ({ cls := "LeastSolutions", name := "cost", desc := "(II)V" } : Jvm.MethodName) ({ cls := "LeastSolutions", name := "cost", desc := "(II)V" } : Jvm.MethodName)) ∈ wd := wd_t (List.mem_of_getElem? (i := 850) (by decide +kernel)) rfl
theorem k_851 : (Jvm.Cond.code ({ cls := "LeastSolutions", name := "cost", desc := "(II)V" } : Jvm.MethodName) prog_1_method_17_code (3 : Nat) (Option.none : Option Jvm.ClassFile.FieldType)) ∈ wd := wd_t (List.mem_of_getElem? (i := 851) (by decide +kernel)) rfl
abbrev y_LW_at : MethodName := ⟨"LeastSolutionsLaw", "at", "(LLeastSolutions;III[J)I"⟩
abbrev b_LW_at : ByteArray := method_8_code
abbrev y_LW_cost : MethodName := ⟨"LeastSolutionsLaw", "cost", "(LLeastSolutions;II)I"⟩
abbrev b_LW_cost : ByteArray := method_11_code
abbrev y_LW_tell : MethodName := ⟨"LeastSolutionsLaw", "tell", "(LLeastSolutions;II)I"⟩
abbrev b_LW_tell : ByteArray := method_9_code
