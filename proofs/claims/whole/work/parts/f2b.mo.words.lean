theorem k_1090 : (Jvm.Cond.methodLink "LeastSolutionsModel" (171 : Nat) ({ cls := "LeastSolutionsModel", name := "gather", desc := "(II)Z" } : Jvm.MethodName)) ∈ wd := wd_t (List.mem_of_getElem? (i := 1090) (by decide +kernel)) rfl
theorem k_1092 : (Jvm.Cond.instanceMethod ({ cls := "LeastSolutionsModel", name := "gather", desc := "(II)Z" } : Jvm.MethodName)) ∈ wd := wd_t (List.mem_of_getElem? (i := 1092) (by decide +kernel)) rfl
theorem k_1093 : (Jvm.Cond.code ({ cls := "LeastSolutionsModel", name := "gather", desc := "(II)Z" } : Jvm.MethodName) prog_12_method_23_code (11 : Nat) (Option.some Jvm.ClassFile.FieldType.boolean)) ∈ wd := wd_t (List.mem_of_getElem? (i := 1093) (by decide +kernel)) rfl
abbrev y_MO_order : MethodName := ⟨"LeastSolutionsModel", "order", "()V"⟩
abbrev b_MO_order : ByteArray := prog_12_method_24_code
theorem ks_MO_gather : Cond.selects "LeastSolutionsModel" ({ cls := "LeastSolutionsModel", name := "gather", desc := "(II)Z" } : Jvm.MethodName) ({ cls := "LeastSolutionsModel", name := "gather", desc := "(II)Z" } : Jvm.MethodName) ∈ wd := wd_p (q := (⟨"LeastSolutionsModel", "gather", "(II)Z"⟩, 36)) (List.mem_of_getElem? (i := 49) (by decide +kernel))
