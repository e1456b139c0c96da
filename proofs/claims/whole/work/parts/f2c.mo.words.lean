theorem k_918 : (Jvm.Cond.fieldLink "LeastSolutionsModel" (72 : Nat) "LeastSolutionsModel" "one" "[J") ∈ wd := wd_t (List.mem_of_getElem? (i := 918) (by decide +kernel)) rfl
theorem k_919 : (Jvm.Cond.fieldLink "LeastSolutionsModel" (179 : Nat) "LeastSolutionsModel" "isOne" "Z") ∈ wd := wd_t (List.mem_of_getElem? (i := 919) (by decide +kernel)) rfl
theorem k_1071 : (Jvm.Cond.methodLink "LeastSolutionsModel" (175 : Nat) ({ cls := "LeastSolutionsModel", name := "dot", desc := "(I[JI)J" } : Jvm.MethodName)) ∈ wd := wd_t (List.mem_of_getElem? (i := 1071) (by decide +kernel)) rfl
theorem k_1073 : (Jvm.Cond.instanceMethod ({ cls := "LeastSolutionsModel", name := "dot", desc := "(I[JI)J" } : Jvm.MethodName)) ∈ wd := wd_t (List.mem_of_getElem? (i := 1073) (by decide +kernel)) rfl
theorem k_1074 : (Jvm.Cond.code ({ cls := "LeastSolutionsModel", name := "dot", desc := "(I[JI)J" } : Jvm.MethodName) prog_12_method_18_code (7 : Nat) (Option.some Jvm.ClassFile.FieldType.long)) ∈ wd := wd_t (List.mem_of_getElem? (i := 1074) (by decide +kernel)) rfl
abbrev y_MO_narrow : MethodName := ⟨"LeastSolutionsModel", "narrow", "(I)V"⟩
abbrev b_MO_narrow : ByteArray := prog_12_method_25_code
theorem ks_MO_dot : Cond.selects "LeastSolutionsModel" ({ cls := "LeastSolutionsModel", name := "dot", desc := "(I[JI)J" } : Jvm.MethodName) ({ cls := "LeastSolutionsModel", name := "dot", desc := "(I[JI)J" } : Jvm.MethodName) ∈ wd := wd_p (q := (⟨"LeastSolutionsModel", "dot", "(I[JI)J"⟩, 36)) (List.mem_of_getElem? (i := 45) (by decide +kernel))
