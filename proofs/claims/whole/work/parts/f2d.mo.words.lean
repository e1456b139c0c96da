theorem k_900 : (Jvm.Cond.fieldLink "LeastSolutionsModel" (133 : Nat) "LeastSolutionsModel" "known" "Z") ∈ wd := wd_t (List.mem_of_getElem? (i := 900) (by decide +kernel)) rfl
theorem k_901 : (Jvm.Cond.fieldLink "LeastSolutionsModel" (137 : Nat) "LeastSolutionsModel" "rows" "I") ∈ wd := wd_t (List.mem_of_getElem? (i := 901) (by decide +kernel)) rfl
theorem k_1063 : (Jvm.Cond.methodLink "LeastSolutionsModel" (191 : Nat) ({ cls := "LeastSolutionsModel", name := "solveWhole", desc := "()V" } : Jvm.MethodName)) ∈ wd := wd_t (List.mem_of_getElem? (i := 1063) (by decide +kernel)) rfl
theorem k_1065 : (Jvm.Cond.instanceMethod ({ cls := "LeastSolutionsModel", name := "solveWhole", desc := "()V" } : Jvm.MethodName)) ∈ wd := wd_t (List.mem_of_getElem? (i := 1065) (by decide +kernel)) rfl
theorem k_1066 : (Jvm.Cond.code ({ cls := "LeastSolutionsModel", name := "solveWhole", desc := "()V" } : Jvm.MethodName) prog_12_method_27_code (2 : Nat) (Option.none : Option Jvm.ClassFile.FieldType)) ∈ wd := wd_t (List.mem_of_getElem? (i := 1066) (by decide +kernel)) rfl
theorem k_1067 : (Jvm.Cond.methodLink "LeastSolutionsModel" (182 : Nat) ({ cls := "LeastSolutionsModel", name := "narrow", desc := "(I)V" } : Jvm.MethodName)) ∈ wd := wd_t (List.mem_of_getElem? (i := 1067) (by decide +kernel)) rfl
theorem k_1069 : (Jvm.Cond.instanceMethod ({ cls := "LeastSolutionsModel", name := "narrow", desc := "(I)V" } : Jvm.MethodName)) ∈ wd := wd_t (List.mem_of_getElem? (i := 1069) (by decide +kernel)) rfl
theorem k_1070 : (Jvm.Cond.code ({ cls := "LeastSolutionsModel", name := "narrow", desc := "(I)V" } : Jvm.MethodName) prog_12_method_25_code (9 : Nat) (Option.none : Option Jvm.ClassFile.FieldType)) ∈ wd := wd_t (List.mem_of_getElem? (i := 1070) (by decide +kernel)) rfl
theorem k_1086 : (Jvm.Cond.methodLink "LeastSolutionsModel" (185 : Nat) ({ cls := "LeastSolutionsModel", name := "order", desc := "()V" } : Jvm.MethodName)) ∈ wd := wd_t (List.mem_of_getElem? (i := 1086) (by decide +kernel)) rfl
theorem k_1088 : (Jvm.Cond.instanceMethod ({ cls := "LeastSolutionsModel", name := "order", desc := "()V" } : Jvm.MethodName)) ∈ wd := wd_t (List.mem_of_getElem? (i := 1088) (by decide +kernel)) rfl
theorem k_1089 : (Jvm.Cond.code ({ cls := "LeastSolutionsModel", name := "order", desc := "()V" } : Jvm.MethodName) prog_12_method_24_code (8 : Nat) (Option.none : Option Jvm.ClassFile.FieldType)) ∈ wd := wd_t (List.mem_of_getElem? (i := 1089) (by decide +kernel)) rfl
theorem k_1098 : (Jvm.Cond.methodLink "LeastSolutionsModel" (188 : Nat) ({ cls := "LeastSolutionsModel", name := "shorten", desc := "()V" } : Jvm.MethodName)) ∈ wd := wd_t (List.mem_of_getElem? (i := 1098) (by decide +kernel)) rfl
theorem k_1100 : (Jvm.Cond.instanceMethod ({ cls := "LeastSolutionsModel", name := "shorten", desc := "()V" } : Jvm.MethodName)) ∈ wd := wd_t (List.mem_of_getElem? (i := 1100) (by decide +kernel)) rfl
theorem k_1101 : (Jvm.Cond.code ({ cls := "LeastSolutionsModel", name := "shorten", desc := "()V" } : Jvm.MethodName) prog_12_method_26_code (6 : Nat) (Option.none : Option Jvm.ClassFile.FieldType)) ∈ wd := wd_t (List.mem_of_getElem? (i := 1101) (by decide +kernel)) rfl
theorem k_1110 : (Jvm.Cond.methodLink "LeastSolutionsModel" (194 : Nat) ({ cls := "LeastSolutionsModel", name := "isColumn", desc := "(I)Z" } : Jvm.MethodName)) ∈ wd := wd_t (List.mem_of_getElem? (i := 1110) (by decide +kernel)) rfl
theorem k_1112 : (Jvm.Cond.instanceMethod ({ cls := "LeastSolutionsModel", name := "isColumn", desc := "(I)Z" } : Jvm.MethodName)) ∈ wd := wd_t (List.mem_of_getElem? (i := 1112) (by decide +kernel)) rfl
theorem k_1113 : (Jvm.Cond.code ({ cls := "LeastSolutionsModel", name := "isColumn", desc := "(I)Z" } : Jvm.MethodName) prog_12_method_16_code (2 : Nat) (Option.some Jvm.ClassFile.FieldType.boolean)) ∈ wd := wd_t (List.mem_of_getElem? (i := 1113) (by decide +kernel)) rfl
abbrev y_MO_isColumn : MethodName := ⟨"LeastSolutionsModel", "isColumn", "(I)Z"⟩
abbrev b_MO_isColumn : ByteArray := prog_12_method_16_code
abbrev y_MO_kernel : MethodName := ⟨"LeastSolutionsModel", "kernel", "()I"⟩
abbrev b_MO_kernel : ByteArray := prog_12_method_29_code
abbrev y_MO_kernelAt : MethodName := ⟨"LeastSolutionsModel", "kernelAt", "(II)J"⟩
abbrev b_MO_kernelAt : ByteArray := prog_12_method_30_code
abbrev y_MO_shorten : MethodName := ⟨"LeastSolutionsModel", "shorten", "()V"⟩
abbrev b_MO_shorten : ByteArray := prog_12_method_26_code
abbrev y_MO_solvable : MethodName := ⟨"LeastSolutionsModel", "solvable", "()I"⟩
abbrev b_MO_solvable : ByteArray := prog_12_method_28_code
abbrev y_MO_solveWhole : MethodName := ⟨"LeastSolutionsModel", "solveWhole", "()V"⟩
abbrev b_MO_solveWhole : ByteArray := prog_12_method_27_code
theorem ks_MO_isColumn : Cond.selects "LeastSolutionsModel" ({ cls := "LeastSolutionsModel", name := "isColumn", desc := "(I)Z" } : Jvm.MethodName) ({ cls := "LeastSolutionsModel", name := "isColumn", desc := "(I)Z" } : Jvm.MethodName) ∈ wd := wd_p (q := (⟨"LeastSolutionsModel", "isColumn", "(I)Z"⟩, 36)) (List.mem_of_getElem? (i := 52) (by decide +kernel))
theorem ks_MO_narrow : Cond.selects "LeastSolutionsModel" ({ cls := "LeastSolutionsModel", name := "narrow", desc := "(I)V" } : Jvm.MethodName) ({ cls := "LeastSolutionsModel", name := "narrow", desc := "(I)V" } : Jvm.MethodName) ∈ wd := wd_p (q := (⟨"LeastSolutionsModel", "narrow", "(I)V"⟩, 36)) (List.mem_of_getElem? (i := 44) (by decide +kernel))
theorem ks_MO_order : Cond.selects "LeastSolutionsModel" ({ cls := "LeastSolutionsModel", name := "order", desc := "()V" } : Jvm.MethodName) ({ cls := "LeastSolutionsModel", name := "order", desc := "()V" } : Jvm.MethodName) ∈ wd := wd_p (q := (⟨"LeastSolutionsModel", "order", "()V"⟩, 36)) (List.mem_of_getElem? (i := 48) (by decide +kernel))
theorem ks_MO_shorten : Cond.selects "LeastSolutionsModel" ({ cls := "LeastSolutionsModel", name := "shorten", desc := "()V" } : Jvm.MethodName) ({ cls := "LeastSolutionsModel", name := "shorten", desc := "()V" } : Jvm.MethodName) ∈ wd := wd_p (q := (⟨"LeastSolutionsModel", "shorten", "()V"⟩, 36)) (List.mem_of_getElem? (i := 51) (by decide +kernel))
theorem ks_MO_solveWhole : Cond.selects "LeastSolutionsModel" ({ cls := "LeastSolutionsModel", name := "solveWhole", desc := "()V" } : Jvm.MethodName) ({ cls := "LeastSolutionsModel", name := "solveWhole", desc := "()V" } : Jvm.MethodName) ∈ wd := wd_p (q := (⟨"LeastSolutionsModel", "solveWhole", "()V"⟩, 36)) (List.mem_of_getElem? (i := 43) (by decide +kernel))
