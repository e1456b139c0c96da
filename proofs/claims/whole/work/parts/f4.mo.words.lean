theorem k_909 : (Jvm.Cond.fieldLink "LeastSolutionsModel" (52 : Nat) "LeastSolutionsModel" "lists" "[B") ∈ wd := wd_t (List.mem_of_getElem? (i := 909) (by decide +kernel)) rfl
theorem k_913 : (Jvm.Cond.fieldLink "LeastSolutionsModel" (62 : Nat) "LeastSolutionsModel" "times" "[I") ∈ wd := wd_t (List.mem_of_getElem? (i := 913) (by decide +kernel)) rfl
theorem k_915 : (Jvm.Cond.fieldLink "LeastSolutionsModel" (65 : Nat) "LeastSolutionsModel" "bestOne" "[I") ∈ wd := wd_t (List.mem_of_getElem? (i := 915) (by decide +kernel)) rfl
theorem k_1130 : (Jvm.Cond.methodLink "LeastSolutionsModel" (198 : Nat) ({ cls := "LeastSolutionsModel", name := "solves", desc := "([IZ)Z" } : Jvm.MethodName)) ∈ wd := wd_t (List.mem_of_getElem? (i := 1130) (by decide +kernel)) rfl
theorem k_1132 : (Jvm.Cond.instanceMethod ({ cls := "LeastSolutionsModel", name := "solves", desc := "([IZ)Z" } : Jvm.MethodName)) ∈ wd := wd_t (List.mem_of_getElem? (i := 1132) (by decide +kernel)) rfl
theorem k_1133 : (Jvm.Cond.code ({ cls := "LeastSolutionsModel", name := "solves", desc := "([IZ)Z" } : Jvm.MethodName) prog_12_method_31_code (7 : Nat) (Option.some Jvm.ClassFile.FieldType.boolean)) ∈ wd := wd_t (List.mem_of_getElem? (i := 1133) (by decide +kernel)) rfl
theorem k_1162 : (Jvm.Cond.methodLink "LeastSolutionsModel" (227 : Nat) ({ cls := "LeastSolutionsModel", name := "isPlain", desc := "()Z" } : Jvm.MethodName)) ∈ wd := wd_t (List.mem_of_getElem? (i := 1162) (by decide +kernel)) rfl
theorem k_1164 : (Jvm.Cond.instanceMethod ({ cls := "LeastSolutionsModel", name := "isPlain", desc := "()Z" } : Jvm.MethodName)) ∈ wd := wd_t (List.mem_of_getElem? (i := 1164) (by decide +kernel)) rfl
theorem k_1165 : (Jvm.Cond.code ({ cls := "LeastSolutionsModel", name := "isPlain", desc := "()Z" } : Jvm.MethodName) prog_12_method_42_code (3 : Nat) (Option.some Jvm.ClassFile.FieldType.boolean)) ∈ wd := wd_t (List.mem_of_getElem? (i := 1165) (by decide +kernel)) rfl
abbrev y_MO_at : MethodName := ⟨"LeastSolutionsModel", "at", "(III)I"⟩
abbrev b_MO_at : ByteArray := prog_12_method_40_code
abbrev y_MO_bestAt : MethodName := ⟨"LeastSolutionsModel", "bestAt", "(I)I"⟩
abbrev b_MO_bestAt : ByteArray := prog_12_method_49_code
abbrev y_MO_cost : MethodName := ⟨"LeastSolutionsModel", "cost", "(II)V"⟩
abbrev b_MO_cost : ByteArray := prog_12_method_46_code
abbrev y_MO_count : MethodName := ⟨"LeastSolutionsModel", "count", "(I)I"⟩
abbrev b_MO_count : ByteArray := prog_12_method_14_code
abbrev y_MO_holds : MethodName := ⟨"LeastSolutionsModel", "holds", "()I"⟩
abbrev b_MO_holds : ByteArray := prog_12_method_43_code
abbrev y_MO_isPlain : MethodName := ⟨"LeastSolutionsModel", "isPlain", "()Z"⟩
abbrev b_MO_isPlain : ByteArray := prog_12_method_42_code
abbrev y_MO_letter : MethodName := ⟨"LeastSolutionsModel", "letter", "(I)I"⟩
abbrev b_MO_letter : ByteArray := prog_12_method_15_code
abbrev y_MO_number : MethodName := ⟨"LeastSolutionsModel", "number", "(II)I"⟩
abbrev b_MO_number : ByteArray := prog_12_method_17_code
abbrev y_MO_place : MethodName := ⟨"LeastSolutionsModel", "place", "()I"⟩
abbrev b_MO_place : ByteArray := prog_12_method_13_code
abbrev y_MO_solves : MethodName := ⟨"LeastSolutionsModel", "solves", "([IZ)Z"⟩
abbrev b_MO_solves : ByteArray := prog_12_method_31_code
abbrev y_MO_tell : MethodName := ⟨"LeastSolutionsModel", "tell", "(II)V"⟩
abbrev b_MO_tell : ByteArray := prog_12_method_41_code
abbrev y_MO_times : MethodName := ⟨"LeastSolutionsModel", "times", "(I)I"⟩
abbrev b_MO_times : ByteArray := prog_12_method_45_code
theorem ks_MO_isPlain : Cond.selects "LeastSolutionsModel" ({ cls := "LeastSolutionsModel", name := "isPlain", desc := "()Z" } : Jvm.MethodName) ({ cls := "LeastSolutionsModel", name := "isPlain", desc := "()Z" } : Jvm.MethodName) ∈ wd := wd_p (q := (⟨"LeastSolutionsModel", "isPlain", "()Z"⟩, 36)) (List.mem_of_getElem? (i := 61) (by decide +kernel))
theorem ks_MO_solves : Cond.selects "LeastSolutionsModel" ({ cls := "LeastSolutionsModel", name := "solves", desc := "([IZ)Z" } : Jvm.MethodName) ({ cls := "LeastSolutionsModel", name := "solves", desc := "([IZ)Z" } : Jvm.MethodName) ∈ wd := wd_p (q := (⟨"LeastSolutionsModel", "solves", "([IZ)Z"⟩, 36)) (List.mem_of_getElem? (i := 56) (by decide +kernel))
