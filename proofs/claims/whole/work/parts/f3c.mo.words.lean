theorem k_902 : (Jvm.Cond.fieldLink "LeastSolutionsModel" (140 : Nat) "LeastSolutionsModel" "variables" "I") ∈ wd := wd_t (List.mem_of_getElem? (i := 902) (by decide +kernel)) rfl
theorem k_904 : (Jvm.Cond.fieldLink "LeastSolutionsModel" (35 : Nat) "LeastSolutionsModel" "letters" "[I") ∈ wd := wd_t (List.mem_of_getElem? (i := 904) (by decide +kernel)) rfl
theorem k_906 : (Jvm.Cond.fieldLink "LeastSolutionsModel" (41 : Nat) "LeastSolutionsModel" "isList" "[Z") ∈ wd := wd_t (List.mem_of_getElem? (i := 906) (by decide +kernel)) rfl
theorem k_908 : (Jvm.Cond.fieldLink "LeastSolutionsModel" (48 : Nat) "LeastSolutionsModel" "sizes" "[I") ∈ wd := wd_t (List.mem_of_getElem? (i := 908) (by decide +kernel)) rfl
theorem k_910 : (Jvm.Cond.fieldLink "LeastSolutionsModel" (56 : Nat) "LeastSolutionsModel" "told" "[I") ∈ wd := wd_t (List.mem_of_getElem? (i := 910) (by decide +kernel)) rfl
theorem k_911 : (Jvm.Cond.fieldLink "LeastSolutionsModel" (59 : Nat) "LeastSolutionsModel" "costs" "[I") ∈ wd := wd_t (List.mem_of_getElem? (i := 911) (by decide +kernel)) rfl
theorem k_912 : (Jvm.Cond.fieldLink "LeastSolutionsModel" (146 : Nat) "LeastSolutionsModel" "isSplit" "Z") ∈ wd := wd_t (List.mem_of_getElem? (i := 912) (by decide +kernel)) rfl
theorem k_914 : (Jvm.Cond.fieldLink "LeastSolutionsModel" (149 : Nat) "LeastSolutionsModel" "isBest" "Z") ∈ wd := wd_t (List.mem_of_getElem? (i := 914) (by decide +kernel)) rfl
theorem k_1011 : (Jvm.Cond.methodLink "LeastSolutionsModel" (120 : Nat) ({ cls := "LeastSolutionsModel", name := "cut", desc := "()V" } : Jvm.MethodName)) ∈ wd := wd_t (List.mem_of_getElem? (i := 1011) (by decide +kernel)) rfl
theorem k_1013 : (Jvm.Cond.instanceMethod ({ cls := "LeastSolutionsModel", name := "cut", desc := "()V" } : Jvm.MethodName)) ∈ wd := wd_t (List.mem_of_getElem? (i := 1013) (by decide +kernel)) rfl
theorem k_1014 : (Jvm.Cond.code ({ cls := "LeastSolutionsModel", name := "cut", desc := "()V" } : Jvm.MethodName) prog_12_method_6_code (7 : Nat) (Option.none : Option Jvm.ClassFile.FieldType)) ∈ wd := wd_t (List.mem_of_getElem? (i := 1014) (by decide +kernel)) rfl
theorem k_1023 : (Jvm.Cond.methodLink "LeastSolutionsModel" (123 : Nat) ({ cls := "LeastSolutionsModel", name := "bad", desc := "()I" } : Jvm.MethodName)) ∈ wd := wd_t (List.mem_of_getElem? (i := 1023) (by decide +kernel)) rfl
theorem k_1025 : (Jvm.Cond.instanceMethod ({ cls := "LeastSolutionsModel", name := "bad", desc := "()I" } : Jvm.MethodName)) ∈ wd := wd_t (List.mem_of_getElem? (i := 1025) (by decide +kernel)) rfl
theorem k_1026 : (Jvm.Cond.code ({ cls := "LeastSolutionsModel", name := "bad", desc := "()I" } : Jvm.MethodName) prog_12_method_7_code (6 : Nat) (Option.some Jvm.ClassFile.FieldType.int)) ∈ wd := wd_t (List.mem_of_getElem? (i := 1026) (by decide +kernel)) rfl
theorem k_1031 : (Jvm.Cond.methodLink "LeastSolutionsModel" (127 : Nat) ({ cls := "LeastSolutionsModel", name := "build", desc := "()I" } : Jvm.MethodName)) ∈ wd := wd_t (List.mem_of_getElem? (i := 1031) (by decide +kernel)) rfl
theorem k_1033 : (Jvm.Cond.instanceMethod ({ cls := "LeastSolutionsModel", name := "build", desc := "()I" } : Jvm.MethodName)) ∈ wd := wd_t (List.mem_of_getElem? (i := 1033) (by decide +kernel)) rfl
set_option maxRecDepth 1000000 in
set_option maxHeartbeats 4000000 in
theorem k_1034 : (Jvm.Cond.code ({ cls := "LeastSolutionsModel", name := "build", desc := "()I" } : Jvm.MethodName) prog_12_method_10_code (9 : Nat) (Option.some Jvm.ClassFile.FieldType.int)) ∈ wd := wd_t (List.mem_of_getElem? (i := 1034) rfl) rfl
theorem k_1039 : (Jvm.Cond.methodLink "LeastSolutionsModel" (130 : Nat) ({ cls := "LeastSolutionsModel", name := "take", desc := "()V" } : Jvm.MethodName)) ∈ wd := wd_t (List.mem_of_getElem? (i := 1039) (by decide +kernel)) rfl
theorem k_1041 : (Jvm.Cond.instanceMethod ({ cls := "LeastSolutionsModel", name := "take", desc := "()V" } : Jvm.MethodName)) ∈ wd := wd_t (List.mem_of_getElem? (i := 1041) (by decide +kernel)) rfl
theorem k_1042 : (Jvm.Cond.code ({ cls := "LeastSolutionsModel", name := "take", desc := "()V" } : Jvm.MethodName) prog_12_method_12_code (4 : Nat) (Option.none : Option Jvm.ClassFile.FieldType)) ∈ wd := wd_t (List.mem_of_getElem? (i := 1042) (by decide +kernel)) rfl
abbrev y_MO_read : MethodName := ⟨"LeastSolutionsModel", "read", "()I"⟩
abbrev b_MO_read : ByteArray := prog_12_method_11_code
abbrev y_MO_take : MethodName := ⟨"LeastSolutionsModel", "take", "()V"⟩
abbrev b_MO_take : ByteArray := prog_12_method_12_code
theorem ks_MO_bad : Cond.selects "LeastSolutionsModel" ({ cls := "LeastSolutionsModel", name := "bad", desc := "()I" } : Jvm.MethodName) ({ cls := "LeastSolutionsModel", name := "bad", desc := "()I" } : Jvm.MethodName) ∈ wd := wd_p (q := (⟨"LeastSolutionsModel", "bad", "()I"⟩, 36)) (List.mem_of_getElem? (i := 38) (by decide +kernel))
theorem ks_MO_build : Cond.selects "LeastSolutionsModel" ({ cls := "LeastSolutionsModel", name := "build", desc := "()I" } : Jvm.MethodName) ({ cls := "LeastSolutionsModel", name := "build", desc := "()I" } : Jvm.MethodName) ∈ wd := wd_p (q := (⟨"LeastSolutionsModel", "build", "()I"⟩, 36)) (List.mem_of_getElem? (i := 40) (by decide +kernel))
theorem ks_MO_cut : Cond.selects "LeastSolutionsModel" ({ cls := "LeastSolutionsModel", name := "cut", desc := "()V" } : Jvm.MethodName) ({ cls := "LeastSolutionsModel", name := "cut", desc := "()V" } : Jvm.MethodName) ∈ wd := wd_p (q := (⟨"LeastSolutionsModel", "cut", "()V"⟩, 36)) (List.mem_of_getElem? (i := 35) (by decide +kernel))
theorem ks_MO_take : Cond.selects "LeastSolutionsModel" ({ cls := "LeastSolutionsModel", name := "take", desc := "()V" } : Jvm.MethodName) ({ cls := "LeastSolutionsModel", name := "take", desc := "()V" } : Jvm.MethodName) ∈ wd := wd_p (q := (⟨"LeastSolutionsModel", "take", "()V"⟩, 36)) (List.mem_of_getElem? (i := 42) (by decide +kernel))
