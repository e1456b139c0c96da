theorem k_3 : (Jvm.Cond.initialized "LeastSolutions$Words") ∈ wd := wd_t (List.mem_of_getElem? (i := 3) (by decide +kernel)) rfl
theorem k_60 : (Jvm.Cond.fieldLink "LeastSolutions$Words" (25 : Nat) "LeastSolutions$Words" "state" "I") ∈ wd := wd_t (List.mem_of_getElem? (i := 60) (by decide +kernel)) rfl
theorem k_61 : (Jvm.Cond.fieldLink "LeastSolutions$Words" (28 : Nat) "LeastSolutions$Words" "isRightSide" "Z") ∈ wd := wd_t (List.mem_of_getElem? (i := 61) (by decide +kernel)) rfl
theorem k_364 : (Jvm.Cond.methodLink "LeastSolutions$Words" (40 : Nat) ({ cls := "LeastSolutions$Text", name := "characterAt", desc := "(I)I" } : Jvm.MethodName)) ∈ wd := wd_t (List.mem_of_getElem? (i := 364) (by decide +kernel)) rfl
theorem k_365 : (Jvm.Cond.instanceMethod ({ cls := "LeastSolutions$Text", name := "characterAt", desc := "(I)I" } : Jvm.MethodName)) ∈ wd := wd_t (List.mem_of_getElem? (i := 365) (by decide +kernel)) rfl
theorem k_366 : (Jvm.Cond.selects "LeastSolutions$Text" ({ cls := "LeastSolutions$Text", name := "characterAt", desc := "(I)I" } : Jvm.MethodName) ({ cls := "LeastSolutions$Text", name := "characterAt", desc := "(I)I" } : Jvm.MethodName)) ∈ wd := wd_t (List.mem_of_getElem? (i := 366) (by decide +kernel)) rfl
theorem k_367 : (Jvm.Cond.code ({ cls := "LeastSolutions$Text", name := "characterAt", desc := "(I)I" } : Jvm.MethodName) prog_8_method_5_code (2 : Nat) (Option.some Jvm.ClassFile.FieldType.int)) ∈ wd := wd_t (List.mem_of_getElem? (i := 367) (by decide +kernel)) rfl
theorem k_375 : (Jvm.Cond.methodLink "LeastSolutions$Words" (76 : Nat) ({ cls := "LeastSolutions$Words", name := "isDigit", desc := "(I)Z" } : Jvm.MethodName)) ∈ wd := wd_t (List.mem_of_getElem? (i := 375) (by decide +kernel)) rfl
theorem k_376 : (Jvm.Cond.static ({ cls := "LeastSolutions$Words", name := "isDigit", desc := "(I)Z" } : Jvm.MethodName)) ∈ wd := wd_t (List.mem_of_getElem? (i := 376) (by decide +kernel)) rfl
theorem k_377 : (Jvm.Cond.code ({ cls := "LeastSolutions$Words", name := "isDigit", desc := "(I)Z" } : Jvm.MethodName) prog_10_method_10_code (1 : Nat) (Option.some Jvm.ClassFile.FieldType.boolean)) ∈ wd := wd_t (List.mem_of_getElem? (i := 377) (by decide +kernel)) rfl
theorem k_385 : (Jvm.Cond.methodLink "LeastSolutions$Words" (58 : Nat) ({ cls := "LeastSolutions$Words", name := "isSumWhole", desc := "()Z" } : Jvm.MethodName)) ∈ wd := wd_t (List.mem_of_getElem? (i := 385) (by decide +kernel)) rfl
theorem k_387 : (Jvm.Cond.instanceMethod ({ cls := "LeastSolutions$Words", name := "isSumWhole", desc := "()Z" } : Jvm.MethodName)) ∈ wd := wd_t (List.mem_of_getElem? (i := 387) (by decide +kernel)) rfl
theorem k_388 : (Jvm.Cond.code ({ cls := "LeastSolutions$Words", name := "isSumWhole", desc := "()Z" } : Jvm.MethodName) prog_10_method_5_code (1 : Nat) (Option.some Jvm.ClassFile.FieldType.boolean)) ∈ wd := wd_t (List.mem_of_getElem? (i := 388) (by decide +kernel)) rfl
abbrev y_WO_isDigit : MethodName := ⟨"LeastSolutions$Words", "isDigit", "(I)Z"⟩
abbrev b_WO_isDigit : ByteArray := prog_10_method_10_code
abbrev y_WO_isRelation : MethodName := ⟨"LeastSolutions$Words", "isRelation", "(I)Z"⟩
abbrev b_WO_isRelation : ByteArray := prog_10_method_6_code
abbrev y_WO_isSumWhole : MethodName := ⟨"LeastSolutions$Words", "isSumWhole", "()Z"⟩
abbrev b_WO_isSumWhole : ByteArray := prog_10_method_5_code
abbrev y_WO_kindAt : MethodName := ⟨"LeastSolutions$Words", "kindAt", "(LLeastSolutions$Text;II)I"⟩
abbrev b_WO_kindAt : ByteArray := prog_10_method_7_code
abbrev y_WO_stateAfter : MethodName := ⟨"LeastSolutions$Words", "stateAfter", "(I)I"⟩
abbrev b_WO_stateAfter : ByteArray := prog_10_method_4_code
abbrev y_WO_valueOf : MethodName := ⟨"LeastSolutions$Words", "valueOf", "(LLeastSolutions$Text;II)I"⟩
abbrev b_WO_valueOf : ByteArray := prog_10_method_9_code
abbrev y_WO_widthAt : MethodName := ⟨"LeastSolutions$Words", "widthAt", "(LLeastSolutions$Text;I)I"⟩
abbrev b_WO_widthAt : ByteArray := prog_10_method_8_code
theorem ks_WO_isSumWhole : Cond.selects "LeastSolutions$Words" ({ cls := "LeastSolutions$Words", name := "isSumWhole", desc := "()Z" } : Jvm.MethodName) ({ cls := "LeastSolutions$Words", name := "isSumWhole", desc := "()Z" } : Jvm.MethodName) ∈ wd := wd_p (q := (⟨"LeastSolutions$Words", "isSumWhole", "()Z"⟩, 7)) (List.mem_of_getElem? (i := 3) (by decide +kernel))
