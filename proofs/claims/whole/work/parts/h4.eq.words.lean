theorem k_5 : (Jvm.Cond.initialized "LeastSolutions$Equations") ∈ wd := wd_t (List.mem_of_getElem? (i := 5) (by decide +kernel)) rfl
theorem k_13 : (Jvm.Cond.initialized "java/util/Arrays") ∈ wd := wd_t (List.mem_of_getElem? (i := 13) (by decide +kernel)) rfl
theorem k_94 : (Jvm.Cond.fieldLink "LeastSolutions$Equations" (11 : Nat) "LeastSolutions$Equations" "a" "[[I") ∈ wd := wd_t (List.mem_of_getElem? (i := 94) (by decide +kernel)) rfl
theorem k_99 : (Jvm.Cond.fieldLink "LeastSolutions$Equations" (16 : Nat) "LeastSolutions$Equations" "b" "[I") ∈ wd := wd_t (List.mem_of_getElem? (i := 99) (by decide +kernel)) rfl
theorem k_104 : (Jvm.Cond.fieldLink "LeastSolutions$Equations" (20 : Nat) "LeastSolutions$Equations" "letters" "[I") ∈ wd := wd_t (List.mem_of_getElem? (i := 104) (by decide +kernel)) rfl
theorem k_106 : (Jvm.Cond.fieldLink "LeastSolutions$Equations" (23 : Nat) "LeastSolutions$Equations" "slackRows" "[I") ∈ wd := wd_t (List.mem_of_getElem? (i := 106) (by decide +kernel)) rfl
theorem k_107 : (Jvm.Cond.fieldLink "LeastSolutions$Equations" (26 : Nat) "LeastSolutions$Equations" "slackNumbers" "[I") ∈ wd := wd_t (List.mem_of_getElem? (i := 107) (by decide +kernel)) rfl
theorem k_108 : (Jvm.Cond.fieldLink "LeastSolutions$Equations" (29 : Nat) "LeastSolutions$Equations" "rows" "I") ∈ wd := wd_t (List.mem_of_getElem? (i := 108) (by decide +kernel)) rfl
theorem k_113 : (Jvm.Cond.fieldLink "LeastSolutions$Equations" (33 : Nat) "LeastSolutions$Equations" "variables" "I") ∈ wd := wd_t (List.mem_of_getElem? (i := 113) (by decide +kernel)) rfl
theorem k_115 : (Jvm.Cond.fieldLink "LeastSolutions$Equations" (36 : Nat) "LeastSolutions$Equations" "slacks" "I") ∈ wd := wd_t (List.mem_of_getElem? (i := 115) (by decide +kernel)) rfl
theorem k_406 : (Jvm.Cond.methodLink "LeastSolutions$Equations" (39 : Nat) ({ cls := "java/util/Arrays", name := "fill", desc := "([II)V" } : Jvm.MethodName)) ∈ wd := wd_t (List.mem_of_getElem? (i := 406) (by decide +kernel)) rfl
theorem k_407 : (Jvm.Cond.static ({ cls := "java/util/Arrays", name := "fill", desc := "([II)V" } : Jvm.MethodName)) ∈ wd := wd_t (List.mem_of_getElem? (i := 407) (by decide +kernel)) rfl
theorem k_408 : (Jvm.Cond.code ({ cls := "java/util/Arrays", name := "fill", desc := "([II)V" } : Jvm.MethodName) prog_21_method_103_code (4 : Nat) (Option.none : Option Jvm.ClassFile.FieldType)) ∈ wd := wd_t (List.mem_of_getElem? (i := 408) (by decide +kernel)) rfl
theorem k_433 : (Jvm.Cond.methodLink "LeastSolutions$Equations" (49 : Nat) ({ cls := "LeastSolutions$Equations", name := "isFull", desc := "()Z" } : Jvm.MethodName)) ∈ wd := wd_t (List.mem_of_getElem? (i := 433) (by decide +kernel)) rfl
theorem k_434 : (Jvm.Cond.instanceMethod ({ cls := "LeastSolutions$Equations", name := "isFull", desc := "()Z" } : Jvm.MethodName)) ∈ wd := wd_t (List.mem_of_getElem? (i := 434) (by decide +kernel)) rfl
theorem k_435 : (Jvm.Cond.selects "LeastSolutions$Equations" ({ cls := "LeastSolutions$Equations", name := "isFull", desc := "()Z" } : Jvm.MethodName) ({ cls := "LeastSolutions$Equations", name := "isFull", desc := "()Z" } : Jvm.MethodName)) ∈ wd := wd_t (List.mem_of_getElem? (i := 435) (by decide +kernel)) rfl
theorem k_436 : (Jvm.Cond.code ({ cls := "LeastSolutions$Equations", name := "isFull", desc := "()Z" } : Jvm.MethodName) prog_4_method_4_code (1 : Nat) (Option.some Jvm.ClassFile.FieldType.boolean)) ∈ wd := wd_t (List.mem_of_getElem? (i := 436) (by decide +kernel)) rfl
theorem k_437 : (Jvm.Cond.methodLink "LeastSolutions$Equations" (45 : Nat) ({ cls := "LeastSolutions$Equations", name := "columns", desc := "()I" } : Jvm.MethodName)) ∈ wd := wd_t (List.mem_of_getElem? (i := 437) (by decide +kernel)) rfl
theorem k_438 : (Jvm.Cond.instanceMethod ({ cls := "LeastSolutions$Equations", name := "columns", desc := "()I" } : Jvm.MethodName)) ∈ wd := wd_t (List.mem_of_getElem? (i := 438) (by decide +kernel)) rfl
theorem k_439 : (Jvm.Cond.selects "LeastSolutions$Equations" ({ cls := "LeastSolutions$Equations", name := "columns", desc := "()I" } : Jvm.MethodName) ({ cls := "LeastSolutions$Equations", name := "columns", desc := "()I" } : Jvm.MethodName)) ∈ wd := wd_t (List.mem_of_getElem? (i := 439) (by decide +kernel)) rfl
theorem k_440 : (Jvm.Cond.code ({ cls := "LeastSolutions$Equations", name := "columns", desc := "()I" } : Jvm.MethodName) prog_4_method_3_code (1 : Nat) (Option.some Jvm.ClassFile.FieldType.int)) ∈ wd := wd_t (List.mem_of_getElem? (i := 440) (by decide +kernel)) rfl
theorem k_458 : (Jvm.Cond.methodLink "LeastSolutions$Equations" (53 : Nat) ({ cls := "java/lang/Math", name := "abs", desc := "(I)I" } : Jvm.MethodName)) ∈ wd := wd_t (List.mem_of_getElem? (i := 458) (by decide +kernel)) rfl
theorem k_459 : (Jvm.Cond.static ({ cls := "java/lang/Math", name := "abs", desc := "(I)I" } : Jvm.MethodName)) ∈ wd := wd_t (List.mem_of_getElem? (i := 459) (by decide +kernel)) rfl
theorem k_460 : (Jvm.Cond.code ({ cls := "java/lang/Math", name := "abs", desc := "(I)I" } : Jvm.MethodName) prog_17_method_59_code (1 : Nat) (Option.some Jvm.ClassFile.FieldType.int)) ∈ wd := wd_t (List.mem_of_getElem? (i := 460) (by decide +kernel)) rfl
abbrev y_EQ_addSlack : MethodName := ⟨"LeastSolutions$Equations", "addSlack", "(II)V"⟩
abbrev b_EQ_addSlack : ByteArray := prog_4_method_6_code
abbrev y_EQ_clear : MethodName := ⟨"LeastSolutions$Equations", "clear", "()V"⟩
abbrev b_EQ_clear : ByteArray := prog_4_method_2_code
abbrev y_EQ_columnOf : MethodName := ⟨"LeastSolutions$Equations", "columnOf", "(I)I"⟩
abbrev b_EQ_columnOf : ByteArray := prog_4_method_5_code
abbrev y_EQ_columns : MethodName := ⟨"LeastSolutions$Equations", "columns", "()I"⟩
abbrev b_EQ_columns : ByteArray := prog_4_method_3_code
abbrev y_EQ_isFull : MethodName := ⟨"LeastSolutions$Equations", "isFull", "()Z"⟩
abbrev b_EQ_isFull : ByteArray := prog_4_method_4_code
abbrev y_EQ_isLarge : MethodName := ⟨"LeastSolutions$Equations", "isLarge", "(I)Z"⟩
abbrev b_EQ_isLarge : ByteArray := prog_4_method_8_code
abbrev y_EQ_placeSlacks : MethodName := ⟨"LeastSolutions$Equations", "placeSlacks", "()V"⟩
abbrev b_EQ_placeSlacks : ByteArray := prog_4_method_7_code
abbrev y_EQ_solvedBy : MethodName := ⟨"LeastSolutions$Equations", "solvedBy", "([IZ)Z"⟩
abbrev b_EQ_solvedBy : ByteArray := prog_4_method_9_code
