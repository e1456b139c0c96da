theorem k_4 : (Jvm.Cond.initialized "LeastSolutions$Builder") ∈ wd := wd_t (List.mem_of_getElem? (i := 4) (by decide +kernel)) rfl
theorem k_133 : (Jvm.Cond.fieldLink "LeastSolutions$Builder" (12 : Nat) "LeastSolutions$Builder" "result" "LLeastSolutions$Equations;") ∈ wd := wd_t (List.mem_of_getElem? (i := 133) (by decide +kernel)) rfl
theorem k_134 : (Jvm.Cond.fieldLink "LeastSolutions$Builder" (18 : Nat) "LeastSolutions$Builder" "row" "I") ∈ wd := wd_t (List.mem_of_getElem? (i := 134) (by decide +kernel)) rfl
theorem k_135 : (Jvm.Cond.fieldLink "LeastSolutions$Builder" (22 : Nat) "LeastSolutions$Builder" "side" "I") ∈ wd := wd_t (List.mem_of_getElem? (i := 135) (by decide +kernel)) rfl
theorem k_136 : (Jvm.Cond.fieldLink "LeastSolutions$Builder" (25 : Nat) "LeastSolutions$Builder" "sign" "I") ∈ wd := wd_t (List.mem_of_getElem? (i := 136) (by decide +kernel)) rfl
theorem k_137 : (Jvm.Cond.fieldLink "LeastSolutions$Builder" (28 : Nat) "LeastSolutions$Builder" "open" "I") ∈ wd := wd_t (List.mem_of_getElem? (i := 137) (by decide +kernel)) rfl
theorem k_138 : (Jvm.Cond.fieldLink "LeastSolutions$Builder" (33 : Nat) "LeastSolutions$Builder" "relation" "I") ∈ wd := wd_t (List.mem_of_getElem? (i := 138) (by decide +kernel)) rfl
theorem k_139 : (Jvm.Cond.fieldLink "LeastSolutions$Builder" (36 : Nat) "LeastSolutions$Builder" "relationPlace" "I") ∈ wd := wd_t (List.mem_of_getElem? (i := 139) (by decide +kernel)) rfl
theorem k_140 : (Jvm.Cond.fieldLink "LeastSolutions$Builder" (39 : Nat) "LeastSolutions$Builder" "faultPlace" "I") ∈ wd := wd_t (List.mem_of_getElem? (i := 140) (by decide +kernel)) rfl
theorem k_413 : (Jvm.Cond.methodLink "LeastSolutions$Builder" (76 : Nat) ({ cls := "LeastSolutions$Builder", name := "fault", desc := "(II)I" } : Jvm.MethodName)) ∈ wd := wd_t (List.mem_of_getElem? (i := 413) (by decide +kernel)) rfl
theorem k_415 : (Jvm.Cond.instanceMethod ({ cls := "LeastSolutions$Builder", name := "fault", desc := "(II)I" } : Jvm.MethodName)) ∈ wd := wd_t (List.mem_of_getElem? (i := 415) (by decide +kernel)) rfl
theorem k_416 : (Jvm.Cond.code ({ cls := "LeastSolutions$Builder", name := "fault", desc := "(II)I" } : Jvm.MethodName) prog_2_method_10_code (3 : Nat) (Option.some Jvm.ClassFile.FieldType.int)) ∈ wd := wd_t (List.mem_of_getElem? (i := 416) (by decide +kernel)) rfl
theorem k_417 : (Jvm.Cond.methodLink "LeastSolutions$Builder" (80 : Nat) ({ cls := "LeastSolutions$Builder", name := "beginTerm", desc := "(I)V" } : Jvm.MethodName)) ∈ wd := wd_t (List.mem_of_getElem? (i := 417) (by decide +kernel)) rfl
theorem k_419 : (Jvm.Cond.instanceMethod ({ cls := "LeastSolutions$Builder", name := "beginTerm", desc := "(I)V" } : Jvm.MethodName)) ∈ wd := wd_t (List.mem_of_getElem? (i := 419) (by decide +kernel)) rfl
theorem k_420 : (Jvm.Cond.code ({ cls := "LeastSolutions$Builder", name := "beginTerm", desc := "(I)V" } : Jvm.MethodName) prog_2_method_5_code (2 : Nat) (Option.none : Option Jvm.ClassFile.FieldType)) ∈ wd := wd_t (List.mem_of_getElem? (i := 420) (by decide +kernel)) rfl
theorem k_441 : (Jvm.Cond.methodLink "LeastSolutions$Builder" (87 : Nat) ({ cls := "LeastSolutions$Builder", name := "endTerm", desc := "()V" } : Jvm.MethodName)) ∈ wd := wd_t (List.mem_of_getElem? (i := 441) (by decide +kernel)) rfl
theorem k_443 : (Jvm.Cond.instanceMethod ({ cls := "LeastSolutions$Builder", name := "endTerm", desc := "()V" } : Jvm.MethodName)) ∈ wd := wd_t (List.mem_of_getElem? (i := 443) (by decide +kernel)) rfl
theorem k_444 : (Jvm.Cond.code ({ cls := "LeastSolutions$Builder", name := "endTerm", desc := "()V" } : Jvm.MethodName) prog_2_method_8_code (1 : Nat) (Option.none : Option Jvm.ClassFile.FieldType)) ∈ wd := wd_t (List.mem_of_getElem? (i := 444) (by decide +kernel)) rfl
theorem k_449 : (Jvm.Cond.methodLink "LeastSolutions$Builder" (100 : Nat) ({ cls := "LeastSolutions$Equations", name := "isFull", desc := "()Z" } : Jvm.MethodName)) ∈ wd := wd_t (List.mem_of_getElem? (i := 449) (by decide +kernel)) rfl
theorem k_450 : (Jvm.Cond.methodLink "LeastSolutions$Builder" (104 : Nat) ({ cls := "LeastSolutions$Equations", name := "addSlack", desc := "(II)V" } : Jvm.MethodName)) ∈ wd := wd_t (List.mem_of_getElem? (i := 450) (by decide +kernel)) rfl
theorem k_451 : (Jvm.Cond.instanceMethod ({ cls := "LeastSolutions$Equations", name := "addSlack", desc := "(II)V" } : Jvm.MethodName)) ∈ wd := wd_t (List.mem_of_getElem? (i := 451) (by decide +kernel)) rfl
theorem k_452 : (Jvm.Cond.selects "LeastSolutions$Equations" ({ cls := "LeastSolutions$Equations", name := "addSlack", desc := "(II)V" } : Jvm.MethodName) ({ cls := "LeastSolutions$Equations", name := "addSlack", desc := "(II)V" } : Jvm.MethodName)) ∈ wd := wd_t (List.mem_of_getElem? (i := 452) (by decide +kernel)) rfl
theorem k_453 : (Jvm.Cond.code ({ cls := "LeastSolutions$Equations", name := "addSlack", desc := "(II)V" } : Jvm.MethodName) prog_4_method_6_code (3 : Nat) (Option.none : Option Jvm.ClassFile.FieldType)) ∈ wd := wd_t (List.mem_of_getElem? (i := 453) (by decide +kernel)) rfl
theorem k_454 : (Jvm.Cond.methodLink "LeastSolutions$Builder" (108 : Nat) ({ cls := "LeastSolutions$Equations", name := "isLarge", desc := "(I)Z" } : Jvm.MethodName)) ∈ wd := wd_t (List.mem_of_getElem? (i := 454) (by decide +kernel)) rfl
theorem k_455 : (Jvm.Cond.instanceMethod ({ cls := "LeastSolutions$Equations", name := "isLarge", desc := "(I)Z" } : Jvm.MethodName)) ∈ wd := wd_t (List.mem_of_getElem? (i := 455) (by decide +kernel)) rfl
theorem k_456 : (Jvm.Cond.selects "LeastSolutions$Equations" ({ cls := "LeastSolutions$Equations", name := "isLarge", desc := "(I)Z" } : Jvm.MethodName) ({ cls := "LeastSolutions$Equations", name := "isLarge", desc := "(I)Z" } : Jvm.MethodName)) ∈ wd := wd_t (List.mem_of_getElem? (i := 456) (by decide +kernel)) rfl
theorem k_457 : (Jvm.Cond.code ({ cls := "LeastSolutions$Equations", name := "isLarge", desc := "(I)Z" } : Jvm.MethodName) prog_4_method_8_code (3 : Nat) (Option.some Jvm.ClassFile.FieldType.boolean)) ∈ wd := wd_t (List.mem_of_getElem? (i := 457) (by decide +kernel)) rfl
abbrev y_BU_beginRow : MethodName := ⟨"LeastSolutions$Builder", "beginRow", "(I)I"⟩
abbrev b_BU_beginRow : ByteArray := prog_2_method_4_code
abbrev y_BU_beginTerm : MethodName := ⟨"LeastSolutions$Builder", "beginTerm", "(I)V"⟩
abbrev b_BU_beginTerm : ByteArray := prog_2_method_5_code
abbrev y_BU_endRow : MethodName := ⟨"LeastSolutions$Builder", "endRow", "()I"⟩
abbrev b_BU_endRow : ByteArray := prog_2_method_9_code
abbrev y_BU_endTerm : MethodName := ⟨"LeastSolutions$Builder", "endTerm", "()V"⟩
abbrev b_BU_endTerm : ByteArray := prog_2_method_8_code
abbrev y_BU_fault : MethodName := ⟨"LeastSolutions$Builder", "fault", "(II)I"⟩
abbrev b_BU_fault : ByteArray := prog_2_method_10_code
theorem ks_BU_beginTerm : Cond.selects "LeastSolutions$Builder" ({ cls := "LeastSolutions$Builder", name := "beginTerm", desc := "(I)V" } : Jvm.MethodName) ({ cls := "LeastSolutions$Builder", name := "beginTerm", desc := "(I)V" } : Jvm.MethodName) ∈ wd := wd_p (q := (⟨"LeastSolutions$Builder", "beginTerm", "(I)V"⟩, 8)) (List.mem_of_getElem? (i := 6) (by decide +kernel))
theorem ks_BU_endTerm : Cond.selects "LeastSolutions$Builder" ({ cls := "LeastSolutions$Builder", name := "endTerm", desc := "()V" } : Jvm.MethodName) ({ cls := "LeastSolutions$Builder", name := "endTerm", desc := "()V" } : Jvm.MethodName) ∈ wd := wd_p (q := (⟨"LeastSolutions$Builder", "endTerm", "()V"⟩, 8)) (List.mem_of_getElem? (i := 9) (by decide +kernel))
theorem ks_BU_fault : Cond.selects "LeastSolutions$Builder" ({ cls := "LeastSolutions$Builder", name := "fault", desc := "(II)I" } : Jvm.MethodName) ({ cls := "LeastSolutions$Builder", name := "fault", desc := "(II)I" } : Jvm.MethodName) ∈ wd := wd_p (q := (⟨"LeastSolutions$Builder", "fault", "(II)I"⟩, 8)) (List.mem_of_getElem? (i := 5) (by decide +kernel))
