theorem k_1 : (Jvm.Cond.initialized "LeastSolutions") ∈ wd := wd_t (List.mem_of_getElem? (i := 1) (by decide +kernel)) rfl
theorem k_289 : (Jvm.Cond.fieldLink "LeastSolutions" (10 : Nat) "LeastSolutions" "text" "LLeastSolutions$Text;") ∈ wd := wd_t (List.mem_of_getElem? (i := 289) (by decide +kernel)) rfl
theorem k_300 : (Jvm.Cond.fieldLink "LeastSolutions" (73 : Nat) "LeastSolutions" "system" "LLeastSolutions$Equations;") ∈ wd := wd_t (List.mem_of_getElem? (i := 300) (by decide +kernel)) rfl
theorem k_301 : (Jvm.Cond.fieldLink "LeastSolutions" (77 : Nat) "LeastSolutions" "hasSystem" "Z") ∈ wd := wd_t (List.mem_of_getElem? (i := 301) (by decide +kernel)) rfl
theorem k_304 : (Jvm.Cond.fieldLink "LeastSolutions" (87 : Nat) "LeastSolutions" "faultPlace" "I") ∈ wd := wd_t (List.mem_of_getElem? (i := 304) (by decide +kernel)) rfl
theorem k_342 : (Jvm.Cond.methodLink "LeastSolutions" (92 : Nat) ({ cls := "LeastSolutions$Text", name := "put", desc := "(JI)Z" } : Jvm.MethodName)) ∈ wd := wd_t (List.mem_of_getElem? (i := 342) (by decide +kernel)) rfl
theorem k_343 : (Jvm.Cond.instanceMethod ({ cls := "LeastSolutions$Text", name := "put", desc := "(JI)Z" } : Jvm.MethodName)) ∈ wd := wd_t (List.mem_of_getElem? (i := 343) (by decide +kernel)) rfl
theorem k_344 : (Jvm.Cond.selects "LeastSolutions$Text" ({ cls := "LeastSolutions$Text", name := "put", desc := "(JI)Z" } : Jvm.MethodName) ({ cls := "LeastSolutions$Text", name := "put", desc := "(JI)Z" } : Jvm.MethodName)) ∈ wd := wd_t (List.mem_of_getElem? (i := 344) (by decide +kernel)) rfl
theorem k_345 : (Jvm.Cond.code ({ cls := "LeastSolutions$Text", name := "put", desc := "(JI)Z" } : Jvm.MethodName) prog_8_method_2_code (5 : Nat) (Option.some Jvm.ClassFile.FieldType.boolean)) ∈ wd := wd_t (List.mem_of_getElem? (i := 345) (by decide +kernel)) rfl
theorem k_534 : (Jvm.Cond.methodLink "LeastSolutions" (109 : Nat) ({ cls := "LeastSolutions$Equations", name := "columns", desc := "()I" } : Jvm.MethodName)) ∈ wd := wd_t (List.mem_of_getElem? (i := 534) (by decide +kernel)) rfl
theorem k_557 : (Jvm.Cond.methodLink "LeastSolutions" (269 : Nat) ({ cls := "java/lang/Math", name := "abs", desc := "(I)I" } : Jvm.MethodName)) ∈ wd := wd_t (List.mem_of_getElem? (i := 557) (by decide +kernel)) rfl
theorem k_594 : (Jvm.Cond.methodLink "LeastSolutions" (228 : Nat) ({ cls := "LeastSolutions", name := "hasColumn", desc := "(I)Z" } : Jvm.MethodName)) ∈ wd := wd_t (List.mem_of_getElem? (i := 594) (by decide +kernel)) rfl
theorem k_596 : (Jvm.Cond.instanceMethod ({ cls := "LeastSolutions", name := "hasColumn", desc := "(I)Z" } : Jvm.MethodName)) ∈ wd := wd_t (List.mem_of_getElem? (i := 596) (by decide +kernel)) rfl
theorem k_597 : (Jvm.Cond.code ({ cls := "LeastSolutions", name := "hasColumn", desc := "(I)Z" } : Jvm.MethodName) prog_1_method_24_code (2 : Nat) (Option.some Jvm.ClassFile.FieldType.boolean)) ∈ wd := wd_t (List.mem_of_getElem? (i := 597) (by decide +kernel)) rfl
abbrev y_LS_count : MethodName := ⟨"LeastSolutions", "count", "(I)I"⟩
abbrev b_LS_count : ByteArray := prog_1_method_5_code
abbrev y_LS_hasColumn : MethodName := ⟨"LeastSolutions", "hasColumn", "(I)Z"⟩
abbrev b_LS_hasColumn : ByteArray := prog_1_method_24_code
abbrev y_LS_isBelowZero : MethodName := ⟨"LeastSolutions", "isBelowZero", "([I)Z"⟩
abbrev b_LS_isBelowZero : ByteArray := prog_1_method_29_code
abbrev y_LS_letter : MethodName := ⟨"LeastSolutions", "letter", "(I)I"⟩
abbrev b_LS_letter : ByteArray := prog_1_method_6_code
abbrev y_LS_needBound : MethodName := ⟨"LeastSolutions", "needBound", "(II)V"⟩
abbrev b_LS_needBound : ByteArray := prog_1_method_28_code
abbrev y_LS_needColumn : MethodName := ⟨"LeastSolutions", "needColumn", "(I)V"⟩
abbrev b_LS_needColumn : ByteArray := prog_1_method_25_code
abbrev y_LS_needSystem : MethodName := ⟨"LeastSolutions", "needSystem", "()V"⟩
abbrev b_LS_needSystem : ByteArray := prog_1_method_26_code
abbrev y_LS_needTellable : MethodName := ⟨"LeastSolutions", "needTellable", "(I)V"⟩
abbrev b_LS_needTellable : ByteArray := prog_1_method_27_code
abbrev y_LS_place : MethodName := ⟨"LeastSolutions", "place", "()I"⟩
abbrev b_LS_place : ByteArray := prog_1_method_4_code
abbrev y_LS_sizeOf : MethodName := ⟨"LeastSolutions", "sizeOf", "([I)I"⟩
abbrev b_LS_sizeOf : ByteArray := prog_1_method_30_code
abbrev y_LS_type : MethodName := ⟨"LeastSolutions", "type", "(JI)I"⟩
abbrev b_LS_type : ByteArray := prog_1_method_2_code
theorem ks_LS_hasColumn : Cond.selects "LeastSolutions" ({ cls := "LeastSolutions", name := "hasColumn", desc := "(I)Z" } : Jvm.MethodName) ({ cls := "LeastSolutions", name := "hasColumn", desc := "(I)Z" } : Jvm.MethodName) ∈ wd := wd_p (q := (⟨"LeastSolutions", "hasColumn", "(I)Z"⟩, 16)) (List.mem_of_getElem? (i := 23) (by decide +kernel))
