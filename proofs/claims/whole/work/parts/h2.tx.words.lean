theorem k_2 : (Jvm.Cond.initialized "LeastSolutions$Text") ∈ wd := wd_t (List.mem_of_getElem? (i := 2) (by decide +kernel)) rfl
theorem k_36 : (Jvm.Cond.fieldLink "LeastSolutions$Text" (9 : Nat) "LeastSolutions$Text" "characters" "[B") ∈ wd := wd_t (List.mem_of_getElem? (i := 36) (by decide +kernel)) rfl
theorem k_37 : (Jvm.Cond.fieldLink "LeastSolutions$Text" (15 : Nat) "LeastSolutions$Text" "length" "I") ∈ wd := wd_t (List.mem_of_getElem? (i := 37) (by decide +kernel)) rfl
theorem k_346 : (Jvm.Cond.methodLink "LeastSolutions$Text" (19 : Nat) ({ cls := "LeastSolutions$Text", name := "areTypable", desc := "(JI)Z" } : Jvm.MethodName)) ∈ wd := wd_t (List.mem_of_getElem? (i := 346) (by decide +kernel)) rfl
theorem k_347 : (Jvm.Cond.static ({ cls := "LeastSolutions$Text", name := "areTypable", desc := "(JI)Z" } : Jvm.MethodName)) ∈ wd := wd_t (List.mem_of_getElem? (i := 347) (by decide +kernel)) rfl
theorem k_348 : (Jvm.Cond.code ({ cls := "LeastSolutions$Text", name := "areTypable", desc := "(JI)Z" } : Jvm.MethodName) prog_8_method_3_code (5 : Nat) (Option.some Jvm.ClassFile.FieldType.boolean)) ∈ wd := wd_t (List.mem_of_getElem? (i := 348) (by decide +kernel)) rfl
theorem k_349 : (Jvm.Cond.methodLink "LeastSolutions$Text" (23 : Nat) ({ cls := "LeastSolutions$Text", name := "byteOf", desc := "(JI)I" } : Jvm.MethodName)) ∈ wd := wd_t (List.mem_of_getElem? (i := 349) (by decide +kernel)) rfl
theorem k_350 : (Jvm.Cond.static ({ cls := "LeastSolutions$Text", name := "byteOf", desc := "(JI)I" } : Jvm.MethodName)) ∈ wd := wd_t (List.mem_of_getElem? (i := 350) (by decide +kernel)) rfl
theorem k_351 : (Jvm.Cond.code ({ cls := "LeastSolutions$Text", name := "byteOf", desc := "(JI)I" } : Jvm.MethodName) prog_8_method_4_code (3 : Nat) (Option.some Jvm.ClassFile.FieldType.int)) ∈ wd := wd_t (List.mem_of_getElem? (i := 351) (by decide +kernel)) rfl
abbrev y_TX_areTypable : MethodName := ⟨"LeastSolutions$Text", "areTypable", "(JI)Z"⟩
abbrev b_TX_areTypable : ByteArray := prog_8_method_3_code
abbrev y_TX_byteOf : MethodName := ⟨"LeastSolutions$Text", "byteOf", "(JI)I"⟩
abbrev b_TX_byteOf : ByteArray := prog_8_method_4_code
abbrev y_TX_characterAt : MethodName := ⟨"LeastSolutions$Text", "characterAt", "(I)I"⟩
abbrev b_TX_characterAt : ByteArray := prog_8_method_5_code
abbrev y_TX_put : MethodName := ⟨"LeastSolutions$Text", "put", "(JI)Z"⟩
abbrev b_TX_put : ByteArray := prog_8_method_2_code
