theorem k_204 : (Jvm.Cond.fieldLink "LeastSolutions$Search" (9 : Nat) "LeastSolutions$Search" "vector" "[I") ∈ wd := wd_t (List.mem_of_getElem? (i := 204) (by decide +kernel)) rfl
theorem k_205 : (Jvm.Cond.fieldLink "LeastSolutions$Search" (15 : Nat) "LeastSolutions$Search" "lack" "[I") ∈ wd := wd_t (List.mem_of_getElem? (i := 205) (by decide +kernel)) rfl
theorem k_206 : (Jvm.Cond.fieldLink "LeastSolutions$Search" (20 : Nat) "LeastSolutions$Search" "lowest" "[[I") ∈ wd := wd_t (List.mem_of_getElem? (i := 206) (by decide +kernel)) rfl
theorem k_207 : (Jvm.Cond.fieldLink "LeastSolutions$Search" (23 : Nat) "LeastSolutions$Search" "highest" "[[I") ∈ wd := wd_t (List.mem_of_getElem? (i := 207) (by decide +kernel)) rfl
theorem k_208 : (Jvm.Cond.fieldLink "LeastSolutions$Search" (26 : Nat) "LeastSolutions$Search" "a" "[[I") ∈ wd := wd_t (List.mem_of_getElem? (i := 208) (by decide +kernel)) rfl
theorem k_209 : (Jvm.Cond.fieldLink "LeastSolutions$Search" (29 : Nat) "LeastSolutions$Search" "rows" "I") ∈ wd := wd_t (List.mem_of_getElem? (i := 209) (by decide +kernel)) rfl
theorem k_210 : (Jvm.Cond.fieldLink "LeastSolutions$Search" (33 : Nat) "LeastSolutions$Search" "columns" "I") ∈ wd := wd_t (List.mem_of_getElem? (i := 210) (by decide +kernel)) rfl
theorem k_211 : (Jvm.Cond.fieldLink "LeastSolutions$Search" (36 : Nat) "LeastSolutions$Search" "isSigned" "Z") ∈ wd := wd_t (List.mem_of_getElem? (i := 211) (by decide +kernel)) rfl
theorem k_767 : (Jvm.Cond.methodLink "LeastSolutions$Search" (60 : Nat) ({ cls := "java/lang/Math", name := "abs", desc := "(I)I" } : Jvm.MethodName)) ∈ wd := wd_t (List.mem_of_getElem? (i := 767) (by decide +kernel)) rfl
theorem k_768 : (Jvm.Cond.methodLink "LeastSolutions$Search" (66 : Nat) ({ cls := "java/lang/Math", name := "min", desc := "(II)I" } : Jvm.MethodName)) ∈ wd := wd_t (List.mem_of_getElem? (i := 768) (by decide +kernel)) rfl
theorem k_769 : (Jvm.Cond.static ({ cls := "java/lang/Math", name := "min", desc := "(II)I" } : Jvm.MethodName)) ∈ wd := wd_t (List.mem_of_getElem? (i := 769) (by decide +kernel)) rfl
theorem k_770 : (Jvm.Cond.code ({ cls := "java/lang/Math", name := "min", desc := "(II)I" } : Jvm.MethodName) prog_17_method_69_code (2 : Nat) (Option.some Jvm.ClassFile.FieldType.int)) ∈ wd := wd_t (List.mem_of_getElem? (i := 770) (by decide +kernel)) rfl
theorem k_771 : (Jvm.Cond.methodLink "LeastSolutions$Search" (70 : Nat) ({ cls := "java/lang/Math", name := "max", desc := "(II)I" } : Jvm.MethodName)) ∈ wd := wd_t (List.mem_of_getElem? (i := 771) (by decide +kernel)) rfl
abbrev y_SE_canBeFilled : MethodName := ⟨"LeastSolutions$Search", "canBeFilled", "(II)Z"⟩
abbrev b_SE_canBeFilled : ByteArray := prog_6_method_6_code
abbrev y_SE_findReach : MethodName := ⟨"LeastSolutions$Search", "findReach", "(I)V"⟩
abbrev b_SE_findReach : ByteArray := prog_6_method_3_code
abbrev y_SE_put : MethodName := ⟨"LeastSolutions$Search", "put", "(II)V"⟩
abbrev b_SE_put : ByteArray := prog_6_method_7_code
