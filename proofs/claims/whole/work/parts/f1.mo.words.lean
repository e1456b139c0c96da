theorem k_886 : (Jvm.Cond.fieldLink "LeastSolutionsModel" (81 : Nat) "LeastSolutionsModel" "thrown" "I") ∈ wd := wd_t (List.mem_of_getElem? (i := 886) (by decide +kernel)) rfl
theorem k_903 : (Jvm.Cond.fieldLink "LeastSolutionsModel" (143 : Nat) "LeastSolutionsModel" "columns" "I") ∈ wd := wd_t (List.mem_of_getElem? (i := 903) (by decide +kernel)) rfl
theorem k_905 : (Jvm.Cond.fieldLink "LeastSolutionsModel" (38 : Nat) "LeastSolutionsModel" "numbers" "[I") ∈ wd := wd_t (List.mem_of_getElem? (i := 905) (by decide +kernel)) rfl
theorem k_916 : (Jvm.Cond.fieldLink "LeastSolutionsModel" (68 : Nat) "LeastSolutionsModel" "basis" "[J") ∈ wd := wd_t (List.mem_of_getElem? (i := 916) (by decide +kernel)) rfl
abbrev y_MO_dot : MethodName := ⟨"LeastSolutionsModel", "dot", "(I[JI)J"⟩
abbrev b_MO_dot : ByteArray := prog_12_method_18_code
abbrev y_MO_exchange : MethodName := ⟨"LeastSolutionsModel", "exchange", "(II)V"⟩
abbrev b_MO_exchange : ByteArray := prog_12_method_21_code
abbrev y_MO_lose : MethodName := ⟨"LeastSolutionsModel", "lose", "(IIJ)V"⟩
abbrev b_MO_lose : ByteArray := prog_12_method_20_code
abbrev y_MO_size : MethodName := ⟨"LeastSolutionsModel", "size", "(J)J"⟩
abbrev b_MO_size : ByteArray := prog_12_method_19_code
abbrev y_MO_thrown : MethodName := ⟨"LeastSolutionsModel", "thrown", "()I"⟩
abbrev b_MO_thrown : ByteArray := prog_12_method_2_code
abbrev y_MO_turn : MethodName := ⟨"LeastSolutionsModel", "turn", "(I)V"⟩
abbrev b_MO_turn : ByteArray := prog_12_method_22_code
