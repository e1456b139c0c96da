theorem k_887 : (Jvm.Cond.fieldLink "LeastSolutionsModel" (7 : Nat) "LeastSolutionsModel" "text" "[I") ∈ wd := wd_t (List.mem_of_getElem? (i := 887) (by decide +kernel)) rfl
theorem k_888 : (Jvm.Cond.fieldLink "LeastSolutionsModel" (84 : Nat) "LeastSolutionsModel" "length" "I") ∈ wd := wd_t (List.mem_of_getElem? (i := 888) (by decide +kernel)) rfl
theorem k_889 : (Jvm.Cond.fieldLink "LeastSolutionsModel" (13 : Nat) "LeastSolutionsModel" "wrong" "I") ∈ wd := wd_t (List.mem_of_getElem? (i := 889) (by decide +kernel)) rfl
theorem k_890 : (Jvm.Cond.fieldLink "LeastSolutionsModel" (17 : Nat) "LeastSolutionsModel" "kinds" "[I") ∈ wd := wd_t (List.mem_of_getElem? (i := 890) (by decide +kernel)) rfl
theorem k_891 : (Jvm.Cond.fieldLink "LeastSolutionsModel" (20 : Nat) "LeastSolutionsModel" "places" "[I") ∈ wd := wd_t (List.mem_of_getElem? (i := 891) (by decide +kernel)) rfl
theorem k_892 : (Jvm.Cond.fieldLink "LeastSolutionsModel" (23 : Nat) "LeastSolutionsModel" "values" "[I") ∈ wd := wd_t (List.mem_of_getElem? (i := 892) (by decide +kernel)) rfl
theorem k_893 : (Jvm.Cond.fieldLink "LeastSolutionsModel" (93 : Nat) "LeastSolutionsModel" "words" "I") ∈ wd := wd_t (List.mem_of_getElem? (i := 893) (by decide +kernel)) rfl
theorem k_894 : (Jvm.Cond.fieldLink "LeastSolutionsModel" (26 : Nat) "LeastSolutionsModel" "draftLetters" "[I") ∈ wd := wd_t (List.mem_of_getElem? (i := 894) (by decide +kernel)) rfl
theorem k_895 : (Jvm.Cond.fieldLink "LeastSolutionsModel" (104 : Nat) "LeastSolutionsModel" "draftVariables" "I") ∈ wd := wd_t (List.mem_of_getElem? (i := 895) (by decide +kernel)) rfl
theorem k_1004 : (Jvm.Cond.constantLong "LeastSolutionsModel" (87 : Nat) (255 : Int64)) ∈ wd := wd_t (List.mem_of_getElem? (i := 1004) (by decide +kernel)) rfl
theorem k_1005 : (Jvm.Cond.constantLong "LeastSolutionsModel" (89 : Nat) (32 : Int64)) ∈ wd := wd_t (List.mem_of_getElem? (i := 1005) (by decide +kernel)) rfl
theorem k_1006 : (Jvm.Cond.constantLong "LeastSolutionsModel" (91 : Nat) (126 : Int64)) ∈ wd := wd_t (List.mem_of_getElem? (i := 1006) (by decide +kernel)) rfl
theorem k_1015 : (Jvm.Cond.methodLink "LeastSolutionsModel" (96 : Nat) ({ cls := "LeastSolutionsModel", name := "letter0", desc := "(I)I" } : Jvm.MethodName)) ∈ wd := wd_t (List.mem_of_getElem? (i := 1015) (by decide +kernel)) rfl
theorem k_1017 : (Jvm.Cond.instanceMethod ({ cls := "LeastSolutionsModel", name := "letter0", desc := "(I)I" } : Jvm.MethodName)) ∈ wd := wd_t (List.mem_of_getElem? (i := 1017) (by decide +kernel)) rfl
theorem k_1018 : (Jvm.Cond.code ({ cls := "LeastSolutionsModel", name := "letter0", desc := "(I)I" } : Jvm.MethodName) prog_12_method_5_code (2 : Nat) (Option.some Jvm.ClassFile.FieldType.int)) ∈ wd := wd_t (List.mem_of_getElem? (i := 1018) (by decide +kernel)) rfl
theorem k_1019 : (Jvm.Cond.methodLink "LeastSolutionsModel" (100 : Nat) ({ cls := "LeastSolutionsModel", name := "word", desc := "(III)V" } : Jvm.MethodName)) ∈ wd := wd_t (List.mem_of_getElem? (i := 1019) (by decide +kernel)) rfl
theorem k_1021 : (Jvm.Cond.instanceMethod ({ cls := "LeastSolutionsModel", name := "word", desc := "(III)V" } : Jvm.MethodName)) ∈ wd := wd_t (List.mem_of_getElem? (i := 1021) (by decide +kernel)) rfl
theorem k_1022 : (Jvm.Cond.code ({ cls := "LeastSolutionsModel", name := "word", desc := "(III)V" } : Jvm.MethodName) prog_12_method_4_code (4 : Nat) (Option.none : Option Jvm.ClassFile.FieldType)) ∈ wd := wd_t (List.mem_of_getElem? (i := 1022) (by decide +kernel)) rfl
abbrev y_MO_bad : MethodName := ⟨"LeastSolutionsModel", "bad", "()I"⟩
abbrev b_MO_bad : ByteArray := prog_12_method_7_code
abbrev y_MO_cut : MethodName := ⟨"LeastSolutionsModel", "cut", "()V"⟩
abbrev b_MO_cut : ByteArray := prog_12_method_6_code
abbrev y_MO_draftColumn : MethodName := ⟨"LeastSolutionsModel", "draftColumn", "(I)I"⟩
abbrev b_MO_draftColumn : ByteArray := prog_12_method_9_code
abbrev y_MO_fault : MethodName := ⟨"LeastSolutionsModel", "fault", "(II)I"⟩
abbrev b_MO_fault : ByteArray := prog_12_method_8_code
abbrev y_MO_letter0 : MethodName := ⟨"LeastSolutionsModel", "letter0", "(I)I"⟩
abbrev b_MO_letter0 : ByteArray := prog_12_method_5_code
abbrev y_MO_type : MethodName := ⟨"LeastSolutionsModel", "type", "(JI)I"⟩
abbrev b_MO_type : ByteArray := prog_12_method_3_code
abbrev y_MO_word : MethodName := ⟨"LeastSolutionsModel", "word", "(III)V"⟩
abbrev b_MO_word : ByteArray := prog_12_method_4_code
theorem ks_MO_letter0 : Cond.selects "LeastSolutionsModel" ({ cls := "LeastSolutionsModel", name := "letter0", desc := "(I)I" } : Jvm.MethodName) ({ cls := "LeastSolutionsModel", name := "letter0", desc := "(I)I" } : Jvm.MethodName) ∈ wd := wd_p (q := (⟨"LeastSolutionsModel", "letter0", "(I)I"⟩, 36)) (List.mem_of_getElem? (i := 36) (by decide +kernel))
theorem ks_MO_word : Cond.selects "LeastSolutionsModel" ({ cls := "LeastSolutionsModel", name := "word", desc := "(III)V" } : Jvm.MethodName) ({ cls := "LeastSolutionsModel", name := "word", desc := "(III)V" } : Jvm.MethodName) ∈ wd := wd_p (q := (⟨"LeastSolutionsModel", "word", "(III)V"⟩, 36)) (List.mem_of_getElem? (i := 37) (by decide +kernel))
