theorem k_887 : (Jvm.Cond.fieldLink "LeastSolutionsModel" (7 : Nat) "LeastSolutionsModel" "text" "[I") ∈ wd := wd_t (List.mem_of_getElem? (i := 887) (by decide +kernel)) rfl
theorem k_888 : (Jvm.Cond.fieldLink "LeastSolutionsModel" (84 : Nat) "LeastSolutionsModel" "length" "I") ∈ wd := wd_t (List.mem_of_getElem? (i := 888) (by decide +kernel)) rfl
theorem k_889 : (Jvm.Cond.fieldLink "LeastSolutionsModel" (13 : Nat) "LeastSolutionsModel" "wrong" "I") ∈ wd := wd_t (List.mem_of_getElem? (i := 889) (by decide +kernel)) rfl
theorem k_890 : (Jvm.Cond.fieldLink "LeastSolutionsModel" (17 : Nat) "LeastSolutionsModel" "kinds" "[I") ∈ wd := wd_t (List.mem_of_getElem? (i := 890) (by decide +kernel)) rfl
theorem k_891 : (Jvm.Cond.fieldLink "LeastSolutionsModel" (20 : Nat) "LeastSolutionsModel" "places" "[I") ∈ wd := wd_t (List.mem_of_getElem? (i := 891) (by decide +kernel)) rfl
theorem k_892 : (Jvm.Cond.fieldLink "LeastSolutionsModel" (23 : Nat) "LeastSolutionsModel" "values" "[I") ∈ wd := wd_t (List.mem_of_getElem? (i := 892) (by decide +kernel)) rfl
theorem k_893 : (Jvm.Cond.fieldLink "LeastSolutionsModel" (93 : Nat) "LeastSolutionsModel" "words" "I") ∈ wd := wd_t (List.mem_of_getElem? (i := 893) (by decide +kernel)) rfl
theorem k_894 : (Jvm.Cond.fieldLink "LeastSolutionsModel" (26 : Nat) "LeastSolutionsModel" "draftLetters" "[I") ∈ wd := wd_t (List.mem_of_getElem? (i := 894) (by decide +kernel)) rfl
theorem k_895 : (Jvm.Cond.fieldLink "LeastSolutionsModel" (104 : Nat) "LeastSolutionsModel" "draftVariables" "I") ∈ wd := wd_t (List.mem_of_getElem? (i := 895) (by decide +kernel)) rfl
theorem k_896 : (Jvm.Cond.fieldLink "LeastSolutionsModel" (107 : Nat) "LeastSolutionsModel" "draftSlacks" "I") ∈ wd := wd_t (List.mem_of_getElem? (i := 896) (by decide +kernel)) rfl
theorem k_897 : (Jvm.Cond.fieldLink "LeastSolutionsModel" (110 : Nat) "LeastSolutionsModel" "draftRows" "I") ∈ wd := wd_t (List.mem_of_getElem? (i := 897) (by decide +kernel)) rfl
theorem k_898 : (Jvm.Cond.fieldLink "LeastSolutionsModel" (29 : Nat) "LeastSolutionsModel" "draftNumbers" "[I") ∈ wd := wd_t (List.mem_of_getElem? (i := 898) (by decide +kernel)) rfl
theorem k_899 : (Jvm.Cond.fieldLink "LeastSolutionsModel" (32 : Nat) "LeastSolutionsModel" "draftSigns" "[I") ∈ wd := wd_t (List.mem_of_getElem? (i := 899) (by decide +kernel)) rfl
theorem k_902 : (Jvm.Cond.fieldLink "LeastSolutionsModel" (140 : Nat) "LeastSolutionsModel" "variables" "I") ∈ wd := wd_t (List.mem_of_getElem? (i := 902) (by decide +kernel)) rfl
theorem k_904 : (Jvm.Cond.fieldLink "LeastSolutionsModel" (35 : Nat) "LeastSolutionsModel" "letters" "[I") ∈ wd := wd_t (List.mem_of_getElem? (i := 904) (by decide +kernel)) rfl
theorem k_906 : (Jvm.Cond.fieldLink "LeastSolutionsModel" (41 : Nat) "LeastSolutionsModel" "isList" "[Z") ∈ wd := wd_t (List.mem_of_getElem? (i := 906) (by decide +kernel)) rfl
theorem k_908 : (Jvm.Cond.fieldLink "LeastSolutionsModel" (48 : Nat) "LeastSolutionsModel" "sizes" "[I") ∈ wd := wd_t (List.mem_of_getElem? (i := 908) (by decide +kernel)) rfl
theorem k_910 : (Jvm.Cond.fieldLink "LeastSolutionsModel" (56 : Nat) "LeastSolutionsModel" "told" "[I") ∈ wd := wd_t (List.mem_of_getElem? (i := 910) (by decide +kernel)) rfl
theorem k_911 : (Jvm.Cond.fieldLink "LeastSolutionsModel" (59 : Nat) "LeastSolutionsModel" "costs" "[I") ∈ wd := wd_t (List.mem_of_getElem? (i := 911) (by decide +kernel)) rfl
theorem k_912 : (Jvm.Cond.fieldLink "LeastSolutionsModel" (146 : Nat) "LeastSolutionsModel" "isSplit" "Z") ∈ wd := wd_t (List.mem_of_getElem? (i := 912) (by decide +kernel)) rfl
theorem k_914 : (Jvm.Cond.fieldLink "LeastSolutionsModel" (149 : Nat) "LeastSolutionsModel" "isBest" "Z") ∈ wd := wd_t (List.mem_of_getElem? (i := 914) (by decide +kernel)) rfl
theorem k_1004 : (Jvm.Cond.constantLong "LeastSolutionsModel" (87 : Nat) (255 : Int64)) ∈ wd := wd_t (List.mem_of_getElem? (i := 1004) (by decide +kernel)) rfl
theorem k_1005 : (Jvm.Cond.constantLong "LeastSolutionsModel" (89 : Nat) (32 : Int64)) ∈ wd := wd_t (List.mem_of_getElem? (i := 1005) (by decide +kernel)) rfl
theorem k_1006 : (Jvm.Cond.constantLong "LeastSolutionsModel" (91 : Nat) (126 : Int64)) ∈ wd := wd_t (List.mem_of_getElem? (i := 1006) (by decide +kernel)) rfl
theorem k_1011 : (Jvm.Cond.methodLink "LeastSolutionsModel" (120 : Nat) ({ cls := "LeastSolutionsModel", name := "cut", desc := "()V" } : Jvm.MethodName)) ∈ wd := wd_t (List.mem_of_getElem? (i := 1011) (by decide +kernel)) rfl
theorem k_1013 : (Jvm.Cond.instanceMethod ({ cls := "LeastSolutionsModel", name := "cut", desc := "()V" } : Jvm.MethodName)) ∈ wd := wd_t (List.mem_of_getElem? (i := 1013) (by decide +kernel)) rfl
theorem k_1014 : (Jvm.Cond.code ({ cls := "LeastSolutionsModel", name := "cut", desc := "()V" } : Jvm.MethodName) prog_12_method_6_code (7 : Nat) (Option.none : Option Jvm.ClassFile.FieldType)) ∈ wd := wd_t (List.mem_of_getElem? (i := 1014) (by decide +kernel)) rfl
theorem k_1015 : (Jvm.Cond.methodLink "LeastSolutionsModel" (96 : Nat) ({ cls := "LeastSolutionsModel", name := "letter0", desc := "(I)I" } : Jvm.MethodName)) ∈ wd := wd_t (List.mem_of_getElem? (i := 1015) (by decide +kernel)) rfl
theorem k_1017 : (Jvm.Cond.instanceMethod ({ cls := "LeastSolutionsModel", name := "letter0", desc := "(I)I" } : Jvm.MethodName)) ∈ wd := wd_t (List.mem_of_getElem? (i := 1017) (by decide +kernel)) rfl
theorem k_1018 : (Jvm.Cond.code ({ cls := "LeastSolutionsModel", name := "letter0", desc := "(I)I" } : Jvm.MethodName) prog_12_method_5_code (2 : Nat) (Option.some Jvm.ClassFile.FieldType.int)) ∈ wd := wd_t (List.mem_of_getElem? (i := 1018) (by decide +kernel)) rfl
theorem k_1019 : (Jvm.Cond.methodLink "LeastSolutionsModel" (100 : Nat) ({ cls := "LeastSolutionsModel", name := "word", desc := "(III)V" } : Jvm.MethodName)) ∈ wd := wd_t (List.mem_of_getElem? (i := 1019) (by decide +kernel)) rfl
theorem k_1021 : (Jvm.Cond.instanceMethod ({ cls := "LeastSolutionsModel", name := "word", desc := "(III)V" } : Jvm.MethodName)) ∈ wd := wd_t (List.mem_of_getElem? (i := 1021) (by decide +kernel)) rfl
theorem k_1022 : (Jvm.Cond.code ({ cls := "LeastSolutionsModel", name := "word", desc := "(III)V" } : Jvm.MethodName) prog_12_method_4_code (4 : Nat) (Option.none : Option Jvm.ClassFile.FieldType)) ∈ wd := wd_t (List.mem_of_getElem? (i := 1022) (by decide +kernel)) rfl
theorem k_1023 : (Jvm.Cond.methodLink "LeastSolutionsModel" (123 : Nat) ({ cls := "LeastSolutionsModel", name := "bad", desc := "()I" } : Jvm.MethodName)) ∈ wd := wd_t (List.mem_of_getElem? (i := 1023) (by decide +kernel)) rfl
theorem k_1025 : (Jvm.Cond.instanceMethod ({ cls := "LeastSolutionsModel", name := "bad", desc := "()I" } : Jvm.MethodName)) ∈ wd := wd_t (List.mem_of_getElem? (i := 1025) (by decide +kernel)) rfl
theorem k_1026 : (Jvm.Cond.code ({ cls := "LeastSolutionsModel", name := "bad", desc := "()I" } : Jvm.MethodName) prog_12_method_7_code (6 : Nat) (Option.some Jvm.ClassFile.FieldType.int)) ∈ wd := wd_t (List.mem_of_getElem? (i := 1026) (by decide +kernel)) rfl
theorem k_1027 : (Jvm.Cond.methodLink "LeastSolutionsModel" (113 : Nat) ({ cls := "LeastSolutionsModel", name := "fault", desc := "(II)I" } : Jvm.MethodName)) ∈ wd := wd_t (List.mem_of_getElem? (i := 1027) (by decide +kernel)) rfl
theorem k_1029 : (Jvm.Cond.instanceMethod ({ cls := "LeastSolutionsModel", name := "fault", desc := "(II)I" } : Jvm.MethodName)) ∈ wd := wd_t (List.mem_of_getElem? (i := 1029) (by decide +kernel)) rfl
theorem k_1030 : (Jvm.Cond.code ({ cls := "LeastSolutionsModel", name := "fault", desc := "(II)I" } : Jvm.MethodName) prog_12_method_8_code (3 : Nat) (Option.some Jvm.ClassFile.FieldType.int)) ∈ wd := wd_t (List.mem_of_getElem? (i := 1030) (by decide +kernel)) rfl
theorem k_1031 : (Jvm.Cond.methodLink "LeastSolutionsModel" (127 : Nat) ({ cls := "LeastSolutionsModel", name := "build", desc := "()I" } : Jvm.MethodName)) ∈ wd := wd_t (List.mem_of_getElem? (i := 1031) (by decide +kernel)) rfl
theorem k_1033 : (Jvm.Cond.instanceMethod ({ cls := "LeastSolutionsModel", name := "build", desc := "()I" } : Jvm.MethodName)) ∈ wd := wd_t (List.mem_of_getElem? (i := 1033) (by decide +kernel)) rfl
theorem k_1034 : (Jvm.Cond.code ({ cls := "LeastSolutionsModel", name := "build", desc := "()I" } : Jvm.MethodName) prog_12_method_10_code (9 : Nat) (Option.some Jvm.ClassFile.FieldType.int)) ∈ wd := wd_t (List.mem_of_getElem? (i := 1034) (by decide +kernel)) rfl
theorem k_1035 : (Jvm.Cond.methodLink "LeastSolutionsModel" (117 : Nat) ({ cls := "LeastSolutionsModel", name := "draftColumn", desc := "(I)I" } : Jvm.MethodName)) ∈ wd := wd_t (List.mem_of_getElem? (i := 1035) (by decide +kernel)) rfl
theorem k_1037 : (Jvm.Cond.instanceMethod ({ cls := "LeastSolutionsModel", name := "draftColumn", desc := "(I)I" } : Jvm.MethodName)) ∈ wd := wd_t (List.mem_of_getElem? (i := 1037) (by decide +kernel)) rfl
theorem k_1038 : (Jvm.Cond.code ({ cls := "LeastSolutionsModel", name := "draftColumn", desc := "(I)I" } : Jvm.MethodName) prog_12_method_9_code (4 : Nat) (Option.some Jvm.ClassFile.FieldType.int)) ∈ wd := wd_t (List.mem_of_getElem? (i := 1038) (by decide +kernel)) rfl
theorem k_1039 : (Jvm.Cond.methodLink "LeastSolutionsModel" (130 : Nat) ({ cls := "LeastSolutionsModel", name := "take", desc := "()V" } : Jvm.MethodName)) ∈ wd := wd_t (List.mem_of_getElem? (i := 1039) (by decide +kernel)) rfl
theorem k_1041 : (Jvm.Cond.instanceMethod ({ cls := "LeastSolutionsModel", name := "take", desc := "()V" } : Jvm.MethodName)) ∈ wd := wd_t (List.mem_of_getElem? (i := 1041) (by decide +kernel)) rfl
theorem k_1042 : (Jvm.Cond.code ({ cls := "LeastSolutionsModel", name := "take", desc := "()V" } : Jvm.MethodName) prog_12_method_12_code (4 : Nat) (Option.none : Option Jvm.ClassFile.FieldType)) ∈ wd := wd_t (List.mem_of_getElem? (i := 1042) (by decide +kernel)) rfl
abbrev y_MO_bad : MethodName := ⟨"LeastSolutionsModel", "bad", "()I"⟩
abbrev b_MO_bad : ByteArray := prog_12_method_7_code
abbrev y_MO_build : MethodName := ⟨"LeastSolutionsModel", "build", "()I"⟩
abbrev b_MO_build : ByteArray := prog_12_method_10_code
abbrev y_MO_cut : MethodName := ⟨"LeastSolutionsModel", "cut", "()V"⟩
abbrev b_MO_cut : ByteArray := prog_12_method_6_code
abbrev y_MO_draftColumn : MethodName := ⟨"LeastSolutionsModel", "draftColumn", "(I)I"⟩
abbrev b_MO_draftColumn : ByteArray := prog_12_method_9_code
abbrev y_MO_fault : MethodName := ⟨"LeastSolutionsModel", "fault", "(II)I"⟩
abbrev b_MO_fault : ByteArray := prog_12_method_8_code
abbrev y_MO_letter0 : MethodName := ⟨"LeastSolutionsModel", "letter0", "(I)I"⟩
abbrev b_MO_letter0 : ByteArray := prog_12_method_5_code
abbrev y_MO_read : MethodName := ⟨"LeastSolutionsModel", "read", "()I"⟩
abbrev b_MO_read : ByteArray := prog_12_method_11_code
abbrev y_MO_take : MethodName := ⟨"LeastSolutionsModel", "take", "()V"⟩
abbrev b_MO_take : ByteArray := prog_12_method_12_code
abbrev y_MO_type : MethodName := ⟨"LeastSolutionsModel", "type", "(JI)I"⟩
abbrev b_MO_type : ByteArray := prog_12_method_3_code
abbrev y_MO_word : MethodName := ⟨"LeastSolutionsModel", "word", "(III)V"⟩
abbrev b_MO_word : ByteArray := prog_12_method_4_code
theorem ks_MO_bad : Cond.selects "LeastSolutionsModel" ({ cls := "LeastSolutionsModel", name := "bad", desc := "()I" } : Jvm.MethodName) ({ cls := "LeastSolutionsModel", name := "bad", desc := "()I" } : Jvm.MethodName) ∈ wd := wd_p (q := (⟨"LeastSolutionsModel", "bad", "()I"⟩, 36)) (List.mem_of_getElem? (i := 38) (by decide +kernel))
theorem ks_MO_build : Cond.selects "LeastSolutionsModel" ({ cls := "LeastSolutionsModel", name := "build", desc := "()I" } : Jvm.MethodName) ({ cls := "LeastSolutionsModel", name := "build", desc := "()I" } : Jvm.MethodName) ∈ wd := wd_p (q := (⟨"LeastSolutionsModel", "build", "()I"⟩, 36)) (List.mem_of_getElem? (i := 40) (by decide +kernel))
theorem ks_MO_cut : Cond.selects "LeastSolutionsModel" ({ cls := "LeastSolutionsModel", name := "cut", desc := "()V" } : Jvm.MethodName) ({ cls := "LeastSolutionsModel", name := "cut", desc := "()V" } : Jvm.MethodName) ∈ wd := wd_p (q := (⟨"LeastSolutionsModel", "cut", "()V"⟩, 36)) (List.mem_of_getElem? (i := 35) (by decide +kernel))
theorem ks_MO_draftColumn : Cond.selects "LeastSolutionsModel" ({ cls := "LeastSolutionsModel", name := "draftColumn", desc := "(I)I" } : Jvm.MethodName) ({ cls := "LeastSolutionsModel", name := "draftColumn", desc := "(I)I" } : Jvm.MethodName) ∈ wd := wd_p (q := (⟨"LeastSolutionsModel", "draftColumn", "(I)I"⟩, 36)) (List.mem_of_getElem? (i := 41) (by decide +kernel))
theorem ks_MO_fault : Cond.selects "LeastSolutionsModel" ({ cls := "LeastSolutionsModel", name := "fault", desc := "(II)I" } : Jvm.MethodName) ({ cls := "LeastSolutionsModel", name := "fault", desc := "(II)I" } : Jvm.MethodName) ∈ wd := wd_p (q := (⟨"LeastSolutionsModel", "fault", "(II)I"⟩, 36)) (List.mem_of_getElem? (i := 39) (by decide +kernel))
theorem ks_MO_letter0 : Cond.selects "LeastSolutionsModel" ({ cls := "LeastSolutionsModel", name := "letter0", desc := "(I)I" } : Jvm.MethodName) ({ cls := "LeastSolutionsModel", name := "letter0", desc := "(I)I" } : Jvm.MethodName) ∈ wd := wd_p (q := (⟨"LeastSolutionsModel", "letter0", "(I)I"⟩, 36)) (List.mem_of_getElem? (i := 36) (by decide +kernel))
theorem ks_MO_take : Cond.selects "LeastSolutionsModel" ({ cls := "LeastSolutionsModel", name := "take", desc := "()V" } : Jvm.MethodName) ({ cls := "LeastSolutionsModel", name := "take", desc := "()V" } : Jvm.MethodName) ∈ wd := wd_p (q := (⟨"LeastSolutionsModel", "take", "()V"⟩, 36)) (List.mem_of_getElem? (i := 42) (by decide +kernel))
theorem ks_MO_word : Cond.selects "LeastSolutionsModel" ({ cls := "LeastSolutionsModel", name := "word", desc := "(III)V" } : Jvm.MethodName) ({ cls := "LeastSolutionsModel", name := "word", desc := "(III)V" } : Jvm.MethodName) ∈ wd := wd_p (q := (⟨"LeastSolutionsModel", "word", "(III)V"⟩, 36)) (List.mem_of_getElem? (i := 37) (by decide +kernel))
theorem d_MO_bad_0 : decode b_MO_bad 0 = .ok (.iconst 0, 1) := by decide +kernel
theorem d_MO_bad_1 : decode b_MO_bad 1 = .ok (.istore_n 1, 1) := by decide +kernel
theorem d_MO_bad_2 : decode b_MO_bad 2 = .ok (.iconst 0, 1) := by decide +kernel
theorem d_MO_bad_3 : decode b_MO_bad 3 = .ok (.istore_n 2, 1) := by decide +kernel
theorem d_MO_bad_4 : decode b_MO_bad 4 = .ok (.iconst 0, 1) := by decide +kernel
theorem d_MO_bad_5 : decode b_MO_bad 5 = .ok (.istore_n 3, 1) := by decide +kernel
theorem d_MO_bad_6 : decode b_MO_bad 6 = .ok (.iload_n 3, 1) := by decide +kernel
theorem d_MO_bad_7 : decode b_MO_bad 7 = .ok (.aload_n 0, 1) := by decide +kernel
theorem d_MO_bad_8 : decode b_MO_bad 8 = .ok (.getfield 93, 3) := by decide +kernel
theorem d_MO_bad_11 : decode b_MO_bad 11 = .ok (.if_icmp .ge 198, 3) := by decide +kernel
theorem d_MO_bad_14 : decode b_MO_bad 14 = .ok (.aload_n 0, 1) := by decide +kernel
theorem d_MO_bad_15 : decode b_MO_bad 15 = .ok (.getfield 17, 3) := by decide +kernel
theorem d_MO_bad_18 : decode b_MO_bad 18 = .ok (.iload_n 3, 1) := by decide +kernel
theorem d_MO_bad_19 : decode b_MO_bad 19 = .ok (.iaload, 1) := by decide +kernel
theorem d_MO_bad_20 : decode b_MO_bad 20 = .ok (.istore 4, 2) := by decide +kernel
theorem d_MO_bad_22 : decode b_MO_bad 22 = .ok (.iload_n 1, 1) := by decide +kernel
theorem d_MO_bad_23 : decode b_MO_bad 23 = .ok (.iconst 2, 1) := by decide +kernel
theorem d_MO_bad_24 : decode b_MO_bad 24 = .ok (.if_icmp .eq 8, 3) := by decide +kernel
theorem d_MO_bad_27 : decode b_MO_bad 27 = .ok (.iload_n 1, 1) := by decide +kernel
theorem d_MO_bad_28 : decode b_MO_bad 28 = .ok (.iconst 4, 1) := by decide +kernel
theorem d_MO_bad_29 : decode b_MO_bad 29 = .ok (.if_icmp .ne 7, 3) := by decide +kernel
theorem d_MO_bad_32 : decode b_MO_bad 32 = .ok (.iconst 1, 1) := by decide +kernel
theorem d_MO_bad_33 : decode b_MO_bad 33 = .ok (.goto 4, 3) := by decide +kernel
theorem d_MO_bad_36 : decode b_MO_bad 36 = .ok (.iconst 0, 1) := by decide +kernel
theorem d_MO_bad_37 : decode b_MO_bad 37 = .ok (.istore 5, 2) := by decide +kernel
theorem d_MO_bad_39 : decode b_MO_bad 39 = .ok (.iload_n 1, 1) := by decide +kernel
theorem d_MO_bad_40 : decode b_MO_bad 40 = .ok (.iconst 2, 1) := by decide +kernel
theorem d_MO_bad_41 : decode b_MO_bad 41 = .ok (.if_icmp .ge 14, 3) := by decide +kernel
theorem d_MO_bad_44 : decode b_MO_bad 44 = .ok (.iload 4, 2) := by decide +kernel
theorem d_MO_bad_46 : decode b_MO_bad 46 = .ok (.iconst 1, 1) := by decide +kernel
theorem d_MO_bad_47 : decode b_MO_bad 47 = .ok (.if_icmp .ne 8, 3) := by decide +kernel
theorem d_MO_bad_50 : decode b_MO_bad 50 = .ok (.iconst 2, 1) := by decide +kernel
theorem d_MO_bad_51 : decode b_MO_bad 51 = .ok (.istore_n 1, 1) := by decide +kernel
theorem d_MO_bad_52 : decode b_MO_bad 52 = .ok (.goto 151, 3) := by decide +kernel
theorem d_MO_bad_55 : decode b_MO_bad 55 = .ok (.iload_n 1, 1) := by decide +kernel
theorem d_MO_bad_56 : decode b_MO_bad 56 = .ok (.iconst 2, 1) := by decide +kernel
theorem d_MO_bad_57 : decode b_MO_bad 57 = .ok (.if_icmp .lt 13, 3) := by decide +kernel
theorem d_MO_bad_60 : decode b_MO_bad 60 = .ok (.iload_n 1, 1) := by decide +kernel
theorem d_MO_bad_61 : decode b_MO_bad 61 = .ok (.iconst 2, 1) := by decide +kernel
theorem d_MO_bad_62 : decode b_MO_bad 62 = .ok (.if_icmp .eq 8, 3) := by decide +kernel
theorem d_MO_bad_65 : decode b_MO_bad 65 = .ok (.iload_n 1, 1) := by decide +kernel
theorem d_MO_bad_66 : decode b_MO_bad 66 = .ok (.iconst 3, 1) := by decide +kernel
theorem d_MO_bad_67 : decode b_MO_bad 67 = .ok (.if_icmp .ne 14, 3) := by decide +kernel
theorem d_MO_bad_70 : decode b_MO_bad 70 = .ok (.iload 4, 2) := by decide +kernel
theorem d_MO_bad_72 : decode b_MO_bad 72 = .ok (.iconst 2, 1) := by decide +kernel
theorem d_MO_bad_73 : decode b_MO_bad 73 = .ok (.if_icmp .ne 8, 3) := by decide +kernel
theorem d_MO_bad_76 : decode b_MO_bad 76 = .ok (.iconst 4, 1) := by decide +kernel
theorem d_MO_bad_77 : decode b_MO_bad 77 = .ok (.istore_n 1, 1) := by decide +kernel
theorem d_MO_bad_78 : decode b_MO_bad 78 = .ok (.goto 125, 3) := by decide +kernel
theorem d_MO_bad_81 : decode b_MO_bad 81 = .ok (.iload_n 1, 1) := by decide +kernel
theorem d_MO_bad_82 : decode b_MO_bad 82 = .ok (.ifCond .ne 14, 3) := by decide +kernel
theorem d_MO_bad_85 : decode b_MO_bad 85 = .ok (.iload 4, 2) := by decide +kernel
theorem d_MO_bad_87 : decode b_MO_bad 87 = .ok (.iconst 4, 1) := by decide +kernel
theorem d_MO_bad_88 : decode b_MO_bad 88 = .ok (.if_icmp .ne 8, 3) := by decide +kernel
theorem d_MO_bad_91 : decode b_MO_bad 91 = .ok (.iconst 1, 1) := by decide +kernel
theorem d_MO_bad_92 : decode b_MO_bad 92 = .ok (.istore_n 1, 1) := by decide +kernel
theorem d_MO_bad_93 : decode b_MO_bad 93 = .ok (.goto 110, 3) := by decide +kernel
theorem d_MO_bad_96 : decode b_MO_bad 96 = .ok (.iload_n 1, 1) := by decide +kernel
theorem d_MO_bad_97 : decode b_MO_bad 97 = .ok (.iconst 2, 1) := by decide +kernel
theorem d_MO_bad_98 : decode b_MO_bad 98 = .ok (.if_icmp .ne 14, 3) := by decide +kernel
theorem d_MO_bad_101 : decode b_MO_bad 101 = .ok (.iload 4, 2) := by decide +kernel
theorem d_MO_bad_103 : decode b_MO_bad 103 = .ok (.iconst 5, 1) := by decide +kernel
theorem d_MO_bad_104 : decode b_MO_bad 104 = .ok (.if_icmp .ne 8, 3) := by decide +kernel
theorem d_MO_bad_107 : decode b_MO_bad 107 = .ok (.iconst 3, 1) := by decide +kernel
theorem d_MO_bad_108 : decode b_MO_bad 108 = .ok (.istore_n 1, 1) := by decide +kernel
theorem d_MO_bad_109 : decode b_MO_bad 109 = .ok (.goto 94, 3) := by decide +kernel
theorem d_MO_bad_112 : decode b_MO_bad 112 = .ok (.iload 5, 2) := by decide +kernel
theorem d_MO_bad_114 : decode b_MO_bad 114 = .ok (.ifCond .eq 20, 3) := by decide +kernel
theorem d_MO_bad_117 : decode b_MO_bad 117 = .ok (.iload 4, 2) := by decide +kernel
theorem d_MO_bad_119 : decode b_MO_bad 119 = .ok (.iconst 3, 1) := by decide +kernel
theorem d_MO_bad_120 : decode b_MO_bad 120 = .ok (.if_icmp .eq 9, 3) := by decide +kernel
theorem d_MO_bad_123 : decode b_MO_bad 123 = .ok (.iload 4, 2) := by decide +kernel
theorem d_MO_bad_125 : decode b_MO_bad 125 = .ok (.iconst 4, 1) := by decide +kernel
theorem d_MO_bad_126 : decode b_MO_bad 126 = .ok (.if_icmp .ne 8, 3) := by decide +kernel
theorem d_MO_bad_129 : decode b_MO_bad 129 = .ok (.iconst 1, 1) := by decide +kernel
theorem d_MO_bad_130 : decode b_MO_bad 130 = .ok (.istore_n 1, 1) := by decide +kernel
theorem d_MO_bad_131 : decode b_MO_bad 131 = .ok (.goto 72, 3) := by decide +kernel
theorem d_MO_bad_134 : decode b_MO_bad 134 = .ok (.iload 5, 2) := by decide +kernel
theorem d_MO_bad_136 : decode b_MO_bad 136 = .ok (.ifCond .eq 28, 3) := by decide +kernel
theorem d_MO_bad_139 : decode b_MO_bad 139 = .ok (.iload_n 2, 1) := by decide +kernel
theorem d_MO_bad_140 : decode b_MO_bad 140 = .ok (.ifCond .ne 24, 3) := by decide +kernel
theorem d_MO_bad_143 : decode b_MO_bad 143 = .ok (.iload 4, 2) := by decide +kernel
theorem d_MO_bad_145 : decode b_MO_bad 145 = .ok (.bipush 7, 2) := by decide +kernel
theorem d_MO_bad_147 : decode b_MO_bad 147 = .ok (.if_icmp .lt 17, 3) := by decide +kernel
theorem d_MO_bad_150 : decode b_MO_bad 150 = .ok (.iload 4, 2) := by decide +kernel
theorem d_MO_bad_152 : decode b_MO_bad 152 = .ok (.bipush 9, 2) := by decide +kernel
theorem d_MO_bad_154 : decode b_MO_bad 154 = .ok (.if_icmp .gt 10, 3) := by decide +kernel
theorem d_MO_bad_157 : decode b_MO_bad 157 = .ok (.iconst 1, 1) := by decide +kernel
theorem d_MO_bad_158 : decode b_MO_bad 158 = .ok (.istore_n 2, 1) := by decide +kernel
theorem d_MO_bad_159 : decode b_MO_bad 159 = .ok (.iconst 0, 1) := by decide +kernel
theorem d_MO_bad_160 : decode b_MO_bad 160 = .ok (.istore_n 1, 1) := by decide +kernel
theorem d_MO_bad_161 : decode b_MO_bad 161 = .ok (.goto 42, 3) := by decide +kernel
theorem d_MO_bad_164 : decode b_MO_bad 164 = .ok (.iload 5, 2) := by decide +kernel
theorem d_MO_bad_166 : decode b_MO_bad 166 = .ok (.ifCond .eq 21, 3) := by decide +kernel
theorem d_MO_bad_169 : decode b_MO_bad 169 = .ok (.iload_n 2, 1) := by decide +kernel
theorem d_MO_bad_170 : decode b_MO_bad 170 = .ok (.ifCond .eq 17, 3) := by decide +kernel
theorem d_MO_bad_173 : decode b_MO_bad 173 = .ok (.iload 4, 2) := by decide +kernel
theorem d_MO_bad_175 : decode b_MO_bad 175 = .ok (.bipush 6, 2) := by decide +kernel
theorem d_MO_bad_177 : decode b_MO_bad 177 = .ok (.if_icmp .ne 10, 3) := by decide +kernel
theorem d_MO_bad_180 : decode b_MO_bad 180 = .ok (.iconst 0, 1) := by decide +kernel
theorem d_MO_bad_181 : decode b_MO_bad 181 = .ok (.istore_n 2, 1) := by decide +kernel
theorem d_MO_bad_182 : decode b_MO_bad 182 = .ok (.iconst 0, 1) := by decide +kernel
theorem d_MO_bad_183 : decode b_MO_bad 183 = .ok (.istore_n 1, 1) := by decide +kernel
theorem d_MO_bad_184 : decode b_MO_bad 184 = .ok (.goto 19, 3) := by decide +kernel
theorem d_MO_bad_187 : decode b_MO_bad 187 = .ok (.iload 5, 2) := by decide +kernel
theorem d_MO_bad_189 : decode b_MO_bad 189 = .ok (.ifCond .eq 12, 3) := by decide +kernel
theorem d_MO_bad_192 : decode b_MO_bad 192 = .ok (.iload_n 2, 1) := by decide +kernel
theorem d_MO_bad_193 : decode b_MO_bad 193 = .ok (.ifCond .eq 8, 3) := by decide +kernel
theorem d_MO_bad_196 : decode b_MO_bad 196 = .ok (.iload 4, 2) := by decide +kernel
theorem d_MO_bad_198 : decode b_MO_bad 198 = .ok (.ifCond .eq 5, 3) := by decide +kernel
theorem d_MO_bad_201 : decode b_MO_bad 201 = .ok (.iload_n 3, 1) := by decide +kernel
theorem d_MO_bad_202 : decode b_MO_bad 202 = .ok (.ireturn, 1) := by decide +kernel
theorem d_MO_bad_203 : decode b_MO_bad 203 = .ok (.iinc 3 1, 3) := by decide +kernel
theorem d_MO_bad_206 : decode b_MO_bad 206 = .ok (.goto (-200), 3) := by decide +kernel
theorem d_MO_bad_209 : decode b_MO_bad 209 = .ok (.iconst (-1), 1) := by decide +kernel
theorem d_MO_bad_210 : decode b_MO_bad 210 = .ok (.ireturn, 1) := by decide +kernel
theorem d_MO_build_0 : decode b_MO_build 0 = .ok (.aload_n 0, 1) := by decide +kernel
theorem d_MO_build_1 : decode b_MO_build 1 = .ok (.iconst 0, 1) := by decide +kernel
theorem d_MO_build_2 : decode b_MO_build 2 = .ok (.putfield 104, 3) := by decide +kernel
theorem d_MO_build_5 : decode b_MO_build 5 = .ok (.aload_n 0, 1) := by decide +kernel
theorem d_MO_build_6 : decode b_MO_build 6 = .ok (.iconst 0, 1) := by decide +kernel
theorem d_MO_build_7 : decode b_MO_build 7 = .ok (.putfield 107, 3) := by decide +kernel
theorem d_MO_build_10 : decode b_MO_build 10 = .ok (.aload_n 0, 1) := by decide +kernel
theorem d_MO_build_11 : decode b_MO_build 11 = .ok (.iconst 0, 1) := by decide +kernel
theorem d_MO_build_12 : decode b_MO_build 12 = .ok (.putfield 110, 3) := by decide +kernel
theorem d_MO_build_15 : decode b_MO_build 15 = .ok (.iconst 0, 1) := by decide +kernel
theorem d_MO_build_16 : decode b_MO_build 16 = .ok (.istore_n 1, 1) := by decide +kernel
theorem d_MO_build_17 : decode b_MO_build 17 = .ok (.iload_n 1, 1) := by decide +kernel
theorem d_MO_build_18 : decode b_MO_build 18 = .ok (.bipush 28, 2) := by decide +kernel
theorem d_MO_build_20 : decode b_MO_build 20 = .ok (.if_icmp .ge 16, 3) := by decide +kernel
theorem d_MO_build_23 : decode b_MO_build 23 = .ok (.aload_n 0, 1) := by decide +kernel
theorem d_MO_build_24 : decode b_MO_build 24 = .ok (.getfield 29, 3) := by decide +kernel
theorem d_MO_build_27 : decode b_MO_build 27 = .ok (.iload_n 1, 1) := by decide +kernel
theorem d_MO_build_28 : decode b_MO_build 28 = .ok (.iconst 0, 1) := by decide +kernel
theorem d_MO_build_29 : decode b_MO_build 29 = .ok (.iastore, 1) := by decide +kernel
theorem d_MO_build_30 : decode b_MO_build 30 = .ok (.iinc 1 1, 3) := by decide +kernel
theorem d_MO_build_33 : decode b_MO_build 33 = .ok (.goto (-16), 3) := by decide +kernel
theorem d_MO_build_36 : decode b_MO_build 36 = .ok (.iconst 0, 1) := by decide +kernel
theorem d_MO_build_37 : decode b_MO_build 37 = .ok (.istore_n 1, 1) := by decide +kernel
theorem d_MO_build_38 : decode b_MO_build 38 = .ok (.aload_n 0, 1) := by decide +kernel
theorem d_MO_build_39 : decode b_MO_build 39 = .ok (.getfield 17, 3) := by decide +kernel
theorem d_MO_build_42 : decode b_MO_build 42 = .ok (.iload_n 1, 1) := by decide +kernel
theorem d_MO_build_43 : decode b_MO_build 43 = .ok (.iaload, 1) := by decide +kernel
theorem d_MO_build_44 : decode b_MO_build 44 = .ok (.ifCond .eq 560, 3) := by decide +kernel
theorem d_MO_build_47 : decode b_MO_build 47 = .ok (.aload_n 0, 1) := by decide +kernel
theorem d_MO_build_48 : decode b_MO_build 48 = .ok (.getfield 110, 3) := by decide +kernel
theorem d_MO_build_51 : decode b_MO_build 51 = .ok (.iconst 4, 1) := by decide +kernel
theorem d_MO_build_52 : decode b_MO_build 52 = .ok (.if_icmp .ne 15, 3) := by decide +kernel
theorem d_MO_build_55 : decode b_MO_build 55 = .ok (.aload_n 0, 1) := by decide +kernel
theorem d_MO_build_56 : decode b_MO_build 56 = .ok (.iconst 2, 1) := by decide +kernel
theorem d_MO_build_57 : decode b_MO_build 57 = .ok (.aload_n 0, 1) := by decide +kernel
theorem d_MO_build_58 : decode b_MO_build 58 = .ok (.getfield 20, 3) := by decide +kernel
theorem d_MO_build_61 : decode b_MO_build 61 = .ok (.iload_n 1, 1) := by decide +kernel
theorem d_MO_build_62 : decode b_MO_build 62 = .ok (.iaload, 1) := by decide +kernel
theorem d_MO_build_63 : decode b_MO_build 63 = .ok (.invokevirtual 113, 3) := by decide +kernel
theorem d_MO_build_66 : decode b_MO_build 66 = .ok (.ireturn, 1) := by decide +kernel
theorem d_MO_build_67 : decode b_MO_build 67 = .ok (.iconst 1, 1) := by decide +kernel
theorem d_MO_build_68 : decode b_MO_build 68 = .ok (.istore_n 2, 1) := by decide +kernel
theorem d_MO_build_69 : decode b_MO_build 69 = .ok (.iconst 1, 1) := by decide +kernel
theorem d_MO_build_70 : decode b_MO_build 70 = .ok (.istore_n 3, 1) := by decide +kernel
theorem d_MO_build_71 : decode b_MO_build 71 = .ok (.iload_n 1, 1) := by decide +kernel
theorem d_MO_build_72 : decode b_MO_build 72 = .ok (.istore 4, 2) := by decide +kernel
theorem d_MO_build_74 : decode b_MO_build 74 = .ok (.aload_n 0, 1) := by decide +kernel
theorem d_MO_build_75 : decode b_MO_build 75 = .ok (.getfield 17, 3) := by decide +kernel
theorem d_MO_build_78 : decode b_MO_build 78 = .ok (.iload_n 1, 1) := by decide +kernel
theorem d_MO_build_79 : decode b_MO_build 79 = .ok (.iaload, 1) := by decide +kernel
theorem d_MO_build_80 : decode b_MO_build 80 = .ok (.bipush 6, 2) := by decide +kernel
theorem d_MO_build_82 : decode b_MO_build 82 = .ok (.if_icmp .eq 327, 3) := by decide +kernel
theorem d_MO_build_85 : decode b_MO_build 85 = .ok (.aload_n 0, 1) := by decide +kernel
theorem d_MO_build_86 : decode b_MO_build 86 = .ok (.getfield 17, 3) := by decide +kernel
theorem d_MO_build_89 : decode b_MO_build 89 = .ok (.iload_n 1, 1) := by decide +kernel
theorem d_MO_build_90 : decode b_MO_build 90 = .ok (.iaload, 1) := by decide +kernel
theorem d_MO_build_91 : decode b_MO_build 91 = .ok (.ifCond .eq 318, 3) := by decide +kernel
theorem d_MO_build_94 : decode b_MO_build 94 = .ok (.aload_n 0, 1) := by decide +kernel
theorem d_MO_build_95 : decode b_MO_build 95 = .ok (.getfield 17, 3) := by decide +kernel
theorem d_MO_build_98 : decode b_MO_build 98 = .ok (.iload_n 1, 1) := by decide +kernel
theorem d_MO_build_99 : decode b_MO_build 99 = .ok (.iaload, 1) := by decide +kernel
theorem d_MO_build_100 : decode b_MO_build 100 = .ok (.istore 5, 2) := by decide +kernel
theorem d_MO_build_102 : decode b_MO_build 102 = .ok (.iload 5, 2) := by decide +kernel
theorem d_MO_build_104 : decode b_MO_build 104 = .ok (.iconst 3, 1) := by decide +kernel
theorem d_MO_build_105 : decode b_MO_build 105 = .ok (.if_icmp .eq 9, 3) := by decide +kernel
theorem d_MO_build_108 : decode b_MO_build 108 = .ok (.iload 5, 2) := by decide +kernel
theorem d_MO_build_110 : decode b_MO_build 110 = .ok (.iconst 4, 1) := by decide +kernel
theorem d_MO_build_111 : decode b_MO_build 111 = .ok (.if_icmp .ne 18, 3) := by decide +kernel
theorem d_MO_build_114 : decode b_MO_build 114 = .ok (.iload 5, 2) := by decide +kernel
theorem d_MO_build_116 : decode b_MO_build 116 = .ok (.iconst 3, 1) := by decide +kernel
theorem d_MO_build_117 : decode b_MO_build 117 = .ok (.if_icmp .ne 7, 3) := by decide +kernel
theorem d_MO_build_120 : decode b_MO_build 120 = .ok (.iconst 1, 1) := by decide +kernel
theorem d_MO_build_121 : decode b_MO_build 121 = .ok (.goto 4, 3) := by decide +kernel
theorem d_MO_build_124 : decode b_MO_build 124 = .ok (.iconst (-1), 1) := by decide +kernel
theorem d_MO_build_125 : decode b_MO_build 125 = .ok (.istore_n 2, 1) := by decide +kernel
theorem d_MO_build_126 : decode b_MO_build 126 = .ok (.goto 277, 3) := by decide +kernel
theorem d_MO_build_129 : decode b_MO_build 129 = .ok (.iload 5, 2) := by decide +kernel
theorem d_MO_build_131 : decode b_MO_build 131 = .ok (.bipush 7, 2) := by decide +kernel
theorem d_MO_build_133 : decode b_MO_build 133 = .ok (.if_icmp .lt 13, 3) := by decide +kernel
theorem d_MO_build_136 : decode b_MO_build 136 = .ok (.iload_n 1, 1) := by decide +kernel
theorem d_MO_build_137 : decode b_MO_build 137 = .ok (.istore 4, 2) := by decide +kernel
theorem d_MO_build_139 : decode b_MO_build 139 = .ok (.iconst (-1), 1) := by decide +kernel
theorem d_MO_build_140 : decode b_MO_build 140 = .ok (.istore_n 3, 1) := by decide +kernel
theorem d_MO_build_141 : decode b_MO_build 141 = .ok (.iconst 1, 1) := by decide +kernel
theorem d_MO_build_142 : decode b_MO_build 142 = .ok (.istore_n 2, 1) := by decide +kernel
theorem d_MO_build_143 : decode b_MO_build 143 = .ok (.goto 260, 3) := by decide +kernel
theorem d_MO_build_146 : decode b_MO_build 146 = .ok (.iload 5, 2) := by decide +kernel
theorem d_MO_build_148 : decode b_MO_build 148 = .ok (.iconst 1, 1) := by decide +kernel
theorem d_MO_build_149 : decode b_MO_build 149 = .ok (.if_icmp .ne 83, 3) := by decide +kernel
theorem d_MO_build_152 : decode b_MO_build 152 = .ok (.aload_n 0, 1) := by decide +kernel
theorem d_MO_build_153 : decode b_MO_build 153 = .ok (.getfield 17, 3) := by decide +kernel
theorem d_MO_build_156 : decode b_MO_build 156 = .ok (.iload_n 1, 1) := by decide +kernel
theorem d_MO_build_157 : decode b_MO_build 157 = .ok (.iconst 1, 1) := by decide +kernel
theorem d_MO_build_158 : decode b_MO_build 158 = .ok (.iadd, 1) := by decide +kernel
theorem d_MO_build_159 : decode b_MO_build 159 = .ok (.iaload, 1) := by decide +kernel
theorem d_MO_build_160 : decode b_MO_build 160 = .ok (.iconst 2, 1) := by decide +kernel
theorem d_MO_build_161 : decode b_MO_build 161 = .ok (.if_icmp .eq 19, 3) := by decide +kernel
theorem d_MO_build_164 : decode b_MO_build 164 = .ok (.aload_n 0, 1) := by decide +kernel
theorem d_MO_build_165 : decode b_MO_build 165 = .ok (.getfield 17, 3) := by decide +kernel
theorem d_MO_build_168 : decode b_MO_build 168 = .ok (.iload_n 1, 1) := by decide +kernel
theorem d_MO_build_169 : decode b_MO_build 169 = .ok (.iconst 1, 1) := by decide +kernel
theorem d_MO_build_170 : decode b_MO_build 170 = .ok (.iadd, 1) := by decide +kernel
theorem d_MO_build_171 : decode b_MO_build 171 = .ok (.iaload, 1) := by decide +kernel
theorem d_MO_build_172 : decode b_MO_build 172 = .ok (.iconst 5, 1) := by decide +kernel
theorem d_MO_build_173 : decode b_MO_build 173 = .ok (.if_icmp .eq 7, 3) := by decide +kernel
theorem d_MO_build_176 : decode b_MO_build 176 = .ok (.iconst 1, 1) := by decide +kernel
theorem d_MO_build_177 : decode b_MO_build 177 = .ok (.goto 4, 3) := by decide +kernel
theorem d_MO_build_180 : decode b_MO_build 180 = .ok (.iconst 0, 1) := by decide +kernel
theorem d_MO_build_181 : decode b_MO_build 181 = .ok (.istore 6, 2) := by decide +kernel
theorem d_MO_build_183 : decode b_MO_build 183 = .ok (.iload 6, 2) := by decide +kernel
theorem d_MO_build_185 : decode b_MO_build 185 = .ok (.ifCond .eq 44, 3) := by decide +kernel
theorem d_MO_build_188 : decode b_MO_build 188 = .ok (.aload_n 0, 1) := by decide +kernel
theorem d_MO_build_189 : decode b_MO_build 189 = .ok (.getfield 29, 3) := by decide +kernel
theorem d_MO_build_192 : decode b_MO_build 192 = .ok (.bipush 7, 2) := by decide +kernel
theorem d_MO_build_194 : decode b_MO_build 194 = .ok (.aload_n 0, 1) := by decide +kernel
theorem d_MO_build_195 : decode b_MO_build 195 = .ok (.getfield 110, 3) := by decide +kernel
theorem d_MO_build_198 : decode b_MO_build 198 = .ok (.imul, 1) := by decide +kernel
theorem d_MO_build_199 : decode b_MO_build 199 = .ok (.bipush 6, 2) := by decide +kernel
theorem d_MO_build_201 : decode b_MO_build 201 = .ok (.iadd, 1) := by decide +kernel
theorem d_MO_build_202 : decode b_MO_build 202 = .ok (.aload_n 0, 1) := by decide +kernel
theorem d_MO_build_203 : decode b_MO_build 203 = .ok (.getfield 29, 3) := by decide +kernel
theorem d_MO_build_206 : decode b_MO_build 206 = .ok (.bipush 7, 2) := by decide +kernel
theorem d_MO_build_208 : decode b_MO_build 208 = .ok (.aload_n 0, 1) := by decide +kernel
theorem d_MO_build_209 : decode b_MO_build 209 = .ok (.getfield 110, 3) := by decide +kernel
theorem d_MO_build_212 : decode b_MO_build 212 = .ok (.imul, 1) := by decide +kernel
theorem d_MO_build_213 : decode b_MO_build 213 = .ok (.bipush 6, 2) := by decide +kernel
theorem d_MO_build_215 : decode b_MO_build 215 = .ok (.iadd, 1) := by decide +kernel
theorem d_MO_build_216 : decode b_MO_build 216 = .ok (.iaload, 1) := by decide +kernel
theorem d_MO_build_217 : decode b_MO_build 217 = .ok (.iload_n 3, 1) := by decide +kernel
theorem d_MO_build_218 : decode b_MO_build 218 = .ok (.iload_n 2, 1) := by decide +kernel
theorem d_MO_build_219 : decode b_MO_build 219 = .ok (.imul, 1) := by decide +kernel
theorem d_MO_build_220 : decode b_MO_build 220 = .ok (.aload_n 0, 1) := by decide +kernel
theorem d_MO_build_221 : decode b_MO_build 221 = .ok (.getfield 23, 3) := by decide +kernel
theorem d_MO_build_224 : decode b_MO_build 224 = .ok (.iload_n 1, 1) := by decide +kernel
theorem d_MO_build_225 : decode b_MO_build 225 = .ok (.iaload, 1) := by decide +kernel
theorem d_MO_build_226 : decode b_MO_build 226 = .ok (.imul, 1) := by decide +kernel
theorem d_MO_build_227 : decode b_MO_build 227 = .ok (.isub, 1) := by decide +kernel
theorem d_MO_build_228 : decode b_MO_build 228 = .ok (.iastore, 1) := by decide +kernel
theorem d_MO_build_229 : decode b_MO_build 229 = .ok (.goto 174, 3) := by decide +kernel
theorem d_MO_build_232 : decode b_MO_build 232 = .ok (.iload 5, 2) := by decide +kernel
theorem d_MO_build_234 : decode b_MO_build 234 = .ok (.iconst 2, 1) := by decide +kernel
theorem d_MO_build_235 : decode b_MO_build 235 = .ok (.if_icmp .ne 168, 3) := by decide +kernel
theorem d_MO_build_238 : decode b_MO_build 238 = .ok (.aload_n 0, 1) := by decide +kernel
theorem d_MO_build_239 : decode b_MO_build 239 = .ok (.aload_n 0, 1) := by decide +kernel
theorem d_MO_build_240 : decode b_MO_build 240 = .ok (.getfield 23, 3) := by decide +kernel
theorem d_MO_build_243 : decode b_MO_build 243 = .ok (.iload_n 1, 1) := by decide +kernel
theorem d_MO_build_244 : decode b_MO_build 244 = .ok (.iaload, 1) := by decide +kernel
theorem d_MO_build_245 : decode b_MO_build 245 = .ok (.invokevirtual 117, 3) := by decide +kernel
theorem d_MO_build_248 : decode b_MO_build 248 = .ok (.istore 6, 2) := by decide +kernel
theorem d_MO_build_250 : decode b_MO_build 250 = .ok (.iload 6, 2) := by decide +kernel
theorem d_MO_build_252 : decode b_MO_build 252 = .ok (.ifCond .ge 58, 3) := by decide +kernel
theorem d_MO_build_255 : decode b_MO_build 255 = .ok (.aload_n 0, 1) := by decide +kernel
theorem d_MO_build_256 : decode b_MO_build 256 = .ok (.getfield 104, 3) := by decide +kernel
theorem d_MO_build_259 : decode b_MO_build 259 = .ok (.aload_n 0, 1) := by decide +kernel
theorem d_MO_build_260 : decode b_MO_build 260 = .ok (.getfield 107, 3) := by decide +kernel
theorem d_MO_build_263 : decode b_MO_build 263 = .ok (.iadd, 1) := by decide +kernel
theorem d_MO_build_264 : decode b_MO_build 264 = .ok (.bipush 6, 2) := by decide +kernel
theorem d_MO_build_266 : decode b_MO_build 266 = .ok (.if_icmp .ne 15, 3) := by decide +kernel
theorem d_MO_build_269 : decode b_MO_build 269 = .ok (.aload_n 0, 1) := by decide +kernel
theorem d_MO_build_270 : decode b_MO_build 270 = .ok (.iconst 2, 1) := by decide +kernel
theorem d_MO_build_271 : decode b_MO_build 271 = .ok (.aload_n 0, 1) := by decide +kernel
theorem d_MO_build_272 : decode b_MO_build 272 = .ok (.getfield 20, 3) := by decide +kernel
theorem d_MO_build_275 : decode b_MO_build 275 = .ok (.iload_n 1, 1) := by decide +kernel
theorem d_MO_build_276 : decode b_MO_build 276 = .ok (.iaload, 1) := by decide +kernel
theorem d_MO_build_277 : decode b_MO_build 277 = .ok (.invokevirtual 113, 3) := by decide +kernel
theorem d_MO_build_280 : decode b_MO_build 280 = .ok (.ireturn, 1) := by decide +kernel
theorem d_MO_build_281 : decode b_MO_build 281 = .ok (.aload_n 0, 1) := by decide +kernel
theorem d_MO_build_282 : decode b_MO_build 282 = .ok (.getfield 104, 3) := by decide +kernel
theorem d_MO_build_285 : decode b_MO_build 285 = .ok (.istore 6, 2) := by decide +kernel
theorem d_MO_build_287 : decode b_MO_build 287 = .ok (.aload_n 0, 1) := by decide +kernel
theorem d_MO_build_288 : decode b_MO_build 288 = .ok (.getfield 26, 3) := by decide +kernel
theorem d_MO_build_291 : decode b_MO_build 291 = .ok (.iload 6, 2) := by decide +kernel
theorem d_MO_build_293 : decode b_MO_build 293 = .ok (.aload_n 0, 1) := by decide +kernel
theorem d_MO_build_294 : decode b_MO_build 294 = .ok (.getfield 23, 3) := by decide +kernel
theorem d_MO_build_297 : decode b_MO_build 297 = .ok (.iload_n 1, 1) := by decide +kernel
theorem d_MO_build_298 : decode b_MO_build 298 = .ok (.iaload, 1) := by decide +kernel
theorem d_MO_build_299 : decode b_MO_build 299 = .ok (.iastore, 1) := by decide +kernel
theorem d_MO_build_300 : decode b_MO_build 300 = .ok (.aload_n 0, 1) := by decide +kernel
theorem d_MO_build_301 : decode b_MO_build 301 = .ok (.dup, 1) := by decide +kernel
theorem d_MO_build_302 : decode b_MO_build 302 = .ok (.getfield 104, 3) := by decide +kernel
theorem d_MO_build_305 : decode b_MO_build 305 = .ok (.iconst 1, 1) := by decide +kernel
theorem d_MO_build_306 : decode b_MO_build 306 = .ok (.iadd, 1) := by decide +kernel
theorem d_MO_build_307 : decode b_MO_build 307 = .ok (.putfield 104, 3) := by decide +kernel
theorem d_MO_build_310 : decode b_MO_build 310 = .ok (.iload_n 1, 1) := by decide +kernel
theorem d_MO_build_311 : decode b_MO_build 311 = .ok (.ifCond .le 21, 3) := by decide +kernel
theorem d_MO_build_314 : decode b_MO_build 314 = .ok (.aload_n 0, 1) := by decide +kernel
theorem d_MO_build_315 : decode b_MO_build 315 = .ok (.getfield 17, 3) := by decide +kernel
theorem d_MO_build_318 : decode b_MO_build 318 = .ok (.iload_n 1, 1) := by decide +kernel
theorem d_MO_build_319 : decode b_MO_build 319 = .ok (.iconst 1, 1) := by decide +kernel
theorem d_MO_build_320 : decode b_MO_build 320 = .ok (.isub, 1) := by decide +kernel
theorem d_MO_build_321 : decode b_MO_build 321 = .ok (.iaload, 1) := by decide +kernel
theorem d_MO_build_322 : decode b_MO_build 322 = .ok (.iconst 5, 1) := by decide +kernel
theorem d_MO_build_323 : decode b_MO_build 323 = .ok (.if_icmp .ne 9, 3) := by decide +kernel
theorem d_MO_build_326 : decode b_MO_build 326 = .ok (.iload_n 1, 1) := by decide +kernel
theorem d_MO_build_327 : decode b_MO_build 327 = .ok (.iconst 2, 1) := by decide +kernel
theorem d_MO_build_328 : decode b_MO_build 328 = .ok (.isub, 1) := by decide +kernel
theorem d_MO_build_329 : decode b_MO_build 329 = .ok (.goto 6, 3) := by decide +kernel
theorem d_MO_build_332 : decode b_MO_build 332 = .ok (.iload_n 1, 1) := by decide +kernel
theorem d_MO_build_333 : decode b_MO_build 333 = .ok (.iconst 1, 1) := by decide +kernel
theorem d_MO_build_334 : decode b_MO_build 334 = .ok (.isub, 1) := by decide +kernel
theorem d_MO_build_335 : decode b_MO_build 335 = .ok (.istore 7, 2) := by decide +kernel
theorem d_MO_build_337 : decode b_MO_build 337 = .ok (.iload 7, 2) := by decide +kernel
theorem d_MO_build_339 : decode b_MO_build 339 = .ok (.ifCond .lt 24, 3) := by decide +kernel
theorem d_MO_build_342 : decode b_MO_build 342 = .ok (.aload_n 0, 1) := by decide +kernel
theorem d_MO_build_343 : decode b_MO_build 343 = .ok (.getfield 17, 3) := by decide +kernel
theorem d_MO_build_346 : decode b_MO_build 346 = .ok (.iload 7, 2) := by decide +kernel
theorem d_MO_build_348 : decode b_MO_build 348 = .ok (.iaload, 1) := by decide +kernel
theorem d_MO_build_349 : decode b_MO_build 349 = .ok (.iconst 1, 1) := by decide +kernel
theorem d_MO_build_350 : decode b_MO_build 350 = .ok (.if_icmp .ne 13, 3) := by decide +kernel
theorem d_MO_build_353 : decode b_MO_build 353 = .ok (.aload_n 0, 1) := by decide +kernel
theorem d_MO_build_354 : decode b_MO_build 354 = .ok (.getfield 23, 3) := by decide +kernel
theorem d_MO_build_357 : decode b_MO_build 357 = .ok (.iload 7, 2) := by decide +kernel
theorem d_MO_build_359 : decode b_MO_build 359 = .ok (.iaload, 1) := by decide +kernel
theorem d_MO_build_360 : decode b_MO_build 360 = .ok (.goto 4, 3) := by decide +kernel
theorem d_MO_build_363 : decode b_MO_build 363 = .ok (.iconst 1, 1) := by decide +kernel
theorem d_MO_build_364 : decode b_MO_build 364 = .ok (.istore 8, 2) := by decide +kernel
theorem d_MO_build_366 : decode b_MO_build 366 = .ok (.aload_n 0, 1) := by decide +kernel
theorem d_MO_build_367 : decode b_MO_build 367 = .ok (.getfield 29, 3) := by decide +kernel
theorem d_MO_build_370 : decode b_MO_build 370 = .ok (.bipush 7, 2) := by decide +kernel
theorem d_MO_build_372 : decode b_MO_build 372 = .ok (.aload_n 0, 1) := by decide +kernel
theorem d_MO_build_373 : decode b_MO_build 373 = .ok (.getfield 110, 3) := by decide +kernel
theorem d_MO_build_376 : decode b_MO_build 376 = .ok (.imul, 1) := by decide +kernel
theorem d_MO_build_377 : decode b_MO_build 377 = .ok (.iload 6, 2) := by decide +kernel
theorem d_MO_build_379 : decode b_MO_build 379 = .ok (.iadd, 1) := by decide +kernel
theorem d_MO_build_380 : decode b_MO_build 380 = .ok (.aload_n 0, 1) := by decide +kernel
theorem d_MO_build_381 : decode b_MO_build 381 = .ok (.getfield 29, 3) := by decide +kernel
theorem d_MO_build_384 : decode b_MO_build 384 = .ok (.bipush 7, 2) := by decide +kernel
theorem d_MO_build_386 : decode b_MO_build 386 = .ok (.aload_n 0, 1) := by decide +kernel
theorem d_MO_build_387 : decode b_MO_build 387 = .ok (.getfield 110, 3) := by decide +kernel
theorem d_MO_build_390 : decode b_MO_build 390 = .ok (.imul, 1) := by decide +kernel
theorem d_MO_build_391 : decode b_MO_build 391 = .ok (.iload 6, 2) := by decide +kernel
theorem d_MO_build_393 : decode b_MO_build 393 = .ok (.iadd, 1) := by decide +kernel
theorem d_MO_build_394 : decode b_MO_build 394 = .ok (.iaload, 1) := by decide +kernel
theorem d_MO_build_395 : decode b_MO_build 395 = .ok (.iload_n 3, 1) := by decide +kernel
theorem d_MO_build_396 : decode b_MO_build 396 = .ok (.iload_n 2, 1) := by decide +kernel
theorem d_MO_build_397 : decode b_MO_build 397 = .ok (.imul, 1) := by decide +kernel
theorem d_MO_build_398 : decode b_MO_build 398 = .ok (.iload 8, 2) := by decide +kernel
theorem d_MO_build_400 : decode b_MO_build 400 = .ok (.imul, 1) := by decide +kernel
theorem d_MO_build_401 : decode b_MO_build 401 = .ok (.iadd, 1) := by decide +kernel
theorem d_MO_build_402 : decode b_MO_build 402 = .ok (.iastore, 1) := by decide +kernel
theorem d_MO_build_403 : decode b_MO_build 403 = .ok (.iinc 1 1, 3) := by decide +kernel
theorem d_MO_build_406 : decode b_MO_build 406 = .ok (.goto (-332), 3) := by decide +kernel
theorem d_MO_build_409 : decode b_MO_build 409 = .ok (.aload_n 0, 1) := by decide +kernel
theorem d_MO_build_410 : decode b_MO_build 410 = .ok (.getfield 17, 3) := by decide +kernel
theorem d_MO_build_413 : decode b_MO_build 413 = .ok (.iload 4, 2) := by decide +kernel
theorem d_MO_build_415 : decode b_MO_build 415 = .ok (.iaload, 1) := by decide +kernel
theorem d_MO_build_416 : decode b_MO_build 416 = .ok (.istore 5, 2) := by decide +kernel
theorem d_MO_build_418 : decode b_MO_build 418 = .ok (.aload_n 0, 1) := by decide +kernel
theorem d_MO_build_419 : decode b_MO_build 419 = .ok (.getfield 32, 3) := by decide +kernel
theorem d_MO_build_422 : decode b_MO_build 422 = .ok (.aload_n 0, 1) := by decide +kernel
theorem d_MO_build_423 : decode b_MO_build 423 = .ok (.getfield 110, 3) := by decide +kernel
theorem d_MO_build_426 : decode b_MO_build 426 = .ok (.iload 5, 2) := by decide +kernel
theorem d_MO_build_428 : decode b_MO_build 428 = .ok (.bipush 8, 2) := by decide +kernel
theorem d_MO_build_430 : decode b_MO_build 430 = .ok (.if_icmp .ne 7, 3) := by decide +kernel
theorem d_MO_build_433 : decode b_MO_build 433 = .ok (.iconst 1, 1) := by decide +kernel
theorem d_MO_build_434 : decode b_MO_build 434 = .ok (.goto 15, 3) := by decide +kernel
theorem d_MO_build_437 : decode b_MO_build 437 = .ok (.iload 5, 2) := by decide +kernel
theorem d_MO_build_439 : decode b_MO_build 439 = .ok (.bipush 9, 2) := by decide +kernel
theorem d_MO_build_441 : decode b_MO_build 441 = .ok (.if_icmp .ne 7, 3) := by decide +kernel
theorem d_MO_build_444 : decode b_MO_build 444 = .ok (.iconst (-1), 1) := by decide +kernel
theorem d_MO_build_445 : decode b_MO_build 445 = .ok (.goto 4, 3) := by decide +kernel
theorem d_MO_build_448 : decode b_MO_build 448 = .ok (.iconst 0, 1) := by decide +kernel
theorem d_MO_build_449 : decode b_MO_build 449 = .ok (.iastore, 1) := by decide +kernel
theorem d_MO_build_450 : decode b_MO_build 450 = .ok (.iload 5, 2) := by decide +kernel
theorem d_MO_build_452 : decode b_MO_build 452 = .ok (.bipush 7, 2) := by decide +kernel
theorem d_MO_build_454 : decode b_MO_build 454 = .ok (.if_icmp .eq 40, 3) := by decide +kernel
theorem d_MO_build_457 : decode b_MO_build 457 = .ok (.aload_n 0, 1) := by decide +kernel
theorem d_MO_build_458 : decode b_MO_build 458 = .ok (.getfield 104, 3) := by decide +kernel
theorem d_MO_build_461 : decode b_MO_build 461 = .ok (.aload_n 0, 1) := by decide +kernel
theorem d_MO_build_462 : decode b_MO_build 462 = .ok (.getfield 107, 3) := by decide +kernel
theorem d_MO_build_465 : decode b_MO_build 465 = .ok (.iadd, 1) := by decide +kernel
theorem d_MO_build_466 : decode b_MO_build 466 = .ok (.bipush 6, 2) := by decide +kernel
theorem d_MO_build_468 : decode b_MO_build 468 = .ok (.if_icmp .ne 16, 3) := by decide +kernel
theorem d_MO_build_471 : decode b_MO_build 471 = .ok (.aload_n 0, 1) := by decide +kernel
theorem d_MO_build_472 : decode b_MO_build 472 = .ok (.iconst 2, 1) := by decide +kernel
theorem d_MO_build_473 : decode b_MO_build 473 = .ok (.aload_n 0, 1) := by decide +kernel
theorem d_MO_build_474 : decode b_MO_build 474 = .ok (.getfield 20, 3) := by decide +kernel
theorem d_MO_build_477 : decode b_MO_build 477 = .ok (.iload 4, 2) := by decide +kernel
theorem d_MO_build_479 : decode b_MO_build 479 = .ok (.iaload, 1) := by decide +kernel
theorem d_MO_build_480 : decode b_MO_build 480 = .ok (.invokevirtual 113, 3) := by decide +kernel
theorem d_MO_build_483 : decode b_MO_build 483 = .ok (.ireturn, 1) := by decide +kernel
theorem d_MO_build_484 : decode b_MO_build 484 = .ok (.aload_n 0, 1) := by decide +kernel
theorem d_MO_build_485 : decode b_MO_build 485 = .ok (.dup, 1) := by decide +kernel
theorem d_MO_build_486 : decode b_MO_build 486 = .ok (.getfield 107, 3) := by decide +kernel
theorem d_MO_build_489 : decode b_MO_build 489 = .ok (.iconst 1, 1) := by decide +kernel
theorem d_MO_build_490 : decode b_MO_build 490 = .ok (.iadd, 1) := by decide +kernel
theorem d_MO_build_491 : decode b_MO_build 491 = .ok (.putfield 107, 3) := by decide +kernel
theorem d_MO_build_494 : decode b_MO_build 494 = .ok (.iconst 0, 1) := by decide +kernel
theorem d_MO_build_495 : decode b_MO_build 495 = .ok (.istore 6, 2) := by decide +kernel
theorem d_MO_build_497 : decode b_MO_build 497 = .ok (.iload 6, 2) := by decide +kernel
theorem d_MO_build_499 : decode b_MO_build 499 = .ok (.bipush 7, 2) := by decide +kernel
theorem d_MO_build_501 : decode b_MO_build 501 = .ok (.if_icmp .ge 71, 3) := by decide +kernel
theorem d_MO_build_504 : decode b_MO_build 504 = .ok (.aload_n 0, 1) := by decide +kernel
theorem d_MO_build_505 : decode b_MO_build 505 = .ok (.getfield 29, 3) := by decide +kernel
theorem d_MO_build_508 : decode b_MO_build 508 = .ok (.bipush 7, 2) := by decide +kernel
theorem d_MO_build_510 : decode b_MO_build 510 = .ok (.aload_n 0, 1) := by decide +kernel
theorem d_MO_build_511 : decode b_MO_build 511 = .ok (.getfield 110, 3) := by decide +kernel
theorem d_MO_build_514 : decode b_MO_build 514 = .ok (.imul, 1) := by decide +kernel
theorem d_MO_build_515 : decode b_MO_build 515 = .ok (.iload 6, 2) := by decide +kernel
theorem d_MO_build_517 : decode b_MO_build 517 = .ok (.iadd, 1) := by decide +kernel
theorem d_MO_build_518 : decode b_MO_build 518 = .ok (.iaload, 1) := by decide +kernel
theorem d_MO_build_519 : decode b_MO_build 519 = .ok (.istore 7, 2) := by decide +kernel
theorem d_MO_build_521 : decode b_MO_build 521 = .ok (.iload 6, 2) := by decide +kernel
theorem d_MO_build_523 : decode b_MO_build 523 = .ok (.bipush 6, 2) := by decide +kernel
theorem d_MO_build_525 : decode b_MO_build 525 = .ok (.if_icmp .ne 9, 3) := by decide +kernel
theorem d_MO_build_528 : decode b_MO_build 528 = .ok (.sipush 200, 3) := by decide +kernel
theorem d_MO_build_531 : decode b_MO_build 531 = .ok (.goto 5, 3) := by decide +kernel
theorem d_MO_build_534 : decode b_MO_build 534 = .ok (.bipush 20, 2) := by decide +kernel
theorem d_MO_build_536 : decode b_MO_build 536 = .ok (.istore 8, 2) := by decide +kernel
theorem d_MO_build_538 : decode b_MO_build 538 = .ok (.iload 7, 2) := by decide +kernel
theorem d_MO_build_540 : decode b_MO_build 540 = .ok (.iload 8, 2) := by decide +kernel
theorem d_MO_build_542 : decode b_MO_build 542 = .ok (.if_icmp .gt 11, 3) := by decide +kernel
theorem d_MO_build_545 : decode b_MO_build 545 = .ok (.iload 7, 2) := by decide +kernel
theorem d_MO_build_547 : decode b_MO_build 547 = .ok (.iload 8, 2) := by decide +kernel
theorem d_MO_build_549 : decode b_MO_build 549 = .ok (.ineg, 1) := by decide +kernel
theorem d_MO_build_550 : decode b_MO_build 550 = .ok (.if_icmp .ge 16, 3) := by decide +kernel
theorem d_MO_build_553 : decode b_MO_build 553 = .ok (.aload_n 0, 1) := by decide +kernel
theorem d_MO_build_554 : decode b_MO_build 554 = .ok (.iconst 3, 1) := by decide +kernel
theorem d_MO_build_555 : decode b_MO_build 555 = .ok (.aload_n 0, 1) := by decide +kernel
theorem d_MO_build_556 : decode b_MO_build 556 = .ok (.getfield 20, 3) := by decide +kernel
theorem d_MO_build_559 : decode b_MO_build 559 = .ok (.iload 4, 2) := by decide +kernel
theorem d_MO_build_561 : decode b_MO_build 561 = .ok (.iaload, 1) := by decide +kernel
theorem d_MO_build_562 : decode b_MO_build 562 = .ok (.invokevirtual 113, 3) := by decide +kernel
theorem d_MO_build_565 : decode b_MO_build 565 = .ok (.ireturn, 1) := by decide +kernel
theorem d_MO_build_566 : decode b_MO_build 566 = .ok (.iinc 6 1, 3) := by decide +kernel
theorem d_MO_build_569 : decode b_MO_build 569 = .ok (.goto (-72), 3) := by decide +kernel
theorem d_MO_build_572 : decode b_MO_build 572 = .ok (.aload_n 0, 1) := by decide +kernel
theorem d_MO_build_573 : decode b_MO_build 573 = .ok (.dup, 1) := by decide +kernel
theorem d_MO_build_574 : decode b_MO_build 574 = .ok (.getfield 110, 3) := by decide +kernel
theorem d_MO_build_577 : decode b_MO_build 577 = .ok (.iconst 1, 1) := by decide +kernel
theorem d_MO_build_578 : decode b_MO_build 578 = .ok (.iadd, 1) := by decide +kernel
theorem d_MO_build_579 : decode b_MO_build 579 = .ok (.putfield 110, 3) := by decide +kernel
theorem d_MO_build_582 : decode b_MO_build 582 = .ok (.aload_n 0, 1) := by decide +kernel
theorem d_MO_build_583 : decode b_MO_build 583 = .ok (.getfield 17, 3) := by decide +kernel
theorem d_MO_build_586 : decode b_MO_build 586 = .ok (.iload_n 1, 1) := by decide +kernel
theorem d_MO_build_587 : decode b_MO_build 587 = .ok (.iaload, 1) := by decide +kernel
theorem d_MO_build_588 : decode b_MO_build 588 = .ok (.bipush 6, 2) := by decide +kernel
theorem d_MO_build_590 : decode b_MO_build 590 = .ok (.if_icmp .ne 9, 3) := by decide +kernel
theorem d_MO_build_593 : decode b_MO_build 593 = .ok (.iload_n 1, 1) := by decide +kernel
theorem d_MO_build_594 : decode b_MO_build 594 = .ok (.iconst 1, 1) := by decide +kernel
theorem d_MO_build_595 : decode b_MO_build 595 = .ok (.iadd, 1) := by decide +kernel
theorem d_MO_build_596 : decode b_MO_build 596 = .ok (.goto 4, 3) := by decide +kernel
theorem d_MO_build_599 : decode b_MO_build 599 = .ok (.iload_n 1, 1) := by decide +kernel
theorem d_MO_build_600 : decode b_MO_build 600 = .ok (.istore_n 1, 1) := by decide +kernel
theorem d_MO_build_601 : decode b_MO_build 601 = .ok (.goto (-563), 3) := by decide +kernel
theorem d_MO_build_604 : decode b_MO_build 604 = .ok (.iconst 0, 1) := by decide +kernel
theorem d_MO_build_605 : decode b_MO_build 605 = .ok (.ireturn, 1) := by decide +kernel
theorem d_MO_cut_0 : decode b_MO_cut 0 = .ok (.aload_n 0, 1) := by decide +kernel
theorem d_MO_cut_1 : decode b_MO_cut 1 = .ok (.iconst 0, 1) := by decide +kernel
theorem d_MO_cut_2 : decode b_MO_cut 2 = .ok (.putfield 93, 3) := by decide +kernel
theorem d_MO_cut_5 : decode b_MO_cut 5 = .ok (.iconst 0, 1) := by decide +kernel
theorem d_MO_cut_6 : decode b_MO_cut 6 = .ok (.istore_n 1, 1) := by decide +kernel
theorem d_MO_cut_7 : decode b_MO_cut 7 = .ok (.iconst 1, 1) := by decide +kernel
theorem d_MO_cut_8 : decode b_MO_cut 8 = .ok (.istore_n 2, 1) := by decide +kernel
theorem d_MO_cut_9 : decode b_MO_cut 9 = .ok (.iload_n 2, 1) := by decide +kernel
theorem d_MO_cut_10 : decode b_MO_cut 10 = .ok (.ifCond .eq 285, 3) := by decide +kernel
theorem d_MO_cut_13 : decode b_MO_cut 13 = .ok (.iload_n 1, 1) := by decide +kernel
theorem d_MO_cut_14 : decode b_MO_cut 14 = .ok (.aload_n 0, 1) := by decide +kernel
theorem d_MO_cut_15 : decode b_MO_cut 15 = .ok (.getfield 84, 3) := by decide +kernel
theorem d_MO_cut_18 : decode b_MO_cut 18 = .ok (.if_icmp .ge 277, 3) := by decide +kernel
theorem d_MO_cut_21 : decode b_MO_cut 21 = .ok (.aload_n 0, 1) := by decide +kernel
theorem d_MO_cut_22 : decode b_MO_cut 22 = .ok (.getfield 7, 3) := by decide +kernel
theorem d_MO_cut_25 : decode b_MO_cut 25 = .ok (.iload_n 1, 1) := by decide +kernel
theorem d_MO_cut_26 : decode b_MO_cut 26 = .ok (.iaload, 1) := by decide +kernel
theorem d_MO_cut_27 : decode b_MO_cut 27 = .ok (.istore_n 3, 1) := by decide +kernel
theorem d_MO_cut_28 : decode b_MO_cut 28 = .ok (.iload_n 1, 1) := by decide +kernel
theorem d_MO_cut_29 : decode b_MO_cut 29 = .ok (.iconst 1, 1) := by decide +kernel
theorem d_MO_cut_30 : decode b_MO_cut 30 = .ok (.iadd, 1) := by decide +kernel
theorem d_MO_cut_31 : decode b_MO_cut 31 = .ok (.istore 4, 2) := by decide +kernel
theorem d_MO_cut_33 : decode b_MO_cut 33 = .ok (.iconst 0, 1) := by decide +kernel
theorem d_MO_cut_34 : decode b_MO_cut 34 = .ok (.istore 5, 2) := by decide +kernel
theorem d_MO_cut_36 : decode b_MO_cut 36 = .ok (.bipush 10, 2) := by decide +kernel
theorem d_MO_cut_38 : decode b_MO_cut 38 = .ok (.istore 6, 2) := by decide +kernel
theorem d_MO_cut_40 : decode b_MO_cut 40 = .ok (.iload_n 3, 1) := by decide +kernel
theorem d_MO_cut_41 : decode b_MO_cut 41 = .ok (.bipush 48, 2) := by decide +kernel
theorem d_MO_cut_43 : decode b_MO_cut 43 = .ok (.if_icmp .lt 89, 3) := by decide +kernel
theorem d_MO_cut_46 : decode b_MO_cut 46 = .ok (.iload_n 3, 1) := by decide +kernel
theorem d_MO_cut_47 : decode b_MO_cut 47 = .ok (.bipush 57, 2) := by decide +kernel
theorem d_MO_cut_49 : decode b_MO_cut 49 = .ok (.if_icmp .gt 83, 3) := by decide +kernel
theorem d_MO_cut_52 : decode b_MO_cut 52 = .ok (.iload_n 1, 1) := by decide +kernel
theorem d_MO_cut_53 : decode b_MO_cut 53 = .ok (.istore 4, 2) := by decide +kernel
theorem d_MO_cut_55 : decode b_MO_cut 55 = .ok (.aload_n 0, 1) := by decide +kernel
theorem d_MO_cut_56 : decode b_MO_cut 56 = .ok (.iload 4, 2) := by decide +kernel
theorem d_MO_cut_58 : decode b_MO_cut 58 = .ok (.invokevirtual 96, 3) := by decide +kernel
theorem d_MO_cut_61 : decode b_MO_cut 61 = .ok (.bipush 48, 2) := by decide +kernel
theorem d_MO_cut_63 : decode b_MO_cut 63 = .ok (.if_icmp .lt 50, 3) := by decide +kernel
theorem d_MO_cut_66 : decode b_MO_cut 66 = .ok (.aload_n 0, 1) := by decide +kernel
theorem d_MO_cut_67 : decode b_MO_cut 67 = .ok (.iload 4, 2) := by decide +kernel
theorem d_MO_cut_69 : decode b_MO_cut 69 = .ok (.invokevirtual 96, 3) := by decide +kernel
theorem d_MO_cut_72 : decode b_MO_cut 72 = .ok (.bipush 57, 2) := by decide +kernel
theorem d_MO_cut_74 : decode b_MO_cut 74 = .ok (.if_icmp .gt 39, 3) := by decide +kernel
theorem d_MO_cut_77 : decode b_MO_cut 77 = .ok (.iload 4, 2) := by decide +kernel
theorem d_MO_cut_79 : decode b_MO_cut 79 = .ok (.iload_n 1, 1) := by decide +kernel
theorem d_MO_cut_80 : decode b_MO_cut 80 = .ok (.isub, 1) := by decide +kernel
theorem d_MO_cut_81 : decode b_MO_cut 81 = .ok (.iconst 5, 1) := by decide +kernel
theorem d_MO_cut_82 : decode b_MO_cut 82 = .ok (.if_icmp .ge 21, 3) := by decide +kernel
theorem d_MO_cut_85 : decode b_MO_cut 85 = .ok (.bipush 10, 2) := by decide +kernel
theorem d_MO_cut_87 : decode b_MO_cut 87 = .ok (.iload 5, 2) := by decide +kernel
theorem d_MO_cut_89 : decode b_MO_cut 89 = .ok (.imul, 1) := by decide +kernel
theorem d_MO_cut_90 : decode b_MO_cut 90 = .ok (.aload_n 0, 1) := by decide +kernel
theorem d_MO_cut_91 : decode b_MO_cut 91 = .ok (.iload 4, 2) := by decide +kernel
theorem d_MO_cut_93 : decode b_MO_cut 93 = .ok (.invokevirtual 96, 3) := by decide +kernel
theorem d_MO_cut_96 : decode b_MO_cut 96 = .ok (.iadd, 1) := by decide +kernel
theorem d_MO_cut_97 : decode b_MO_cut 97 = .ok (.bipush 48, 2) := by decide +kernel
theorem d_MO_cut_99 : decode b_MO_cut 99 = .ok (.isub, 1) := by decide +kernel
theorem d_MO_cut_100 : decode b_MO_cut 100 = .ok (.goto 5, 3) := by decide +kernel
theorem d_MO_cut_103 : decode b_MO_cut 103 = .ok (.iload 5, 2) := by decide +kernel
theorem d_MO_cut_105 : decode b_MO_cut 105 = .ok (.istore 5, 2) := by decide +kernel
theorem d_MO_cut_107 : decode b_MO_cut 107 = .ok (.iinc 4 1, 3) := by decide +kernel
theorem d_MO_cut_110 : decode b_MO_cut 110 = .ok (.goto (-55), 3) := by decide +kernel
theorem d_MO_cut_113 : decode b_MO_cut 113 = .ok (.iload 4, 2) := by decide +kernel
theorem d_MO_cut_115 : decode b_MO_cut 115 = .ok (.iload_n 1, 1) := by decide +kernel
theorem d_MO_cut_116 : decode b_MO_cut 116 = .ok (.isub, 1) := by decide +kernel
theorem d_MO_cut_117 : decode b_MO_cut 117 = .ok (.iconst 4, 1) := by decide +kernel
theorem d_MO_cut_118 : decode b_MO_cut 118 = .ok (.if_icmp .le 8, 3) := by decide +kernel
theorem d_MO_cut_121 : decode b_MO_cut 121 = .ok (.bipush 10, 2) := by decide +kernel
theorem d_MO_cut_123 : decode b_MO_cut 123 = .ok (.goto 4, 3) := by decide +kernel
theorem d_MO_cut_126 : decode b_MO_cut 126 = .ok (.iconst 1, 1) := by decide +kernel
theorem d_MO_cut_127 : decode b_MO_cut 127 = .ok (.istore 6, 2) := by decide +kernel
theorem d_MO_cut_129 : decode b_MO_cut 129 = .ok (.goto 132, 3) := by decide +kernel
theorem d_MO_cut_132 : decode b_MO_cut 132 = .ok (.iload_n 3, 1) := by decide +kernel
theorem d_MO_cut_133 : decode b_MO_cut 133 = .ok (.bipush 97, 2) := by decide +kernel
theorem d_MO_cut_135 : decode b_MO_cut 135 = .ok (.if_icmp .lt 18, 3) := by decide +kernel
theorem d_MO_cut_138 : decode b_MO_cut 138 = .ok (.iload_n 3, 1) := by decide +kernel
theorem d_MO_cut_139 : decode b_MO_cut 139 = .ok (.bipush 122, 2) := by decide +kernel
theorem d_MO_cut_141 : decode b_MO_cut 141 = .ok (.if_icmp .gt 12, 3) := by decide +kernel
theorem d_MO_cut_144 : decode b_MO_cut 144 = .ok (.iconst 2, 1) := by decide +kernel
theorem d_MO_cut_145 : decode b_MO_cut 145 = .ok (.istore 6, 2) := by decide +kernel
theorem d_MO_cut_147 : decode b_MO_cut 147 = .ok (.iload_n 3, 1) := by decide +kernel
theorem d_MO_cut_148 : decode b_MO_cut 148 = .ok (.istore 5, 2) := by decide +kernel
theorem d_MO_cut_150 : decode b_MO_cut 150 = .ok (.goto 111, 3) := by decide +kernel
theorem d_MO_cut_153 : decode b_MO_cut 153 = .ok (.iload_n 3, 1) := by decide +kernel
theorem d_MO_cut_154 : decode b_MO_cut 154 = .ok (.bipush 60, 2) := by decide +kernel
theorem d_MO_cut_156 : decode b_MO_cut 156 = .ok (.if_icmp .eq 9, 3) := by decide +kernel
theorem d_MO_cut_159 : decode b_MO_cut 159 = .ok (.iload_n 3, 1) := by decide +kernel
theorem d_MO_cut_160 : decode b_MO_cut 160 = .ok (.bipush 62, 2) := by decide +kernel
theorem d_MO_cut_162 : decode b_MO_cut 162 = .ok (.if_icmp .ne 43, 3) := by decide +kernel
theorem d_MO_cut_165 : decode b_MO_cut 165 = .ok (.aload_n 0, 1) := by decide +kernel
theorem d_MO_cut_166 : decode b_MO_cut 166 = .ok (.iload_n 1, 1) := by decide +kernel
theorem d_MO_cut_167 : decode b_MO_cut 167 = .ok (.iconst 1, 1) := by decide +kernel
theorem d_MO_cut_168 : decode b_MO_cut 168 = .ok (.iadd, 1) := by decide +kernel
theorem d_MO_cut_169 : decode b_MO_cut 169 = .ok (.invokevirtual 96, 3) := by decide +kernel
theorem d_MO_cut_172 : decode b_MO_cut 172 = .ok (.bipush 61, 2) := by decide +kernel
theorem d_MO_cut_174 : decode b_MO_cut 174 = .ok (.if_icmp .ne 19, 3) := by decide +kernel
theorem d_MO_cut_177 : decode b_MO_cut 177 = .ok (.iload_n 3, 1) := by decide +kernel
theorem d_MO_cut_178 : decode b_MO_cut 178 = .ok (.bipush 60, 2) := by decide +kernel
theorem d_MO_cut_180 : decode b_MO_cut 180 = .ok (.if_icmp .ne 8, 3) := by decide +kernel
theorem d_MO_cut_183 : decode b_MO_cut 183 = .ok (.bipush 8, 2) := by decide +kernel
theorem d_MO_cut_185 : decode b_MO_cut 185 = .ok (.goto 10, 3) := by decide +kernel
theorem d_MO_cut_188 : decode b_MO_cut 188 = .ok (.bipush 9, 2) := by decide +kernel
theorem d_MO_cut_190 : decode b_MO_cut 190 = .ok (.goto 5, 3) := by decide +kernel
theorem d_MO_cut_193 : decode b_MO_cut 193 = .ok (.bipush 10, 2) := by decide +kernel
theorem d_MO_cut_195 : decode b_MO_cut 195 = .ok (.istore 6, 2) := by decide +kernel
theorem d_MO_cut_197 : decode b_MO_cut 197 = .ok (.iload_n 1, 1) := by decide +kernel
theorem d_MO_cut_198 : decode b_MO_cut 198 = .ok (.iconst 2, 1) := by decide +kernel
theorem d_MO_cut_199 : decode b_MO_cut 199 = .ok (.iadd, 1) := by decide +kernel
theorem d_MO_cut_200 : decode b_MO_cut 200 = .ok (.istore 4, 2) := by decide +kernel
theorem d_MO_cut_202 : decode b_MO_cut 202 = .ok (.goto 59, 3) := by decide +kernel
theorem d_MO_cut_205 : decode b_MO_cut 205 = .ok (.iload_n 3, 1) := by decide +kernel
theorem d_MO_cut_206 : decode b_MO_cut 206 = .ok (.bipush 43, 2) := by decide +kernel
theorem d_MO_cut_208 : decode b_MO_cut 208 = .ok (.if_icmp .ne 7, 3) := by decide +kernel
theorem d_MO_cut_211 : decode b_MO_cut 211 = .ok (.iconst 3, 1) := by decide +kernel
theorem d_MO_cut_212 : decode b_MO_cut 212 = .ok (.goto 47, 3) := by decide +kernel
theorem d_MO_cut_215 : decode b_MO_cut 215 = .ok (.iload_n 3, 1) := by decide +kernel
theorem d_MO_cut_216 : decode b_MO_cut 216 = .ok (.bipush 45, 2) := by decide +kernel
theorem d_MO_cut_218 : decode b_MO_cut 218 = .ok (.if_icmp .ne 7, 3) := by decide +kernel
theorem d_MO_cut_221 : decode b_MO_cut 221 = .ok (.iconst 4, 1) := by decide +kernel
theorem d_MO_cut_222 : decode b_MO_cut 222 = .ok (.goto 37, 3) := by decide +kernel
theorem d_MO_cut_225 : decode b_MO_cut 225 = .ok (.iload_n 3, 1) := by decide +kernel
theorem d_MO_cut_226 : decode b_MO_cut 226 = .ok (.bipush 42, 2) := by decide +kernel
theorem d_MO_cut_228 : decode b_MO_cut 228 = .ok (.if_icmp .ne 7, 3) := by decide +kernel
theorem d_MO_cut_231 : decode b_MO_cut 231 = .ok (.iconst 5, 1) := by decide +kernel
theorem d_MO_cut_232 : decode b_MO_cut 232 = .ok (.goto 27, 3) := by decide +kernel
theorem d_MO_cut_235 : decode b_MO_cut 235 = .ok (.iload_n 3, 1) := by decide +kernel
theorem d_MO_cut_236 : decode b_MO_cut 236 = .ok (.bipush 59, 2) := by decide +kernel
theorem d_MO_cut_238 : decode b_MO_cut 238 = .ok (.if_icmp .ne 8, 3) := by decide +kernel
theorem d_MO_cut_241 : decode b_MO_cut 241 = .ok (.bipush 6, 2) := by decide +kernel
theorem d_MO_cut_243 : decode b_MO_cut 243 = .ok (.goto 16, 3) := by decide +kernel
theorem d_MO_cut_246 : decode b_MO_cut 246 = .ok (.iload_n 3, 1) := by decide +kernel
theorem d_MO_cut_247 : decode b_MO_cut 247 = .ok (.bipush 61, 2) := by decide +kernel
theorem d_MO_cut_249 : decode b_MO_cut 249 = .ok (.if_icmp .ne 8, 3) := by decide +kernel
theorem d_MO_cut_252 : decode b_MO_cut 252 = .ok (.bipush 7, 2) := by decide +kernel
theorem d_MO_cut_254 : decode b_MO_cut 254 = .ok (.goto 5, 3) := by decide +kernel
theorem d_MO_cut_257 : decode b_MO_cut 257 = .ok (.bipush 10, 2) := by decide +kernel
theorem d_MO_cut_259 : decode b_MO_cut 259 = .ok (.istore 6, 2) := by decide +kernel
theorem d_MO_cut_261 : decode b_MO_cut 261 = .ok (.iload_n 3, 1) := by decide +kernel
theorem d_MO_cut_262 : decode b_MO_cut 262 = .ok (.bipush 32, 2) := by decide +kernel
theorem d_MO_cut_264 : decode b_MO_cut 264 = .ok (.if_icmp .eq 25, 3) := by decide +kernel
theorem d_MO_cut_267 : decode b_MO_cut 267 = .ok (.aload_n 0, 1) := by decide +kernel
theorem d_MO_cut_268 : decode b_MO_cut 268 = .ok (.iload 6, 2) := by decide +kernel
theorem d_MO_cut_270 : decode b_MO_cut 270 = .ok (.iload_n 1, 1) := by decide +kernel
theorem d_MO_cut_271 : decode b_MO_cut 271 = .ok (.iload 5, 2) := by decide +kernel
theorem d_MO_cut_273 : decode b_MO_cut 273 = .ok (.invokevirtual 100, 3) := by decide +kernel
theorem d_MO_cut_276 : decode b_MO_cut 276 = .ok (.iload 6, 2) := by decide +kernel
theorem d_MO_cut_278 : decode b_MO_cut 278 = .ok (.bipush 10, 2) := by decide +kernel
theorem d_MO_cut_280 : decode b_MO_cut 280 = .ok (.if_icmp .eq 7, 3) := by decide +kernel
theorem d_MO_cut_283 : decode b_MO_cut 283 = .ok (.iconst 1, 1) := by decide +kernel
theorem d_MO_cut_284 : decode b_MO_cut 284 = .ok (.goto 4, 3) := by decide +kernel
theorem d_MO_cut_287 : decode b_MO_cut 287 = .ok (.iconst 0, 1) := by decide +kernel
theorem d_MO_cut_288 : decode b_MO_cut 288 = .ok (.istore_n 2, 1) := by decide +kernel
theorem d_MO_cut_289 : decode b_MO_cut 289 = .ok (.iload 4, 2) := by decide +kernel
theorem d_MO_cut_291 : decode b_MO_cut 291 = .ok (.istore_n 1, 1) := by decide +kernel
theorem d_MO_cut_292 : decode b_MO_cut 292 = .ok (.goto (-283), 3) := by decide +kernel
theorem d_MO_cut_295 : decode b_MO_cut 295 = .ok (.iload_n 2, 1) := by decide +kernel
theorem d_MO_cut_296 : decode b_MO_cut 296 = .ok (.ifCond .eq 13, 3) := by decide +kernel
theorem d_MO_cut_299 : decode b_MO_cut 299 = .ok (.aload_n 0, 1) := by decide +kernel
theorem d_MO_cut_300 : decode b_MO_cut 300 = .ok (.iconst 0, 1) := by decide +kernel
theorem d_MO_cut_301 : decode b_MO_cut 301 = .ok (.aload_n 0, 1) := by decide +kernel
theorem d_MO_cut_302 : decode b_MO_cut 302 = .ok (.getfield 84, 3) := by decide +kernel
theorem d_MO_cut_305 : decode b_MO_cut 305 = .ok (.iconst 0, 1) := by decide +kernel
theorem d_MO_cut_306 : decode b_MO_cut 306 = .ok (.invokevirtual 100, 3) := by decide +kernel
theorem d_MO_cut_309 : decode b_MO_cut 309 = .ok (.return_, 1) := by decide +kernel
theorem d_MO_draftColumn_0 : decode b_MO_draftColumn 0 = .ok (.iconst (-1), 1) := by decide +kernel
theorem d_MO_draftColumn_1 : decode b_MO_draftColumn 1 = .ok (.istore_n 2, 1) := by decide +kernel
theorem d_MO_draftColumn_2 : decode b_MO_draftColumn 2 = .ok (.iconst 0, 1) := by decide +kernel
theorem d_MO_draftColumn_3 : decode b_MO_draftColumn 3 = .ok (.istore_n 3, 1) := by decide +kernel
theorem d_MO_draftColumn_4 : decode b_MO_draftColumn 4 = .ok (.iload_n 3, 1) := by decide +kernel
theorem d_MO_draftColumn_5 : decode b_MO_draftColumn 5 = .ok (.aload_n 0, 1) := by decide +kernel
theorem d_MO_draftColumn_6 : decode b_MO_draftColumn 6 = .ok (.getfield 104, 3) := by decide +kernel
theorem d_MO_draftColumn_9 : decode b_MO_draftColumn 9 = .ok (.if_icmp .ge 25, 3) := by decide +kernel
theorem d_MO_draftColumn_12 : decode b_MO_draftColumn 12 = .ok (.aload_n 0, 1) := by decide +kernel
theorem d_MO_draftColumn_13 : decode b_MO_draftColumn 13 = .ok (.getfield 26, 3) := by decide +kernel
theorem d_MO_draftColumn_16 : decode b_MO_draftColumn 16 = .ok (.iload_n 3, 1) := by decide +kernel
theorem d_MO_draftColumn_17 : decode b_MO_draftColumn 17 = .ok (.iaload, 1) := by decide +kernel
theorem d_MO_draftColumn_18 : decode b_MO_draftColumn 18 = .ok (.iload_n 1, 1) := by decide +kernel
theorem d_MO_draftColumn_19 : decode b_MO_draftColumn 19 = .ok (.if_icmp .ne 7, 3) := by decide +kernel
theorem d_MO_draftColumn_22 : decode b_MO_draftColumn 22 = .ok (.iload_n 3, 1) := by decide +kernel
theorem d_MO_draftColumn_23 : decode b_MO_draftColumn 23 = .ok (.goto 4, 3) := by decide +kernel
theorem d_MO_draftColumn_26 : decode b_MO_draftColumn 26 = .ok (.iload_n 2, 1) := by decide +kernel
theorem d_MO_draftColumn_27 : decode b_MO_draftColumn 27 = .ok (.istore_n 2, 1) := by decide +kernel
theorem d_MO_draftColumn_28 : decode b_MO_draftColumn 28 = .ok (.iinc 3 1, 3) := by decide +kernel
theorem d_MO_draftColumn_31 : decode b_MO_draftColumn 31 = .ok (.goto (-27), 3) := by decide +kernel
theorem d_MO_draftColumn_34 : decode b_MO_draftColumn 34 = .ok (.iload_n 2, 1) := by decide +kernel
theorem d_MO_draftColumn_35 : decode b_MO_draftColumn 35 = .ok (.ireturn, 1) := by decide +kernel
theorem d_MO_fault_0 : decode b_MO_fault 0 = .ok (.aload_n 0, 1) := by decide +kernel
theorem d_MO_fault_1 : decode b_MO_fault 1 = .ok (.iload_n 2, 1) := by decide +kernel
theorem d_MO_fault_2 : decode b_MO_fault 2 = .ok (.putfield 13, 3) := by decide +kernel
theorem d_MO_fault_5 : decode b_MO_fault 5 = .ok (.iload_n 1, 1) := by decide +kernel
theorem d_MO_fault_6 : decode b_MO_fault 6 = .ok (.ireturn, 1) := by decide +kernel
theorem d_MO_letter0_0 : decode b_MO_letter0 0 = .ok (.iload_n 1, 1) := by decide +kernel
theorem d_MO_letter0_1 : decode b_MO_letter0 1 = .ok (.aload_n 0, 1) := by decide +kernel
theorem d_MO_letter0_2 : decode b_MO_letter0 2 = .ok (.getfield 84, 3) := by decide +kernel
theorem d_MO_letter0_5 : decode b_MO_letter0 5 = .ok (.if_icmp .ge 12, 3) := by decide +kernel
theorem d_MO_letter0_8 : decode b_MO_letter0 8 = .ok (.aload_n 0, 1) := by decide +kernel
theorem d_MO_letter0_9 : decode b_MO_letter0 9 = .ok (.getfield 7, 3) := by decide +kernel
theorem d_MO_letter0_12 : decode b_MO_letter0 12 = .ok (.iload_n 1, 1) := by decide +kernel
theorem d_MO_letter0_13 : decode b_MO_letter0 13 = .ok (.iaload, 1) := by decide +kernel
theorem d_MO_letter0_14 : decode b_MO_letter0 14 = .ok (.goto 4, 3) := by decide +kernel
theorem d_MO_letter0_17 : decode b_MO_letter0 17 = .ok (.iconst 0, 1) := by decide +kernel
theorem d_MO_letter0_18 : decode b_MO_letter0 18 = .ok (.ireturn, 1) := by decide +kernel
theorem d_MO_read_0 : decode b_MO_read 0 = .ok (.aload_n 0, 1) := by decide +kernel
theorem d_MO_read_1 : decode b_MO_read 1 = .ok (.iconst 0, 1) := by decide +kernel
theorem d_MO_read_2 : decode b_MO_read 2 = .ok (.putfield 81, 3) := by decide +kernel
theorem d_MO_read_5 : decode b_MO_read 5 = .ok (.aload_n 0, 1) := by decide +kernel
theorem d_MO_read_6 : decode b_MO_read 6 = .ok (.invokevirtual 120, 3) := by decide +kernel
theorem d_MO_read_9 : decode b_MO_read 9 = .ok (.aload_n 0, 1) := by decide +kernel
theorem d_MO_read_10 : decode b_MO_read 10 = .ok (.iconst 0, 1) := by decide +kernel
theorem d_MO_read_11 : decode b_MO_read 11 = .ok (.putfield 84, 3) := by decide +kernel
theorem d_MO_read_14 : decode b_MO_read 14 = .ok (.aload_n 0, 1) := by decide +kernel
theorem d_MO_read_15 : decode b_MO_read 15 = .ok (.invokevirtual 123, 3) := by decide +kernel
theorem d_MO_read_18 : decode b_MO_read 18 = .ok (.istore_n 1, 1) := by decide +kernel
theorem d_MO_read_19 : decode b_MO_read 19 = .ok (.iload_n 1, 1) := by decide +kernel
theorem d_MO_read_20 : decode b_MO_read 20 = .ok (.ifCond .lt 15, 3) := by decide +kernel
theorem d_MO_read_23 : decode b_MO_read 23 = .ok (.aload_n 0, 1) := by decide +kernel
theorem d_MO_read_24 : decode b_MO_read 24 = .ok (.iconst 1, 1) := by decide +kernel
theorem d_MO_read_25 : decode b_MO_read 25 = .ok (.aload_n 0, 1) := by decide +kernel
theorem d_MO_read_26 : decode b_MO_read 26 = .ok (.getfield 20, 3) := by decide +kernel
theorem d_MO_read_29 : decode b_MO_read 29 = .ok (.iload_n 1, 1) := by decide +kernel
theorem d_MO_read_30 : decode b_MO_read 30 = .ok (.iaload, 1) := by decide +kernel
theorem d_MO_read_31 : decode b_MO_read 31 = .ok (.invokevirtual 113, 3) := by decide +kernel
theorem d_MO_read_34 : decode b_MO_read 34 = .ok (.ireturn, 1) := by decide +kernel
theorem d_MO_read_35 : decode b_MO_read 35 = .ok (.aload_n 0, 1) := by decide +kernel
theorem d_MO_read_36 : decode b_MO_read 36 = .ok (.invokevirtual 127, 3) := by decide +kernel
theorem d_MO_read_39 : decode b_MO_read 39 = .ok (.istore_n 2, 1) := by decide +kernel
theorem d_MO_read_40 : decode b_MO_read 40 = .ok (.iload_n 2, 1) := by decide +kernel
theorem d_MO_read_41 : decode b_MO_read 41 = .ok (.ifCond .eq 5, 3) := by decide +kernel
theorem d_MO_read_44 : decode b_MO_read 44 = .ok (.iload_n 2, 1) := by decide +kernel
theorem d_MO_read_45 : decode b_MO_read 45 = .ok (.ireturn, 1) := by decide +kernel
theorem d_MO_read_46 : decode b_MO_read 46 = .ok (.aload_n 0, 1) := by decide +kernel
theorem d_MO_read_47 : decode b_MO_read 47 = .ok (.invokevirtual 130, 3) := by decide +kernel
theorem d_MO_read_50 : decode b_MO_read 50 = .ok (.iconst 0, 1) := by decide +kernel
theorem d_MO_read_51 : decode b_MO_read 51 = .ok (.ireturn, 1) := by decide +kernel
theorem d_MO_take_0 : decode b_MO_take 0 = .ok (.aload_n 0, 1) := by decide +kernel
theorem d_MO_take_1 : decode b_MO_take 1 = .ok (.iconst (-1), 1) := by decide +kernel
theorem d_MO_take_2 : decode b_MO_take 2 = .ok (.putfield 13, 3) := by decide +kernel
theorem d_MO_take_5 : decode b_MO_take 5 = .ok (.aload_n 0, 1) := by decide +kernel
theorem d_MO_take_6 : decode b_MO_take 6 = .ok (.iconst 1, 1) := by decide +kernel
theorem d_MO_take_7 : decode b_MO_take 7 = .ok (.putfield 133, 3) := by decide +kernel
theorem d_MO_take_10 : decode b_MO_take 10 = .ok (.aload_n 0, 1) := by decide +kernel
theorem d_MO_take_11 : decode b_MO_take 11 = .ok (.aload_n 0, 1) := by decide +kernel
theorem d_MO_take_12 : decode b_MO_take 12 = .ok (.getfield 110, 3) := by decide +kernel
theorem d_MO_take_15 : decode b_MO_take 15 = .ok (.putfield 137, 3) := by decide +kernel
theorem d_MO_take_18 : decode b_MO_take 18 = .ok (.aload_n 0, 1) := by decide +kernel
theorem d_MO_take_19 : decode b_MO_take 19 = .ok (.aload_n 0, 1) := by decide +kernel
theorem d_MO_take_20 : decode b_MO_take 20 = .ok (.getfield 104, 3) := by decide +kernel
theorem d_MO_take_23 : decode b_MO_take 23 = .ok (.putfield 140, 3) := by decide +kernel
theorem d_MO_take_26 : decode b_MO_take 26 = .ok (.aload_n 0, 1) := by decide +kernel
theorem d_MO_take_27 : decode b_MO_take 27 = .ok (.aload_n 0, 1) := by decide +kernel
theorem d_MO_take_28 : decode b_MO_take 28 = .ok (.getfield 104, 3) := by decide +kernel
theorem d_MO_take_31 : decode b_MO_take 31 = .ok (.aload_n 0, 1) := by decide +kernel
theorem d_MO_take_32 : decode b_MO_take 32 = .ok (.getfield 107, 3) := by decide +kernel
theorem d_MO_take_35 : decode b_MO_take 35 = .ok (.iadd, 1) := by decide +kernel
theorem d_MO_take_36 : decode b_MO_take 36 = .ok (.putfield 143, 3) := by decide +kernel
theorem d_MO_take_39 : decode b_MO_take 39 = .ok (.aload_n 0, 1) := by decide +kernel
theorem d_MO_take_40 : decode b_MO_take 40 = .ok (.getfield 104, 3) := by decide +kernel
theorem d_MO_take_43 : decode b_MO_take 43 = .ok (.istore_n 1, 1) := by decide +kernel
theorem d_MO_take_44 : decode b_MO_take 44 = .ok (.iconst 0, 1) := by decide +kernel
theorem d_MO_take_45 : decode b_MO_take 45 = .ok (.istore_n 2, 1) := by decide +kernel
theorem d_MO_take_46 : decode b_MO_take 46 = .ok (.iload_n 2, 1) := by decide +kernel
theorem d_MO_take_47 : decode b_MO_take 47 = .ok (.aload_n 0, 1) := by decide +kernel
theorem d_MO_take_48 : decode b_MO_take 48 = .ok (.getfield 137, 3) := by decide +kernel
theorem d_MO_take_51 : decode b_MO_take 51 = .ok (.if_icmp .ge 128, 3) := by decide +kernel
theorem d_MO_take_54 : decode b_MO_take 54 = .ok (.iconst 0, 1) := by decide +kernel
theorem d_MO_take_55 : decode b_MO_take 55 = .ok (.istore_n 3, 1) := by decide +kernel
theorem d_MO_take_56 : decode b_MO_take 56 = .ok (.iload_n 3, 1) := by decide +kernel
theorem d_MO_take_57 : decode b_MO_take 57 = .ok (.bipush 7, 2) := by decide +kernel
theorem d_MO_take_59 : decode b_MO_take 59 = .ok (.if_icmp .ge 21, 3) := by decide +kernel
theorem d_MO_take_62 : decode b_MO_take 62 = .ok (.aload_n 0, 1) := by decide +kernel
theorem d_MO_take_63 : decode b_MO_take 63 = .ok (.getfield 38, 3) := by decide +kernel
theorem d_MO_take_66 : decode b_MO_take 66 = .ok (.bipush 7, 2) := by decide +kernel
theorem d_MO_take_68 : decode b_MO_take 68 = .ok (.iload_n 2, 1) := by decide +kernel
theorem d_MO_take_69 : decode b_MO_take 69 = .ok (.imul, 1) := by decide +kernel
theorem d_MO_take_70 : decode b_MO_take 70 = .ok (.iload_n 3, 1) := by decide +kernel
theorem d_MO_take_71 : decode b_MO_take 71 = .ok (.iadd, 1) := by decide +kernel
theorem d_MO_take_72 : decode b_MO_take 72 = .ok (.iconst 0, 1) := by decide +kernel
theorem d_MO_take_73 : decode b_MO_take 73 = .ok (.iastore, 1) := by decide +kernel
theorem d_MO_take_74 : decode b_MO_take 74 = .ok (.iinc 3 1, 3) := by decide +kernel
theorem d_MO_take_77 : decode b_MO_take 77 = .ok (.goto (-21), 3) := by decide +kernel
theorem d_MO_take_80 : decode b_MO_take 80 = .ok (.iconst 0, 1) := by decide +kernel
theorem d_MO_take_81 : decode b_MO_take 81 = .ok (.istore_n 3, 1) := by decide +kernel
theorem d_MO_take_82 : decode b_MO_take 82 = .ok (.iload_n 3, 1) := by decide +kernel
theorem d_MO_take_83 : decode b_MO_take 83 = .ok (.aload_n 0, 1) := by decide +kernel
theorem d_MO_take_84 : decode b_MO_take 84 = .ok (.getfield 140, 3) := by decide +kernel
theorem d_MO_take_87 : decode b_MO_take 87 = .ok (.if_icmp .ge 31, 3) := by decide +kernel
theorem d_MO_take_90 : decode b_MO_take 90 = .ok (.aload_n 0, 1) := by decide +kernel
theorem d_MO_take_91 : decode b_MO_take 91 = .ok (.getfield 38, 3) := by decide +kernel
theorem d_MO_take_94 : decode b_MO_take 94 = .ok (.bipush 7, 2) := by decide +kernel
theorem d_MO_take_96 : decode b_MO_take 96 = .ok (.iload_n 2, 1) := by decide +kernel
theorem d_MO_take_97 : decode b_MO_take 97 = .ok (.imul, 1) := by decide +kernel
theorem d_MO_take_98 : decode b_MO_take 98 = .ok (.iload_n 3, 1) := by decide +kernel
theorem d_MO_take_99 : decode b_MO_take 99 = .ok (.iadd, 1) := by decide +kernel
theorem d_MO_take_100 : decode b_MO_take 100 = .ok (.aload_n 0, 1) := by decide +kernel
theorem d_MO_take_101 : decode b_MO_take 101 = .ok (.getfield 29, 3) := by decide +kernel
theorem d_MO_take_104 : decode b_MO_take 104 = .ok (.bipush 7, 2) := by decide +kernel
theorem d_MO_take_106 : decode b_MO_take 106 = .ok (.iload_n 2, 1) := by decide +kernel
theorem d_MO_take_107 : decode b_MO_take 107 = .ok (.imul, 1) := by decide +kernel
theorem d_MO_take_108 : decode b_MO_take 108 = .ok (.iload_n 3, 1) := by decide +kernel
theorem d_MO_take_109 : decode b_MO_take 109 = .ok (.iadd, 1) := by decide +kernel
theorem d_MO_take_110 : decode b_MO_take 110 = .ok (.iaload, 1) := by decide +kernel
theorem d_MO_take_111 : decode b_MO_take 111 = .ok (.iastore, 1) := by decide +kernel
theorem d_MO_take_112 : decode b_MO_take 112 = .ok (.iinc 3 1, 3) := by decide +kernel
theorem d_MO_take_115 : decode b_MO_take 115 = .ok (.goto (-33), 3) := by decide +kernel
theorem d_MO_take_118 : decode b_MO_take 118 = .ok (.aload_n 0, 1) := by decide +kernel
theorem d_MO_take_119 : decode b_MO_take 119 = .ok (.getfield 32, 3) := by decide +kernel
theorem d_MO_take_122 : decode b_MO_take 122 = .ok (.iload_n 2, 1) := by decide +kernel
theorem d_MO_take_123 : decode b_MO_take 123 = .ok (.iaload, 1) := by decide +kernel
theorem d_MO_take_124 : decode b_MO_take 124 = .ok (.ifCond .eq 23, 3) := by decide +kernel
theorem d_MO_take_127 : decode b_MO_take 127 = .ok (.aload_n 0, 1) := by decide +kernel
theorem d_MO_take_128 : decode b_MO_take 128 = .ok (.getfield 38, 3) := by decide +kernel
theorem d_MO_take_131 : decode b_MO_take 131 = .ok (.bipush 7, 2) := by decide +kernel
theorem d_MO_take_133 : decode b_MO_take 133 = .ok (.iload_n 2, 1) := by decide +kernel
theorem d_MO_take_134 : decode b_MO_take 134 = .ok (.imul, 1) := by decide +kernel
theorem d_MO_take_135 : decode b_MO_take 135 = .ok (.iload_n 1, 1) := by decide +kernel
theorem d_MO_take_136 : decode b_MO_take 136 = .ok (.iadd, 1) := by decide +kernel
theorem d_MO_take_137 : decode b_MO_take 137 = .ok (.aload_n 0, 1) := by decide +kernel
theorem d_MO_take_138 : decode b_MO_take 138 = .ok (.getfield 32, 3) := by decide +kernel
theorem d_MO_take_141 : decode b_MO_take 141 = .ok (.iload_n 2, 1) := by decide +kernel
theorem d_MO_take_142 : decode b_MO_take 142 = .ok (.iaload, 1) := by decide +kernel
theorem d_MO_take_143 : decode b_MO_take 143 = .ok (.iastore, 1) := by decide +kernel
theorem d_MO_take_144 : decode b_MO_take 144 = .ok (.iinc 1 1, 3) := by decide +kernel
theorem d_MO_take_147 : decode b_MO_take 147 = .ok (.aload_n 0, 1) := by decide +kernel
theorem d_MO_take_148 : decode b_MO_take 148 = .ok (.getfield 38, 3) := by decide +kernel
theorem d_MO_take_151 : decode b_MO_take 151 = .ok (.bipush 7, 2) := by decide +kernel
theorem d_MO_take_153 : decode b_MO_take 153 = .ok (.iload_n 2, 1) := by decide +kernel
theorem d_MO_take_154 : decode b_MO_take 154 = .ok (.imul, 1) := by decide +kernel
theorem d_MO_take_155 : decode b_MO_take 155 = .ok (.aload_n 0, 1) := by decide +kernel
theorem d_MO_take_156 : decode b_MO_take 156 = .ok (.getfield 143, 3) := by decide +kernel
theorem d_MO_take_159 : decode b_MO_take 159 = .ok (.iadd, 1) := by decide +kernel
theorem d_MO_take_160 : decode b_MO_take 160 = .ok (.aload_n 0, 1) := by decide +kernel
theorem d_MO_take_161 : decode b_MO_take 161 = .ok (.getfield 29, 3) := by decide +kernel
theorem d_MO_take_164 : decode b_MO_take 164 = .ok (.bipush 7, 2) := by decide +kernel
theorem d_MO_take_166 : decode b_MO_take 166 = .ok (.iload_n 2, 1) := by decide +kernel
theorem d_MO_take_167 : decode b_MO_take 167 = .ok (.imul, 1) := by decide +kernel
theorem d_MO_take_168 : decode b_MO_take 168 = .ok (.bipush 6, 2) := by decide +kernel
theorem d_MO_take_170 : decode b_MO_take 170 = .ok (.iadd, 1) := by decide +kernel
theorem d_MO_take_171 : decode b_MO_take 171 = .ok (.iaload, 1) := by decide +kernel
theorem d_MO_take_172 : decode b_MO_take 172 = .ok (.iastore, 1) := by decide +kernel
theorem d_MO_take_173 : decode b_MO_take 173 = .ok (.iinc 2 1, 3) := by decide +kernel
theorem d_MO_take_176 : decode b_MO_take 176 = .ok (.goto (-130), 3) := by decide +kernel
theorem d_MO_take_179 : decode b_MO_take 179 = .ok (.iconst 0, 1) := by decide +kernel
theorem d_MO_take_180 : decode b_MO_take 180 = .ok (.istore_n 2, 1) := by decide +kernel
theorem d_MO_take_181 : decode b_MO_take 181 = .ok (.iload_n 2, 1) := by decide +kernel
theorem d_MO_take_182 : decode b_MO_take 182 = .ok (.bipush 6, 2) := by decide +kernel
theorem d_MO_take_184 : decode b_MO_take 184 = .ok (.if_icmp .ge 47, 3) := by decide +kernel
theorem d_MO_take_187 : decode b_MO_take 187 = .ok (.aload_n 0, 1) := by decide +kernel
theorem d_MO_take_188 : decode b_MO_take 188 = .ok (.getfield 35, 3) := by decide +kernel
theorem d_MO_take_191 : decode b_MO_take 191 = .ok (.iload_n 2, 1) := by decide +kernel
theorem d_MO_take_192 : decode b_MO_take 192 = .ok (.iload_n 2, 1) := by decide +kernel
theorem d_MO_take_193 : decode b_MO_take 193 = .ok (.aload_n 0, 1) := by decide +kernel
theorem d_MO_take_194 : decode b_MO_take 194 = .ok (.getfield 140, 3) := by decide +kernel
theorem d_MO_take_197 : decode b_MO_take 197 = .ok (.if_icmp .ge 12, 3) := by decide +kernel
theorem d_MO_take_200 : decode b_MO_take 200 = .ok (.aload_n 0, 1) := by decide +kernel
theorem d_MO_take_201 : decode b_MO_take 201 = .ok (.getfield 26, 3) := by decide +kernel
theorem d_MO_take_204 : decode b_MO_take 204 = .ok (.iload_n 2, 1) := by decide +kernel
theorem d_MO_take_205 : decode b_MO_take 205 = .ok (.iaload, 1) := by decide +kernel
theorem d_MO_take_206 : decode b_MO_take 206 = .ok (.goto 4, 3) := by decide +kernel
theorem d_MO_take_209 : decode b_MO_take 209 = .ok (.iconst (-1), 1) := by decide +kernel
theorem d_MO_take_210 : decode b_MO_take 210 = .ok (.iastore, 1) := by decide +kernel
theorem d_MO_take_211 : decode b_MO_take 211 = .ok (.aload_n 0, 1) := by decide +kernel
theorem d_MO_take_212 : decode b_MO_take 212 = .ok (.getfield 56, 3) := by decide +kernel
theorem d_MO_take_215 : decode b_MO_take 215 = .ok (.iload_n 2, 1) := by decide +kernel
theorem d_MO_take_216 : decode b_MO_take 216 = .ok (.iconst 0, 1) := by decide +kernel
theorem d_MO_take_217 : decode b_MO_take 217 = .ok (.iastore, 1) := by decide +kernel
theorem d_MO_take_218 : decode b_MO_take 218 = .ok (.aload_n 0, 1) := by decide +kernel
theorem d_MO_take_219 : decode b_MO_take 219 = .ok (.getfield 59, 3) := by decide +kernel
theorem d_MO_take_222 : decode b_MO_take 222 = .ok (.iload_n 2, 1) := by decide +kernel
theorem d_MO_take_223 : decode b_MO_take 223 = .ok (.iconst 0, 1) := by decide +kernel
theorem d_MO_take_224 : decode b_MO_take 224 = .ok (.iastore, 1) := by decide +kernel
theorem d_MO_take_225 : decode b_MO_take 225 = .ok (.iinc 2 1, 3) := by decide +kernel
theorem d_MO_take_228 : decode b_MO_take 228 = .ok (.goto (-47), 3) := by decide +kernel
theorem d_MO_take_231 : decode b_MO_take 231 = .ok (.iconst 0, 1) := by decide +kernel
theorem d_MO_take_232 : decode b_MO_take 232 = .ok (.istore_n 2, 1) := by decide +kernel
theorem d_MO_take_233 : decode b_MO_take 233 = .ok (.iload_n 2, 1) := by decide +kernel
theorem d_MO_take_234 : decode b_MO_take 234 = .ok (.iconst 3, 1) := by decide +kernel
theorem d_MO_take_235 : decode b_MO_take 235 = .ok (.if_icmp .ge 23, 3) := by decide +kernel
theorem d_MO_take_238 : decode b_MO_take 238 = .ok (.aload_n 0, 1) := by decide +kernel
theorem d_MO_take_239 : decode b_MO_take 239 = .ok (.getfield 41, 3) := by decide +kernel
theorem d_MO_take_242 : decode b_MO_take 242 = .ok (.iload_n 2, 1) := by decide +kernel
theorem d_MO_take_243 : decode b_MO_take 243 = .ok (.iconst 0, 1) := by decide +kernel
theorem d_MO_take_244 : decode b_MO_take 244 = .ok (.bastore, 1) := by decide +kernel
theorem d_MO_take_245 : decode b_MO_take 245 = .ok (.aload_n 0, 1) := by decide +kernel
theorem d_MO_take_246 : decode b_MO_take 246 = .ok (.getfield 48, 3) := by decide +kernel
theorem d_MO_take_249 : decode b_MO_take 249 = .ok (.iload_n 2, 1) := by decide +kernel
theorem d_MO_take_250 : decode b_MO_take 250 = .ok (.iconst 0, 1) := by decide +kernel
theorem d_MO_take_251 : decode b_MO_take 251 = .ok (.iastore, 1) := by decide +kernel
theorem d_MO_take_252 : decode b_MO_take 252 = .ok (.iinc 2 1, 3) := by decide +kernel
theorem d_MO_take_255 : decode b_MO_take 255 = .ok (.goto (-22), 3) := by decide +kernel
theorem d_MO_take_258 : decode b_MO_take 258 = .ok (.aload_n 0, 1) := by decide +kernel
theorem d_MO_take_259 : decode b_MO_take 259 = .ok (.iconst 0, 1) := by decide +kernel
theorem d_MO_take_260 : decode b_MO_take 260 = .ok (.putfield 146, 3) := by decide +kernel
theorem d_MO_take_263 : decode b_MO_take 263 = .ok (.aload_n 0, 1) := by decide +kernel
theorem d_MO_take_264 : decode b_MO_take 264 = .ok (.iconst 0, 1) := by decide +kernel
theorem d_MO_take_265 : decode b_MO_take 265 = .ok (.putfield 149, 3) := by decide +kernel
theorem d_MO_take_268 : decode b_MO_take 268 = .ok (.return_, 1) := by decide +kernel
theorem d_MO_type_0 : decode b_MO_type 0 = .ok (.aload_n 0, 1) := by decide +kernel
theorem d_MO_type_1 : decode b_MO_type 1 = .ok (.iconst 0, 1) := by decide +kernel
theorem d_MO_type_2 : decode b_MO_type 2 = .ok (.putfield 81, 3) := by decide +kernel
theorem d_MO_type_5 : decode b_MO_type 5 = .ok (.iload_n 3, 1) := by decide +kernel
theorem d_MO_type_6 : decode b_MO_type 6 = .ok (.iconst 1, 1) := by decide +kernel
theorem d_MO_type_7 : decode b_MO_type 7 = .ok (.if_icmp .lt 25, 3) := by decide +kernel
theorem d_MO_type_10 : decode b_MO_type 10 = .ok (.iload_n 3, 1) := by decide +kernel
theorem d_MO_type_11 : decode b_MO_type 11 = .ok (.bipush 8, 2) := by decide +kernel
theorem d_MO_type_13 : decode b_MO_type 13 = .ok (.if_icmp .gt 19, 3) := by decide +kernel
theorem d_MO_type_16 : decode b_MO_type 16 = .ok (.aload_n 0, 1) := by decide +kernel
theorem d_MO_type_17 : decode b_MO_type 17 = .ok (.getfield 84, 3) := by decide +kernel
theorem d_MO_type_20 : decode b_MO_type 20 = .ok (.iload_n 3, 1) := by decide +kernel
theorem d_MO_type_21 : decode b_MO_type 21 = .ok (.iadd, 1) := by decide +kernel
theorem d_MO_type_22 : decode b_MO_type 22 = .ok (.sipush 300, 3) := by decide +kernel
theorem d_MO_type_25 : decode b_MO_type 25 = .ok (.if_icmp .gt 7, 3) := by decide +kernel
theorem d_MO_type_28 : decode b_MO_type 28 = .ok (.iconst 1, 1) := by decide +kernel
theorem d_MO_type_29 : decode b_MO_type 29 = .ok (.goto 4, 3) := by decide +kernel
theorem d_MO_type_32 : decode b_MO_type 32 = .ok (.iconst 0, 1) := by decide +kernel
theorem d_MO_type_33 : decode b_MO_type 33 = .ok (.istore 4, 2) := by decide +kernel
theorem d_MO_type_35 : decode b_MO_type 35 = .ok (.iconst 0, 1) := by decide +kernel
theorem d_MO_type_36 : decode b_MO_type 36 = .ok (.istore 5, 2) := by decide +kernel
theorem d_MO_type_38 : decode b_MO_type 38 = .ok (.iload 4, 2) := by decide +kernel
theorem d_MO_type_40 : decode b_MO_type 40 = .ok (.ifCond .eq 53, 3) := by decide +kernel
theorem d_MO_type_43 : decode b_MO_type 43 = .ok (.iload 5, 2) := by decide +kernel
theorem d_MO_type_45 : decode b_MO_type 45 = .ok (.iload_n 3, 1) := by decide +kernel
theorem d_MO_type_46 : decode b_MO_type 46 = .ok (.if_icmp .ge 47, 3) := by decide +kernel
theorem d_MO_type_49 : decode b_MO_type 49 = .ok (.lload_n 1, 1) := by decide +kernel
theorem d_MO_type_50 : decode b_MO_type 50 = .ok (.bipush 8, 2) := by decide +kernel
theorem d_MO_type_52 : decode b_MO_type 52 = .ok (.iload 5, 2) := by decide +kernel
theorem d_MO_type_54 : decode b_MO_type 54 = .ok (.imul, 1) := by decide +kernel
theorem d_MO_type_55 : decode b_MO_type 55 = .ok (.lshr, 1) := by decide +kernel
theorem d_MO_type_56 : decode b_MO_type 56 = .ok (.ldc2_w 87, 3) := by decide +kernel
theorem d_MO_type_59 : decode b_MO_type 59 = .ok (.land, 1) := by decide +kernel
theorem d_MO_type_60 : decode b_MO_type 60 = .ok (.lstore 6, 2) := by decide +kernel
theorem d_MO_type_62 : decode b_MO_type 62 = .ok (.lload 6, 2) := by decide +kernel
theorem d_MO_type_64 : decode b_MO_type 64 = .ok (.ldc2_w 89, 3) := by decide +kernel
theorem d_MO_type_67 : decode b_MO_type 67 = .ok (.lcmp, 1) := by decide +kernel
theorem d_MO_type_68 : decode b_MO_type 68 = .ok (.ifCond .lt 16, 3) := by decide +kernel
theorem d_MO_type_71 : decode b_MO_type 71 = .ok (.lload 6, 2) := by decide +kernel
theorem d_MO_type_73 : decode b_MO_type 73 = .ok (.ldc2_w 91, 3) := by decide +kernel
theorem d_MO_type_76 : decode b_MO_type 76 = .ok (.lcmp, 1) := by decide +kernel
theorem d_MO_type_77 : decode b_MO_type 77 = .ok (.ifCond .gt 7, 3) := by decide +kernel
theorem d_MO_type_80 : decode b_MO_type 80 = .ok (.iconst 1, 1) := by decide +kernel
theorem d_MO_type_81 : decode b_MO_type 81 = .ok (.goto 4, 3) := by decide +kernel
theorem d_MO_type_84 : decode b_MO_type 84 = .ok (.iconst 0, 1) := by decide +kernel
theorem d_MO_type_85 : decode b_MO_type 85 = .ok (.istore 4, 2) := by decide +kernel
theorem d_MO_type_87 : decode b_MO_type 87 = .ok (.iinc 5 1, 3) := by decide +kernel
theorem d_MO_type_90 : decode b_MO_type 90 = .ok (.goto (-52), 3) := by decide +kernel
theorem d_MO_type_93 : decode b_MO_type 93 = .ok (.iload 4, 2) := by decide +kernel
theorem d_MO_type_95 : decode b_MO_type 95 = .ok (.ifCond .ne 5, 3) := by decide +kernel
theorem d_MO_type_98 : decode b_MO_type 98 = .ok (.iconst (-1), 1) := by decide +kernel
theorem d_MO_type_99 : decode b_MO_type 99 = .ok (.ireturn, 1) := by decide +kernel
theorem d_MO_type_100 : decode b_MO_type 100 = .ok (.iload_n 3, 1) := by decide +kernel
theorem d_MO_type_101 : decode b_MO_type 101 = .ok (.iconst 1, 1) := by decide +kernel
theorem d_MO_type_102 : decode b_MO_type 102 = .ok (.isub, 1) := by decide +kernel
theorem d_MO_type_103 : decode b_MO_type 103 = .ok (.istore 5, 2) := by decide +kernel
theorem d_MO_type_105 : decode b_MO_type 105 = .ok (.iload 5, 2) := by decide +kernel
theorem d_MO_type_107 : decode b_MO_type 107 = .ok (.ifCond .lt 40, 3) := by decide +kernel
theorem d_MO_type_110 : decode b_MO_type 110 = .ok (.aload_n 0, 1) := by decide +kernel
theorem d_MO_type_111 : decode b_MO_type 111 = .ok (.getfield 7, 3) := by decide +kernel
theorem d_MO_type_114 : decode b_MO_type 114 = .ok (.aload_n 0, 1) := by decide +kernel
theorem d_MO_type_115 : decode b_MO_type 115 = .ok (.getfield 84, 3) := by decide +kernel
theorem d_MO_type_118 : decode b_MO_type 118 = .ok (.lload_n 1, 1) := by decide +kernel
theorem d_MO_type_119 : decode b_MO_type 119 = .ok (.bipush 8, 2) := by decide +kernel
theorem d_MO_type_121 : decode b_MO_type 121 = .ok (.iload 5, 2) := by decide +kernel
theorem d_MO_type_123 : decode b_MO_type 123 = .ok (.imul, 1) := by decide +kernel
theorem d_MO_type_124 : decode b_MO_type 124 = .ok (.lshr, 1) := by decide +kernel
theorem d_MO_type_125 : decode b_MO_type 125 = .ok (.ldc2_w 87, 3) := by decide +kernel
theorem d_MO_type_128 : decode b_MO_type 128 = .ok (.land, 1) := by decide +kernel
theorem d_MO_type_129 : decode b_MO_type 129 = .ok (.l2i, 1) := by decide +kernel
theorem d_MO_type_130 : decode b_MO_type 130 = .ok (.iastore, 1) := by decide +kernel
theorem d_MO_type_131 : decode b_MO_type 131 = .ok (.aload_n 0, 1) := by decide +kernel
theorem d_MO_type_132 : decode b_MO_type 132 = .ok (.dup, 1) := by decide +kernel
theorem d_MO_type_133 : decode b_MO_type 133 = .ok (.getfield 84, 3) := by decide +kernel
theorem d_MO_type_136 : decode b_MO_type 136 = .ok (.iconst 1, 1) := by decide +kernel
theorem d_MO_type_137 : decode b_MO_type 137 = .ok (.iadd, 1) := by decide +kernel
theorem d_MO_type_138 : decode b_MO_type 138 = .ok (.putfield 84, 3) := by decide +kernel
theorem d_MO_type_141 : decode b_MO_type 141 = .ok (.iinc 5 (-1), 3) := by decide +kernel
theorem d_MO_type_144 : decode b_MO_type 144 = .ok (.goto (-39), 3) := by decide +kernel
theorem d_MO_type_147 : decode b_MO_type 147 = .ok (.aload_n 0, 1) := by decide +kernel
theorem d_MO_type_148 : decode b_MO_type 148 = .ok (.getfield 84, 3) := by decide +kernel
theorem d_MO_type_151 : decode b_MO_type 151 = .ok (.ireturn, 1) := by decide +kernel
theorem d_MO_word_0 : decode b_MO_word 0 = .ok (.aload_n 0, 1) := by decide +kernel
theorem d_MO_word_1 : decode b_MO_word 1 = .ok (.getfield 17, 3) := by decide +kernel
theorem d_MO_word_4 : decode b_MO_word 4 = .ok (.aload_n 0, 1) := by decide +kernel
theorem d_MO_word_5 : decode b_MO_word 5 = .ok (.getfield 93, 3) := by decide +kernel
theorem d_MO_word_8 : decode b_MO_word 8 = .ok (.iload_n 1, 1) := by decide +kernel
theorem d_MO_word_9 : decode b_MO_word 9 = .ok (.iastore, 1) := by decide +kernel
theorem d_MO_word_10 : decode b_MO_word 10 = .ok (.aload_n 0, 1) := by decide +kernel
theorem d_MO_word_11 : decode b_MO_word 11 = .ok (.getfield 20, 3) := by decide +kernel
theorem d_MO_word_14 : decode b_MO_word 14 = .ok (.aload_n 0, 1) := by decide +kernel
theorem d_MO_word_15 : decode b_MO_word 15 = .ok (.getfield 93, 3) := by decide +kernel
theorem d_MO_word_18 : decode b_MO_word 18 = .ok (.iload_n 2, 1) := by decide +kernel
theorem d_MO_word_19 : decode b_MO_word 19 = .ok (.iastore, 1) := by decide +kernel
theorem d_MO_word_20 : decode b_MO_word 20 = .ok (.aload_n 0, 1) := by decide +kernel
theorem d_MO_word_21 : decode b_MO_word 21 = .ok (.getfield 23, 3) := by decide +kernel
theorem d_MO_word_24 : decode b_MO_word 24 = .ok (.aload_n 0, 1) := by decide +kernel
theorem d_MO_word_25 : decode b_MO_word 25 = .ok (.getfield 93, 3) := by decide +kernel
theorem d_MO_word_28 : decode b_MO_word 28 = .ok (.iload_n 3, 1) := by decide +kernel
theorem d_MO_word_29 : decode b_MO_word 29 = .ok (.iastore, 1) := by decide +kernel
theorem d_MO_word_30 : decode b_MO_word 30 = .ok (.aload_n 0, 1) := by decide +kernel
theorem d_MO_word_31 : decode b_MO_word 31 = .ok (.dup, 1) := by decide +kernel
theorem d_MO_word_32 : decode b_MO_word 32 = .ok (.getfield 93, 3) := by decide +kernel
theorem d_MO_word_35 : decode b_MO_word 35 = .ok (.iconst 1, 1) := by decide +kernel
theorem d_MO_word_36 : decode b_MO_word 36 = .ok (.iadd, 1) := by decide +kernel
theorem d_MO_word_37 : decode b_MO_word 37 = .ok (.putfield 93, 3) := by decide +kernel
theorem d_MO_word_40 : decode b_MO_word 40 = .ok (.return_, 1) := by decide +kernel
