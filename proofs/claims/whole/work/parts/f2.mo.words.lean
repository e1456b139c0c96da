theorem k_11 : (Jvm.Cond.initialized "LeastSolutionsModel") ∈ wd := wd_t (List.mem_of_getElem? (i := 11) (by decide +kernel)) rfl
theorem k_900 : (Jvm.Cond.fieldLink "LeastSolutionsModel" (133 : Nat) "LeastSolutionsModel" "known" "Z") ∈ wd := wd_t (List.mem_of_getElem? (i := 900) (by decide +kernel)) rfl
theorem k_901 : (Jvm.Cond.fieldLink "LeastSolutionsModel" (137 : Nat) "LeastSolutionsModel" "rows" "I") ∈ wd := wd_t (List.mem_of_getElem? (i := 901) (by decide +kernel)) rfl
theorem k_917 : (Jvm.Cond.fieldLink "LeastSolutionsModel" (152 : Nat) "LeastSolutionsModel" "vectors" "I") ∈ wd := wd_t (List.mem_of_getElem? (i := 917) (by decide +kernel)) rfl
theorem k_918 : (Jvm.Cond.fieldLink "LeastSolutionsModel" (72 : Nat) "LeastSolutionsModel" "one" "[J") ∈ wd := wd_t (List.mem_of_getElem? (i := 918) (by decide +kernel)) rfl
theorem k_919 : (Jvm.Cond.fieldLink "LeastSolutionsModel" (179 : Nat) "LeastSolutionsModel" "isOne" "Z") ∈ wd := wd_t (List.mem_of_getElem? (i := 919) (by decide +kernel)) rfl
theorem k_1063 : (Jvm.Cond.methodLink "LeastSolutionsModel" (191 : Nat) ({ cls := "LeastSolutionsModel", name := "solveWhole", desc := "()V" } : Jvm.MethodName)) ∈ wd := wd_t (List.mem_of_getElem? (i := 1063) (by decide +kernel)) rfl
theorem k_1065 : (Jvm.Cond.instanceMethod ({ cls := "LeastSolutionsModel", name := "solveWhole", desc := "()V" } : Jvm.MethodName)) ∈ wd := wd_t (List.mem_of_getElem? (i := 1065) (by decide +kernel)) rfl
theorem k_1066 : (Jvm.Cond.code ({ cls := "LeastSolutionsModel", name := "solveWhole", desc := "()V" } : Jvm.MethodName) prog_12_method_27_code (2 : Nat) (Option.none : Option Jvm.ClassFile.FieldType)) ∈ wd := wd_t (List.mem_of_getElem? (i := 1066) (by decide +kernel)) rfl
theorem k_1067 : (Jvm.Cond.methodLink "LeastSolutionsModel" (182 : Nat) ({ cls := "LeastSolutionsModel", name := "narrow", desc := "(I)V" } : Jvm.MethodName)) ∈ wd := wd_t (List.mem_of_getElem? (i := 1067) (by decide +kernel)) rfl
theorem k_1069 : (Jvm.Cond.instanceMethod ({ cls := "LeastSolutionsModel", name := "narrow", desc := "(I)V" } : Jvm.MethodName)) ∈ wd := wd_t (List.mem_of_getElem? (i := 1069) (by decide +kernel)) rfl
theorem k_1070 : (Jvm.Cond.code ({ cls := "LeastSolutionsModel", name := "narrow", desc := "(I)V" } : Jvm.MethodName) prog_12_method_25_code (9 : Nat) (Option.none : Option Jvm.ClassFile.FieldType)) ∈ wd := wd_t (List.mem_of_getElem? (i := 1070) (by decide +kernel)) rfl
theorem k_1071 : (Jvm.Cond.methodLink "LeastSolutionsModel" (175 : Nat) ({ cls := "LeastSolutionsModel", name := "dot", desc := "(I[JI)J" } : Jvm.MethodName)) ∈ wd := wd_t (List.mem_of_getElem? (i := 1071) (by decide +kernel)) rfl
theorem k_1073 : (Jvm.Cond.instanceMethod ({ cls := "LeastSolutionsModel", name := "dot", desc := "(I[JI)J" } : Jvm.MethodName)) ∈ wd := wd_t (List.mem_of_getElem? (i := 1073) (by decide +kernel)) rfl
theorem k_1074 : (Jvm.Cond.code ({ cls := "LeastSolutionsModel", name := "dot", desc := "(I[JI)J" } : Jvm.MethodName) prog_12_method_18_code (7 : Nat) (Option.some Jvm.ClassFile.FieldType.long)) ∈ wd := wd_t (List.mem_of_getElem? (i := 1074) (by decide +kernel)) rfl
theorem k_1075 : (Jvm.Cond.methodLink "LeastSolutionsModel" (155 : Nat) ({ cls := "LeastSolutionsModel", name := "size", desc := "(J)J" } : Jvm.MethodName)) ∈ wd := wd_t (List.mem_of_getElem? (i := 1075) (by decide +kernel)) rfl
theorem k_1076 : (Jvm.Cond.static ({ cls := "LeastSolutionsModel", name := "size", desc := "(J)J" } : Jvm.MethodName)) ∈ wd := wd_t (List.mem_of_getElem? (i := 1076) (by decide +kernel)) rfl
theorem k_1077 : (Jvm.Cond.code ({ cls := "LeastSolutionsModel", name := "size", desc := "(J)J" } : Jvm.MethodName) prog_12_method_19_code (2 : Nat) (Option.some Jvm.ClassFile.FieldType.long)) ∈ wd := wd_t (List.mem_of_getElem? (i := 1077) (by decide +kernel)) rfl
theorem k_1078 : (Jvm.Cond.methodLink "LeastSolutionsModel" (159 : Nat) ({ cls := "LeastSolutionsModel", name := "exchange", desc := "(II)V" } : Jvm.MethodName)) ∈ wd := wd_t (List.mem_of_getElem? (i := 1078) (by decide +kernel)) rfl
theorem k_1080 : (Jvm.Cond.instanceMethod ({ cls := "LeastSolutionsModel", name := "exchange", desc := "(II)V" } : Jvm.MethodName)) ∈ wd := wd_t (List.mem_of_getElem? (i := 1080) (by decide +kernel)) rfl
theorem k_1081 : (Jvm.Cond.code ({ cls := "LeastSolutionsModel", name := "exchange", desc := "(II)V" } : Jvm.MethodName) prog_12_method_21_code (6 : Nat) (Option.none : Option Jvm.ClassFile.FieldType)) ∈ wd := wd_t (List.mem_of_getElem? (i := 1081) (by decide +kernel)) rfl
theorem k_1082 : (Jvm.Cond.methodLink "LeastSolutionsModel" (167 : Nat) ({ cls := "LeastSolutionsModel", name := "lose", desc := "(IIJ)V" } : Jvm.MethodName)) ∈ wd := wd_t (List.mem_of_getElem? (i := 1082) (by decide +kernel)) rfl
theorem k_1084 : (Jvm.Cond.instanceMethod ({ cls := "LeastSolutionsModel", name := "lose", desc := "(IIJ)V" } : Jvm.MethodName)) ∈ wd := wd_t (List.mem_of_getElem? (i := 1084) (by decide +kernel)) rfl
theorem k_1085 : (Jvm.Cond.code ({ cls := "LeastSolutionsModel", name := "lose", desc := "(IIJ)V" } : Jvm.MethodName) prog_12_method_20_code (6 : Nat) (Option.none : Option Jvm.ClassFile.FieldType)) ∈ wd := wd_t (List.mem_of_getElem? (i := 1085) (by decide +kernel)) rfl
theorem k_1086 : (Jvm.Cond.methodLink "LeastSolutionsModel" (185 : Nat) ({ cls := "LeastSolutionsModel", name := "order", desc := "()V" } : Jvm.MethodName)) ∈ wd := wd_t (List.mem_of_getElem? (i := 1086) (by decide +kernel)) rfl
theorem k_1088 : (Jvm.Cond.instanceMethod ({ cls := "LeastSolutionsModel", name := "order", desc := "()V" } : Jvm.MethodName)) ∈ wd := wd_t (List.mem_of_getElem? (i := 1088) (by decide +kernel)) rfl
theorem k_1089 : (Jvm.Cond.code ({ cls := "LeastSolutionsModel", name := "order", desc := "()V" } : Jvm.MethodName) prog_12_method_24_code (8 : Nat) (Option.none : Option Jvm.ClassFile.FieldType)) ∈ wd := wd_t (List.mem_of_getElem? (i := 1089) (by decide +kernel)) rfl
theorem k_1090 : (Jvm.Cond.methodLink "LeastSolutionsModel" (171 : Nat) ({ cls := "LeastSolutionsModel", name := "gather", desc := "(II)Z" } : Jvm.MethodName)) ∈ wd := wd_t (List.mem_of_getElem? (i := 1090) (by decide +kernel)) rfl
theorem k_1092 : (Jvm.Cond.instanceMethod ({ cls := "LeastSolutionsModel", name := "gather", desc := "(II)Z" } : Jvm.MethodName)) ∈ wd := wd_t (List.mem_of_getElem? (i := 1092) (by decide +kernel)) rfl
theorem k_1093 : (Jvm.Cond.code ({ cls := "LeastSolutionsModel", name := "gather", desc := "(II)Z" } : Jvm.MethodName) prog_12_method_23_code (11 : Nat) (Option.some Jvm.ClassFile.FieldType.boolean)) ∈ wd := wd_t (List.mem_of_getElem? (i := 1093) (by decide +kernel)) rfl
theorem k_1094 : (Jvm.Cond.methodLink "LeastSolutionsModel" (163 : Nat) ({ cls := "LeastSolutionsModel", name := "turn", desc := "(I)V" } : Jvm.MethodName)) ∈ wd := wd_t (List.mem_of_getElem? (i := 1094) (by decide +kernel)) rfl
theorem k_1096 : (Jvm.Cond.instanceMethod ({ cls := "LeastSolutionsModel", name := "turn", desc := "(I)V" } : Jvm.MethodName)) ∈ wd := wd_t (List.mem_of_getElem? (i := 1096) (by decide +kernel)) rfl
theorem k_1097 : (Jvm.Cond.code ({ cls := "LeastSolutionsModel", name := "turn", desc := "(I)V" } : Jvm.MethodName) prog_12_method_22_code (3 : Nat) (Option.none : Option Jvm.ClassFile.FieldType)) ∈ wd := wd_t (List.mem_of_getElem? (i := 1097) (by decide +kernel)) rfl
theorem k_1098 : (Jvm.Cond.methodLink "LeastSolutionsModel" (188 : Nat) ({ cls := "LeastSolutionsModel", name := "shorten", desc := "()V" } : Jvm.MethodName)) ∈ wd := wd_t (List.mem_of_getElem? (i := 1098) (by decide +kernel)) rfl
theorem k_1100 : (Jvm.Cond.instanceMethod ({ cls := "LeastSolutionsModel", name := "shorten", desc := "()V" } : Jvm.MethodName)) ∈ wd := wd_t (List.mem_of_getElem? (i := 1100) (by decide +kernel)) rfl
theorem k_1101 : (Jvm.Cond.code ({ cls := "LeastSolutionsModel", name := "shorten", desc := "()V" } : Jvm.MethodName) prog_12_method_26_code (6 : Nat) (Option.none : Option Jvm.ClassFile.FieldType)) ∈ wd := wd_t (List.mem_of_getElem? (i := 1101) (by decide +kernel)) rfl
theorem k_1110 : (Jvm.Cond.methodLink "LeastSolutionsModel" (194 : Nat) ({ cls := "LeastSolutionsModel", name := "isColumn", desc := "(I)Z" } : Jvm.MethodName)) ∈ wd := wd_t (List.mem_of_getElem? (i := 1110) (by decide +kernel)) rfl
theorem k_1112 : (Jvm.Cond.instanceMethod ({ cls := "LeastSolutionsModel", name := "isColumn", desc := "(I)Z" } : Jvm.MethodName)) ∈ wd := wd_t (List.mem_of_getElem? (i := 1112) (by decide +kernel)) rfl
theorem k_1113 : (Jvm.Cond.code ({ cls := "LeastSolutionsModel", name := "isColumn", desc := "(I)Z" } : Jvm.MethodName) prog_12_method_16_code (2 : Nat) (Option.some Jvm.ClassFile.FieldType.boolean)) ∈ wd := wd_t (List.mem_of_getElem? (i := 1113) (by decide +kernel)) rfl
abbrev y_MO_gather : MethodName := ⟨"LeastSolutionsModel", "gather", "(II)Z"⟩
abbrev b_MO_gather : ByteArray := prog_12_method_23_code
abbrev y_MO_isColumn : MethodName := ⟨"LeastSolutionsModel", "isColumn", "(I)Z"⟩
abbrev b_MO_isColumn : ByteArray := prog_12_method_16_code
abbrev y_MO_kernel : MethodName := ⟨"LeastSolutionsModel", "kernel", "()I"⟩
abbrev b_MO_kernel : ByteArray := prog_12_method_29_code
abbrev y_MO_kernelAt : MethodName := ⟨"LeastSolutionsModel", "kernelAt", "(II)J"⟩
abbrev b_MO_kernelAt : ByteArray := prog_12_method_30_code
abbrev y_MO_narrow : MethodName := ⟨"LeastSolutionsModel", "narrow", "(I)V"⟩
abbrev b_MO_narrow : ByteArray := prog_12_method_25_code
abbrev y_MO_order : MethodName := ⟨"LeastSolutionsModel", "order", "()V"⟩
abbrev b_MO_order : ByteArray := prog_12_method_24_code
abbrev y_MO_shorten : MethodName := ⟨"LeastSolutionsModel", "shorten", "()V"⟩
abbrev b_MO_shorten : ByteArray := prog_12_method_26_code
abbrev y_MO_solvable : MethodName := ⟨"LeastSolutionsModel", "solvable", "()I"⟩
abbrev b_MO_solvable : ByteArray := prog_12_method_28_code
abbrev y_MO_solveWhole : MethodName := ⟨"LeastSolutionsModel", "solveWhole", "()V"⟩
abbrev b_MO_solveWhole : ByteArray := prog_12_method_27_code
theorem ks_MO_dot : Cond.selects "LeastSolutionsModel" ({ cls := "LeastSolutionsModel", name := "dot", desc := "(I[JI)J" } : Jvm.MethodName) ({ cls := "LeastSolutionsModel", name := "dot", desc := "(I[JI)J" } : Jvm.MethodName) ∈ wd := wd_p (q := (⟨"LeastSolutionsModel", "dot", "(I[JI)J"⟩, 36)) (List.mem_of_getElem? (i := 45) (by decide +kernel))
theorem ks_MO_exchange : Cond.selects "LeastSolutionsModel" ({ cls := "LeastSolutionsModel", name := "exchange", desc := "(II)V" } : Jvm.MethodName) ({ cls := "LeastSolutionsModel", name := "exchange", desc := "(II)V" } : Jvm.MethodName) ∈ wd := wd_p (q := (⟨"LeastSolutionsModel", "exchange", "(II)V"⟩, 36)) (List.mem_of_getElem? (i := 46) (by decide +kernel))
theorem ks_MO_gather : Cond.selects "LeastSolutionsModel" ({ cls := "LeastSolutionsModel", name := "gather", desc := "(II)Z" } : Jvm.MethodName) ({ cls := "LeastSolutionsModel", name := "gather", desc := "(II)Z" } : Jvm.MethodName) ∈ wd := wd_p (q := (⟨"LeastSolutionsModel", "gather", "(II)Z"⟩, 36)) (List.mem_of_getElem? (i := 49) (by decide +kernel))
theorem ks_MO_isColumn : Cond.selects "LeastSolutionsModel" ({ cls := "LeastSolutionsModel", name := "isColumn", desc := "(I)Z" } : Jvm.MethodName) ({ cls := "LeastSolutionsModel", name := "isColumn", desc := "(I)Z" } : Jvm.MethodName) ∈ wd := wd_p (q := (⟨"LeastSolutionsModel", "isColumn", "(I)Z"⟩, 36)) (List.mem_of_getElem? (i := 52) (by decide +kernel))
theorem ks_MO_lose : Cond.selects "LeastSolutionsModel" ({ cls := "LeastSolutionsModel", name := "lose", desc := "(IIJ)V" } : Jvm.MethodName) ({ cls := "LeastSolutionsModel", name := "lose", desc := "(IIJ)V" } : Jvm.MethodName) ∈ wd := wd_p (q := (⟨"LeastSolutionsModel", "lose", "(IIJ)V"⟩, 36)) (List.mem_of_getElem? (i := 47) (by decide +kernel))
theorem ks_MO_narrow : Cond.selects "LeastSolutionsModel" ({ cls := "LeastSolutionsModel", name := "narrow", desc := "(I)V" } : Jvm.MethodName) ({ cls := "LeastSolutionsModel", name := "narrow", desc := "(I)V" } : Jvm.MethodName) ∈ wd := wd_p (q := (⟨"LeastSolutionsModel", "narrow", "(I)V"⟩, 36)) (List.mem_of_getElem? (i := 44) (by decide +kernel))
theorem ks_MO_order : Cond.selects "LeastSolutionsModel" ({ cls := "LeastSolutionsModel", name := "order", desc := "()V" } : Jvm.MethodName) ({ cls := "LeastSolutionsModel", name := "order", desc := "()V" } : Jvm.MethodName) ∈ wd := wd_p (q := (⟨"LeastSolutionsModel", "order", "()V"⟩, 36)) (List.mem_of_getElem? (i := 48) (by decide +kernel))
theorem ks_MO_shorten : Cond.selects "LeastSolutionsModel" ({ cls := "LeastSolutionsModel", name := "shorten", desc := "()V" } : Jvm.MethodName) ({ cls := "LeastSolutionsModel", name := "shorten", desc := "()V" } : Jvm.MethodName) ∈ wd := wd_p (q := (⟨"LeastSolutionsModel", "shorten", "()V"⟩, 36)) (List.mem_of_getElem? (i := 51) (by decide +kernel))
theorem ks_MO_solveWhole : Cond.selects "LeastSolutionsModel" ({ cls := "LeastSolutionsModel", name := "solveWhole", desc := "()V" } : Jvm.MethodName) ({ cls := "LeastSolutionsModel", name := "solveWhole", desc := "()V" } : Jvm.MethodName) ∈ wd := wd_p (q := (⟨"LeastSolutionsModel", "solveWhole", "()V"⟩, 36)) (List.mem_of_getElem? (i := 43) (by decide +kernel))
theorem ks_MO_turn : Cond.selects "LeastSolutionsModel" ({ cls := "LeastSolutionsModel", name := "turn", desc := "(I)V" } : Jvm.MethodName) ({ cls := "LeastSolutionsModel", name := "turn", desc := "(I)V" } : Jvm.MethodName) ∈ wd := wd_p (q := (⟨"LeastSolutionsModel", "turn", "(I)V"⟩, 36)) (List.mem_of_getElem? (i := 50) (by decide +kernel))
theorem d_MO_gather_0 : decode b_MO_gather 0 = .ok (.iconst 1, 1) := by decide +kernel
theorem d_MO_gather_1 : decode b_MO_gather 1 = .ok (.istore_n 3, 1) := by decide +kernel
theorem d_MO_gather_2 : decode b_MO_gather 2 = .ok (.iload_n 3, 1) := by decide +kernel
theorem d_MO_gather_3 : decode b_MO_gather 3 = .ok (.ifCond .eq 203, 3) := by decide +kernel
theorem d_MO_gather_6 : decode b_MO_gather 6 = .ok (.iconst (-1), 1) := by decide +kernel
theorem d_MO_gather_7 : decode b_MO_gather 7 = .ok (.istore 4, 2) := by decide +kernel
theorem d_MO_gather_9 : decode b_MO_gather 9 = .ok (.iconst 0, 1) := by decide +kernel
theorem d_MO_gather_10 : decode b_MO_gather 10 = .ok (.istore 5, 2) := by decide +kernel
theorem d_MO_gather_12 : decode b_MO_gather 12 = .ok (.iload_n 1, 1) := by decide +kernel
theorem d_MO_gather_13 : decode b_MO_gather 13 = .ok (.istore 6, 2) := by decide +kernel
theorem d_MO_gather_15 : decode b_MO_gather 15 = .ok (.iload 6, 2) := by decide +kernel
theorem d_MO_gather_17 : decode b_MO_gather 17 = .ok (.aload_n 0, 1) := by decide +kernel
theorem d_MO_gather_18 : decode b_MO_gather 18 = .ok (.getfield 152, 3) := by decide +kernel
theorem d_MO_gather_21 : decode b_MO_gather 21 = .ok (.if_icmp .ge 84, 3) := by decide +kernel
theorem d_MO_gather_24 : decode b_MO_gather 24 = .ok (.aload_n 0, 1) := by decide +kernel
theorem d_MO_gather_25 : decode b_MO_gather 25 = .ok (.getfield 68, 3) := by decide +kernel
theorem d_MO_gather_28 : decode b_MO_gather 28 = .ok (.bipush 6, 2) := by decide +kernel
theorem d_MO_gather_30 : decode b_MO_gather 30 = .ok (.iload 6, 2) := by decide +kernel
theorem d_MO_gather_32 : decode b_MO_gather 32 = .ok (.imul, 1) := by decide +kernel
theorem d_MO_gather_33 : decode b_MO_gather 33 = .ok (.iload_n 2, 1) := by decide +kernel
theorem d_MO_gather_34 : decode b_MO_gather 34 = .ok (.iadd, 1) := by decide +kernel
theorem d_MO_gather_35 : decode b_MO_gather 35 = .ok (.laload, 1) := by decide +kernel
theorem d_MO_gather_36 : decode b_MO_gather 36 = .ok (.lstore 7, 2) := by decide +kernel
theorem d_MO_gather_38 : decode b_MO_gather 38 = .ok (.iload 4, 2) := by decide +kernel
theorem d_MO_gather_40 : decode b_MO_gather 40 = .ok (.ifCond .ge 7, 3) := by decide +kernel
theorem d_MO_gather_43 : decode b_MO_gather 43 = .ok (.lconst 0, 1) := by decide +kernel
theorem d_MO_gather_44 : decode b_MO_gather 44 = .ok (.goto 15, 3) := by decide +kernel
theorem d_MO_gather_47 : decode b_MO_gather 47 = .ok (.aload_n 0, 1) := by decide +kernel
theorem d_MO_gather_48 : decode b_MO_gather 48 = .ok (.getfield 68, 3) := by decide +kernel
theorem d_MO_gather_51 : decode b_MO_gather 51 = .ok (.bipush 6, 2) := by decide +kernel
theorem d_MO_gather_53 : decode b_MO_gather 53 = .ok (.iload 4, 2) := by decide +kernel
theorem d_MO_gather_55 : decode b_MO_gather 55 = .ok (.imul, 1) := by decide +kernel
theorem d_MO_gather_56 : decode b_MO_gather 56 = .ok (.iload_n 2, 1) := by decide +kernel
theorem d_MO_gather_57 : decode b_MO_gather 57 = .ok (.iadd, 1) := by decide +kernel
theorem d_MO_gather_58 : decode b_MO_gather 58 = .ok (.laload, 1) := by decide +kernel
theorem d_MO_gather_59 : decode b_MO_gather 59 = .ok (.lstore 9, 2) := by decide +kernel
theorem d_MO_gather_61 : decode b_MO_gather 61 = .ok (.lload 7, 2) := by decide +kernel
theorem d_MO_gather_63 : decode b_MO_gather 63 = .ok (.lconst 0, 1) := by decide +kernel
theorem d_MO_gather_64 : decode b_MO_gather 64 = .ok (.lcmp, 1) := by decide +kernel
theorem d_MO_gather_65 : decode b_MO_gather 65 = .ok (.ifCond .eq 34, 3) := by decide +kernel
theorem d_MO_gather_68 : decode b_MO_gather 68 = .ok (.iinc 5 1, 3) := by decide +kernel
theorem d_MO_gather_71 : decode b_MO_gather 71 = .ok (.iload 4, 2) := by decide +kernel
theorem d_MO_gather_73 : decode b_MO_gather 73 = .ok (.ifCond .lt 17, 3) := by decide +kernel
theorem d_MO_gather_76 : decode b_MO_gather 76 = .ok (.lload 7, 2) := by decide +kernel
theorem d_MO_gather_78 : decode b_MO_gather 78 = .ok (.invokestatic 155, 3) := by decide +kernel
theorem d_MO_gather_81 : decode b_MO_gather 81 = .ok (.lload 9, 2) := by decide +kernel
theorem d_MO_gather_83 : decode b_MO_gather 83 = .ok (.invokestatic 155, 3) := by decide +kernel
theorem d_MO_gather_86 : decode b_MO_gather 86 = .ok (.lcmp, 1) := by decide +kernel
theorem d_MO_gather_87 : decode b_MO_gather 87 = .ok (.ifCond .ge 8, 3) := by decide +kernel
theorem d_MO_gather_90 : decode b_MO_gather 90 = .ok (.iload 6, 2) := by decide +kernel
theorem d_MO_gather_92 : decode b_MO_gather 92 = .ok (.goto 5, 3) := by decide +kernel
theorem d_MO_gather_95 : decode b_MO_gather 95 = .ok (.iload 4, 2) := by decide +kernel
theorem d_MO_gather_97 : decode b_MO_gather 97 = .ok (.istore 4, 2) := by decide +kernel
theorem d_MO_gather_99 : decode b_MO_gather 99 = .ok (.iinc 6 1, 3) := by decide +kernel
theorem d_MO_gather_102 : decode b_MO_gather 102 = .ok (.goto (-87), 3) := by decide +kernel
theorem d_MO_gather_105 : decode b_MO_gather 105 = .ok (.iload 5, 2) := by decide +kernel
theorem d_MO_gather_107 : decode b_MO_gather 107 = .ok (.ifCond .ne 5, 3) := by decide +kernel
theorem d_MO_gather_110 : decode b_MO_gather 110 = .ok (.iconst 0, 1) := by decide +kernel
theorem d_MO_gather_111 : decode b_MO_gather 111 = .ok (.ireturn, 1) := by decide +kernel
theorem d_MO_gather_112 : decode b_MO_gather 112 = .ok (.aload_n 0, 1) := by decide +kernel
theorem d_MO_gather_113 : decode b_MO_gather 113 = .ok (.iload_n 1, 1) := by decide +kernel
theorem d_MO_gather_114 : decode b_MO_gather 114 = .ok (.iload 4, 2) := by decide +kernel
theorem d_MO_gather_116 : decode b_MO_gather 116 = .ok (.invokevirtual 159, 3) := by decide +kernel
theorem d_MO_gather_119 : decode b_MO_gather 119 = .ok (.aload_n 0, 1) := by decide +kernel
theorem d_MO_gather_120 : decode b_MO_gather 120 = .ok (.getfield 68, 3) := by decide +kernel
theorem d_MO_gather_123 : decode b_MO_gather 123 = .ok (.bipush 6, 2) := by decide +kernel
theorem d_MO_gather_125 : decode b_MO_gather 125 = .ok (.iload_n 1, 1) := by decide +kernel
theorem d_MO_gather_126 : decode b_MO_gather 126 = .ok (.imul, 1) := by decide +kernel
theorem d_MO_gather_127 : decode b_MO_gather 127 = .ok (.iload_n 2, 1) := by decide +kernel
theorem d_MO_gather_128 : decode b_MO_gather 128 = .ok (.iadd, 1) := by decide +kernel
theorem d_MO_gather_129 : decode b_MO_gather 129 = .ok (.laload, 1) := by decide +kernel
theorem d_MO_gather_130 : decode b_MO_gather 130 = .ok (.lconst 0, 1) := by decide +kernel
theorem d_MO_gather_131 : decode b_MO_gather 131 = .ok (.lcmp, 1) := by decide +kernel
theorem d_MO_gather_132 : decode b_MO_gather 132 = .ok (.ifCond .ge 8, 3) := by decide +kernel
theorem d_MO_gather_135 : decode b_MO_gather 135 = .ok (.aload_n 0, 1) := by decide +kernel
theorem d_MO_gather_136 : decode b_MO_gather 136 = .ok (.iload_n 1, 1) := by decide +kernel
theorem d_MO_gather_137 : decode b_MO_gather 137 = .ok (.invokevirtual 163, 3) := by decide +kernel
theorem d_MO_gather_140 : decode b_MO_gather 140 = .ok (.iload_n 1, 1) := by decide +kernel
theorem d_MO_gather_141 : decode b_MO_gather 141 = .ok (.iconst 1, 1) := by decide +kernel
theorem d_MO_gather_142 : decode b_MO_gather 142 = .ok (.iadd, 1) := by decide +kernel
theorem d_MO_gather_143 : decode b_MO_gather 143 = .ok (.istore 6, 2) := by decide +kernel
theorem d_MO_gather_145 : decode b_MO_gather 145 = .ok (.iload 6, 2) := by decide +kernel
theorem d_MO_gather_147 : decode b_MO_gather 147 = .ok (.aload_n 0, 1) := by decide +kernel
theorem d_MO_gather_148 : decode b_MO_gather 148 = .ok (.getfield 152, 3) := by decide +kernel
theorem d_MO_gather_151 : decode b_MO_gather 151 = .ok (.if_icmp .ge 40, 3) := by decide +kernel
theorem d_MO_gather_154 : decode b_MO_gather 154 = .ok (.aload_n 0, 1) := by decide +kernel
theorem d_MO_gather_155 : decode b_MO_gather 155 = .ok (.iload 6, 2) := by decide +kernel
theorem d_MO_gather_157 : decode b_MO_gather 157 = .ok (.iload_n 1, 1) := by decide +kernel
theorem d_MO_gather_158 : decode b_MO_gather 158 = .ok (.aload_n 0, 1) := by decide +kernel
theorem d_MO_gather_159 : decode b_MO_gather 159 = .ok (.getfield 68, 3) := by decide +kernel
theorem d_MO_gather_162 : decode b_MO_gather 162 = .ok (.bipush 6, 2) := by decide +kernel
theorem d_MO_gather_164 : decode b_MO_gather 164 = .ok (.iload 6, 2) := by decide +kernel
theorem d_MO_gather_166 : decode b_MO_gather 166 = .ok (.imul, 1) := by decide +kernel
theorem d_MO_gather_167 : decode b_MO_gather 167 = .ok (.iload_n 2, 1) := by decide +kernel
theorem d_MO_gather_168 : decode b_MO_gather 168 = .ok (.iadd, 1) := by decide +kernel
theorem d_MO_gather_169 : decode b_MO_gather 169 = .ok (.laload, 1) := by decide +kernel
theorem d_MO_gather_170 : decode b_MO_gather 170 = .ok (.aload_n 0, 1) := by decide +kernel
theorem d_MO_gather_171 : decode b_MO_gather 171 = .ok (.getfield 68, 3) := by decide +kernel
theorem d_MO_gather_174 : decode b_MO_gather 174 = .ok (.bipush 6, 2) := by decide +kernel
theorem d_MO_gather_176 : decode b_MO_gather 176 = .ok (.iload_n 1, 1) := by decide +kernel
theorem d_MO_gather_177 : decode b_MO_gather 177 = .ok (.imul, 1) := by decide +kernel
theorem d_MO_gather_178 : decode b_MO_gather 178 = .ok (.iload_n 2, 1) := by decide +kernel
theorem d_MO_gather_179 : decode b_MO_gather 179 = .ok (.iadd, 1) := by decide +kernel
theorem d_MO_gather_180 : decode b_MO_gather 180 = .ok (.laload, 1) := by decide +kernel
theorem d_MO_gather_181 : decode b_MO_gather 181 = .ok (.ldiv, 1) := by decide +kernel
theorem d_MO_gather_182 : decode b_MO_gather 182 = .ok (.invokevirtual 167, 3) := by decide +kernel
theorem d_MO_gather_185 : decode b_MO_gather 185 = .ok (.iinc 6 1, 3) := by decide +kernel
theorem d_MO_gather_188 : decode b_MO_gather 188 = .ok (.goto (-43), 3) := by decide +kernel
theorem d_MO_gather_191 : decode b_MO_gather 191 = .ok (.iload 5, 2) := by decide +kernel
theorem d_MO_gather_193 : decode b_MO_gather 193 = .ok (.iconst 1, 1) := by decide +kernel
theorem d_MO_gather_194 : decode b_MO_gather 194 = .ok (.if_icmp .le 7, 3) := by decide +kernel
theorem d_MO_gather_197 : decode b_MO_gather 197 = .ok (.iconst 1, 1) := by decide +kernel
theorem d_MO_gather_198 : decode b_MO_gather 198 = .ok (.goto 4, 3) := by decide +kernel
theorem d_MO_gather_201 : decode b_MO_gather 201 = .ok (.iconst 0, 1) := by decide +kernel
theorem d_MO_gather_202 : decode b_MO_gather 202 = .ok (.istore_n 3, 1) := by decide +kernel
theorem d_MO_gather_203 : decode b_MO_gather 203 = .ok (.goto (-201), 3) := by decide +kernel
theorem d_MO_gather_206 : decode b_MO_gather 206 = .ok (.iconst 1, 1) := by decide +kernel
theorem d_MO_gather_207 : decode b_MO_gather 207 = .ok (.ireturn, 1) := by decide +kernel
theorem d_MO_isColumn_0 : decode b_MO_isColumn 0 = .ok (.aload_n 0, 1) := by decide +kernel
theorem d_MO_isColumn_1 : decode b_MO_isColumn 1 = .ok (.getfield 133, 3) := by decide +kernel
theorem d_MO_isColumn_4 : decode b_MO_isColumn 4 = .ok (.ifCond .eq 19, 3) := by decide +kernel
theorem d_MO_isColumn_7 : decode b_MO_isColumn 7 = .ok (.iload_n 1, 1) := by decide +kernel
theorem d_MO_isColumn_8 : decode b_MO_isColumn 8 = .ok (.ifCond .lt 15, 3) := by decide +kernel
theorem d_MO_isColumn_11 : decode b_MO_isColumn 11 = .ok (.iload_n 1, 1) := by decide +kernel
theorem d_MO_isColumn_12 : decode b_MO_isColumn 12 = .ok (.aload_n 0, 1) := by decide +kernel
theorem d_MO_isColumn_13 : decode b_MO_isColumn 13 = .ok (.getfield 143, 3) := by decide +kernel
theorem d_MO_isColumn_16 : decode b_MO_isColumn 16 = .ok (.if_icmp .ge 7, 3) := by decide +kernel
theorem d_MO_isColumn_19 : decode b_MO_isColumn 19 = .ok (.iconst 1, 1) := by decide +kernel
theorem d_MO_isColumn_20 : decode b_MO_isColumn 20 = .ok (.goto 4, 3) := by decide +kernel
theorem d_MO_isColumn_23 : decode b_MO_isColumn 23 = .ok (.iconst 0, 1) := by decide +kernel
theorem d_MO_isColumn_24 : decode b_MO_isColumn 24 = .ok (.ireturn, 1) := by decide +kernel
theorem d_MO_kernel_0 : decode b_MO_kernel 0 = .ok (.aload_n 0, 1) := by decide +kernel
theorem d_MO_kernel_1 : decode b_MO_kernel 1 = .ok (.aload_n 0, 1) := by decide +kernel
theorem d_MO_kernel_2 : decode b_MO_kernel 2 = .ok (.getfield 133, 3) := by decide +kernel
theorem d_MO_kernel_5 : decode b_MO_kernel 5 = .ok (.ifCond .eq 7, 3) := by decide +kernel
theorem d_MO_kernel_8 : decode b_MO_kernel 8 = .ok (.iconst 0, 1) := by decide +kernel
theorem d_MO_kernel_9 : decode b_MO_kernel 9 = .ok (.goto 4, 3) := by decide +kernel
theorem d_MO_kernel_12 : decode b_MO_kernel 12 = .ok (.iconst 1, 1) := by decide +kernel
theorem d_MO_kernel_13 : decode b_MO_kernel 13 = .ok (.putfield 81, 3) := by decide +kernel
theorem d_MO_kernel_16 : decode b_MO_kernel 16 = .ok (.aload_n 0, 1) := by decide +kernel
theorem d_MO_kernel_17 : decode b_MO_kernel 17 = .ok (.getfield 81, 3) := by decide +kernel
theorem d_MO_kernel_20 : decode b_MO_kernel 20 = .ok (.ifCond .le 5, 3) := by decide +kernel
theorem d_MO_kernel_23 : decode b_MO_kernel 23 = .ok (.iconst 0, 1) := by decide +kernel
theorem d_MO_kernel_24 : decode b_MO_kernel 24 = .ok (.ireturn, 1) := by decide +kernel
theorem d_MO_kernel_25 : decode b_MO_kernel 25 = .ok (.aload_n 0, 1) := by decide +kernel
theorem d_MO_kernel_26 : decode b_MO_kernel 26 = .ok (.invokevirtual 191, 3) := by decide +kernel
theorem d_MO_kernel_29 : decode b_MO_kernel 29 = .ok (.aload_n 0, 1) := by decide +kernel
theorem d_MO_kernel_30 : decode b_MO_kernel 30 = .ok (.getfield 152, 3) := by decide +kernel
theorem d_MO_kernel_33 : decode b_MO_kernel 33 = .ok (.ireturn, 1) := by decide +kernel
theorem d_MO_kernelAt_0 : decode b_MO_kernelAt 0 = .ok (.aload_n 0, 1) := by decide +kernel
theorem d_MO_kernelAt_1 : decode b_MO_kernelAt 1 = .ok (.iconst 1, 1) := by decide +kernel
theorem d_MO_kernelAt_2 : decode b_MO_kernelAt 2 = .ok (.putfield 81, 3) := by decide +kernel
theorem d_MO_kernelAt_5 : decode b_MO_kernelAt 5 = .ok (.aload_n 0, 1) := by decide +kernel
theorem d_MO_kernelAt_6 : decode b_MO_kernelAt 6 = .ok (.iload_n 2, 1) := by decide +kernel
theorem d_MO_kernelAt_7 : decode b_MO_kernelAt 7 = .ok (.invokevirtual 194, 3) := by decide +kernel
theorem d_MO_kernelAt_10 : decode b_MO_kernelAt 10 = .ok (.ifCond .eq 7, 3) := by decide +kernel
theorem d_MO_kernelAt_13 : decode b_MO_kernelAt 13 = .ok (.iload_n 1, 1) := by decide +kernel
theorem d_MO_kernelAt_14 : decode b_MO_kernelAt 14 = .ok (.ifCond .ge 5, 3) := by decide +kernel
theorem d_MO_kernelAt_17 : decode b_MO_kernelAt 17 = .ok (.lconst 0, 1) := by decide +kernel
theorem d_MO_kernelAt_18 : decode b_MO_kernelAt 18 = .ok (.lreturn, 1) := by decide +kernel
theorem d_MO_kernelAt_19 : decode b_MO_kernelAt 19 = .ok (.aload_n 0, 1) := by decide +kernel
theorem d_MO_kernelAt_20 : decode b_MO_kernelAt 20 = .ok (.invokevirtual 191, 3) := by decide +kernel
theorem d_MO_kernelAt_23 : decode b_MO_kernelAt 23 = .ok (.aload_n 0, 1) := by decide +kernel
theorem d_MO_kernelAt_24 : decode b_MO_kernelAt 24 = .ok (.iload_n 1, 1) := by decide +kernel
theorem d_MO_kernelAt_25 : decode b_MO_kernelAt 25 = .ok (.aload_n 0, 1) := by decide +kernel
theorem d_MO_kernelAt_26 : decode b_MO_kernelAt 26 = .ok (.getfield 152, 3) := by decide +kernel
theorem d_MO_kernelAt_29 : decode b_MO_kernelAt 29 = .ok (.if_icmp .ge 7, 3) := by decide +kernel
theorem d_MO_kernelAt_32 : decode b_MO_kernelAt 32 = .ok (.iconst 0, 1) := by decide +kernel
theorem d_MO_kernelAt_33 : decode b_MO_kernelAt 33 = .ok (.goto 4, 3) := by decide +kernel
theorem d_MO_kernelAt_36 : decode b_MO_kernelAt 36 = .ok (.iconst 1, 1) := by decide +kernel
theorem d_MO_kernelAt_37 : decode b_MO_kernelAt 37 = .ok (.putfield 81, 3) := by decide +kernel
theorem d_MO_kernelAt_40 : decode b_MO_kernelAt 40 = .ok (.aload_n 0, 1) := by decide +kernel
theorem d_MO_kernelAt_41 : decode b_MO_kernelAt 41 = .ok (.getfield 81, 3) := by decide +kernel
theorem d_MO_kernelAt_44 : decode b_MO_kernelAt 44 = .ok (.ifCond .ne 17, 3) := by decide +kernel
theorem d_MO_kernelAt_47 : decode b_MO_kernelAt 47 = .ok (.aload_n 0, 1) := by decide +kernel
theorem d_MO_kernelAt_48 : decode b_MO_kernelAt 48 = .ok (.getfield 68, 3) := by decide +kernel
theorem d_MO_kernelAt_51 : decode b_MO_kernelAt 51 = .ok (.bipush 6, 2) := by decide +kernel
theorem d_MO_kernelAt_53 : decode b_MO_kernelAt 53 = .ok (.iload_n 1, 1) := by decide +kernel
theorem d_MO_kernelAt_54 : decode b_MO_kernelAt 54 = .ok (.imul, 1) := by decide +kernel
theorem d_MO_kernelAt_55 : decode b_MO_kernelAt 55 = .ok (.iload_n 2, 1) := by decide +kernel
theorem d_MO_kernelAt_56 : decode b_MO_kernelAt 56 = .ok (.iadd, 1) := by decide +kernel
theorem d_MO_kernelAt_57 : decode b_MO_kernelAt 57 = .ok (.laload, 1) := by decide +kernel
theorem d_MO_kernelAt_58 : decode b_MO_kernelAt 58 = .ok (.goto 4, 3) := by decide +kernel
theorem d_MO_kernelAt_61 : decode b_MO_kernelAt 61 = .ok (.lconst 0, 1) := by decide +kernel
theorem d_MO_kernelAt_62 : decode b_MO_kernelAt 62 = .ok (.lreturn, 1) := by decide +kernel
theorem d_MO_narrow_0 : decode b_MO_narrow 0 = .ok (.iconst 1, 1) := by decide +kernel
theorem d_MO_narrow_1 : decode b_MO_narrow 1 = .ok (.istore_n 2, 1) := by decide +kernel
theorem d_MO_narrow_2 : decode b_MO_narrow 2 = .ok (.iconst 0, 1) := by decide +kernel
theorem d_MO_narrow_3 : decode b_MO_narrow 3 = .ok (.istore_n 3, 1) := by decide +kernel
theorem d_MO_narrow_4 : decode b_MO_narrow 4 = .ok (.iload_n 2, 1) := by decide +kernel
theorem d_MO_narrow_5 : decode b_MO_narrow 5 = .ok (.ifCond .eq 171, 3) := by decide +kernel
theorem d_MO_narrow_8 : decode b_MO_narrow 8 = .ok (.iconst (-1), 1) := by decide +kernel
theorem d_MO_narrow_9 : decode b_MO_narrow 9 = .ok (.istore 4, 2) := by decide +kernel
theorem d_MO_narrow_11 : decode b_MO_narrow 11 = .ok (.iconst 0, 1) := by decide +kernel
theorem d_MO_narrow_12 : decode b_MO_narrow 12 = .ok (.istore_n 3, 1) := by decide +kernel
theorem d_MO_narrow_13 : decode b_MO_narrow 13 = .ok (.iconst 0, 1) := by decide +kernel
theorem d_MO_narrow_14 : decode b_MO_narrow 14 = .ok (.istore 5, 2) := by decide +kernel
theorem d_MO_narrow_16 : decode b_MO_narrow 16 = .ok (.iload 5, 2) := by decide +kernel
theorem d_MO_narrow_18 : decode b_MO_narrow 18 = .ok (.aload_n 0, 1) := by decide +kernel
theorem d_MO_narrow_19 : decode b_MO_narrow 19 = .ok (.getfield 152, 3) := by decide +kernel
theorem d_MO_narrow_22 : decode b_MO_narrow 22 = .ok (.if_icmp .ge 75, 3) := by decide +kernel
theorem d_MO_narrow_25 : decode b_MO_narrow 25 = .ok (.aload_n 0, 1) := by decide +kernel
theorem d_MO_narrow_26 : decode b_MO_narrow 26 = .ok (.iload_n 1, 1) := by decide +kernel
theorem d_MO_narrow_27 : decode b_MO_narrow 27 = .ok (.aload_n 0, 1) := by decide +kernel
theorem d_MO_narrow_28 : decode b_MO_narrow 28 = .ok (.getfield 68, 3) := by decide +kernel
theorem d_MO_narrow_31 : decode b_MO_narrow 31 = .ok (.bipush 6, 2) := by decide +kernel
theorem d_MO_narrow_33 : decode b_MO_narrow 33 = .ok (.iload 5, 2) := by decide +kernel
theorem d_MO_narrow_35 : decode b_MO_narrow 35 = .ok (.imul, 1) := by decide +kernel
theorem d_MO_narrow_36 : decode b_MO_narrow 36 = .ok (.invokevirtual 175, 3) := by decide +kernel
theorem d_MO_narrow_39 : decode b_MO_narrow 39 = .ok (.invokestatic 155, 3) := by decide +kernel
theorem d_MO_narrow_42 : decode b_MO_narrow 42 = .ok (.lstore 6, 2) := by decide +kernel
theorem d_MO_narrow_44 : decode b_MO_narrow 44 = .ok (.lload 6, 2) := by decide +kernel
theorem d_MO_narrow_46 : decode b_MO_narrow 46 = .ok (.lconst 0, 1) := by decide +kernel
theorem d_MO_narrow_47 : decode b_MO_narrow 47 = .ok (.lcmp, 1) := by decide +kernel
theorem d_MO_narrow_48 : decode b_MO_narrow 48 = .ok (.ifCond .eq 43, 3) := by decide +kernel
theorem d_MO_narrow_51 : decode b_MO_narrow 51 = .ok (.iinc 3 1, 3) := by decide +kernel
theorem d_MO_narrow_54 : decode b_MO_narrow 54 = .ok (.iload 4, 2) := by decide +kernel
theorem d_MO_narrow_56 : decode b_MO_narrow 56 = .ok (.ifCond .lt 26, 3) := by decide +kernel
theorem d_MO_narrow_59 : decode b_MO_narrow 59 = .ok (.lload 6, 2) := by decide +kernel
theorem d_MO_narrow_61 : decode b_MO_narrow 61 = .ok (.aload_n 0, 1) := by decide +kernel
theorem d_MO_narrow_62 : decode b_MO_narrow 62 = .ok (.iload_n 1, 1) := by decide +kernel
theorem d_MO_narrow_63 : decode b_MO_narrow 63 = .ok (.aload_n 0, 1) := by decide +kernel
theorem d_MO_narrow_64 : decode b_MO_narrow 64 = .ok (.getfield 68, 3) := by decide +kernel
theorem d_MO_narrow_67 : decode b_MO_narrow 67 = .ok (.bipush 6, 2) := by decide +kernel
theorem d_MO_narrow_69 : decode b_MO_narrow 69 = .ok (.iload 4, 2) := by decide +kernel
theorem d_MO_narrow_71 : decode b_MO_narrow 71 = .ok (.imul, 1) := by decide +kernel
theorem d_MO_narrow_72 : decode b_MO_narrow 72 = .ok (.invokevirtual 175, 3) := by decide +kernel
theorem d_MO_narrow_75 : decode b_MO_narrow 75 = .ok (.invokestatic 155, 3) := by decide +kernel
theorem d_MO_narrow_78 : decode b_MO_narrow 78 = .ok (.lcmp, 1) := by decide +kernel
theorem d_MO_narrow_79 : decode b_MO_narrow 79 = .ok (.ifCond .ge 8, 3) := by decide +kernel
theorem d_MO_narrow_82 : decode b_MO_narrow 82 = .ok (.iload 5, 2) := by decide +kernel
theorem d_MO_narrow_84 : decode b_MO_narrow 84 = .ok (.goto 5, 3) := by decide +kernel
theorem d_MO_narrow_87 : decode b_MO_narrow 87 = .ok (.iload 4, 2) := by decide +kernel
theorem d_MO_narrow_89 : decode b_MO_narrow 89 = .ok (.istore 4, 2) := by decide +kernel
theorem d_MO_narrow_91 : decode b_MO_narrow 91 = .ok (.iinc 5 1, 3) := by decide +kernel
theorem d_MO_narrow_94 : decode b_MO_narrow 94 = .ok (.goto (-78), 3) := by decide +kernel
theorem d_MO_narrow_97 : decode b_MO_narrow 97 = .ok (.iload_n 3, 1) := by decide +kernel
theorem d_MO_narrow_98 : decode b_MO_narrow 98 = .ok (.ifCond .le 64, 3) := by decide +kernel
theorem d_MO_narrow_101 : decode b_MO_narrow 101 = .ok (.aload_n 0, 1) := by decide +kernel
theorem d_MO_narrow_102 : decode b_MO_narrow 102 = .ok (.iconst 0, 1) := by decide +kernel
theorem d_MO_narrow_103 : decode b_MO_narrow 103 = .ok (.iload 4, 2) := by decide +kernel
theorem d_MO_narrow_105 : decode b_MO_narrow 105 = .ok (.invokevirtual 159, 3) := by decide +kernel
theorem d_MO_narrow_108 : decode b_MO_narrow 108 = .ok (.aload_n 0, 1) := by decide +kernel
theorem d_MO_narrow_109 : decode b_MO_narrow 109 = .ok (.iload_n 1, 1) := by decide +kernel
theorem d_MO_narrow_110 : decode b_MO_narrow 110 = .ok (.aload_n 0, 1) := by decide +kernel
theorem d_MO_narrow_111 : decode b_MO_narrow 111 = .ok (.getfield 68, 3) := by decide +kernel
theorem d_MO_narrow_114 : decode b_MO_narrow 114 = .ok (.iconst 0, 1) := by decide +kernel
theorem d_MO_narrow_115 : decode b_MO_narrow 115 = .ok (.invokevirtual 175, 3) := by decide +kernel
theorem d_MO_narrow_118 : decode b_MO_narrow 118 = .ok (.lstore 5, 2) := by decide +kernel
theorem d_MO_narrow_120 : decode b_MO_narrow 120 = .ok (.iconst 1, 1) := by decide +kernel
theorem d_MO_narrow_121 : decode b_MO_narrow 121 = .ok (.istore 7, 2) := by decide +kernel
theorem d_MO_narrow_123 : decode b_MO_narrow 123 = .ok (.iload 7, 2) := by decide +kernel
theorem d_MO_narrow_125 : decode b_MO_narrow 125 = .ok (.aload_n 0, 1) := by decide +kernel
theorem d_MO_narrow_126 : decode b_MO_narrow 126 = .ok (.getfield 152, 3) := by decide +kernel
theorem d_MO_narrow_129 : decode b_MO_narrow 129 = .ok (.if_icmp .ge 33, 3) := by decide +kernel
theorem d_MO_narrow_132 : decode b_MO_narrow 132 = .ok (.aload_n 0, 1) := by decide +kernel
theorem d_MO_narrow_133 : decode b_MO_narrow 133 = .ok (.iload 7, 2) := by decide +kernel
theorem d_MO_narrow_135 : decode b_MO_narrow 135 = .ok (.iconst 0, 1) := by decide +kernel
theorem d_MO_narrow_136 : decode b_MO_narrow 136 = .ok (.aload_n 0, 1) := by decide +kernel
theorem d_MO_narrow_137 : decode b_MO_narrow 137 = .ok (.iload_n 1, 1) := by decide +kernel
theorem d_MO_narrow_138 : decode b_MO_narrow 138 = .ok (.aload_n 0, 1) := by decide +kernel
theorem d_MO_narrow_139 : decode b_MO_narrow 139 = .ok (.getfield 68, 3) := by decide +kernel
theorem d_MO_narrow_142 : decode b_MO_narrow 142 = .ok (.bipush 6, 2) := by decide +kernel
theorem d_MO_narrow_144 : decode b_MO_narrow 144 = .ok (.iload 7, 2) := by decide +kernel
theorem d_MO_narrow_146 : decode b_MO_narrow 146 = .ok (.imul, 1) := by decide +kernel
theorem d_MO_narrow_147 : decode b_MO_narrow 147 = .ok (.invokevirtual 175, 3) := by decide +kernel
theorem d_MO_narrow_150 : decode b_MO_narrow 150 = .ok (.lload 5, 2) := by decide +kernel
theorem d_MO_narrow_152 : decode b_MO_narrow 152 = .ok (.ldiv, 1) := by decide +kernel
theorem d_MO_narrow_153 : decode b_MO_narrow 153 = .ok (.invokevirtual 167, 3) := by decide +kernel
theorem d_MO_narrow_156 : decode b_MO_narrow 156 = .ok (.iinc 7 1, 3) := by decide +kernel
theorem d_MO_narrow_159 : decode b_MO_narrow 159 = .ok (.goto (-36), 3) := by decide +kernel
theorem d_MO_narrow_162 : decode b_MO_narrow 162 = .ok (.iload_n 3, 1) := by decide +kernel
theorem d_MO_narrow_163 : decode b_MO_narrow 163 = .ok (.iconst 1, 1) := by decide +kernel
theorem d_MO_narrow_164 : decode b_MO_narrow 164 = .ok (.if_icmp .le 7, 3) := by decide +kernel
theorem d_MO_narrow_167 : decode b_MO_narrow 167 = .ok (.iconst 1, 1) := by decide +kernel
theorem d_MO_narrow_168 : decode b_MO_narrow 168 = .ok (.goto 4, 3) := by decide +kernel
theorem d_MO_narrow_171 : decode b_MO_narrow 171 = .ok (.iconst 0, 1) := by decide +kernel
theorem d_MO_narrow_172 : decode b_MO_narrow 172 = .ok (.istore_n 2, 1) := by decide +kernel
theorem d_MO_narrow_173 : decode b_MO_narrow 173 = .ok (.goto (-169), 3) := by decide +kernel
theorem d_MO_narrow_176 : decode b_MO_narrow 176 = .ok (.aload_n 0, 1) := by decide +kernel
theorem d_MO_narrow_177 : decode b_MO_narrow 177 = .ok (.getfield 38, 3) := by decide +kernel
theorem d_MO_narrow_180 : decode b_MO_narrow 180 = .ok (.bipush 7, 2) := by decide +kernel
theorem d_MO_narrow_182 : decode b_MO_narrow 182 = .ok (.iload_n 1, 1) := by decide +kernel
theorem d_MO_narrow_183 : decode b_MO_narrow 183 = .ok (.imul, 1) := by decide +kernel
theorem d_MO_narrow_184 : decode b_MO_narrow 184 = .ok (.aload_n 0, 1) := by decide +kernel
theorem d_MO_narrow_185 : decode b_MO_narrow 185 = .ok (.getfield 143, 3) := by decide +kernel
theorem d_MO_narrow_188 : decode b_MO_narrow 188 = .ok (.iadd, 1) := by decide +kernel
theorem d_MO_narrow_189 : decode b_MO_narrow 189 = .ok (.iaload, 1) := by decide +kernel
theorem d_MO_narrow_190 : decode b_MO_narrow 190 = .ok (.i2l, 1) := by decide +kernel
theorem d_MO_narrow_191 : decode b_MO_narrow 191 = .ok (.aload_n 0, 1) := by decide +kernel
theorem d_MO_narrow_192 : decode b_MO_narrow 192 = .ok (.iload_n 1, 1) := by decide +kernel
theorem d_MO_narrow_193 : decode b_MO_narrow 193 = .ok (.aload_n 0, 1) := by decide +kernel
theorem d_MO_narrow_194 : decode b_MO_narrow 194 = .ok (.getfield 72, 3) := by decide +kernel
theorem d_MO_narrow_197 : decode b_MO_narrow 197 = .ok (.iconst 0, 1) := by decide +kernel
theorem d_MO_narrow_198 : decode b_MO_narrow 198 = .ok (.invokevirtual 175, 3) := by decide +kernel
theorem d_MO_narrow_201 : decode b_MO_narrow 201 = .ok (.lsub, 1) := by decide +kernel
theorem d_MO_narrow_202 : decode b_MO_narrow 202 = .ok (.lstore 4, 2) := by decide +kernel
theorem d_MO_narrow_204 : decode b_MO_narrow 204 = .ok (.iload_n 3, 1) := by decide +kernel
theorem d_MO_narrow_205 : decode b_MO_narrow 205 = .ok (.ifCond .ne 27, 3) := by decide +kernel
theorem d_MO_narrow_208 : decode b_MO_narrow 208 = .ok (.aload_n 0, 1) := by decide +kernel
theorem d_MO_narrow_209 : decode b_MO_narrow 209 = .ok (.aload_n 0, 1) := by decide +kernel
theorem d_MO_narrow_210 : decode b_MO_narrow 210 = .ok (.getfield 179, 3) := by decide +kernel
theorem d_MO_narrow_213 : decode b_MO_narrow 213 = .ok (.ifCond .eq 14, 3) := by decide +kernel
theorem d_MO_narrow_216 : decode b_MO_narrow 216 = .ok (.lload 4, 2) := by decide +kernel
theorem d_MO_narrow_218 : decode b_MO_narrow 218 = .ok (.lconst 0, 1) := by decide +kernel
theorem d_MO_narrow_219 : decode b_MO_narrow 219 = .ok (.lcmp, 1) := by decide +kernel
theorem d_MO_narrow_220 : decode b_MO_narrow 220 = .ok (.ifCond .ne 7, 3) := by decide +kernel
theorem d_MO_narrow_223 : decode b_MO_narrow 223 = .ok (.iconst 1, 1) := by decide +kernel
theorem d_MO_narrow_224 : decode b_MO_narrow 224 = .ok (.goto 4, 3) := by decide +kernel
theorem d_MO_narrow_227 : decode b_MO_narrow 227 = .ok (.iconst 0, 1) := by decide +kernel
theorem d_MO_narrow_228 : decode b_MO_narrow 228 = .ok (.putfield 179, 3) := by decide +kernel
theorem d_MO_narrow_231 : decode b_MO_narrow 231 = .ok (.return_, 1) := by decide +kernel
theorem d_MO_narrow_232 : decode b_MO_narrow 232 = .ok (.aload_n 0, 1) := by decide +kernel
theorem d_MO_narrow_233 : decode b_MO_narrow 233 = .ok (.iload_n 1, 1) := by decide +kernel
theorem d_MO_narrow_234 : decode b_MO_narrow 234 = .ok (.aload_n 0, 1) := by decide +kernel
theorem d_MO_narrow_235 : decode b_MO_narrow 235 = .ok (.getfield 68, 3) := by decide +kernel
theorem d_MO_narrow_238 : decode b_MO_narrow 238 = .ok (.iconst 0, 1) := by decide +kernel
theorem d_MO_narrow_239 : decode b_MO_narrow 239 = .ok (.invokevirtual 175, 3) := by decide +kernel
theorem d_MO_narrow_242 : decode b_MO_narrow 242 = .ok (.lstore 6, 2) := by decide +kernel
theorem d_MO_narrow_244 : decode b_MO_narrow 244 = .ok (.aload_n 0, 1) := by decide +kernel
theorem d_MO_narrow_245 : decode b_MO_narrow 245 = .ok (.aload_n 0, 1) := by decide +kernel
theorem d_MO_narrow_246 : decode b_MO_narrow 246 = .ok (.getfield 179, 3) := by decide +kernel
theorem d_MO_narrow_249 : decode b_MO_narrow 249 = .ok (.ifCond .eq 17, 3) := by decide +kernel
theorem d_MO_narrow_252 : decode b_MO_narrow 252 = .ok (.lload 4, 2) := by decide +kernel
theorem d_MO_narrow_254 : decode b_MO_narrow 254 = .ok (.lload 6, 2) := by decide +kernel
theorem d_MO_narrow_256 : decode b_MO_narrow 256 = .ok (.lrem, 1) := by decide +kernel
theorem d_MO_narrow_257 : decode b_MO_narrow 257 = .ok (.lconst 0, 1) := by decide +kernel
theorem d_MO_narrow_258 : decode b_MO_narrow 258 = .ok (.lcmp, 1) := by decide +kernel
theorem d_MO_narrow_259 : decode b_MO_narrow 259 = .ok (.ifCond .ne 7, 3) := by decide +kernel
theorem d_MO_narrow_262 : decode b_MO_narrow 262 = .ok (.iconst 1, 1) := by decide +kernel
theorem d_MO_narrow_263 : decode b_MO_narrow 263 = .ok (.goto 4, 3) := by decide +kernel
theorem d_MO_narrow_266 : decode b_MO_narrow 266 = .ok (.iconst 0, 1) := by decide +kernel
theorem d_MO_narrow_267 : decode b_MO_narrow 267 = .ok (.putfield 179, 3) := by decide +kernel
theorem d_MO_narrow_270 : decode b_MO_narrow 270 = .ok (.iconst 0, 1) := by decide +kernel
theorem d_MO_narrow_271 : decode b_MO_narrow 271 = .ok (.istore 8, 2) := by decide +kernel
theorem d_MO_narrow_273 : decode b_MO_narrow 273 = .ok (.iload 8, 2) := by decide +kernel
theorem d_MO_narrow_275 : decode b_MO_narrow 275 = .ok (.aload_n 0, 1) := by decide +kernel
theorem d_MO_narrow_276 : decode b_MO_narrow 276 = .ok (.getfield 143, 3) := by decide +kernel
theorem d_MO_narrow_279 : decode b_MO_narrow 279 = .ok (.if_icmp .ge 44, 3) := by decide +kernel
theorem d_MO_narrow_282 : decode b_MO_narrow 282 = .ok (.aload_n 0, 1) := by decide +kernel
theorem d_MO_narrow_283 : decode b_MO_narrow 283 = .ok (.getfield 179, 3) := by decide +kernel
theorem d_MO_narrow_286 : decode b_MO_narrow 286 = .ok (.ifCond .eq 37, 3) := by decide +kernel
theorem d_MO_narrow_289 : decode b_MO_narrow 289 = .ok (.aload_n 0, 1) := by decide +kernel
theorem d_MO_narrow_290 : decode b_MO_narrow 290 = .ok (.getfield 72, 3) := by decide +kernel
theorem d_MO_narrow_293 : decode b_MO_narrow 293 = .ok (.iload 8, 2) := by decide +kernel
theorem d_MO_narrow_295 : decode b_MO_narrow 295 = .ok (.aload_n 0, 1) := by decide +kernel
theorem d_MO_narrow_296 : decode b_MO_narrow 296 = .ok (.getfield 72, 3) := by decide +kernel
theorem d_MO_narrow_299 : decode b_MO_narrow 299 = .ok (.iload 8, 2) := by decide +kernel
theorem d_MO_narrow_301 : decode b_MO_narrow 301 = .ok (.laload, 1) := by decide +kernel
theorem d_MO_narrow_302 : decode b_MO_narrow 302 = .ok (.lload 4, 2) := by decide +kernel
theorem d_MO_narrow_304 : decode b_MO_narrow 304 = .ok (.lload 6, 2) := by decide +kernel
theorem d_MO_narrow_306 : decode b_MO_narrow 306 = .ok (.ldiv, 1) := by decide +kernel
theorem d_MO_narrow_307 : decode b_MO_narrow 307 = .ok (.aload_n 0, 1) := by decide +kernel
theorem d_MO_narrow_308 : decode b_MO_narrow 308 = .ok (.getfield 68, 3) := by decide +kernel
theorem d_MO_narrow_311 : decode b_MO_narrow 311 = .ok (.iload 8, 2) := by decide +kernel
theorem d_MO_narrow_313 : decode b_MO_narrow 313 = .ok (.laload, 1) := by decide +kernel
theorem d_MO_narrow_314 : decode b_MO_narrow 314 = .ok (.lmul, 1) := by decide +kernel
theorem d_MO_narrow_315 : decode b_MO_narrow 315 = .ok (.ladd, 1) := by decide +kernel
theorem d_MO_narrow_316 : decode b_MO_narrow 316 = .ok (.lastore, 1) := by decide +kernel
theorem d_MO_narrow_317 : decode b_MO_narrow 317 = .ok (.iinc 8 1, 3) := by decide +kernel
theorem d_MO_narrow_320 : decode b_MO_narrow 320 = .ok (.goto (-47), 3) := by decide +kernel
theorem d_MO_narrow_323 : decode b_MO_narrow 323 = .ok (.aload_n 0, 1) := by decide +kernel
theorem d_MO_narrow_324 : decode b_MO_narrow 324 = .ok (.dup, 1) := by decide +kernel
theorem d_MO_narrow_325 : decode b_MO_narrow 325 = .ok (.getfield 152, 3) := by decide +kernel
theorem d_MO_narrow_328 : decode b_MO_narrow 328 = .ok (.iconst 1, 1) := by decide +kernel
theorem d_MO_narrow_329 : decode b_MO_narrow 329 = .ok (.isub, 1) := by decide +kernel
theorem d_MO_narrow_330 : decode b_MO_narrow 330 = .ok (.putfield 152, 3) := by decide +kernel
theorem d_MO_narrow_333 : decode b_MO_narrow 333 = .ok (.iconst 0, 1) := by decide +kernel
theorem d_MO_narrow_334 : decode b_MO_narrow 334 = .ok (.istore 8, 2) := by decide +kernel
theorem d_MO_narrow_336 : decode b_MO_narrow 336 = .ok (.iload 8, 2) := by decide +kernel
theorem d_MO_narrow_338 : decode b_MO_narrow 338 = .ok (.bipush 6, 2) := by decide +kernel
theorem d_MO_narrow_340 : decode b_MO_narrow 340 = .ok (.aload_n 0, 1) := by decide +kernel
theorem d_MO_narrow_341 : decode b_MO_narrow 341 = .ok (.getfield 152, 3) := by decide +kernel
theorem d_MO_narrow_344 : decode b_MO_narrow 344 = .ok (.imul, 1) := by decide +kernel
theorem d_MO_narrow_345 : decode b_MO_narrow 345 = .ok (.if_icmp .ge 26, 3) := by decide +kernel
theorem d_MO_narrow_348 : decode b_MO_narrow 348 = .ok (.aload_n 0, 1) := by decide +kernel
theorem d_MO_narrow_349 : decode b_MO_narrow 349 = .ok (.getfield 68, 3) := by decide +kernel
theorem d_MO_narrow_352 : decode b_MO_narrow 352 = .ok (.iload 8, 2) := by decide +kernel
theorem d_MO_narrow_354 : decode b_MO_narrow 354 = .ok (.aload_n 0, 1) := by decide +kernel
theorem d_MO_narrow_355 : decode b_MO_narrow 355 = .ok (.getfield 68, 3) := by decide +kernel
theorem d_MO_narrow_358 : decode b_MO_narrow 358 = .ok (.iload 8, 2) := by decide +kernel
theorem d_MO_narrow_360 : decode b_MO_narrow 360 = .ok (.bipush 6, 2) := by decide +kernel
theorem d_MO_narrow_362 : decode b_MO_narrow 362 = .ok (.iadd, 1) := by decide +kernel
theorem d_MO_narrow_363 : decode b_MO_narrow 363 = .ok (.laload, 1) := by decide +kernel
theorem d_MO_narrow_364 : decode b_MO_narrow 364 = .ok (.lastore, 1) := by decide +kernel
theorem d_MO_narrow_365 : decode b_MO_narrow 365 = .ok (.iinc 8 1, 3) := by decide +kernel
theorem d_MO_narrow_368 : decode b_MO_narrow 368 = .ok (.goto (-32), 3) := by decide +kernel
theorem d_MO_narrow_371 : decode b_MO_narrow 371 = .ok (.return_, 1) := by decide +kernel
theorem d_MO_order_0 : decode b_MO_order 0 = .ok (.iconst 0, 1) := by decide +kernel
theorem d_MO_order_1 : decode b_MO_order 1 = .ok (.istore_n 1, 1) := by decide +kernel
theorem d_MO_order_2 : decode b_MO_order 2 = .ok (.iconst 0, 1) := by decide +kernel
theorem d_MO_order_3 : decode b_MO_order 3 = .ok (.istore_n 2, 1) := by decide +kernel
theorem d_MO_order_4 : decode b_MO_order 4 = .ok (.iload_n 2, 1) := by decide +kernel
theorem d_MO_order_5 : decode b_MO_order 5 = .ok (.aload_n 0, 1) := by decide +kernel
theorem d_MO_order_6 : decode b_MO_order 6 = .ok (.getfield 143, 3) := by decide +kernel
theorem d_MO_order_9 : decode b_MO_order 9 = .ok (.if_icmp .ge 101, 3) := by decide +kernel
theorem d_MO_order_12 : decode b_MO_order 12 = .ok (.iload_n 1, 1) := by decide +kernel
theorem d_MO_order_13 : decode b_MO_order 13 = .ok (.aload_n 0, 1) := by decide +kernel
theorem d_MO_order_14 : decode b_MO_order 14 = .ok (.getfield 152, 3) := by decide +kernel
theorem d_MO_order_17 : decode b_MO_order 17 = .ok (.if_icmp .ge 93, 3) := by decide +kernel
theorem d_MO_order_20 : decode b_MO_order 20 = .ok (.aload_n 0, 1) := by decide +kernel
theorem d_MO_order_21 : decode b_MO_order 21 = .ok (.iload_n 1, 1) := by decide +kernel
theorem d_MO_order_22 : decode b_MO_order 22 = .ok (.iload_n 2, 1) := by decide +kernel
theorem d_MO_order_23 : decode b_MO_order 23 = .ok (.invokevirtual 171, 3) := by decide +kernel
theorem d_MO_order_26 : decode b_MO_order 26 = .ok (.ifCond .eq 78, 3) := by decide +kernel
theorem d_MO_order_29 : decode b_MO_order 29 = .ok (.iconst 0, 1) := by decide +kernel
theorem d_MO_order_30 : decode b_MO_order 30 = .ok (.istore_n 3, 1) := by decide +kernel
theorem d_MO_order_31 : decode b_MO_order 31 = .ok (.iload_n 3, 1) := by decide +kernel
theorem d_MO_order_32 : decode b_MO_order 32 = .ok (.iload_n 1, 1) := by decide +kernel
theorem d_MO_order_33 : decode b_MO_order 33 = .ok (.if_icmp .ge 68, 3) := by decide +kernel
theorem d_MO_order_36 : decode b_MO_order 36 = .ok (.aload_n 0, 1) := by decide +kernel
theorem d_MO_order_37 : decode b_MO_order 37 = .ok (.getfield 68, 3) := by decide +kernel
theorem d_MO_order_40 : decode b_MO_order 40 = .ok (.bipush 6, 2) := by decide +kernel
theorem d_MO_order_42 : decode b_MO_order 42 = .ok (.iload_n 3, 1) := by decide +kernel
theorem d_MO_order_43 : decode b_MO_order 43 = .ok (.imul, 1) := by decide +kernel
theorem d_MO_order_44 : decode b_MO_order 44 = .ok (.iload_n 2, 1) := by decide +kernel
theorem d_MO_order_45 : decode b_MO_order 45 = .ok (.iadd, 1) := by decide +kernel
theorem d_MO_order_46 : decode b_MO_order 46 = .ok (.laload, 1) := by decide +kernel
theorem d_MO_order_47 : decode b_MO_order 47 = .ok (.lstore 4, 2) := by decide +kernel
theorem d_MO_order_49 : decode b_MO_order 49 = .ok (.aload_n 0, 1) := by decide +kernel
theorem d_MO_order_50 : decode b_MO_order 50 = .ok (.getfield 68, 3) := by decide +kernel
theorem d_MO_order_53 : decode b_MO_order 53 = .ok (.bipush 6, 2) := by decide +kernel
theorem d_MO_order_55 : decode b_MO_order 55 = .ok (.iload_n 1, 1) := by decide +kernel
theorem d_MO_order_56 : decode b_MO_order 56 = .ok (.imul, 1) := by decide +kernel
theorem d_MO_order_57 : decode b_MO_order 57 = .ok (.iload_n 2, 1) := by decide +kernel
theorem d_MO_order_58 : decode b_MO_order 58 = .ok (.iadd, 1) := by decide +kernel
theorem d_MO_order_59 : decode b_MO_order 59 = .ok (.laload, 1) := by decide +kernel
theorem d_MO_order_60 : decode b_MO_order 60 = .ok (.lstore 6, 2) := by decide +kernel
theorem d_MO_order_62 : decode b_MO_order 62 = .ok (.aload_n 0, 1) := by decide +kernel
theorem d_MO_order_63 : decode b_MO_order 63 = .ok (.iload_n 3, 1) := by decide +kernel
theorem d_MO_order_64 : decode b_MO_order 64 = .ok (.iload_n 1, 1) := by decide +kernel
theorem d_MO_order_65 : decode b_MO_order 65 = .ok (.lload 4, 2) := by decide +kernel
theorem d_MO_order_67 : decode b_MO_order 67 = .ok (.lconst 0, 1) := by decide +kernel
theorem d_MO_order_68 : decode b_MO_order 68 = .ok (.lcmp, 1) := by decide +kernel
theorem d_MO_order_69 : decode b_MO_order 69 = .ok (.ifCond .lt 11, 3) := by decide +kernel
theorem d_MO_order_72 : decode b_MO_order 72 = .ok (.lload 4, 2) := by decide +kernel
theorem d_MO_order_74 : decode b_MO_order 74 = .ok (.lload 6, 2) := by decide +kernel
theorem d_MO_order_76 : decode b_MO_order 76 = .ok (.ldiv, 1) := by decide +kernel
theorem d_MO_order_77 : decode b_MO_order 77 = .ok (.goto 15, 3) := by decide +kernel
theorem d_MO_order_80 : decode b_MO_order 80 = .ok (.lload 4, 2) := by decide +kernel
theorem d_MO_order_82 : decode b_MO_order 82 = .ok (.lneg, 1) := by decide +kernel
theorem d_MO_order_83 : decode b_MO_order 83 = .ok (.lload 6, 2) := by decide +kernel
theorem d_MO_order_85 : decode b_MO_order 85 = .ok (.ladd, 1) := by decide +kernel
theorem d_MO_order_86 : decode b_MO_order 86 = .ok (.lconst 1, 1) := by decide +kernel
theorem d_MO_order_87 : decode b_MO_order 87 = .ok (.lsub, 1) := by decide +kernel
theorem d_MO_order_88 : decode b_MO_order 88 = .ok (.lload 6, 2) := by decide +kernel
theorem d_MO_order_90 : decode b_MO_order 90 = .ok (.ldiv, 1) := by decide +kernel
theorem d_MO_order_91 : decode b_MO_order 91 = .ok (.lneg, 1) := by decide +kernel
theorem d_MO_order_92 : decode b_MO_order 92 = .ok (.invokevirtual 167, 3) := by decide +kernel
theorem d_MO_order_95 : decode b_MO_order 95 = .ok (.iinc 3 1, 3) := by decide +kernel
theorem d_MO_order_98 : decode b_MO_order 98 = .ok (.goto (-67), 3) := by decide +kernel
theorem d_MO_order_101 : decode b_MO_order 101 = .ok (.iinc 1 1, 3) := by decide +kernel
theorem d_MO_order_104 : decode b_MO_order 104 = .ok (.iinc 2 1, 3) := by decide +kernel
theorem d_MO_order_107 : decode b_MO_order 107 = .ok (.goto (-103), 3) := by decide +kernel
theorem d_MO_order_110 : decode b_MO_order 110 = .ok (.return_, 1) := by decide +kernel
theorem d_MO_shorten_0 : decode b_MO_shorten 0 = .ok (.iconst 0, 1) := by decide +kernel
theorem d_MO_shorten_1 : decode b_MO_shorten 1 = .ok (.istore_n 1, 1) := by decide +kernel
theorem d_MO_shorten_2 : decode b_MO_shorten 2 = .ok (.iload_n 1, 1) := by decide +kernel
theorem d_MO_shorten_3 : decode b_MO_shorten 3 = .ok (.aload_n 0, 1) := by decide +kernel
theorem d_MO_shorten_4 : decode b_MO_shorten 4 = .ok (.getfield 152, 3) := by decide +kernel
theorem d_MO_shorten_7 : decode b_MO_shorten 7 = .ok (.if_icmp .ge 99, 3) := by decide +kernel
theorem d_MO_shorten_10 : decode b_MO_shorten 10 = .ok (.iconst 0, 1) := by decide +kernel
theorem d_MO_shorten_11 : decode b_MO_shorten 11 = .ok (.istore_n 2, 1) := by decide +kernel
theorem d_MO_shorten_12 : decode b_MO_shorten 12 = .ok (.aload_n 0, 1) := by decide +kernel
theorem d_MO_shorten_13 : decode b_MO_shorten 13 = .ok (.getfield 68, 3) := by decide +kernel
theorem d_MO_shorten_16 : decode b_MO_shorten 16 = .ok (.bipush 6, 2) := by decide +kernel
theorem d_MO_shorten_18 : decode b_MO_shorten 18 = .ok (.iload_n 1, 1) := by decide +kernel
theorem d_MO_shorten_19 : decode b_MO_shorten 19 = .ok (.imul, 1) := by decide +kernel
theorem d_MO_shorten_20 : decode b_MO_shorten 20 = .ok (.iload_n 2, 1) := by decide +kernel
theorem d_MO_shorten_21 : decode b_MO_shorten 21 = .ok (.iadd, 1) := by decide +kernel
theorem d_MO_shorten_22 : decode b_MO_shorten 22 = .ok (.laload, 1) := by decide +kernel
theorem d_MO_shorten_23 : decode b_MO_shorten 23 = .ok (.lconst 0, 1) := by decide +kernel
theorem d_MO_shorten_24 : decode b_MO_shorten 24 = .ok (.lcmp, 1) := by decide +kernel
theorem d_MO_shorten_25 : decode b_MO_shorten 25 = .ok (.ifCond .ne 9, 3) := by decide +kernel
theorem d_MO_shorten_28 : decode b_MO_shorten 28 = .ok (.iinc 2 1, 3) := by decide +kernel
theorem d_MO_shorten_31 : decode b_MO_shorten 31 = .ok (.goto (-19), 3) := by decide +kernel
theorem d_MO_shorten_34 : decode b_MO_shorten 34 = .ok (.aload_n 0, 1) := by decide +kernel
theorem d_MO_shorten_35 : decode b_MO_shorten 35 = .ok (.getfield 72, 3) := by decide +kernel
theorem d_MO_shorten_38 : decode b_MO_shorten 38 = .ok (.iload_n 2, 1) := by decide +kernel
theorem d_MO_shorten_39 : decode b_MO_shorten 39 = .ok (.laload, 1) := by decide +kernel
theorem d_MO_shorten_40 : decode b_MO_shorten 40 = .ok (.aload_n 0, 1) := by decide +kernel
theorem d_MO_shorten_41 : decode b_MO_shorten 41 = .ok (.getfield 68, 3) := by decide +kernel
theorem d_MO_shorten_44 : decode b_MO_shorten 44 = .ok (.bipush 6, 2) := by decide +kernel
theorem d_MO_shorten_46 : decode b_MO_shorten 46 = .ok (.iload_n 1, 1) := by decide +kernel
theorem d_MO_shorten_47 : decode b_MO_shorten 47 = .ok (.imul, 1) := by decide +kernel
theorem d_MO_shorten_48 : decode b_MO_shorten 48 = .ok (.iload_n 2, 1) := by decide +kernel
theorem d_MO_shorten_49 : decode b_MO_shorten 49 = .ok (.iadd, 1) := by decide +kernel
theorem d_MO_shorten_50 : decode b_MO_shorten 50 = .ok (.laload, 1) := by decide +kernel
theorem d_MO_shorten_51 : decode b_MO_shorten 51 = .ok (.ldiv, 1) := by decide +kernel
theorem d_MO_shorten_52 : decode b_MO_shorten 52 = .ok (.lstore_n 3, 1) := by decide +kernel
theorem d_MO_shorten_53 : decode b_MO_shorten 53 = .ok (.iconst 0, 1) := by decide +kernel
theorem d_MO_shorten_54 : decode b_MO_shorten 54 = .ok (.istore 5, 2) := by decide +kernel
theorem d_MO_shorten_56 : decode b_MO_shorten 56 = .ok (.iload 5, 2) := by decide +kernel
theorem d_MO_shorten_58 : decode b_MO_shorten 58 = .ok (.aload_n 0, 1) := by decide +kernel
theorem d_MO_shorten_59 : decode b_MO_shorten 59 = .ok (.getfield 143, 3) := by decide +kernel
theorem d_MO_shorten_62 : decode b_MO_shorten 62 = .ok (.if_icmp .ge 38, 3) := by decide +kernel
theorem d_MO_shorten_65 : decode b_MO_shorten 65 = .ok (.aload_n 0, 1) := by decide +kernel
theorem d_MO_shorten_66 : decode b_MO_shorten 66 = .ok (.getfield 72, 3) := by decide +kernel
theorem d_MO_shorten_69 : decode b_MO_shorten 69 = .ok (.iload 5, 2) := by decide +kernel
theorem d_MO_shorten_71 : decode b_MO_shorten 71 = .ok (.aload_n 0, 1) := by decide +kernel
theorem d_MO_shorten_72 : decode b_MO_shorten 72 = .ok (.getfield 72, 3) := by decide +kernel
theorem d_MO_shorten_75 : decode b_MO_shorten 75 = .ok (.iload 5, 2) := by decide +kernel
theorem d_MO_shorten_77 : decode b_MO_shorten 77 = .ok (.laload, 1) := by decide +kernel
theorem d_MO_shorten_78 : decode b_MO_shorten 78 = .ok (.lload_n 3, 1) := by decide +kernel
theorem d_MO_shorten_79 : decode b_MO_shorten 79 = .ok (.aload_n 0, 1) := by decide +kernel
theorem d_MO_shorten_80 : decode b_MO_shorten 80 = .ok (.getfield 68, 3) := by decide +kernel
theorem d_MO_shorten_83 : decode b_MO_shorten 83 = .ok (.bipush 6, 2) := by decide +kernel
theorem d_MO_shorten_85 : decode b_MO_shorten 85 = .ok (.iload_n 1, 1) := by decide +kernel
theorem d_MO_shorten_86 : decode b_MO_shorten 86 = .ok (.imul, 1) := by decide +kernel
theorem d_MO_shorten_87 : decode b_MO_shorten 87 = .ok (.iload 5, 2) := by decide +kernel
theorem d_MO_shorten_89 : decode b_MO_shorten 89 = .ok (.iadd, 1) := by decide +kernel
theorem d_MO_shorten_90 : decode b_MO_shorten 90 = .ok (.laload, 1) := by decide +kernel
theorem d_MO_shorten_91 : decode b_MO_shorten 91 = .ok (.lmul, 1) := by decide +kernel
theorem d_MO_shorten_92 : decode b_MO_shorten 92 = .ok (.lsub, 1) := by decide +kernel
theorem d_MO_shorten_93 : decode b_MO_shorten 93 = .ok (.lastore, 1) := by decide +kernel
theorem d_MO_shorten_94 : decode b_MO_shorten 94 = .ok (.iinc 5 1, 3) := by decide +kernel
theorem d_MO_shorten_97 : decode b_MO_shorten 97 = .ok (.goto (-41), 3) := by decide +kernel
theorem d_MO_shorten_100 : decode b_MO_shorten 100 = .ok (.iinc 1 1, 3) := by decide +kernel
theorem d_MO_shorten_103 : decode b_MO_shorten 103 = .ok (.goto (-101), 3) := by decide +kernel
theorem d_MO_shorten_106 : decode b_MO_shorten 106 = .ok (.return_, 1) := by decide +kernel
theorem d_MO_solvable_0 : decode b_MO_solvable 0 = .ok (.aload_n 0, 1) := by decide +kernel
theorem d_MO_solvable_1 : decode b_MO_solvable 1 = .ok (.aload_n 0, 1) := by decide +kernel
theorem d_MO_solvable_2 : decode b_MO_solvable 2 = .ok (.getfield 133, 3) := by decide +kernel
theorem d_MO_solvable_5 : decode b_MO_solvable 5 = .ok (.ifCond .eq 7, 3) := by decide +kernel
theorem d_MO_solvable_8 : decode b_MO_solvable 8 = .ok (.iconst 0, 1) := by decide +kernel
theorem d_MO_solvable_9 : decode b_MO_solvable 9 = .ok (.goto 4, 3) := by decide +kernel
theorem d_MO_solvable_12 : decode b_MO_solvable 12 = .ok (.iconst 1, 1) := by decide +kernel
theorem d_MO_solvable_13 : decode b_MO_solvable 13 = .ok (.putfield 81, 3) := by decide +kernel
theorem d_MO_solvable_16 : decode b_MO_solvable 16 = .ok (.aload_n 0, 1) := by decide +kernel
theorem d_MO_solvable_17 : decode b_MO_solvable 17 = .ok (.getfield 81, 3) := by decide +kernel
theorem d_MO_solvable_20 : decode b_MO_solvable 20 = .ok (.ifCond .le 5, 3) := by decide +kernel
theorem d_MO_solvable_23 : decode b_MO_solvable 23 = .ok (.iconst 0, 1) := by decide +kernel
theorem d_MO_solvable_24 : decode b_MO_solvable 24 = .ok (.ireturn, 1) := by decide +kernel
theorem d_MO_solvable_25 : decode b_MO_solvable 25 = .ok (.aload_n 0, 1) := by decide +kernel
theorem d_MO_solvable_26 : decode b_MO_solvable 26 = .ok (.invokevirtual 191, 3) := by decide +kernel
theorem d_MO_solvable_29 : decode b_MO_solvable 29 = .ok (.aload_n 0, 1) := by decide +kernel
theorem d_MO_solvable_30 : decode b_MO_solvable 30 = .ok (.getfield 179, 3) := by decide +kernel
theorem d_MO_solvable_33 : decode b_MO_solvable 33 = .ok (.ifCond .eq 7, 3) := by decide +kernel
theorem d_MO_solvable_36 : decode b_MO_solvable 36 = .ok (.iconst 1, 1) := by decide +kernel
theorem d_MO_solvable_37 : decode b_MO_solvable 37 = .ok (.goto 4, 3) := by decide +kernel
theorem d_MO_solvable_40 : decode b_MO_solvable 40 = .ok (.iconst 0, 1) := by decide +kernel
theorem d_MO_solvable_41 : decode b_MO_solvable 41 = .ok (.ireturn, 1) := by decide +kernel
theorem d_MO_solveWhole_0 : decode b_MO_solveWhole 0 = .ok (.aload_n 0, 1) := by decide +kernel
theorem d_MO_solveWhole_1 : decode b_MO_solveWhole 1 = .ok (.aload_n 0, 1) := by decide +kernel
theorem d_MO_solveWhole_2 : decode b_MO_solveWhole 2 = .ok (.getfield 143, 3) := by decide +kernel
theorem d_MO_solveWhole_5 : decode b_MO_solveWhole 5 = .ok (.putfield 152, 3) := by decide +kernel
theorem d_MO_solveWhole_8 : decode b_MO_solveWhole 8 = .ok (.aload_n 0, 1) := by decide +kernel
theorem d_MO_solveWhole_9 : decode b_MO_solveWhole 9 = .ok (.iconst 1, 1) := by decide +kernel
theorem d_MO_solveWhole_10 : decode b_MO_solveWhole 10 = .ok (.putfield 179, 3) := by decide +kernel
theorem d_MO_solveWhole_13 : decode b_MO_solveWhole 13 = .ok (.iconst 0, 1) := by decide +kernel
theorem d_MO_solveWhole_14 : decode b_MO_solveWhole 14 = .ok (.istore_n 1, 1) := by decide +kernel
theorem d_MO_solveWhole_15 : decode b_MO_solveWhole 15 = .ok (.iload_n 1, 1) := by decide +kernel
theorem d_MO_solveWhole_16 : decode b_MO_solveWhole 16 = .ok (.bipush 36, 2) := by decide +kernel
theorem d_MO_solveWhole_18 : decode b_MO_solveWhole 18 = .ok (.if_icmp .ge 31, 3) := by decide +kernel
theorem d_MO_solveWhole_21 : decode b_MO_solveWhole 21 = .ok (.aload_n 0, 1) := by decide +kernel
theorem d_MO_solveWhole_22 : decode b_MO_solveWhole 22 = .ok (.getfield 68, 3) := by decide +kernel
theorem d_MO_solveWhole_25 : decode b_MO_solveWhole 25 = .ok (.iload_n 1, 1) := by decide +kernel
theorem d_MO_solveWhole_26 : decode b_MO_solveWhole 26 = .ok (.iload_n 1, 1) := by decide +kernel
theorem d_MO_solveWhole_27 : decode b_MO_solveWhole 27 = .ok (.bipush 6, 2) := by decide +kernel
theorem d_MO_solveWhole_29 : decode b_MO_solveWhole 29 = .ok (.irem, 1) := by decide +kernel
theorem d_MO_solveWhole_30 : decode b_MO_solveWhole 30 = .ok (.iload_n 1, 1) := by decide +kernel
theorem d_MO_solveWhole_31 : decode b_MO_solveWhole 31 = .ok (.bipush 6, 2) := by decide +kernel
theorem d_MO_solveWhole_33 : decode b_MO_solveWhole 33 = .ok (.idiv, 1) := by decide +kernel
theorem d_MO_solveWhole_34 : decode b_MO_solveWhole 34 = .ok (.if_icmp .ne 7, 3) := by decide +kernel
theorem d_MO_solveWhole_37 : decode b_MO_solveWhole 37 = .ok (.lconst 1, 1) := by decide +kernel
theorem d_MO_solveWhole_38 : decode b_MO_solveWhole 38 = .ok (.goto 4, 3) := by decide +kernel
theorem d_MO_solveWhole_41 : decode b_MO_solveWhole 41 = .ok (.lconst 0, 1) := by decide +kernel
theorem d_MO_solveWhole_42 : decode b_MO_solveWhole 42 = .ok (.lastore, 1) := by decide +kernel
theorem d_MO_solveWhole_43 : decode b_MO_solveWhole 43 = .ok (.iinc 1 1, 3) := by decide +kernel
theorem d_MO_solveWhole_46 : decode b_MO_solveWhole 46 = .ok (.goto (-31), 3) := by decide +kernel
theorem d_MO_solveWhole_49 : decode b_MO_solveWhole 49 = .ok (.iconst 0, 1) := by decide +kernel
theorem d_MO_solveWhole_50 : decode b_MO_solveWhole 50 = .ok (.istore_n 1, 1) := by decide +kernel
theorem d_MO_solveWhole_51 : decode b_MO_solveWhole 51 = .ok (.iload_n 1, 1) := by decide +kernel
theorem d_MO_solveWhole_52 : decode b_MO_solveWhole 52 = .ok (.bipush 6, 2) := by decide +kernel
theorem d_MO_solveWhole_54 : decode b_MO_solveWhole 54 = .ok (.if_icmp .ge 16, 3) := by decide +kernel
theorem d_MO_solveWhole_57 : decode b_MO_solveWhole 57 = .ok (.aload_n 0, 1) := by decide +kernel
theorem d_MO_solveWhole_58 : decode b_MO_solveWhole 58 = .ok (.getfield 72, 3) := by decide +kernel
theorem d_MO_solveWhole_61 : decode b_MO_solveWhole 61 = .ok (.iload_n 1, 1) := by decide +kernel
theorem d_MO_solveWhole_62 : decode b_MO_solveWhole 62 = .ok (.lconst 0, 1) := by decide +kernel
theorem d_MO_solveWhole_63 : decode b_MO_solveWhole 63 = .ok (.lastore, 1) := by decide +kernel
theorem d_MO_solveWhole_64 : decode b_MO_solveWhole 64 = .ok (.iinc 1 1, 3) := by decide +kernel
theorem d_MO_solveWhole_67 : decode b_MO_solveWhole 67 = .ok (.goto (-16), 3) := by decide +kernel
theorem d_MO_solveWhole_70 : decode b_MO_solveWhole 70 = .ok (.iconst 0, 1) := by decide +kernel
theorem d_MO_solveWhole_71 : decode b_MO_solveWhole 71 = .ok (.istore_n 1, 1) := by decide +kernel
theorem d_MO_solveWhole_72 : decode b_MO_solveWhole 72 = .ok (.iload_n 1, 1) := by decide +kernel
theorem d_MO_solveWhole_73 : decode b_MO_solveWhole 73 = .ok (.aload_n 0, 1) := by decide +kernel
theorem d_MO_solveWhole_74 : decode b_MO_solveWhole 74 = .ok (.getfield 137, 3) := by decide +kernel
theorem d_MO_solveWhole_77 : decode b_MO_solveWhole 77 = .ok (.if_icmp .ge 22, 3) := by decide +kernel
theorem d_MO_solveWhole_80 : decode b_MO_solveWhole 80 = .ok (.aload_n 0, 1) := by decide +kernel
theorem d_MO_solveWhole_81 : decode b_MO_solveWhole 81 = .ok (.iload_n 1, 1) := by decide +kernel
theorem d_MO_solveWhole_82 : decode b_MO_solveWhole 82 = .ok (.invokevirtual 182, 3) := by decide +kernel
theorem d_MO_solveWhole_85 : decode b_MO_solveWhole 85 = .ok (.aload_n 0, 1) := by decide +kernel
theorem d_MO_solveWhole_86 : decode b_MO_solveWhole 86 = .ok (.invokevirtual 185, 3) := by decide +kernel
theorem d_MO_solveWhole_89 : decode b_MO_solveWhole 89 = .ok (.aload_n 0, 1) := by decide +kernel
theorem d_MO_solveWhole_90 : decode b_MO_solveWhole 90 = .ok (.invokevirtual 188, 3) := by decide +kernel
theorem d_MO_solveWhole_93 : decode b_MO_solveWhole 93 = .ok (.iinc 1 1, 3) := by decide +kernel
theorem d_MO_solveWhole_96 : decode b_MO_solveWhole 96 = .ok (.goto (-24), 3) := by decide +kernel
theorem d_MO_solveWhole_99 : decode b_MO_solveWhole 99 = .ok (.return_, 1) := by decide +kernel
