theorem k_1 : (Jvm.Cond.initialized "LeastSolutions") ∈ wd := wd_t (List.mem_of_getElem? (i := 1) (by decide +kernel)) rfl
theorem k_5 : (Jvm.Cond.initialized "LeastSolutions$Equations") ∈ wd := wd_t (List.mem_of_getElem? (i := 5) (by decide +kernel)) rfl
theorem k_17 : (Jvm.Cond.initialized "java/lang/IndexOutOfBoundsException") ∈ wd := wd_t (List.mem_of_getElem? (i := 17) (by decide +kernel)) rfl
theorem k_18 : (Jvm.Cond.initialized "java/lang/IllegalStateException") ∈ wd := wd_t (List.mem_of_getElem? (i := 18) (by decide +kernel)) rfl
theorem k_19 : (Jvm.Cond.initialized "java/lang/IllegalArgumentException") ∈ wd := wd_t (List.mem_of_getElem? (i := 19) (by decide +kernel)) rfl
theorem k_113 : (Jvm.Cond.fieldLink "LeastSolutions$Equations" (33 : Nat) "LeastSolutions$Equations" "variables" "I") ∈ wd := wd_t (List.mem_of_getElem? (i := 113) (by decide +kernel)) rfl
theorem k_115 : (Jvm.Cond.fieldLink "LeastSolutions$Equations" (36 : Nat) "LeastSolutions$Equations" "slacks" "I") ∈ wd := wd_t (List.mem_of_getElem? (i := 115) (by decide +kernel)) rfl
theorem k_268 : (Jvm.Cond.fieldLink "LeastSolutions$VectorList" (15 : Nat) "LeastSolutions$VectorList" "isThere" "Z") ∈ wd := wd_t (List.mem_of_getElem? (i := 268) (by decide +kernel)) rfl
theorem k_292 : (Jvm.Cond.fieldLink "LeastSolutions" (33 : Nat) "LeastSolutions" "lattice" "LLeastSolutions$Lattice;") ∈ wd := wd_t (List.mem_of_getElem? (i := 292) (by decide +kernel)) rfl
theorem k_300 : (Jvm.Cond.fieldLink "LeastSolutions" (73 : Nat) "LeastSolutions" "system" "LLeastSolutions$Equations;") ∈ wd := wd_t (List.mem_of_getElem? (i := 300) (by decide +kernel)) rfl
theorem k_301 : (Jvm.Cond.fieldLink "LeastSolutions" (77 : Nat) "LeastSolutions" "hasSystem" "Z") ∈ wd := wd_t (List.mem_of_getElem? (i := 301) (by decide +kernel)) rfl
theorem k_302 : (Jvm.Cond.fieldLink "LeastSolutions" (81 : Nat) "LeastSolutions" "hasSplit" "Z") ∈ wd := wd_t (List.mem_of_getElem? (i := 302) (by decide +kernel)) rfl
theorem k_303 : (Jvm.Cond.fieldLink "LeastSolutions" (84 : Nat) "LeastSolutions" "hasBest" "Z") ∈ wd := wd_t (List.mem_of_getElem? (i := 303) (by decide +kernel)) rfl
theorem k_304 : (Jvm.Cond.fieldLink "LeastSolutions" (87 : Nat) "LeastSolutions" "faultPlace" "I") ∈ wd := wd_t (List.mem_of_getElem? (i := 304) (by decide +kernel)) rfl
theorem k_438 : (Jvm.Cond.instanceMethod ({ cls := "LeastSolutions$Equations", name := "columns", desc := "()I" } : Jvm.MethodName)) ∈ wd := wd_t (List.mem_of_getElem? (i := 438) (by decide +kernel)) rfl
theorem k_439 : (Jvm.Cond.selects "LeastSolutions$Equations" ({ cls := "LeastSolutions$Equations", name := "columns", desc := "()I" } : Jvm.MethodName) ({ cls := "LeastSolutions$Equations", name := "columns", desc := "()I" } : Jvm.MethodName)) ∈ wd := wd_t (List.mem_of_getElem? (i := 439) (by decide +kernel)) rfl
theorem k_440 : (Jvm.Cond.code ({ cls := "LeastSolutions$Equations", name := "columns", desc := "()I" } : Jvm.MethodName) prog_4_method_3_code (1 : Nat) (Option.some Jvm.ClassFile.FieldType.int)) ∈ wd := wd_t (List.mem_of_getElem? (i := 440) (by decide +kernel)) rfl
theorem k_534 : (Jvm.Cond.methodLink "LeastSolutions" (109 : Nat) ({ cls := "LeastSolutions$Equations", name := "columns", desc := "()I" } : Jvm.MethodName)) ∈ wd := wd_t (List.mem_of_getElem? (i := 534) (by decide +kernel)) rfl
theorem k_594 : (Jvm.Cond.methodLink "LeastSolutions" (228 : Nat) ({ cls := "LeastSolutions", name := "hasColumn", desc := "(I)Z" } : Jvm.MethodName)) ∈ wd := wd_t (List.mem_of_getElem? (i := 594) (by decide +kernel)) rfl
theorem k_596 : (Jvm.Cond.instanceMethod ({ cls := "LeastSolutions", name := "hasColumn", desc := "(I)Z" } : Jvm.MethodName)) ∈ wd := wd_t (List.mem_of_getElem? (i := 596) (by decide +kernel)) rfl
theorem k_597 : (Jvm.Cond.code ({ cls := "LeastSolutions", name := "hasColumn", desc := "(I)Z" } : Jvm.MethodName) prog_1_method_24_code (2 : Nat) (Option.some Jvm.ClassFile.FieldType.boolean)) ∈ wd := wd_t (List.mem_of_getElem? (i := 597) (by decide +kernel)) rfl
theorem k_606 : (Jvm.Cond.classLink "LeastSolutions" (118 : Nat) "java/lang/IndexOutOfBoundsException") ∈ wd := wd_t (List.mem_of_getElem? (i := 606) (by decide +kernel)) rfl
theorem k_678 : (Jvm.Cond.methodLink "LeastSolutions" (128 : Nat) ({ cls := "LeastSolutions", name := "needSystem", desc := "()V" } : Jvm.MethodName)) ∈ wd := wd_t (List.mem_of_getElem? (i := 678) (by decide +kernel)) rfl
theorem k_680 : (Jvm.Cond.instanceMethod ({ cls := "LeastSolutions", name := "needSystem", desc := "()V" } : Jvm.MethodName)) ∈ wd := wd_t (List.mem_of_getElem? (i := 680) (by decide +kernel)) rfl
theorem k_681 : (Jvm.Cond.code ({ cls := "LeastSolutions", name := "needSystem", desc := "()V" } : Jvm.MethodName) prog_1_method_26_code (1 : Nat) (Option.none : Option Jvm.ClassFile.FieldType)) ∈ wd := wd_t (List.mem_of_getElem? (i := 681) (by decide +kernel)) rfl
theorem k_682 : (Jvm.Cond.classLink "LeastSolutions" (266 : Nat) "java/lang/IllegalStateException") ∈ wd := wd_t (List.mem_of_getElem? (i := 682) (by decide +kernel)) rfl
theorem k_719 : (Jvm.Cond.methodLink "LeastSolutions" (138 : Nat) ({ cls := "LeastSolutions", name := "needColumn", desc := "(I)V" } : Jvm.MethodName)) ∈ wd := wd_t (List.mem_of_getElem? (i := 719) (by decide +kernel)) rfl
theorem k_721 : (Jvm.Cond.instanceMethod ({ cls := "LeastSolutions", name := "needColumn", desc := "(I)V" } : Jvm.MethodName)) ∈ wd := wd_t (List.mem_of_getElem? (i := 721) (by decide +kernel)) rfl
theorem k_722 : (Jvm.Cond.code ({ cls := "LeastSolutions", name := "needColumn", desc := "(I)V" } : Jvm.MethodName) prog_1_method_25_code (2 : Nat) (Option.none : Option Jvm.ClassFile.FieldType)) ∈ wd := wd_t (List.mem_of_getElem? (i := 722) (by decide +kernel)) rfl
theorem k_735 : (Jvm.Cond.classLink "LeastSolutions" (146 : Nat) "java/lang/IllegalArgumentException") ∈ wd := wd_t (List.mem_of_getElem? (i := 735) (by decide +kernel)) rfl
theorem k_750 : (Jvm.Cond.methodLink "LeastSolutions" (149 : Nat) ({ cls := "LeastSolutions", name := "needBound", desc := "(II)V" } : Jvm.MethodName)) ∈ wd := wd_t (List.mem_of_getElem? (i := 750) (by decide +kernel)) rfl
theorem k_751 : (Jvm.Cond.static ({ cls := "LeastSolutions", name := "needBound", desc := "(II)V" } : Jvm.MethodName)) ∈ wd := wd_t (List.mem_of_getElem? (i := 751) (by decide +kernel)) rfl
theorem k_752 : (Jvm.Cond.code ({ cls := "LeastSolutions", name := "needBound", desc := "(II)V" } : Jvm.MethodName) prog_1_method_28_code (2 : Nat) (Option.none : Option Jvm.ClassFile.FieldType)) ∈ wd := wd_t (List.mem_of_getElem? (i := 752) (by decide +kernel)) rfl
abbrev y_EQ_columns : MethodName := ⟨"LeastSolutions$Equations", "columns", "()I"⟩
abbrev b_EQ_columns : ByteArray := prog_4_method_3_code
abbrev y_LS_best : MethodName := ⟨"LeastSolutions", "best", "(I)I"⟩
abbrev b_LS_best : ByteArray := prog_1_method_18_code
abbrev y_LS_bestAt : MethodName := ⟨"LeastSolutions", "bestAt", "(I)I"⟩
abbrev b_LS_bestAt : ByteArray := prog_1_method_19_code
abbrev y_LS_cost : MethodName := ⟨"LeastSolutions", "cost", "(II)V"⟩
abbrev b_LS_cost : ByteArray := prog_1_method_17_code
abbrev y_LS_count : MethodName := ⟨"LeastSolutions", "count", "(I)I"⟩
abbrev b_LS_count : ByteArray := prog_1_method_5_code
abbrev y_LS_hasColumn : MethodName := ⟨"LeastSolutions", "hasColumn", "(I)Z"⟩
abbrev b_LS_hasColumn : ByteArray := prog_1_method_24_code
abbrev y_LS_holds : MethodName := ⟨"LeastSolutions", "holds", "()I"⟩
abbrev b_LS_holds : ByteArray := prog_1_method_14_code
abbrev y_LS_kernel : MethodName := ⟨"LeastSolutions", "kernel", "()I"⟩
abbrev b_LS_kernel : ByteArray := prog_1_method_9_code
abbrev y_LS_kernelAt : MethodName := ⟨"LeastSolutions", "kernelAt", "(II)J"⟩
abbrev b_LS_kernelAt : ByteArray := prog_1_method_10_code
abbrev y_LS_letter : MethodName := ⟨"LeastSolutions", "letter", "(I)I"⟩
abbrev b_LS_letter : ByteArray := prog_1_method_6_code
abbrev y_LS_needBound : MethodName := ⟨"LeastSolutions", "needBound", "(II)V"⟩
abbrev b_LS_needBound : ByteArray := prog_1_method_28_code
abbrev y_LS_needColumn : MethodName := ⟨"LeastSolutions", "needColumn", "(I)V"⟩
abbrev b_LS_needColumn : ByteArray := prog_1_method_25_code
abbrev y_LS_needSystem : MethodName := ⟨"LeastSolutions", "needSystem", "()V"⟩
abbrev b_LS_needSystem : ByteArray := prog_1_method_26_code
abbrev y_LS_number : MethodName := ⟨"LeastSolutions", "number", "(II)I"⟩
abbrev b_LS_number : ByteArray := prog_1_method_7_code
abbrev y_LS_place : MethodName := ⟨"LeastSolutions", "place", "()I"⟩
abbrev b_LS_place : ByteArray := prog_1_method_4_code
abbrev y_LS_solvable : MethodName := ⟨"LeastSolutions", "solvable", "()I"⟩
abbrev b_LS_solvable : ByteArray := prog_1_method_8_code
abbrev y_LS_tell : MethodName := ⟨"LeastSolutions", "tell", "(II)V"⟩
abbrev b_LS_tell : ByteArray := prog_1_method_13_code
abbrev y_LS_times : MethodName := ⟨"LeastSolutions", "times", "(I)I"⟩
abbrev b_LS_times : ByteArray := prog_1_method_16_code
abbrev y_LS_work : MethodName := ⟨"LeastSolutions", "work", "(II)I"⟩
abbrev b_LS_work : ByteArray := prog_1_method_11_code
abbrev y_VL_has : MethodName := ⟨"LeastSolutions$VectorList", "has", "(I)Z"⟩
abbrev b_VL_has : ByteArray := prog_9_method_4_code
theorem ks_LS_hasColumn : Cond.selects "LeastSolutions" ({ cls := "LeastSolutions", name := "hasColumn", desc := "(I)Z" } : Jvm.MethodName) ({ cls := "LeastSolutions", name := "hasColumn", desc := "(I)Z" } : Jvm.MethodName) ∈ wd := wd_p (q := (⟨"LeastSolutions", "hasColumn", "(I)Z"⟩, 16)) (List.mem_of_getElem? (i := 23) (by decide +kernel))
theorem ks_LS_needColumn : Cond.selects "LeastSolutions" ({ cls := "LeastSolutions", name := "needColumn", desc := "(I)V" } : Jvm.MethodName) ({ cls := "LeastSolutions", name := "needColumn", desc := "(I)V" } : Jvm.MethodName) ∈ wd := wd_p (q := (⟨"LeastSolutions", "needColumn", "(I)V"⟩, 16)) (List.mem_of_getElem? (i := 27) (by decide +kernel))
theorem ks_LS_needSystem : Cond.selects "LeastSolutions" ({ cls := "LeastSolutions", name := "needSystem", desc := "()V" } : Jvm.MethodName) ({ cls := "LeastSolutions", name := "needSystem", desc := "()V" } : Jvm.MethodName) ∈ wd := wd_p (q := (⟨"LeastSolutions", "needSystem", "()V"⟩, 16)) (List.mem_of_getElem? (i := 25) (by decide +kernel))
theorem d_EQ_columns_0 : decode b_EQ_columns 0 = .ok (.aload_n 0, 1) := by decide +kernel
theorem d_EQ_columns_1 : decode b_EQ_columns 1 = .ok (.getfield 33, 3) := by decide +kernel
theorem d_EQ_columns_4 : decode b_EQ_columns 4 = .ok (.aload_n 0, 1) := by decide +kernel
theorem d_EQ_columns_5 : decode b_EQ_columns 5 = .ok (.getfield 36, 3) := by decide +kernel
theorem d_EQ_columns_8 : decode b_EQ_columns 8 = .ok (.iadd, 1) := by decide +kernel
theorem d_EQ_columns_9 : decode b_EQ_columns 9 = .ok (.ireturn, 1) := by decide +kernel
theorem d_LS_best_0 : decode b_LS_best 0 = .ok (.iload_n 1, 1) := by decide +kernel
theorem d_LS_best_1 : decode b_LS_best 1 = .ok (.bipush 16, 2) := by decide +kernel
theorem d_LS_best_3 : decode b_LS_best 3 = .ok (.invokestatic 149, 3) := by decide +kernel
theorem d_LS_best_6 : decode b_LS_best 6 = .ok (.aload_n 0, 1) := by decide +kernel
theorem d_LS_best_7 : decode b_LS_best 7 = .ok (.invokevirtual 128, 3) := by decide +kernel
theorem d_LS_bestAt_0 : decode b_LS_bestAt 0 = .ok (.aload_n 0, 1) := by decide +kernel
theorem d_LS_bestAt_1 : decode b_LS_bestAt 1 = .ok (.getfield 84, 3) := by decide +kernel
theorem d_LS_bestAt_4 : decode b_LS_bestAt 4 = .ok (.ifCond .eq 20, 3) := by decide +kernel
theorem d_LS_bestAt_24 : decode b_LS_bestAt 24 = .ok (.iconst (-1), 1) := by decide +kernel
theorem d_LS_bestAt_25 : decode b_LS_bestAt 25 = .ok (.ireturn, 1) := by decide +kernel
theorem d_LS_cost_0 : decode b_LS_cost 0 = .ok (.aload_n 0, 1) := by decide +kernel
theorem d_LS_cost_1 : decode b_LS_cost 1 = .ok (.iload_n 1, 1) := by decide +kernel
theorem d_LS_cost_2 : decode b_LS_cost 2 = .ok (.invokevirtual 138, 3) := by decide +kernel
theorem d_LS_count_0 : decode b_LS_count 0 = .ok (.aload_n 0, 1) := by decide +kernel
theorem d_LS_count_1 : decode b_LS_count 1 = .ok (.getfield 77, 3) := by decide +kernel
theorem d_LS_count_4 : decode b_LS_count 4 = .ok (.ifCond .ne 5, 3) := by decide +kernel
theorem d_LS_count_7 : decode b_LS_count 7 = .ok (.iconst (-1), 1) := by decide +kernel
theorem d_LS_count_8 : decode b_LS_count 8 = .ok (.ireturn, 1) := by decide +kernel
theorem d_LS_hasColumn_0 : decode b_LS_hasColumn 0 = .ok (.iload_n 1, 1) := by decide +kernel
theorem d_LS_hasColumn_1 : decode b_LS_hasColumn 1 = .ok (.ifCond .lt 18, 3) := by decide +kernel
theorem d_LS_hasColumn_4 : decode b_LS_hasColumn 4 = .ok (.iload_n 1, 1) := by decide +kernel
theorem d_LS_hasColumn_5 : decode b_LS_hasColumn 5 = .ok (.aload_n 0, 1) := by decide +kernel
theorem d_LS_hasColumn_6 : decode b_LS_hasColumn 6 = .ok (.getfield 73, 3) := by decide +kernel
theorem d_LS_hasColumn_9 : decode b_LS_hasColumn 9 = .ok (.invokevirtual 109, 3) := by decide +kernel
theorem d_LS_hasColumn_12 : decode b_LS_hasColumn 12 = .ok (.if_icmp .ge 7, 3) := by decide +kernel
theorem d_LS_hasColumn_19 : decode b_LS_hasColumn 19 = .ok (.iconst 0, 1) := by decide +kernel
theorem d_LS_hasColumn_20 : decode b_LS_hasColumn 20 = .ok (.ireturn, 1) := by decide +kernel
theorem d_LS_holds_0 : decode b_LS_holds 0 = .ok (.aload_n 0, 1) := by decide +kernel
theorem d_LS_holds_1 : decode b_LS_holds 1 = .ok (.invokevirtual 128, 3) := by decide +kernel
theorem d_LS_kernel_0 : decode b_LS_kernel 0 = .ok (.aload_n 0, 1) := by decide +kernel
theorem d_LS_kernel_1 : decode b_LS_kernel 1 = .ok (.invokevirtual 128, 3) := by decide +kernel
theorem d_LS_kernelAt_0 : decode b_LS_kernelAt 0 = .ok (.iload_n 1, 1) := by decide +kernel
theorem d_LS_kernelAt_1 : decode b_LS_kernelAt 1 = .ok (.ifCond .lt 14, 3) := by decide +kernel
theorem d_LS_kernelAt_4 : decode b_LS_kernelAt 4 = .ok (.iload_n 1, 1) := by decide +kernel
theorem d_LS_kernelAt_5 : decode b_LS_kernelAt 5 = .ok (.aload_n 0, 1) := by decide +kernel
theorem d_LS_kernelAt_6 : decode b_LS_kernelAt 6 = .ok (.getfield 33, 3) := by decide +kernel
theorem d_LS_kernelAt_9 : decode b_LS_kernelAt 9 = .ok (.getfield 135, 3) := by decide +kernel
theorem d_LS_kernelAt_12 : decode b_LS_kernelAt 12 = .ok (.if_icmp .lt 11, 3) := by decide +kernel
theorem d_LS_kernelAt_15 : decode b_LS_kernelAt 15 = .ok (.new 118, 3) := by decide +kernel
theorem d_LS_kernelAt_18 : decode b_LS_kernelAt 18 = .ok (.dup, 1) := by decide +kernel
theorem d_LS_kernelAt_19 : decode b_LS_kernelAt 19 = .ok (.invokespecial 120, 3) := by decide +kernel
theorem d_LS_kernelAt_22 : decode b_LS_kernelAt 22 = .ok (.athrow, 1) := by decide +kernel
theorem d_LS_letter_0 : decode b_LS_letter 0 = .ok (.iload_n 1, 1) := by decide +kernel
theorem d_LS_letter_1 : decode b_LS_letter 1 = .ok (.ifCond .lt 26, 3) := by decide +kernel
theorem d_LS_letter_4 : decode b_LS_letter 4 = .ok (.iload_n 1, 1) := by decide +kernel
theorem d_LS_letter_5 : decode b_LS_letter 5 = .ok (.aload_n 0, 1) := by decide +kernel
theorem d_LS_letter_6 : decode b_LS_letter 6 = .ok (.getfield 73, 3) := by decide +kernel
theorem d_LS_letter_9 : decode b_LS_letter 9 = .ok (.getfield 112, 3) := by decide +kernel
theorem d_LS_letter_12 : decode b_LS_letter 12 = .ok (.if_icmp .ge 15, 3) := by decide +kernel
theorem d_LS_letter_27 : decode b_LS_letter 27 = .ok (.iconst (-1), 1) := by decide +kernel
theorem d_LS_letter_28 : decode b_LS_letter 28 = .ok (.ireturn, 1) := by decide +kernel
theorem d_LS_needBound_0 : decode b_LS_needBound 0 = .ok (.iload_n 0, 1) := by decide +kernel
theorem d_LS_needBound_1 : decode b_LS_needBound 1 = .ok (.ifCond .lt 8, 3) := by decide +kernel
theorem d_LS_needBound_4 : decode b_LS_needBound 4 = .ok (.iload_n 0, 1) := by decide +kernel
theorem d_LS_needBound_5 : decode b_LS_needBound 5 = .ok (.iload_n 1, 1) := by decide +kernel
theorem d_LS_needBound_6 : decode b_LS_needBound 6 = .ok (.if_icmp .le 11, 3) := by decide +kernel
theorem d_LS_needBound_9 : decode b_LS_needBound 9 = .ok (.new 146, 3) := by decide +kernel
theorem d_LS_needBound_12 : decode b_LS_needBound 12 = .ok (.dup, 1) := by decide +kernel
theorem d_LS_needBound_13 : decode b_LS_needBound 13 = .ok (.invokespecial 148, 3) := by decide +kernel
theorem d_LS_needBound_16 : decode b_LS_needBound 16 = .ok (.athrow, 1) := by decide +kernel
theorem d_LS_needBound_17 : decode b_LS_needBound 17 = .ok (.return_, 1) := by decide +kernel
theorem d_LS_needColumn_0 : decode b_LS_needColumn 0 = .ok (.aload_n 0, 1) := by decide +kernel
theorem d_LS_needColumn_1 : decode b_LS_needColumn 1 = .ok (.iload_n 1, 1) := by decide +kernel
theorem d_LS_needColumn_2 : decode b_LS_needColumn 2 = .ok (.invokevirtual 228, 3) := by decide +kernel
theorem d_LS_needColumn_5 : decode b_LS_needColumn 5 = .ok (.ifCond .ne 11, 3) := by decide +kernel
theorem d_LS_needColumn_8 : decode b_LS_needColumn 8 = .ok (.new 118, 3) := by decide +kernel
theorem d_LS_needColumn_11 : decode b_LS_needColumn 11 = .ok (.dup, 1) := by decide +kernel
theorem d_LS_needColumn_12 : decode b_LS_needColumn 12 = .ok (.invokespecial 120, 3) := by decide +kernel
theorem d_LS_needColumn_15 : decode b_LS_needColumn 15 = .ok (.athrow, 1) := by decide +kernel
theorem d_LS_needSystem_0 : decode b_LS_needSystem 0 = .ok (.aload_n 0, 1) := by decide +kernel
theorem d_LS_needSystem_1 : decode b_LS_needSystem 1 = .ok (.getfield 77, 3) := by decide +kernel
theorem d_LS_needSystem_4 : decode b_LS_needSystem 4 = .ok (.ifCond .ne 11, 3) := by decide +kernel
theorem d_LS_needSystem_7 : decode b_LS_needSystem 7 = .ok (.new 266, 3) := by decide +kernel
theorem d_LS_needSystem_10 : decode b_LS_needSystem 10 = .ok (.dup, 1) := by decide +kernel
theorem d_LS_needSystem_11 : decode b_LS_needSystem 11 = .ok (.invokespecial 268, 3) := by decide +kernel
theorem d_LS_needSystem_14 : decode b_LS_needSystem 14 = .ok (.athrow, 1) := by decide +kernel
theorem d_LS_number_0 : decode b_LS_number 0 = .ok (.iload_n 1, 1) := by decide +kernel
theorem d_LS_number_1 : decode b_LS_number 1 = .ok (.ifCond .lt 29, 3) := by decide +kernel
theorem d_LS_number_4 : decode b_LS_number 4 = .ok (.iload_n 1, 1) := by decide +kernel
theorem d_LS_number_5 : decode b_LS_number 5 = .ok (.aload_n 0, 1) := by decide +kernel
theorem d_LS_number_6 : decode b_LS_number 6 = .ok (.getfield 73, 3) := by decide +kernel
theorem d_LS_number_9 : decode b_LS_number 9 = .ok (.getfield 106, 3) := by decide +kernel
theorem d_LS_number_12 : decode b_LS_number 12 = .ok (.if_icmp .ge 18, 3) := by decide +kernel
theorem d_LS_number_30 : decode b_LS_number 30 = .ok (.new 118, 3) := by decide +kernel
theorem d_LS_number_33 : decode b_LS_number 33 = .ok (.dup, 1) := by decide +kernel
theorem d_LS_number_34 : decode b_LS_number 34 = .ok (.invokespecial 120, 3) := by decide +kernel
theorem d_LS_number_37 : decode b_LS_number 37 = .ok (.athrow, 1) := by decide +kernel
theorem d_LS_place_0 : decode b_LS_place 0 = .ok (.aload_n 0, 1) := by decide +kernel
theorem d_LS_place_1 : decode b_LS_place 1 = .ok (.getfield 87, 3) := by decide +kernel
theorem d_LS_place_4 : decode b_LS_place 4 = .ok (.ireturn, 1) := by decide +kernel
theorem d_LS_solvable_0 : decode b_LS_solvable 0 = .ok (.aload_n 0, 1) := by decide +kernel
theorem d_LS_solvable_1 : decode b_LS_solvable 1 = .ok (.invokevirtual 128, 3) := by decide +kernel
theorem d_LS_tell_0 : decode b_LS_tell 0 = .ok (.aload_n 0, 1) := by decide +kernel
theorem d_LS_tell_1 : decode b_LS_tell 1 = .ok (.iload_n 1, 1) := by decide +kernel
theorem d_LS_tell_2 : decode b_LS_tell 2 = .ok (.invokevirtual 138, 3) := by decide +kernel
theorem d_LS_times_0 : decode b_LS_times 0 = .ok (.aload_n 0, 1) := by decide +kernel
theorem d_LS_times_1 : decode b_LS_times 1 = .ok (.getfield 81, 3) := by decide +kernel
theorem d_LS_times_4 : decode b_LS_times 4 = .ok (.ifCond .eq 25, 3) := by decide +kernel
theorem d_LS_times_29 : decode b_LS_times 29 = .ok (.iconst (-1), 1) := by decide +kernel
theorem d_LS_times_30 : decode b_LS_times 30 = .ok (.ireturn, 1) := by decide +kernel
theorem d_LS_work_0 : decode b_LS_work 0 = .ok (.iload_n 1, 1) := by decide +kernel
theorem d_LS_work_1 : decode b_LS_work 1 = .ok (.ifCond .lt 8, 3) := by decide +kernel
theorem d_LS_work_4 : decode b_LS_work 4 = .ok (.iload_n 1, 1) := by decide +kernel
theorem d_LS_work_5 : decode b_LS_work 5 = .ok (.iconst 2, 1) := by decide +kernel
theorem d_LS_work_6 : decode b_LS_work 6 = .ok (.if_icmp .le 11, 3) := by decide +kernel
theorem d_LS_work_9 : decode b_LS_work 9 = .ok (.new 146, 3) := by decide +kernel
theorem d_LS_work_12 : decode b_LS_work 12 = .ok (.dup, 1) := by decide +kernel
theorem d_LS_work_13 : decode b_LS_work 13 = .ok (.invokespecial 148, 3) := by decide +kernel
theorem d_LS_work_16 : decode b_LS_work 16 = .ok (.athrow, 1) := by decide +kernel
theorem d_LS_work_17 : decode b_LS_work 17 = .ok (.iload_n 2, 1) := by decide +kernel
theorem d_LS_work_18 : decode b_LS_work 18 = .ok (.iload_n 1, 1) := by decide +kernel
theorem d_LS_work_19 : decode b_LS_work 19 = .ok (.iconst 2, 1) := by decide +kernel
theorem d_LS_work_20 : decode b_LS_work 20 = .ok (.if_icmp .ne 8, 3) := by decide +kernel
theorem d_LS_work_23 : decode b_LS_work 23 = .ok (.bipush 10, 2) := by decide +kernel
theorem d_LS_work_25 : decode b_LS_work 25 = .ok (.goto 5, 3) := by decide +kernel
theorem d_LS_work_28 : decode b_LS_work 28 = .ok (.bipush 16, 2) := by decide +kernel
theorem d_LS_work_30 : decode b_LS_work 30 = .ok (.invokestatic 149, 3) := by decide +kernel
theorem d_LS_work_33 : decode b_LS_work 33 = .ok (.aload_n 0, 1) := by decide +kernel
theorem d_LS_work_34 : decode b_LS_work 34 = .ok (.invokevirtual 128, 3) := by decide +kernel
theorem d_VL_has_0 : decode b_VL_has 0 = .ok (.aload_n 0, 1) := by decide +kernel
theorem d_VL_has_1 : decode b_VL_has 1 = .ok (.getfield 15, 3) := by decide +kernel
theorem d_VL_has_4 : decode b_VL_has 4 = .ok (.ifCond .eq 19, 3) := by decide +kernel
theorem d_VL_has_23 : decode b_VL_has 23 = .ok (.iconst 0, 1) := by decide +kernel
theorem d_VL_has_24 : decode b_VL_has 24 = .ok (.ireturn, 1) := by decide +kernel
