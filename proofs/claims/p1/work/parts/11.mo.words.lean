theorem k_11 : (Jvm.Cond.initialized "LeastSolutionsModel") ∈ wd := wd_t (List.mem_of_getElem? (i := 11) (by decide +kernel)) rfl
theorem k_886 : (Jvm.Cond.fieldLink "LeastSolutionsModel" (81 : Nat) "LeastSolutionsModel" "thrown" "I") ∈ wd := wd_t (List.mem_of_getElem? (i := 886) (by decide +kernel)) rfl
theorem k_889 : (Jvm.Cond.fieldLink "LeastSolutionsModel" (13 : Nat) "LeastSolutionsModel" "wrong" "I") ∈ wd := wd_t (List.mem_of_getElem? (i := 889) (by decide +kernel)) rfl
theorem k_900 : (Jvm.Cond.fieldLink "LeastSolutionsModel" (133 : Nat) "LeastSolutionsModel" "known" "Z") ∈ wd := wd_t (List.mem_of_getElem? (i := 900) (by decide +kernel)) rfl
theorem k_912 : (Jvm.Cond.fieldLink "LeastSolutionsModel" (146 : Nat) "LeastSolutionsModel" "isSplit" "Z") ∈ wd := wd_t (List.mem_of_getElem? (i := 912) (by decide +kernel)) rfl
theorem k_914 : (Jvm.Cond.fieldLink "LeastSolutionsModel" (149 : Nat) "LeastSolutionsModel" "isBest" "Z") ∈ wd := wd_t (List.mem_of_getElem? (i := 914) (by decide +kernel)) rfl
theorem k_1110 : (Jvm.Cond.methodLink "LeastSolutionsModel" (194 : Nat) ({ cls := "LeastSolutionsModel", name := "isColumn", desc := "(I)Z" } : Jvm.MethodName)) ∈ wd := wd_t (List.mem_of_getElem? (i := 1110) (by decide +kernel)) rfl
theorem k_1112 : (Jvm.Cond.instanceMethod ({ cls := "LeastSolutionsModel", name := "isColumn", desc := "(I)Z" } : Jvm.MethodName)) ∈ wd := wd_t (List.mem_of_getElem? (i := 1112) (by decide +kernel)) rfl
theorem k_1113 : (Jvm.Cond.code ({ cls := "LeastSolutionsModel", name := "isColumn", desc := "(I)Z" } : Jvm.MethodName) prog_12_method_16_code (2 : Nat) (Option.some Jvm.ClassFile.FieldType.boolean)) ∈ wd := wd_t (List.mem_of_getElem? (i := 1113) (by decide +kernel)) rfl
abbrev y_MO_at : MethodName := ⟨"LeastSolutionsModel", "at", "(III)I"⟩
abbrev b_MO_at : ByteArray := prog_12_method_40_code
abbrev y_MO_best : MethodName := ⟨"LeastSolutionsModel", "best", "(I)I"⟩
abbrev b_MO_best : ByteArray := prog_12_method_48_code
abbrev y_MO_bestAt : MethodName := ⟨"LeastSolutionsModel", "bestAt", "(I)I"⟩
abbrev b_MO_bestAt : ByteArray := prog_12_method_49_code
abbrev y_MO_cost : MethodName := ⟨"LeastSolutionsModel", "cost", "(II)V"⟩
abbrev b_MO_cost : ByteArray := prog_12_method_46_code
abbrev y_MO_count : MethodName := ⟨"LeastSolutionsModel", "count", "(I)I"⟩
abbrev b_MO_count : ByteArray := prog_12_method_14_code
abbrev y_MO_holds : MethodName := ⟨"LeastSolutionsModel", "holds", "()I"⟩
abbrev b_MO_holds : ByteArray := prog_12_method_43_code
abbrev y_MO_isColumn : MethodName := ⟨"LeastSolutionsModel", "isColumn", "(I)Z"⟩
abbrev b_MO_isColumn : ByteArray := prog_12_method_16_code
abbrev y_MO_kernel : MethodName := ⟨"LeastSolutionsModel", "kernel", "()I"⟩
abbrev b_MO_kernel : ByteArray := prog_12_method_29_code
abbrev y_MO_kernelAt : MethodName := ⟨"LeastSolutionsModel", "kernelAt", "(II)J"⟩
abbrev b_MO_kernelAt : ByteArray := prog_12_method_30_code
abbrev y_MO_letter : MethodName := ⟨"LeastSolutionsModel", "letter", "(I)I"⟩
abbrev b_MO_letter : ByteArray := prog_12_method_15_code
abbrev y_MO_number : MethodName := ⟨"LeastSolutionsModel", "number", "(II)I"⟩
abbrev b_MO_number : ByteArray := prog_12_method_17_code
abbrev y_MO_place : MethodName := ⟨"LeastSolutionsModel", "place", "()I"⟩
abbrev b_MO_place : ByteArray := prog_12_method_13_code
abbrev y_MO_solvable : MethodName := ⟨"LeastSolutionsModel", "solvable", "()I"⟩
abbrev b_MO_solvable : ByteArray := prog_12_method_28_code
abbrev y_MO_tell : MethodName := ⟨"LeastSolutionsModel", "tell", "(II)V"⟩
abbrev b_MO_tell : ByteArray := prog_12_method_41_code
abbrev y_MO_thrown : MethodName := ⟨"LeastSolutionsModel", "thrown", "()I"⟩
abbrev b_MO_thrown : ByteArray := prog_12_method_2_code
abbrev y_MO_times : MethodName := ⟨"LeastSolutionsModel", "times", "(I)I"⟩
abbrev b_MO_times : ByteArray := prog_12_method_45_code
abbrev y_MO_work : MethodName := ⟨"LeastSolutionsModel", "work", "(II)I"⟩
abbrev b_MO_work : ByteArray := prog_12_method_38_code
theorem ks_MO_isColumn : Cond.selects "LeastSolutionsModel" ({ cls := "LeastSolutionsModel", name := "isColumn", desc := "(I)Z" } : Jvm.MethodName) ({ cls := "LeastSolutionsModel", name := "isColumn", desc := "(I)Z" } : Jvm.MethodName) ∈ wd := wd_p (q := (⟨"LeastSolutionsModel", "isColumn", "(I)Z"⟩, 36)) (List.mem_of_getElem? (i := 52) (by decide +kernel))
theorem d_MO_at_0 : decode b_MO_at 0 = .ok (.iload_n 1, 1) := by decide +kernel
theorem d_MO_at_1 : decode b_MO_at 1 = .ok (.ifCond .lt 43, 3) := by decide +kernel
theorem d_MO_at_4 : decode b_MO_at 4 = .ok (.iload_n 1, 1) := by decide +kernel
theorem d_MO_at_5 : decode b_MO_at 5 = .ok (.iconst 2, 1) := by decide +kernel
theorem d_MO_at_6 : decode b_MO_at 6 = .ok (.if_icmp .gt 38, 3) := by decide +kernel
theorem d_MO_at_9 : decode b_MO_at 9 = .ok (.aload_n 0, 1) := by decide +kernel
theorem d_MO_at_10 : decode b_MO_at 10 = .ok (.iload_n 3, 1) := by decide +kernel
theorem d_MO_at_11 : decode b_MO_at 11 = .ok (.invokevirtual 194, 3) := by decide +kernel
theorem d_MO_at_14 : decode b_MO_at 14 = .ok (.ifCond .eq 30, 3) := by decide +kernel
theorem d_MO_at_44 : decode b_MO_at 44 = .ok (.iconst 0, 1) := by decide +kernel
theorem d_MO_at_45 : decode b_MO_at 45 = .ok (.istore 4, 2) := by decide +kernel
theorem d_MO_at_47 : decode b_MO_at 47 = .ok (.aload_n 0, 1) := by decide +kernel
theorem d_MO_at_48 : decode b_MO_at 48 = .ok (.iload 4, 2) := by decide +kernel
theorem d_MO_at_50 : decode b_MO_at 50 = .ok (.ifCond .eq 7, 3) := by decide +kernel
theorem d_MO_at_57 : decode b_MO_at 57 = .ok (.iconst 1, 1) := by decide +kernel
theorem d_MO_at_58 : decode b_MO_at 58 = .ok (.putfield 81, 3) := by decide +kernel
theorem d_MO_at_61 : decode b_MO_at 61 = .ok (.iload 4, 2) := by decide +kernel
theorem d_MO_at_63 : decode b_MO_at 63 = .ok (.ifCond .eq 23, 3) := by decide +kernel
theorem d_MO_at_86 : decode b_MO_at 86 = .ok (.iconst 0, 1) := by decide +kernel
theorem d_MO_at_87 : decode b_MO_at 87 = .ok (.ireturn, 1) := by decide +kernel
theorem d_MO_best_0 : decode b_MO_best 0 = .ok (.aload_n 0, 1) := by decide +kernel
theorem d_MO_best_1 : decode b_MO_best 1 = .ok (.iload_n 1, 1) := by decide +kernel
theorem d_MO_best_2 : decode b_MO_best 2 = .ok (.ifCond .lt 9, 3) := by decide +kernel
theorem d_MO_best_5 : decode b_MO_best 5 = .ok (.iload_n 1, 1) := by decide +kernel
theorem d_MO_best_6 : decode b_MO_best 6 = .ok (.bipush 16, 2) := by decide +kernel
theorem d_MO_best_8 : decode b_MO_best 8 = .ok (.if_icmp .le 7, 3) := by decide +kernel
theorem d_MO_best_11 : decode b_MO_best 11 = .ok (.iconst 1, 1) := by decide +kernel
theorem d_MO_best_12 : decode b_MO_best 12 = .ok (.goto 15, 3) := by decide +kernel
theorem d_MO_best_15 : decode b_MO_best 15 = .ok (.aload_n 0, 1) := by decide +kernel
theorem d_MO_best_16 : decode b_MO_best 16 = .ok (.getfield 133, 3) := by decide +kernel
theorem d_MO_best_19 : decode b_MO_best 19 = .ok (.ifCond .ne 7, 3) := by decide +kernel
theorem d_MO_best_22 : decode b_MO_best 22 = .ok (.iconst 2, 1) := by decide +kernel
theorem d_MO_best_23 : decode b_MO_best 23 = .ok (.goto 4, 3) := by decide +kernel
theorem d_MO_best_27 : decode b_MO_best 27 = .ok (.putfield 81, 3) := by decide +kernel
theorem d_MO_best_30 : decode b_MO_best 30 = .ok (.aload_n 0, 1) := by decide +kernel
theorem d_MO_best_31 : decode b_MO_best 31 = .ok (.getfield 81, 3) := by decide +kernel
theorem d_MO_best_34 : decode b_MO_best 34 = .ok (.ifCond .le 5, 3) := by decide +kernel
theorem d_MO_best_37 : decode b_MO_best 37 = .ok (.iconst 0, 1) := by decide +kernel
theorem d_MO_best_38 : decode b_MO_best 38 = .ok (.ireturn, 1) := by decide +kernel
theorem d_MO_bestAt_0 : decode b_MO_bestAt 0 = .ok (.aload_n 0, 1) := by decide +kernel
theorem d_MO_bestAt_1 : decode b_MO_bestAt 1 = .ok (.iconst 0, 1) := by decide +kernel
theorem d_MO_bestAt_2 : decode b_MO_bestAt 2 = .ok (.putfield 81, 3) := by decide +kernel
theorem d_MO_bestAt_5 : decode b_MO_bestAt 5 = .ok (.aload_n 0, 1) := by decide +kernel
theorem d_MO_bestAt_6 : decode b_MO_bestAt 6 = .ok (.getfield 149, 3) := by decide +kernel
theorem d_MO_bestAt_9 : decode b_MO_bestAt 9 = .ok (.ifCond .eq 20, 3) := by decide +kernel
theorem d_MO_bestAt_29 : decode b_MO_bestAt 29 = .ok (.iconst (-1), 1) := by decide +kernel
theorem d_MO_bestAt_30 : decode b_MO_bestAt 30 = .ok (.ireturn, 1) := by decide +kernel
theorem d_MO_cost_0 : decode b_MO_cost 0 = .ok (.aload_n 0, 1) := by decide +kernel
theorem d_MO_cost_1 : decode b_MO_cost 1 = .ok (.aload_n 0, 1) := by decide +kernel
theorem d_MO_cost_2 : decode b_MO_cost 2 = .ok (.iload_n 1, 1) := by decide +kernel
theorem d_MO_cost_3 : decode b_MO_cost 3 = .ok (.invokevirtual 194, 3) := by decide +kernel
theorem d_MO_cost_6 : decode b_MO_cost 6 = .ok (.ifCond .ne 7, 3) := by decide +kernel
theorem d_MO_cost_9 : decode b_MO_cost 9 = .ok (.iconst 1, 1) := by decide +kernel
theorem d_MO_cost_10 : decode b_MO_cost 10 = .ok (.goto 20, 3) := by decide +kernel
theorem d_MO_cost_30 : decode b_MO_cost 30 = .ok (.putfield 81, 3) := by decide +kernel
theorem d_MO_cost_33 : decode b_MO_cost 33 = .ok (.aload_n 0, 1) := by decide +kernel
theorem d_MO_cost_34 : decode b_MO_cost 34 = .ok (.getfield 81, 3) := by decide +kernel
theorem d_MO_cost_37 : decode b_MO_cost 37 = .ok (.ifCond .ne 10, 3) := by decide +kernel
theorem d_MO_cost_47 : decode b_MO_cost 47 = .ok (.return_, 1) := by decide +kernel
theorem d_MO_count_0 : decode b_MO_count 0 = .ok (.aload_n 0, 1) := by decide +kernel
theorem d_MO_count_1 : decode b_MO_count 1 = .ok (.iconst 0, 1) := by decide +kernel
theorem d_MO_count_2 : decode b_MO_count 2 = .ok (.putfield 81, 3) := by decide +kernel
theorem d_MO_count_5 : decode b_MO_count 5 = .ok (.aload_n 0, 1) := by decide +kernel
theorem d_MO_count_6 : decode b_MO_count 6 = .ok (.getfield 133, 3) := by decide +kernel
theorem d_MO_count_9 : decode b_MO_count 9 = .ok (.ifCond .ne 7, 3) := by decide +kernel
theorem d_MO_count_12 : decode b_MO_count 12 = .ok (.iconst (-1), 1) := by decide +kernel
theorem d_MO_count_13 : decode b_MO_count 13 = .ok (.goto 39, 3) := by decide +kernel
theorem d_MO_count_52 : decode b_MO_count 52 = .ok (.ireturn, 1) := by decide +kernel
theorem d_MO_holds_0 : decode b_MO_holds 0 = .ok (.aload_n 0, 1) := by decide +kernel
theorem d_MO_holds_1 : decode b_MO_holds 1 = .ok (.aload_n 0, 1) := by decide +kernel
theorem d_MO_holds_2 : decode b_MO_holds 2 = .ok (.getfield 133, 3) := by decide +kernel
theorem d_MO_holds_5 : decode b_MO_holds 5 = .ok (.ifCond .eq 7, 3) := by decide +kernel
theorem d_MO_holds_12 : decode b_MO_holds 12 = .ok (.iconst 1, 1) := by decide +kernel
theorem d_MO_holds_13 : decode b_MO_holds 13 = .ok (.putfield 81, 3) := by decide +kernel
theorem d_MO_holds_16 : decode b_MO_holds 16 = .ok (.aload_n 0, 1) := by decide +kernel
theorem d_MO_holds_17 : decode b_MO_holds 17 = .ok (.getfield 81, 3) := by decide +kernel
theorem d_MO_holds_20 : decode b_MO_holds 20 = .ok (.ifCond .le 7, 3) := by decide +kernel
theorem d_MO_holds_23 : decode b_MO_holds 23 = .ok (.iconst 0, 1) := by decide +kernel
theorem d_MO_holds_24 : decode b_MO_holds 24 = .ok (.goto 51, 3) := by decide +kernel
theorem d_MO_holds_75 : decode b_MO_holds 75 = .ok (.ireturn, 1) := by decide +kernel
theorem d_MO_isColumn_0 : decode b_MO_isColumn 0 = .ok (.aload_n 0, 1) := by decide +kernel
theorem d_MO_isColumn_1 : decode b_MO_isColumn 1 = .ok (.getfield 133, 3) := by decide +kernel
theorem d_MO_isColumn_4 : decode b_MO_isColumn 4 = .ok (.ifCond .eq 19, 3) := by decide +kernel
theorem d_MO_isColumn_23 : decode b_MO_isColumn 23 = .ok (.iconst 0, 1) := by decide +kernel
theorem d_MO_isColumn_24 : decode b_MO_isColumn 24 = .ok (.ireturn, 1) := by decide +kernel
theorem d_MO_kernel_0 : decode b_MO_kernel 0 = .ok (.aload_n 0, 1) := by decide +kernel
theorem d_MO_kernel_1 : decode b_MO_kernel 1 = .ok (.aload_n 0, 1) := by decide +kernel
theorem d_MO_kernel_2 : decode b_MO_kernel 2 = .ok (.getfield 133, 3) := by decide +kernel
theorem d_MO_kernel_5 : decode b_MO_kernel 5 = .ok (.ifCond .eq 7, 3) := by decide +kernel
theorem d_MO_kernel_12 : decode b_MO_kernel 12 = .ok (.iconst 1, 1) := by decide +kernel
theorem d_MO_kernel_13 : decode b_MO_kernel 13 = .ok (.putfield 81, 3) := by decide +kernel
theorem d_MO_kernel_16 : decode b_MO_kernel 16 = .ok (.aload_n 0, 1) := by decide +kernel
theorem d_MO_kernel_17 : decode b_MO_kernel 17 = .ok (.getfield 81, 3) := by decide +kernel
theorem d_MO_kernel_20 : decode b_MO_kernel 20 = .ok (.ifCond .le 5, 3) := by decide +kernel
theorem d_MO_kernel_23 : decode b_MO_kernel 23 = .ok (.iconst 0, 1) := by decide +kernel
theorem d_MO_kernel_24 : decode b_MO_kernel 24 = .ok (.ireturn, 1) := by decide +kernel
theorem d_MO_kernelAt_0 : decode b_MO_kernelAt 0 = .ok (.aload_n 0, 1) := by decide +kernel
theorem d_MO_kernelAt_1 : decode b_MO_kernelAt 1 = .ok (.iconst 1, 1) := by decide +kernel
theorem d_MO_kernelAt_2 : decode b_MO_kernelAt 2 = .ok (.putfield 81, 3) := by decide +kernel
theorem d_MO_kernelAt_5 : decode b_MO_kernelAt 5 = .ok (.aload_n 0, 1) := by decide +kernel
theorem d_MO_kernelAt_6 : decode b_MO_kernelAt 6 = .ok (.iload_n 2, 1) := by decide +kernel
theorem d_MO_kernelAt_7 : decode b_MO_kernelAt 7 = .ok (.invokevirtual 194, 3) := by decide +kernel
theorem d_MO_kernelAt_10 : decode b_MO_kernelAt 10 = .ok (.ifCond .eq 7, 3) := by decide +kernel
theorem d_MO_kernelAt_17 : decode b_MO_kernelAt 17 = .ok (.lconst 0, 1) := by decide +kernel
theorem d_MO_kernelAt_18 : decode b_MO_kernelAt 18 = .ok (.lreturn, 1) := by decide +kernel
theorem d_MO_letter_0 : decode b_MO_letter 0 = .ok (.aload_n 0, 1) := by decide +kernel
theorem d_MO_letter_1 : decode b_MO_letter 1 = .ok (.iconst 0, 1) := by decide +kernel
theorem d_MO_letter_2 : decode b_MO_letter 2 = .ok (.putfield 81, 3) := by decide +kernel
theorem d_MO_letter_5 : decode b_MO_letter 5 = .ok (.aload_n 0, 1) := by decide +kernel
theorem d_MO_letter_6 : decode b_MO_letter 6 = .ok (.getfield 133, 3) := by decide +kernel
theorem d_MO_letter_9 : decode b_MO_letter 9 = .ok (.ifCond .eq 24, 3) := by decide +kernel
theorem d_MO_letter_33 : decode b_MO_letter 33 = .ok (.iconst (-1), 1) := by decide +kernel
theorem d_MO_letter_34 : decode b_MO_letter 34 = .ok (.ireturn, 1) := by decide +kernel
theorem d_MO_number_0 : decode b_MO_number 0 = .ok (.aload_n 0, 1) := by decide +kernel
theorem d_MO_number_1 : decode b_MO_number 1 = .ok (.aload_n 0, 1) := by decide +kernel
theorem d_MO_number_2 : decode b_MO_number 2 = .ok (.getfield 133, 3) := by decide +kernel
theorem d_MO_number_5 : decode b_MO_number 5 = .ok (.ifCond .eq 31, 3) := by decide +kernel
theorem d_MO_number_36 : decode b_MO_number 36 = .ok (.iconst 1, 1) := by decide +kernel
theorem d_MO_number_37 : decode b_MO_number 37 = .ok (.putfield 81, 3) := by decide +kernel
theorem d_MO_number_40 : decode b_MO_number 40 = .ok (.aload_n 0, 1) := by decide +kernel
theorem d_MO_number_41 : decode b_MO_number 41 = .ok (.getfield 81, 3) := by decide +kernel
theorem d_MO_number_44 : decode b_MO_number 44 = .ok (.ifCond .ne 17, 3) := by decide +kernel
theorem d_MO_number_61 : decode b_MO_number 61 = .ok (.iconst 0, 1) := by decide +kernel
theorem d_MO_number_62 : decode b_MO_number 62 = .ok (.ireturn, 1) := by decide +kernel
theorem d_MO_place_0 : decode b_MO_place 0 = .ok (.aload_n 0, 1) := by decide +kernel
theorem d_MO_place_1 : decode b_MO_place 1 = .ok (.iconst 0, 1) := by decide +kernel
theorem d_MO_place_2 : decode b_MO_place 2 = .ok (.putfield 81, 3) := by decide +kernel
theorem d_MO_place_5 : decode b_MO_place 5 = .ok (.aload_n 0, 1) := by decide +kernel
theorem d_MO_place_6 : decode b_MO_place 6 = .ok (.getfield 13, 3) := by decide +kernel
theorem d_MO_place_9 : decode b_MO_place 9 = .ok (.ireturn, 1) := by decide +kernel
theorem d_MO_solvable_0 : decode b_MO_solvable 0 = .ok (.aload_n 0, 1) := by decide +kernel
theorem d_MO_solvable_1 : decode b_MO_solvable 1 = .ok (.aload_n 0, 1) := by decide +kernel
theorem d_MO_solvable_2 : decode b_MO_solvable 2 = .ok (.getfield 133, 3) := by decide +kernel
theorem d_MO_solvable_5 : decode b_MO_solvable 5 = .ok (.ifCond .eq 7, 3) := by decide +kernel
theorem d_MO_solvable_12 : decode b_MO_solvable 12 = .ok (.iconst 1, 1) := by decide +kernel
theorem d_MO_solvable_13 : decode b_MO_solvable 13 = .ok (.putfield 81, 3) := by decide +kernel
theorem d_MO_solvable_16 : decode b_MO_solvable 16 = .ok (.aload_n 0, 1) := by decide +kernel
theorem d_MO_solvable_17 : decode b_MO_solvable 17 = .ok (.getfield 81, 3) := by decide +kernel
theorem d_MO_solvable_20 : decode b_MO_solvable 20 = .ok (.ifCond .le 5, 3) := by decide +kernel
theorem d_MO_solvable_23 : decode b_MO_solvable 23 = .ok (.iconst 0, 1) := by decide +kernel
theorem d_MO_solvable_24 : decode b_MO_solvable 24 = .ok (.ireturn, 1) := by decide +kernel
theorem d_MO_tell_0 : decode b_MO_tell 0 = .ok (.aload_n 0, 1) := by decide +kernel
theorem d_MO_tell_1 : decode b_MO_tell 1 = .ok (.aload_n 0, 1) := by decide +kernel
theorem d_MO_tell_2 : decode b_MO_tell 2 = .ok (.iload_n 1, 1) := by decide +kernel
theorem d_MO_tell_3 : decode b_MO_tell 3 = .ok (.invokevirtual 194, 3) := by decide +kernel
theorem d_MO_tell_6 : decode b_MO_tell 6 = .ok (.ifCond .ne 7, 3) := by decide +kernel
theorem d_MO_tell_9 : decode b_MO_tell 9 = .ok (.iconst 1, 1) := by decide +kernel
theorem d_MO_tell_10 : decode b_MO_tell 10 = .ok (.goto 20, 3) := by decide +kernel
theorem d_MO_tell_30 : decode b_MO_tell 30 = .ok (.putfield 81, 3) := by decide +kernel
theorem d_MO_tell_33 : decode b_MO_tell 33 = .ok (.aload_n 0, 1) := by decide +kernel
theorem d_MO_tell_34 : decode b_MO_tell 34 = .ok (.getfield 81, 3) := by decide +kernel
theorem d_MO_tell_37 : decode b_MO_tell 37 = .ok (.ifCond .ne 10, 3) := by decide +kernel
theorem d_MO_tell_47 : decode b_MO_tell 47 = .ok (.return_, 1) := by decide +kernel
theorem d_MO_thrown_0 : decode b_MO_thrown 0 = .ok (.aload_n 0, 1) := by decide +kernel
theorem d_MO_thrown_1 : decode b_MO_thrown 1 = .ok (.getfield 81, 3) := by decide +kernel
theorem d_MO_thrown_4 : decode b_MO_thrown 4 = .ok (.ireturn, 1) := by decide +kernel
theorem d_MO_times_0 : decode b_MO_times 0 = .ok (.aload_n 0, 1) := by decide +kernel
theorem d_MO_times_1 : decode b_MO_times 1 = .ok (.iconst 0, 1) := by decide +kernel
theorem d_MO_times_2 : decode b_MO_times 2 = .ok (.putfield 81, 3) := by decide +kernel
theorem d_MO_times_5 : decode b_MO_times 5 = .ok (.aload_n 0, 1) := by decide +kernel
theorem d_MO_times_6 : decode b_MO_times 6 = .ok (.getfield 146, 3) := by decide +kernel
theorem d_MO_times_9 : decode b_MO_times 9 = .ok (.ifCond .eq 26, 3) := by decide +kernel
theorem d_MO_times_35 : decode b_MO_times 35 = .ok (.iconst (-1), 1) := by decide +kernel
theorem d_MO_times_36 : decode b_MO_times 36 = .ok (.ireturn, 1) := by decide +kernel
theorem d_MO_work_0 : decode b_MO_work 0 = .ok (.aload_n 0, 1) := by decide +kernel
theorem d_MO_work_1 : decode b_MO_work 1 = .ok (.iload_n 1, 1) := by decide +kernel
theorem d_MO_work_2 : decode b_MO_work 2 = .ok (.ifCond .lt 28, 3) := by decide +kernel
theorem d_MO_work_5 : decode b_MO_work 5 = .ok (.iload_n 1, 1) := by decide +kernel
theorem d_MO_work_6 : decode b_MO_work 6 = .ok (.iconst 2, 1) := by decide +kernel
theorem d_MO_work_7 : decode b_MO_work 7 = .ok (.if_icmp .gt 23, 3) := by decide +kernel
theorem d_MO_work_10 : decode b_MO_work 10 = .ok (.iload_n 2, 1) := by decide +kernel
theorem d_MO_work_11 : decode b_MO_work 11 = .ok (.ifCond .lt 19, 3) := by decide +kernel
theorem d_MO_work_14 : decode b_MO_work 14 = .ok (.iload_n 2, 1) := by decide +kernel
theorem d_MO_work_15 : decode b_MO_work 15 = .ok (.iload_n 1, 1) := by decide +kernel
theorem d_MO_work_16 : decode b_MO_work 16 = .ok (.iconst 2, 1) := by decide +kernel
theorem d_MO_work_17 : decode b_MO_work 17 = .ok (.if_icmp .ne 8, 3) := by decide +kernel
theorem d_MO_work_20 : decode b_MO_work 20 = .ok (.bipush 10, 2) := by decide +kernel
theorem d_MO_work_22 : decode b_MO_work 22 = .ok (.goto 5, 3) := by decide +kernel
theorem d_MO_work_25 : decode b_MO_work 25 = .ok (.bipush 16, 2) := by decide +kernel
theorem d_MO_work_27 : decode b_MO_work 27 = .ok (.if_icmp .le 7, 3) := by decide +kernel
theorem d_MO_work_30 : decode b_MO_work 30 = .ok (.iconst 1, 1) := by decide +kernel
theorem d_MO_work_31 : decode b_MO_work 31 = .ok (.goto 15, 3) := by decide +kernel
theorem d_MO_work_34 : decode b_MO_work 34 = .ok (.aload_n 0, 1) := by decide +kernel
theorem d_MO_work_35 : decode b_MO_work 35 = .ok (.getfield 133, 3) := by decide +kernel
theorem d_MO_work_38 : decode b_MO_work 38 = .ok (.ifCond .eq 7, 3) := by decide +kernel
theorem d_MO_work_45 : decode b_MO_work 45 = .ok (.iconst 2, 1) := by decide +kernel
theorem d_MO_work_46 : decode b_MO_work 46 = .ok (.putfield 81, 3) := by decide +kernel
theorem d_MO_work_49 : decode b_MO_work 49 = .ok (.aload_n 0, 1) := by decide +kernel
theorem d_MO_work_50 : decode b_MO_work 50 = .ok (.getfield 81, 3) := by decide +kernel
theorem d_MO_work_53 : decode b_MO_work 53 = .ok (.ifCond .le 5, 3) := by decide +kernel
theorem d_MO_work_56 : decode b_MO_work 56 = .ok (.iconst 0, 1) := by decide +kernel
theorem d_MO_work_57 : decode b_MO_work 57 = .ok (.ireturn, 1) := by decide +kernel
