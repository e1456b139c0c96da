theorem k_909 : (Jvm.Cond.fieldLink "LeastSolutionsModel" (52 : Nat) "LeastSolutionsModel" "lists" "[B") ∈ wd := wd_t (List.mem_of_getElem? (i := 909) (by decide +kernel)) rfl
theorem k_913 : (Jvm.Cond.fieldLink "LeastSolutionsModel" (62 : Nat) "LeastSolutionsModel" "times" "[I") ∈ wd := wd_t (List.mem_of_getElem? (i := 913) (by decide +kernel)) rfl
theorem k_915 : (Jvm.Cond.fieldLink "LeastSolutionsModel" (65 : Nat) "LeastSolutionsModel" "bestOne" "[I") ∈ wd := wd_t (List.mem_of_getElem? (i := 915) (by decide +kernel)) rfl
theorem k_1130 : (Jvm.Cond.methodLink "LeastSolutionsModel" (198 : Nat) ({ cls := "LeastSolutionsModel", name := "solves", desc := "([IZ)Z" } : Jvm.MethodName)) ∈ wd := wd_t (List.mem_of_getElem? (i := 1130) (by decide +kernel)) rfl
theorem k_1132 : (Jvm.Cond.instanceMethod ({ cls := "LeastSolutionsModel", name := "solves", desc := "([IZ)Z" } : Jvm.MethodName)) ∈ wd := wd_t (List.mem_of_getElem? (i := 1132) (by decide +kernel)) rfl
theorem k_1133 : (Jvm.Cond.code ({ cls := "LeastSolutionsModel", name := "solves", desc := "([IZ)Z" } : Jvm.MethodName) prog_12_method_31_code (7 : Nat) (Option.some Jvm.ClassFile.FieldType.boolean)) ∈ wd := wd_t (List.mem_of_getElem? (i := 1133) (by decide +kernel)) rfl
theorem k_1162 : (Jvm.Cond.methodLink "LeastSolutionsModel" (227 : Nat) ({ cls := "LeastSolutionsModel", name := "isPlain", desc := "()Z" } : Jvm.MethodName)) ∈ wd := wd_t (List.mem_of_getElem? (i := 1162) (by decide +kernel)) rfl
theorem k_1164 : (Jvm.Cond.instanceMethod ({ cls := "LeastSolutionsModel", name := "isPlain", desc := "()Z" } : Jvm.MethodName)) ∈ wd := wd_t (List.mem_of_getElem? (i := 1164) (by decide +kernel)) rfl
theorem k_1165 : (Jvm.Cond.code ({ cls := "LeastSolutionsModel", name := "isPlain", desc := "()Z" } : Jvm.MethodName) prog_12_method_42_code (3 : Nat) (Option.some Jvm.ClassFile.FieldType.boolean)) ∈ wd := wd_t (List.mem_of_getElem? (i := 1165) (by decide +kernel)) rfl
abbrev y_MO_at : MethodName := ⟨"LeastSolutionsModel", "at", "(III)I"⟩
abbrev b_MO_at : ByteArray := prog_12_method_40_code
abbrev y_MO_bestAt : MethodName := ⟨"LeastSolutionsModel", "bestAt", "(I)I"⟩
abbrev b_MO_bestAt : ByteArray := prog_12_method_49_code
abbrev y_MO_cost : MethodName := ⟨"LeastSolutionsModel", "cost", "(II)V"⟩
abbrev b_MO_cost : ByteArray := prog_12_method_46_code
abbrev y_MO_count : MethodName := ⟨"LeastSolutionsModel", "count", "(I)I"⟩
abbrev b_MO_count : ByteArray := prog_12_method_14_code
abbrev y_MO_holds : MethodName := ⟨"LeastSolutionsModel", "holds", "()I"⟩
abbrev b_MO_holds : ByteArray := prog_12_method_43_code
abbrev y_MO_isPlain : MethodName := ⟨"LeastSolutionsModel", "isPlain", "()Z"⟩
abbrev b_MO_isPlain : ByteArray := prog_12_method_42_code
abbrev y_MO_letter : MethodName := ⟨"LeastSolutionsModel", "letter", "(I)I"⟩
abbrev b_MO_letter : ByteArray := prog_12_method_15_code
abbrev y_MO_number : MethodName := ⟨"LeastSolutionsModel", "number", "(II)I"⟩
abbrev b_MO_number : ByteArray := prog_12_method_17_code
abbrev y_MO_place : MethodName := ⟨"LeastSolutionsModel", "place", "()I"⟩
abbrev b_MO_place : ByteArray := prog_12_method_13_code
abbrev y_MO_solves : MethodName := ⟨"LeastSolutionsModel", "solves", "([IZ)Z"⟩
abbrev b_MO_solves : ByteArray := prog_12_method_31_code
abbrev y_MO_tell : MethodName := ⟨"LeastSolutionsModel", "tell", "(II)V"⟩
abbrev b_MO_tell : ByteArray := prog_12_method_41_code
abbrev y_MO_times : MethodName := ⟨"LeastSolutionsModel", "times", "(I)I"⟩
abbrev b_MO_times : ByteArray := prog_12_method_45_code
theorem ks_MO_isPlain : Cond.selects "LeastSolutionsModel" ({ cls := "LeastSolutionsModel", name := "isPlain", desc := "()Z" } : Jvm.MethodName) ({ cls := "LeastSolutionsModel", name := "isPlain", desc := "()Z" } : Jvm.MethodName) ∈ wd := wd_p (q := (⟨"LeastSolutionsModel", "isPlain", "()Z"⟩, 36)) (List.mem_of_getElem? (i := 61) (by decide +kernel))
theorem ks_MO_solves : Cond.selects "LeastSolutionsModel" ({ cls := "LeastSolutionsModel", name := "solves", desc := "([IZ)Z" } : Jvm.MethodName) ({ cls := "LeastSolutionsModel", name := "solves", desc := "([IZ)Z" } : Jvm.MethodName) ∈ wd := wd_p (q := (⟨"LeastSolutionsModel", "solves", "([IZ)Z"⟩, 36)) (List.mem_of_getElem? (i := 56) (by decide +kernel))
theorem d_MO_at_0 : decode b_MO_at 0 = .ok (.iload_n 1, 1) := by decide +kernel
theorem d_MO_at_1 : decode b_MO_at 1 = .ok (.ifCond .lt 43, 3) := by decide +kernel
theorem d_MO_at_4 : decode b_MO_at 4 = .ok (.iload_n 1, 1) := by decide +kernel
theorem d_MO_at_5 : decode b_MO_at 5 = .ok (.iconst 2, 1) := by decide +kernel
theorem d_MO_at_6 : decode b_MO_at 6 = .ok (.if_icmp .gt 38, 3) := by decide +kernel
theorem d_MO_at_9 : decode b_MO_at 9 = .ok (.aload_n 0, 1) := by decide +kernel
theorem d_MO_at_10 : decode b_MO_at 10 = .ok (.iload_n 3, 1) := by decide +kernel
theorem d_MO_at_11 : decode b_MO_at 11 = .ok (.invokevirtual 194, 3) := by decide +kernel
theorem d_MO_at_14 : decode b_MO_at 14 = .ok (.ifCond .eq 30, 3) := by decide +kernel
theorem d_MO_at_17 : decode b_MO_at 17 = .ok (.aload_n 0, 1) := by decide +kernel
theorem d_MO_at_18 : decode b_MO_at 18 = .ok (.getfield 41, 3) := by decide +kernel
theorem d_MO_at_21 : decode b_MO_at 21 = .ok (.iload_n 1, 1) := by decide +kernel
theorem d_MO_at_22 : decode b_MO_at 22 = .ok (.baload, 1) := by decide +kernel
theorem d_MO_at_23 : decode b_MO_at 23 = .ok (.ifCond .eq 21, 3) := by decide +kernel
theorem d_MO_at_26 : decode b_MO_at 26 = .ok (.iload_n 2, 1) := by decide +kernel
theorem d_MO_at_27 : decode b_MO_at 27 = .ok (.ifCond .lt 17, 3) := by decide +kernel
theorem d_MO_at_30 : decode b_MO_at 30 = .ok (.iload_n 2, 1) := by decide +kernel
theorem d_MO_at_31 : decode b_MO_at 31 = .ok (.aload_n 0, 1) := by decide +kernel
theorem d_MO_at_32 : decode b_MO_at 32 = .ok (.getfield 48, 3) := by decide +kernel
theorem d_MO_at_35 : decode b_MO_at 35 = .ok (.iload_n 1, 1) := by decide +kernel
theorem d_MO_at_36 : decode b_MO_at 36 = .ok (.iaload, 1) := by decide +kernel
theorem d_MO_at_37 : decode b_MO_at 37 = .ok (.if_icmp .ge 7, 3) := by decide +kernel
theorem d_MO_at_40 : decode b_MO_at 40 = .ok (.iconst 1, 1) := by decide +kernel
theorem d_MO_at_41 : decode b_MO_at 41 = .ok (.goto 4, 3) := by decide +kernel
theorem d_MO_at_44 : decode b_MO_at 44 = .ok (.iconst 0, 1) := by decide +kernel
theorem d_MO_at_45 : decode b_MO_at 45 = .ok (.istore 4, 2) := by decide +kernel
theorem d_MO_at_47 : decode b_MO_at 47 = .ok (.aload_n 0, 1) := by decide +kernel
theorem d_MO_at_48 : decode b_MO_at 48 = .ok (.iload 4, 2) := by decide +kernel
theorem d_MO_at_50 : decode b_MO_at 50 = .ok (.ifCond .eq 7, 3) := by decide +kernel
theorem d_MO_at_53 : decode b_MO_at 53 = .ok (.iconst 0, 1) := by decide +kernel
theorem d_MO_at_54 : decode b_MO_at 54 = .ok (.goto 4, 3) := by decide +kernel
theorem d_MO_at_57 : decode b_MO_at 57 = .ok (.iconst 1, 1) := by decide +kernel
theorem d_MO_at_58 : decode b_MO_at 58 = .ok (.putfield 81, 3) := by decide +kernel
theorem d_MO_at_61 : decode b_MO_at 61 = .ok (.iload 4, 2) := by decide +kernel
theorem d_MO_at_63 : decode b_MO_at 63 = .ok (.ifCond .eq 23, 3) := by decide +kernel
theorem d_MO_at_66 : decode b_MO_at 66 = .ok (.aload_n 0, 1) := by decide +kernel
theorem d_MO_at_67 : decode b_MO_at 67 = .ok (.getfield 52, 3) := by decide +kernel
theorem d_MO_at_70 : decode b_MO_at 70 = .ok (.sipush 12000, 3) := by decide +kernel
theorem d_MO_at_73 : decode b_MO_at 73 = .ok (.iload_n 1, 1) := by decide +kernel
theorem d_MO_at_74 : decode b_MO_at 74 = .ok (.imul, 1) := by decide +kernel
theorem d_MO_at_75 : decode b_MO_at 75 = .ok (.bipush 6, 2) := by decide +kernel
theorem d_MO_at_77 : decode b_MO_at 77 = .ok (.iload_n 2, 1) := by decide +kernel
theorem d_MO_at_78 : decode b_MO_at 78 = .ok (.imul, 1) := by decide +kernel
theorem d_MO_at_79 : decode b_MO_at 79 = .ok (.iadd, 1) := by decide +kernel
theorem d_MO_at_80 : decode b_MO_at 80 = .ok (.iload_n 3, 1) := by decide +kernel
theorem d_MO_at_81 : decode b_MO_at 81 = .ok (.iadd, 1) := by decide +kernel
theorem d_MO_at_82 : decode b_MO_at 82 = .ok (.baload, 1) := by decide +kernel
theorem d_MO_at_83 : decode b_MO_at 83 = .ok (.goto 4, 3) := by decide +kernel
theorem d_MO_at_86 : decode b_MO_at 86 = .ok (.iconst 0, 1) := by decide +kernel
theorem d_MO_at_87 : decode b_MO_at 87 = .ok (.ireturn, 1) := by decide +kernel
theorem d_MO_bestAt_0 : decode b_MO_bestAt 0 = .ok (.aload_n 0, 1) := by decide +kernel
theorem d_MO_bestAt_1 : decode b_MO_bestAt 1 = .ok (.iconst 0, 1) := by decide +kernel
theorem d_MO_bestAt_2 : decode b_MO_bestAt 2 = .ok (.putfield 81, 3) := by decide +kernel
theorem d_MO_bestAt_5 : decode b_MO_bestAt 5 = .ok (.aload_n 0, 1) := by decide +kernel
theorem d_MO_bestAt_6 : decode b_MO_bestAt 6 = .ok (.getfield 149, 3) := by decide +kernel
theorem d_MO_bestAt_9 : decode b_MO_bestAt 9 = .ok (.ifCond .eq 20, 3) := by decide +kernel
theorem d_MO_bestAt_12 : decode b_MO_bestAt 12 = .ok (.aload_n 0, 1) := by decide +kernel
theorem d_MO_bestAt_13 : decode b_MO_bestAt 13 = .ok (.iload_n 1, 1) := by decide +kernel
theorem d_MO_bestAt_14 : decode b_MO_bestAt 14 = .ok (.invokevirtual 194, 3) := by decide +kernel
theorem d_MO_bestAt_17 : decode b_MO_bestAt 17 = .ok (.ifCond .eq 12, 3) := by decide +kernel
theorem d_MO_bestAt_20 : decode b_MO_bestAt 20 = .ok (.aload_n 0, 1) := by decide +kernel
theorem d_MO_bestAt_21 : decode b_MO_bestAt 21 = .ok (.getfield 65, 3) := by decide +kernel
theorem d_MO_bestAt_24 : decode b_MO_bestAt 24 = .ok (.iload_n 1, 1) := by decide +kernel
theorem d_MO_bestAt_25 : decode b_MO_bestAt 25 = .ok (.iaload, 1) := by decide +kernel
theorem d_MO_bestAt_26 : decode b_MO_bestAt 26 = .ok (.goto 4, 3) := by decide +kernel
theorem d_MO_bestAt_29 : decode b_MO_bestAt 29 = .ok (.iconst (-1), 1) := by decide +kernel
theorem d_MO_bestAt_30 : decode b_MO_bestAt 30 = .ok (.ireturn, 1) := by decide +kernel
theorem d_MO_cost_0 : decode b_MO_cost 0 = .ok (.aload_n 0, 1) := by decide +kernel
theorem d_MO_cost_1 : decode b_MO_cost 1 = .ok (.aload_n 0, 1) := by decide +kernel
theorem d_MO_cost_2 : decode b_MO_cost 2 = .ok (.iload_n 1, 1) := by decide +kernel
theorem d_MO_cost_3 : decode b_MO_cost 3 = .ok (.invokevirtual 194, 3) := by decide +kernel
theorem d_MO_cost_6 : decode b_MO_cost 6 = .ok (.ifCond .ne 7, 3) := by decide +kernel
theorem d_MO_cost_9 : decode b_MO_cost 9 = .ok (.iconst 1, 1) := by decide +kernel
theorem d_MO_cost_10 : decode b_MO_cost 10 = .ok (.goto 20, 3) := by decide +kernel
theorem d_MO_cost_13 : decode b_MO_cost 13 = .ok (.iload_n 2, 1) := by decide +kernel
theorem d_MO_cost_14 : decode b_MO_cost 14 = .ok (.bipush (-99), 2) := by decide +kernel
theorem d_MO_cost_16 : decode b_MO_cost 16 = .ok (.if_icmp .lt 9, 3) := by decide +kernel
theorem d_MO_cost_19 : decode b_MO_cost 19 = .ok (.iload_n 2, 1) := by decide +kernel
theorem d_MO_cost_20 : decode b_MO_cost 20 = .ok (.bipush 99, 2) := by decide +kernel
theorem d_MO_cost_22 : decode b_MO_cost 22 = .ok (.if_icmp .le 7, 3) := by decide +kernel
theorem d_MO_cost_25 : decode b_MO_cost 25 = .ok (.iconst 2, 1) := by decide +kernel
theorem d_MO_cost_26 : decode b_MO_cost 26 = .ok (.goto 4, 3) := by decide +kernel
theorem d_MO_cost_29 : decode b_MO_cost 29 = .ok (.iconst 0, 1) := by decide +kernel
theorem d_MO_cost_30 : decode b_MO_cost 30 = .ok (.putfield 81, 3) := by decide +kernel
theorem d_MO_cost_33 : decode b_MO_cost 33 = .ok (.aload_n 0, 1) := by decide +kernel
theorem d_MO_cost_34 : decode b_MO_cost 34 = .ok (.getfield 81, 3) := by decide +kernel
theorem d_MO_cost_37 : decode b_MO_cost 37 = .ok (.ifCond .ne 10, 3) := by decide +kernel
theorem d_MO_cost_40 : decode b_MO_cost 40 = .ok (.aload_n 0, 1) := by decide +kernel
theorem d_MO_cost_41 : decode b_MO_cost 41 = .ok (.getfield 59, 3) := by decide +kernel
theorem d_MO_cost_44 : decode b_MO_cost 44 = .ok (.iload_n 1, 1) := by decide +kernel
theorem d_MO_cost_45 : decode b_MO_cost 45 = .ok (.iload_n 2, 1) := by decide +kernel
theorem d_MO_cost_46 : decode b_MO_cost 46 = .ok (.iastore, 1) := by decide +kernel
theorem d_MO_cost_47 : decode b_MO_cost 47 = .ok (.return_, 1) := by decide +kernel
theorem d_MO_count_0 : decode b_MO_count 0 = .ok (.aload_n 0, 1) := by decide +kernel
theorem d_MO_count_1 : decode b_MO_count 1 = .ok (.iconst 0, 1) := by decide +kernel
theorem d_MO_count_2 : decode b_MO_count 2 = .ok (.putfield 81, 3) := by decide +kernel
theorem d_MO_count_5 : decode b_MO_count 5 = .ok (.aload_n 0, 1) := by decide +kernel
theorem d_MO_count_6 : decode b_MO_count 6 = .ok (.getfield 133, 3) := by decide +kernel
theorem d_MO_count_9 : decode b_MO_count 9 = .ok (.ifCond .ne 7, 3) := by decide +kernel
theorem d_MO_count_12 : decode b_MO_count 12 = .ok (.iconst (-1), 1) := by decide +kernel
theorem d_MO_count_13 : decode b_MO_count 13 = .ok (.goto 39, 3) := by decide +kernel
theorem d_MO_count_16 : decode b_MO_count 16 = .ok (.iload_n 1, 1) := by decide +kernel
theorem d_MO_count_17 : decode b_MO_count 17 = .ok (.ifCond .ne 10, 3) := by decide +kernel
theorem d_MO_count_20 : decode b_MO_count 20 = .ok (.aload_n 0, 1) := by decide +kernel
theorem d_MO_count_21 : decode b_MO_count 21 = .ok (.getfield 137, 3) := by decide +kernel
theorem d_MO_count_24 : decode b_MO_count 24 = .ok (.goto 28, 3) := by decide +kernel
theorem d_MO_count_27 : decode b_MO_count 27 = .ok (.iload_n 1, 1) := by decide +kernel
theorem d_MO_count_28 : decode b_MO_count 28 = .ok (.iconst 1, 1) := by decide +kernel
theorem d_MO_count_29 : decode b_MO_count 29 = .ok (.if_icmp .ne 10, 3) := by decide +kernel
theorem d_MO_count_32 : decode b_MO_count 32 = .ok (.aload_n 0, 1) := by decide +kernel
theorem d_MO_count_33 : decode b_MO_count 33 = .ok (.getfield 143, 3) := by decide +kernel
theorem d_MO_count_36 : decode b_MO_count 36 = .ok (.goto 16, 3) := by decide +kernel
theorem d_MO_count_39 : decode b_MO_count 39 = .ok (.iload_n 1, 1) := by decide +kernel
theorem d_MO_count_40 : decode b_MO_count 40 = .ok (.iconst 2, 1) := by decide +kernel
theorem d_MO_count_41 : decode b_MO_count 41 = .ok (.if_icmp .ne 10, 3) := by decide +kernel
theorem d_MO_count_44 : decode b_MO_count 44 = .ok (.aload_n 0, 1) := by decide +kernel
theorem d_MO_count_45 : decode b_MO_count 45 = .ok (.getfield 140, 3) := by decide +kernel
theorem d_MO_count_48 : decode b_MO_count 48 = .ok (.goto 4, 3) := by decide +kernel
theorem d_MO_count_51 : decode b_MO_count 51 = .ok (.iconst (-1), 1) := by decide +kernel
theorem d_MO_count_52 : decode b_MO_count 52 = .ok (.ireturn, 1) := by decide +kernel
theorem d_MO_holds_0 : decode b_MO_holds 0 = .ok (.aload_n 0, 1) := by decide +kernel
theorem d_MO_holds_1 : decode b_MO_holds 1 = .ok (.aload_n 0, 1) := by decide +kernel
theorem d_MO_holds_2 : decode b_MO_holds 2 = .ok (.getfield 133, 3) := by decide +kernel
theorem d_MO_holds_5 : decode b_MO_holds 5 = .ok (.ifCond .eq 7, 3) := by decide +kernel
theorem d_MO_holds_8 : decode b_MO_holds 8 = .ok (.iconst 0, 1) := by decide +kernel
theorem d_MO_holds_9 : decode b_MO_holds 9 = .ok (.goto 4, 3) := by decide +kernel
theorem d_MO_holds_12 : decode b_MO_holds 12 = .ok (.iconst 1, 1) := by decide +kernel
theorem d_MO_holds_13 : decode b_MO_holds 13 = .ok (.putfield 81, 3) := by decide +kernel
theorem d_MO_holds_16 : decode b_MO_holds 16 = .ok (.aload_n 0, 1) := by decide +kernel
theorem d_MO_holds_17 : decode b_MO_holds 17 = .ok (.getfield 81, 3) := by decide +kernel
theorem d_MO_holds_20 : decode b_MO_holds 20 = .ok (.ifCond .le 7, 3) := by decide +kernel
theorem d_MO_holds_23 : decode b_MO_holds 23 = .ok (.iconst 0, 1) := by decide +kernel
theorem d_MO_holds_24 : decode b_MO_holds 24 = .ok (.goto 51, 3) := by decide +kernel
theorem d_MO_holds_27 : decode b_MO_holds 27 = .ok (.aload_n 0, 1) := by decide +kernel
theorem d_MO_holds_28 : decode b_MO_holds 28 = .ok (.aload_n 0, 1) := by decide +kernel
theorem d_MO_holds_29 : decode b_MO_holds 29 = .ok (.getfield 56, 3) := by decide +kernel
theorem d_MO_holds_32 : decode b_MO_holds 32 = .ok (.iconst 1, 1) := by decide +kernel
theorem d_MO_holds_33 : decode b_MO_holds 33 = .ok (.invokevirtual 198, 3) := by decide +kernel
theorem d_MO_holds_36 : decode b_MO_holds 36 = .ok (.ifCond .eq 7, 3) := by decide +kernel
theorem d_MO_holds_39 : decode b_MO_holds 39 = .ok (.iconst 1, 1) := by decide +kernel
theorem d_MO_holds_40 : decode b_MO_holds 40 = .ok (.goto 4, 3) := by decide +kernel
theorem d_MO_holds_43 : decode b_MO_holds 43 = .ok (.iconst 0, 1) := by decide +kernel
theorem d_MO_holds_44 : decode b_MO_holds 44 = .ok (.aload_n 0, 1) := by decide +kernel
theorem d_MO_holds_45 : decode b_MO_holds 45 = .ok (.aload_n 0, 1) := by decide +kernel
theorem d_MO_holds_46 : decode b_MO_holds 46 = .ok (.getfield 56, 3) := by decide +kernel
theorem d_MO_holds_49 : decode b_MO_holds 49 = .ok (.iconst 0, 1) := by decide +kernel
theorem d_MO_holds_50 : decode b_MO_holds 50 = .ok (.invokevirtual 198, 3) := by decide +kernel
theorem d_MO_holds_53 : decode b_MO_holds 53 = .ok (.ifCond .eq 7, 3) := by decide +kernel
theorem d_MO_holds_56 : decode b_MO_holds 56 = .ok (.iconst 2, 1) := by decide +kernel
theorem d_MO_holds_57 : decode b_MO_holds 57 = .ok (.goto 4, 3) := by decide +kernel
theorem d_MO_holds_60 : decode b_MO_holds 60 = .ok (.iconst 0, 1) := by decide +kernel
theorem d_MO_holds_61 : decode b_MO_holds 61 = .ok (.iadd, 1) := by decide +kernel
theorem d_MO_holds_62 : decode b_MO_holds 62 = .ok (.aload_n 0, 1) := by decide +kernel
theorem d_MO_holds_63 : decode b_MO_holds 63 = .ok (.invokevirtual 227, 3) := by decide +kernel
theorem d_MO_holds_66 : decode b_MO_holds 66 = .ok (.ifCond .eq 7, 3) := by decide +kernel
theorem d_MO_holds_69 : decode b_MO_holds 69 = .ok (.iconst 4, 1) := by decide +kernel
theorem d_MO_holds_70 : decode b_MO_holds 70 = .ok (.goto 4, 3) := by decide +kernel
theorem d_MO_holds_73 : decode b_MO_holds 73 = .ok (.iconst 0, 1) := by decide +kernel
theorem d_MO_holds_74 : decode b_MO_holds 74 = .ok (.iadd, 1) := by decide +kernel
theorem d_MO_holds_75 : decode b_MO_holds 75 = .ok (.ireturn, 1) := by decide +kernel
theorem d_MO_isPlain_0 : decode b_MO_isPlain 0 = .ok (.iconst 1, 1) := by decide +kernel
theorem d_MO_isPlain_1 : decode b_MO_isPlain 1 = .ok (.istore_n 1, 1) := by decide +kernel
theorem d_MO_isPlain_2 : decode b_MO_isPlain 2 = .ok (.iconst 0, 1) := by decide +kernel
theorem d_MO_isPlain_3 : decode b_MO_isPlain 3 = .ok (.istore_n 2, 1) := by decide +kernel
theorem d_MO_isPlain_4 : decode b_MO_isPlain 4 = .ok (.iload_n 2, 1) := by decide +kernel
theorem d_MO_isPlain_5 : decode b_MO_isPlain 5 = .ok (.aload_n 0, 1) := by decide +kernel
theorem d_MO_isPlain_6 : decode b_MO_isPlain 6 = .ok (.getfield 143, 3) := by decide +kernel
theorem d_MO_isPlain_9 : decode b_MO_isPlain 9 = .ok (.if_icmp .ge 28, 3) := by decide +kernel
theorem d_MO_isPlain_12 : decode b_MO_isPlain 12 = .ok (.iload_n 1, 1) := by decide +kernel
theorem d_MO_isPlain_13 : decode b_MO_isPlain 13 = .ok (.ifCond .eq 16, 3) := by decide +kernel
theorem d_MO_isPlain_16 : decode b_MO_isPlain 16 = .ok (.aload_n 0, 1) := by decide +kernel
theorem d_MO_isPlain_17 : decode b_MO_isPlain 17 = .ok (.getfield 56, 3) := by decide +kernel
theorem d_MO_isPlain_20 : decode b_MO_isPlain 20 = .ok (.iload_n 2, 1) := by decide +kernel
theorem d_MO_isPlain_21 : decode b_MO_isPlain 21 = .ok (.iaload, 1) := by decide +kernel
theorem d_MO_isPlain_22 : decode b_MO_isPlain 22 = .ok (.ifCond .lt 7, 3) := by decide +kernel
theorem d_MO_isPlain_25 : decode b_MO_isPlain 25 = .ok (.iconst 1, 1) := by decide +kernel
theorem d_MO_isPlain_26 : decode b_MO_isPlain 26 = .ok (.goto 4, 3) := by decide +kernel
theorem d_MO_isPlain_29 : decode b_MO_isPlain 29 = .ok (.iconst 0, 1) := by decide +kernel
theorem d_MO_isPlain_30 : decode b_MO_isPlain 30 = .ok (.istore_n 1, 1) := by decide +kernel
theorem d_MO_isPlain_31 : decode b_MO_isPlain 31 = .ok (.iinc 2 1, 3) := by decide +kernel
theorem d_MO_isPlain_34 : decode b_MO_isPlain 34 = .ok (.goto (-30), 3) := by decide +kernel
theorem d_MO_isPlain_37 : decode b_MO_isPlain 37 = .ok (.iload_n 1, 1) := by decide +kernel
theorem d_MO_isPlain_38 : decode b_MO_isPlain 38 = .ok (.ireturn, 1) := by decide +kernel
theorem d_MO_letter_0 : decode b_MO_letter 0 = .ok (.aload_n 0, 1) := by decide +kernel
theorem d_MO_letter_1 : decode b_MO_letter 1 = .ok (.iconst 0, 1) := by decide +kernel
theorem d_MO_letter_2 : decode b_MO_letter 2 = .ok (.putfield 81, 3) := by decide +kernel
theorem d_MO_letter_5 : decode b_MO_letter 5 = .ok (.aload_n 0, 1) := by decide +kernel
theorem d_MO_letter_6 : decode b_MO_letter 6 = .ok (.getfield 133, 3) := by decide +kernel
theorem d_MO_letter_9 : decode b_MO_letter 9 = .ok (.ifCond .eq 24, 3) := by decide +kernel
theorem d_MO_letter_12 : decode b_MO_letter 12 = .ok (.iload_n 1, 1) := by decide +kernel
theorem d_MO_letter_13 : decode b_MO_letter 13 = .ok (.ifCond .lt 20, 3) := by decide +kernel
theorem d_MO_letter_16 : decode b_MO_letter 16 = .ok (.iload_n 1, 1) := by decide +kernel
theorem d_MO_letter_17 : decode b_MO_letter 17 = .ok (.aload_n 0, 1) := by decide +kernel
theorem d_MO_letter_18 : decode b_MO_letter 18 = .ok (.getfield 140, 3) := by decide +kernel
theorem d_MO_letter_21 : decode b_MO_letter 21 = .ok (.if_icmp .ge 12, 3) := by decide +kernel
theorem d_MO_letter_24 : decode b_MO_letter 24 = .ok (.aload_n 0, 1) := by decide +kernel
theorem d_MO_letter_25 : decode b_MO_letter 25 = .ok (.getfield 35, 3) := by decide +kernel
theorem d_MO_letter_28 : decode b_MO_letter 28 = .ok (.iload_n 1, 1) := by decide +kernel
theorem d_MO_letter_29 : decode b_MO_letter 29 = .ok (.iaload, 1) := by decide +kernel
theorem d_MO_letter_30 : decode b_MO_letter 30 = .ok (.goto 4, 3) := by decide +kernel
theorem d_MO_letter_33 : decode b_MO_letter 33 = .ok (.iconst (-1), 1) := by decide +kernel
theorem d_MO_letter_34 : decode b_MO_letter 34 = .ok (.ireturn, 1) := by decide +kernel
theorem d_MO_number_0 : decode b_MO_number 0 = .ok (.aload_n 0, 1) := by decide +kernel
theorem d_MO_number_1 : decode b_MO_number 1 = .ok (.aload_n 0, 1) := by decide +kernel
theorem d_MO_number_2 : decode b_MO_number 2 = .ok (.getfield 133, 3) := by decide +kernel
theorem d_MO_number_5 : decode b_MO_number 5 = .ok (.ifCond .eq 31, 3) := by decide +kernel
theorem d_MO_number_8 : decode b_MO_number 8 = .ok (.iload_n 1, 1) := by decide +kernel
theorem d_MO_number_9 : decode b_MO_number 9 = .ok (.ifCond .lt 27, 3) := by decide +kernel
theorem d_MO_number_12 : decode b_MO_number 12 = .ok (.iload_n 1, 1) := by decide +kernel
theorem d_MO_number_13 : decode b_MO_number 13 = .ok (.aload_n 0, 1) := by decide +kernel
theorem d_MO_number_14 : decode b_MO_number 14 = .ok (.getfield 137, 3) := by decide +kernel
theorem d_MO_number_17 : decode b_MO_number 17 = .ok (.if_icmp .ge 19, 3) := by decide +kernel
theorem d_MO_number_20 : decode b_MO_number 20 = .ok (.iload_n 2, 1) := by decide +kernel
theorem d_MO_number_21 : decode b_MO_number 21 = .ok (.ifCond .lt 15, 3) := by decide +kernel
theorem d_MO_number_24 : decode b_MO_number 24 = .ok (.iload_n 2, 1) := by decide +kernel
theorem d_MO_number_25 : decode b_MO_number 25 = .ok (.aload_n 0, 1) := by decide +kernel
theorem d_MO_number_26 : decode b_MO_number 26 = .ok (.getfield 143, 3) := by decide +kernel
theorem d_MO_number_29 : decode b_MO_number 29 = .ok (.if_icmp .gt 7, 3) := by decide +kernel
theorem d_MO_number_32 : decode b_MO_number 32 = .ok (.iconst 0, 1) := by decide +kernel
theorem d_MO_number_33 : decode b_MO_number 33 = .ok (.goto 4, 3) := by decide +kernel
theorem d_MO_number_36 : decode b_MO_number 36 = .ok (.iconst 1, 1) := by decide +kernel
theorem d_MO_number_37 : decode b_MO_number 37 = .ok (.putfield 81, 3) := by decide +kernel
theorem d_MO_number_40 : decode b_MO_number 40 = .ok (.aload_n 0, 1) := by decide +kernel
theorem d_MO_number_41 : decode b_MO_number 41 = .ok (.getfield 81, 3) := by decide +kernel
theorem d_MO_number_44 : decode b_MO_number 44 = .ok (.ifCond .ne 17, 3) := by decide +kernel
theorem d_MO_number_47 : decode b_MO_number 47 = .ok (.aload_n 0, 1) := by decide +kernel
theorem d_MO_number_48 : decode b_MO_number 48 = .ok (.getfield 38, 3) := by decide +kernel
theorem d_MO_number_51 : decode b_MO_number 51 = .ok (.bipush 7, 2) := by decide +kernel
theorem d_MO_number_53 : decode b_MO_number 53 = .ok (.iload_n 1, 1) := by decide +kernel
theorem d_MO_number_54 : decode b_MO_number 54 = .ok (.imul, 1) := by decide +kernel
theorem d_MO_number_55 : decode b_MO_number 55 = .ok (.iload_n 2, 1) := by decide +kernel
theorem d_MO_number_56 : decode b_MO_number 56 = .ok (.iadd, 1) := by decide +kernel
theorem d_MO_number_57 : decode b_MO_number 57 = .ok (.iaload, 1) := by decide +kernel
theorem d_MO_number_58 : decode b_MO_number 58 = .ok (.goto 4, 3) := by decide +kernel
theorem d_MO_number_61 : decode b_MO_number 61 = .ok (.iconst 0, 1) := by decide +kernel
theorem d_MO_number_62 : decode b_MO_number 62 = .ok (.ireturn, 1) := by decide +kernel
theorem d_MO_place_0 : decode b_MO_place 0 = .ok (.aload_n 0, 1) := by decide +kernel
theorem d_MO_place_1 : decode b_MO_place 1 = .ok (.iconst 0, 1) := by decide +kernel
theorem d_MO_place_2 : decode b_MO_place 2 = .ok (.putfield 81, 3) := by decide +kernel
theorem d_MO_place_5 : decode b_MO_place 5 = .ok (.aload_n 0, 1) := by decide +kernel
theorem d_MO_place_6 : decode b_MO_place 6 = .ok (.getfield 13, 3) := by decide +kernel
theorem d_MO_place_9 : decode b_MO_place 9 = .ok (.ireturn, 1) := by decide +kernel
theorem d_MO_solves_0 : decode b_MO_solves 0 = .ok (.iconst 1, 1) := by decide +kernel
theorem d_MO_solves_1 : decode b_MO_solves 1 = .ok (.istore_n 3, 1) := by decide +kernel
theorem d_MO_solves_2 : decode b_MO_solves 2 = .ok (.iconst 0, 1) := by decide +kernel
theorem d_MO_solves_3 : decode b_MO_solves 3 = .ok (.istore 4, 2) := by decide +kernel
theorem d_MO_solves_5 : decode b_MO_solves 5 = .ok (.iload 4, 2) := by decide +kernel
theorem d_MO_solves_7 : decode b_MO_solves 7 = .ok (.aload_n 0, 1) := by decide +kernel
theorem d_MO_solves_8 : decode b_MO_solves 8 = .ok (.getfield 137, 3) := by decide +kernel
theorem d_MO_solves_11 : decode b_MO_solves 11 = .ok (.if_icmp .ge 91, 3) := by decide +kernel
theorem d_MO_solves_14 : decode b_MO_solves 14 = .ok (.iload_n 3, 1) := by decide +kernel
theorem d_MO_solves_15 : decode b_MO_solves 15 = .ok (.ifCond .eq 87, 3) := by decide +kernel
theorem d_MO_solves_18 : decode b_MO_solves 18 = .ok (.iconst 0, 1) := by decide +kernel
theorem d_MO_solves_19 : decode b_MO_solves 19 = .ok (.istore 5, 2) := by decide +kernel
theorem d_MO_solves_21 : decode b_MO_solves 21 = .ok (.iconst 0, 1) := by decide +kernel
theorem d_MO_solves_22 : decode b_MO_solves 22 = .ok (.istore 6, 2) := by decide +kernel
theorem d_MO_solves_24 : decode b_MO_solves 24 = .ok (.iload 6, 2) := by decide +kernel
theorem d_MO_solves_26 : decode b_MO_solves 26 = .ok (.aload_n 0, 1) := by decide +kernel
theorem d_MO_solves_27 : decode b_MO_solves 27 = .ok (.getfield 143, 3) := by decide +kernel
theorem d_MO_solves_30 : decode b_MO_solves 30 = .ok (.if_icmp .ge 32, 3) := by decide +kernel
theorem d_MO_solves_33 : decode b_MO_solves 33 = .ok (.iload 5, 2) := by decide +kernel
theorem d_MO_solves_35 : decode b_MO_solves 35 = .ok (.aload_n 0, 1) := by decide +kernel
theorem d_MO_solves_36 : decode b_MO_solves 36 = .ok (.getfield 38, 3) := by decide +kernel
theorem d_MO_solves_39 : decode b_MO_solves 39 = .ok (.bipush 7, 2) := by decide +kernel
theorem d_MO_solves_41 : decode b_MO_solves 41 = .ok (.iload 4, 2) := by decide +kernel
theorem d_MO_solves_43 : decode b_MO_solves 43 = .ok (.imul, 1) := by decide +kernel
theorem d_MO_solves_44 : decode b_MO_solves 44 = .ok (.iload 6, 2) := by decide +kernel
theorem d_MO_solves_46 : decode b_MO_solves 46 = .ok (.iadd, 1) := by decide +kernel
theorem d_MO_solves_47 : decode b_MO_solves 47 = .ok (.iaload, 1) := by decide +kernel
theorem d_MO_solves_48 : decode b_MO_solves 48 = .ok (.aload_n 1, 1) := by decide +kernel
theorem d_MO_solves_49 : decode b_MO_solves 49 = .ok (.iload 6, 2) := by decide +kernel
theorem d_MO_solves_51 : decode b_MO_solves 51 = .ok (.iaload, 1) := by decide +kernel
theorem d_MO_solves_52 : decode b_MO_solves 52 = .ok (.imul, 1) := by decide +kernel
theorem d_MO_solves_53 : decode b_MO_solves 53 = .ok (.iadd, 1) := by decide +kernel
theorem d_MO_solves_54 : decode b_MO_solves 54 = .ok (.istore 5, 2) := by decide +kernel
theorem d_MO_solves_56 : decode b_MO_solves 56 = .ok (.iinc 6 1, 3) := by decide +kernel
theorem d_MO_solves_59 : decode b_MO_solves 59 = .ok (.goto (-35), 3) := by decide +kernel
theorem d_MO_solves_62 : decode b_MO_solves 62 = .ok (.iload 5, 2) := by decide +kernel
theorem d_MO_solves_64 : decode b_MO_solves 64 = .ok (.iload_n 2, 1) := by decide +kernel
theorem d_MO_solves_65 : decode b_MO_solves 65 = .ok (.ifCond .eq 21, 3) := by decide +kernel
theorem d_MO_solves_68 : decode b_MO_solves 68 = .ok (.aload_n 0, 1) := by decide +kernel
theorem d_MO_solves_69 : decode b_MO_solves 69 = .ok (.getfield 38, 3) := by decide +kernel
theorem d_MO_solves_72 : decode b_MO_solves 72 = .ok (.bipush 7, 2) := by decide +kernel
theorem d_MO_solves_74 : decode b_MO_solves 74 = .ok (.iload 4, 2) := by decide +kernel
theorem d_MO_solves_76 : decode b_MO_solves 76 = .ok (.imul, 1) := by decide +kernel
theorem d_MO_solves_77 : decode b_MO_solves 77 = .ok (.aload_n 0, 1) := by decide +kernel
theorem d_MO_solves_78 : decode b_MO_solves 78 = .ok (.getfield 143, 3) := by decide +kernel
theorem d_MO_solves_81 : decode b_MO_solves 81 = .ok (.iadd, 1) := by decide +kernel
theorem d_MO_solves_82 : decode b_MO_solves 82 = .ok (.iaload, 1) := by decide +kernel
theorem d_MO_solves_83 : decode b_MO_solves 83 = .ok (.goto 4, 3) := by decide +kernel
theorem d_MO_solves_86 : decode b_MO_solves 86 = .ok (.iconst 0, 1) := by decide +kernel
theorem d_MO_solves_87 : decode b_MO_solves 87 = .ok (.if_icmp .ne 7, 3) := by decide +kernel
theorem d_MO_solves_90 : decode b_MO_solves 90 = .ok (.iconst 1, 1) := by decide +kernel
theorem d_MO_solves_91 : decode b_MO_solves 91 = .ok (.goto 4, 3) := by decide +kernel
theorem d_MO_solves_94 : decode b_MO_solves 94 = .ok (.iconst 0, 1) := by decide +kernel
theorem d_MO_solves_95 : decode b_MO_solves 95 = .ok (.istore_n 3, 1) := by decide +kernel
theorem d_MO_solves_96 : decode b_MO_solves 96 = .ok (.iinc 4 1, 3) := by decide +kernel
theorem d_MO_solves_99 : decode b_MO_solves 99 = .ok (.goto (-94), 3) := by decide +kernel
theorem d_MO_solves_102 : decode b_MO_solves 102 = .ok (.iload_n 3, 1) := by decide +kernel
theorem d_MO_solves_103 : decode b_MO_solves 103 = .ok (.ireturn, 1) := by decide +kernel
theorem d_MO_tell_0 : decode b_MO_tell 0 = .ok (.aload_n 0, 1) := by decide +kernel
theorem d_MO_tell_1 : decode b_MO_tell 1 = .ok (.aload_n 0, 1) := by decide +kernel
theorem d_MO_tell_2 : decode b_MO_tell 2 = .ok (.iload_n 1, 1) := by decide +kernel
theorem d_MO_tell_3 : decode b_MO_tell 3 = .ok (.invokevirtual 194, 3) := by decide +kernel
theorem d_MO_tell_6 : decode b_MO_tell 6 = .ok (.ifCond .ne 7, 3) := by decide +kernel
theorem d_MO_tell_9 : decode b_MO_tell 9 = .ok (.iconst 1, 1) := by decide +kernel
theorem d_MO_tell_10 : decode b_MO_tell 10 = .ok (.goto 20, 3) := by decide +kernel
theorem d_MO_tell_13 : decode b_MO_tell 13 = .ok (.iload_n 2, 1) := by decide +kernel
theorem d_MO_tell_14 : decode b_MO_tell 14 = .ok (.bipush (-99), 2) := by decide +kernel
theorem d_MO_tell_16 : decode b_MO_tell 16 = .ok (.if_icmp .lt 9, 3) := by decide +kernel
theorem d_MO_tell_19 : decode b_MO_tell 19 = .ok (.iload_n 2, 1) := by decide +kernel
theorem d_MO_tell_20 : decode b_MO_tell 20 = .ok (.bipush 99, 2) := by decide +kernel
theorem d_MO_tell_22 : decode b_MO_tell 22 = .ok (.if_icmp .le 7, 3) := by decide +kernel
theorem d_MO_tell_25 : decode b_MO_tell 25 = .ok (.iconst 2, 1) := by decide +kernel
theorem d_MO_tell_26 : decode b_MO_tell 26 = .ok (.goto 4, 3) := by decide +kernel
theorem d_MO_tell_29 : decode b_MO_tell 29 = .ok (.iconst 0, 1) := by decide +kernel
theorem d_MO_tell_30 : decode b_MO_tell 30 = .ok (.putfield 81, 3) := by decide +kernel
theorem d_MO_tell_33 : decode b_MO_tell 33 = .ok (.aload_n 0, 1) := by decide +kernel
theorem d_MO_tell_34 : decode b_MO_tell 34 = .ok (.getfield 81, 3) := by decide +kernel
theorem d_MO_tell_37 : decode b_MO_tell 37 = .ok (.ifCond .ne 10, 3) := by decide +kernel
theorem d_MO_tell_40 : decode b_MO_tell 40 = .ok (.aload_n 0, 1) := by decide +kernel
theorem d_MO_tell_41 : decode b_MO_tell 41 = .ok (.getfield 56, 3) := by decide +kernel
theorem d_MO_tell_44 : decode b_MO_tell 44 = .ok (.iload_n 1, 1) := by decide +kernel
theorem d_MO_tell_45 : decode b_MO_tell 45 = .ok (.iload_n 2, 1) := by decide +kernel
theorem d_MO_tell_46 : decode b_MO_tell 46 = .ok (.iastore, 1) := by decide +kernel
theorem d_MO_tell_47 : decode b_MO_tell 47 = .ok (.return_, 1) := by decide +kernel
theorem d_MO_times_0 : decode b_MO_times 0 = .ok (.aload_n 0, 1) := by decide +kernel
theorem d_MO_times_1 : decode b_MO_times 1 = .ok (.iconst 0, 1) := by decide +kernel
theorem d_MO_times_2 : decode b_MO_times 2 = .ok (.putfield 81, 3) := by decide +kernel
theorem d_MO_times_5 : decode b_MO_times 5 = .ok (.aload_n 0, 1) := by decide +kernel
theorem d_MO_times_6 : decode b_MO_times 6 = .ok (.getfield 146, 3) := by decide +kernel
theorem d_MO_times_9 : decode b_MO_times 9 = .ok (.ifCond .eq 26, 3) := by decide +kernel
theorem d_MO_times_12 : decode b_MO_times 12 = .ok (.iload_n 1, 1) := by decide +kernel
theorem d_MO_times_13 : decode b_MO_times 13 = .ok (.ifCond .lt 22, 3) := by decide +kernel
theorem d_MO_times_16 : decode b_MO_times 16 = .ok (.iload_n 1, 1) := by decide +kernel
theorem d_MO_times_17 : decode b_MO_times 17 = .ok (.aload_n 0, 1) := by decide +kernel
theorem d_MO_times_18 : decode b_MO_times 18 = .ok (.getfield 48, 3) := by decide +kernel
theorem d_MO_times_21 : decode b_MO_times 21 = .ok (.iconst 0, 1) := by decide +kernel
theorem d_MO_times_22 : decode b_MO_times 22 = .ok (.iaload, 1) := by decide +kernel
theorem d_MO_times_23 : decode b_MO_times 23 = .ok (.if_icmp .ge 12, 3) := by decide +kernel
theorem d_MO_times_26 : decode b_MO_times 26 = .ok (.aload_n 0, 1) := by decide +kernel
theorem d_MO_times_27 : decode b_MO_times 27 = .ok (.getfield 62, 3) := by decide +kernel
theorem d_MO_times_30 : decode b_MO_times 30 = .ok (.iload_n 1, 1) := by decide +kernel
theorem d_MO_times_31 : decode b_MO_times 31 = .ok (.iaload, 1) := by decide +kernel
theorem d_MO_times_32 : decode b_MO_times 32 = .ok (.goto 4, 3) := by decide +kernel
theorem d_MO_times_35 : decode b_MO_times 35 = .ok (.iconst (-1), 1) := by decide +kernel
theorem d_MO_times_36 : decode b_MO_times 36 = .ok (.ireturn, 1) := by decide +kernel
