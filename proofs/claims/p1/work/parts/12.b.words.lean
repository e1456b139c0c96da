theorem k_10 : (Jvm.Cond.initialized "LeastSolutions$VectorList") ∈ wd := wd_t (List.mem_of_getElem? (i := 10) (by decide +kernel)) rfl
theorem k_294 : (Jvm.Cond.fieldLink "LeastSolutions" (46 : Nat) "LeastSolutions" "lists" "[LLeastSolutions$VectorList;") ∈ wd := wd_t (List.mem_of_getElem? (i := 294) (by decide +kernel)) rfl
theorem k_543 : (Jvm.Cond.methodLink "LeastSolutions" (189 : Nat) ({ cls := "LeastSolutions", name := "canSplit", desc := "()Z" } : Jvm.MethodName)) ∈ wd := wd_t (List.mem_of_getElem? (i := 543) (by decide +kernel)) rfl
theorem k_545 : (Jvm.Cond.instanceMethod ({ cls := "LeastSolutions", name := "canSplit", desc := "()Z" } : Jvm.MethodName)) ∈ wd := wd_t (List.mem_of_getElem? (i := 545) (by decide +kernel)) rfl
theorem k_546 : (Jvm.Cond.code ({ cls := "LeastSolutions", name := "canSplit", desc := "()Z" } : Jvm.MethodName) prog_1_method_22_code (4 : Nat) (Option.some Jvm.ClassFile.FieldType.boolean)) ∈ wd := wd_t (List.mem_of_getElem? (i := 546) (by decide +kernel)) rfl
theorem k_586 : (Jvm.Cond.methodLink "LeastSolutions" (170 : Nat) ({ cls := "LeastSolutions$VectorList", name := "has", desc := "(I)Z" } : Jvm.MethodName)) ∈ wd := wd_t (List.mem_of_getElem? (i := 586) (by decide +kernel)) rfl
theorem k_587 : (Jvm.Cond.instanceMethod ({ cls := "LeastSolutions$VectorList", name := "has", desc := "(I)Z" } : Jvm.MethodName)) ∈ wd := wd_t (List.mem_of_getElem? (i := 587) (by decide +kernel)) rfl
theorem k_588 : (Jvm.Cond.selects "LeastSolutions$VectorList" ({ cls := "LeastSolutions$VectorList", name := "has", desc := "(I)Z" } : Jvm.MethodName) ({ cls := "LeastSolutions$VectorList", name := "has", desc := "(I)Z" } : Jvm.MethodName)) ∈ wd := wd_t (List.mem_of_getElem? (i := 588) (by decide +kernel)) rfl
theorem k_589 : (Jvm.Cond.code ({ cls := "LeastSolutions$VectorList", name := "has", desc := "(I)Z" } : Jvm.MethodName) prog_9_method_4_code (2 : Nat) (Option.some Jvm.ClassFile.FieldType.boolean)) ∈ wd := wd_t (List.mem_of_getElem? (i := 589) (by decide +kernel)) rfl
theorem k_903 : (Jvm.Cond.fieldLink "LeastSolutionsModel" (143 : Nat) "LeastSolutionsModel" "columns" "I") ∈ wd := wd_t (List.mem_of_getElem? (i := 903) (by decide +kernel)) rfl
abbrev y_LS_at : MethodName := ⟨"LeastSolutions", "at", "(III)I"⟩
abbrev b_LS_at : ByteArray := prog_1_method_12_code
abbrev y_LS_canSplit : MethodName := ⟨"LeastSolutions", "canSplit", "()Z"⟩
abbrev b_LS_canSplit : ByteArray := prog_1_method_22_code
abbrev y_LS_split : MethodName := ⟨"LeastSolutions", "split", "()I"⟩
abbrev b_LS_split : ByteArray := prog_1_method_15_code
abbrev y_MO_split : MethodName := ⟨"LeastSolutionsModel", "split", "()I"⟩
abbrev b_MO_split : ByteArray := prog_12_method_44_code
theorem ks_LS_canSplit : Cond.selects "LeastSolutions" ({ cls := "LeastSolutions", name := "canSplit", desc := "()Z" } : Jvm.MethodName) ({ cls := "LeastSolutions", name := "canSplit", desc := "()Z" } : Jvm.MethodName) ∈ wd := wd_p (q := (⟨"LeastSolutions", "canSplit", "()Z"⟩, 16)) (List.mem_of_getElem? (i := 21) (by decide +kernel))
theorem d_LS_at_0 : decode b_LS_at 0 = .ok (.iload_n 1, 1) := by decide +kernel
theorem d_LS_at_1 : decode b_LS_at 1 = .ok (.ifCond .lt 21, 3) := by decide +kernel
theorem d_LS_at_4 : decode b_LS_at 4 = .ok (.iload_n 1, 1) := by decide +kernel
theorem d_LS_at_5 : decode b_LS_at 5 = .ok (.iconst 2, 1) := by decide +kernel
theorem d_LS_at_6 : decode b_LS_at 6 = .ok (.if_icmp .gt 16, 3) := by decide +kernel
theorem d_LS_at_9 : decode b_LS_at 9 = .ok (.aload_n 0, 1) := by decide +kernel
theorem d_LS_at_10 : decode b_LS_at 10 = .ok (.getfield 46, 3) := by decide +kernel
theorem d_LS_at_13 : decode b_LS_at 13 = .ok (.iload_n 1, 1) := by decide +kernel
theorem d_LS_at_14 : decode b_LS_at 14 = .ok (.aaload, 1) := by decide +kernel
theorem d_LS_at_15 : decode b_LS_at 15 = .ok (.iload_n 2, 1) := by decide +kernel
theorem d_LS_at_16 : decode b_LS_at 16 = .ok (.invokevirtual 170, 3) := by decide +kernel
theorem d_LS_at_19 : decode b_LS_at 19 = .ok (.ifCond .ne 11, 3) := by decide +kernel
theorem d_LS_at_22 : decode b_LS_at 22 = .ok (.new 118, 3) := by decide +kernel
theorem d_LS_at_25 : decode b_LS_at 25 = .ok (.dup, 1) := by decide +kernel
theorem d_LS_at_26 : decode b_LS_at 26 = .ok (.invokespecial 120, 3) := by decide +kernel
theorem d_LS_at_29 : decode b_LS_at 29 = .ok (.athrow, 1) := by decide +kernel
theorem d_LS_canSplit_0 : decode b_LS_canSplit 0 = .ok (.aload_n 0, 1) := by decide +kernel
theorem d_LS_canSplit_1 : decode b_LS_canSplit 1 = .ok (.getfield 46, 3) := by decide +kernel
theorem d_LS_canSplit_4 : decode b_LS_canSplit 4 = .ok (.iconst 0, 1) := by decide +kernel
theorem d_LS_canSplit_5 : decode b_LS_canSplit 5 = .ok (.aaload, 1) := by decide +kernel
theorem d_LS_canSplit_6 : decode b_LS_canSplit 6 = .ok (.astore_n 1, 1) := by decide +kernel
theorem d_LS_canSplit_7 : decode b_LS_canSplit 7 = .ok (.aload_n 0, 1) := by decide +kernel
theorem d_LS_canSplit_8 : decode b_LS_canSplit 8 = .ok (.getfield 46, 3) := by decide +kernel
theorem d_LS_canSplit_11 : decode b_LS_canSplit 11 = .ok (.iconst 1, 1) := by decide +kernel
theorem d_LS_canSplit_12 : decode b_LS_canSplit 12 = .ok (.aaload, 1) := by decide +kernel
theorem d_LS_canSplit_13 : decode b_LS_canSplit 13 = .ok (.astore_n 2, 1) := by decide +kernel
theorem d_LS_canSplit_14 : decode b_LS_canSplit 14 = .ok (.aload_n 1, 1) := by decide +kernel
theorem d_LS_canSplit_15 : decode b_LS_canSplit 15 = .ok (.getfield 164, 3) := by decide +kernel
theorem d_LS_canSplit_18 : decode b_LS_canSplit 18 = .ok (.ifCond .eq 35, 3) := by decide +kernel
theorem d_LS_canSplit_53 : decode b_LS_canSplit 53 = .ok (.iconst 0, 1) := by decide +kernel
theorem d_LS_canSplit_54 : decode b_LS_canSplit 54 = .ok (.ireturn, 1) := by decide +kernel
theorem d_LS_split_0 : decode b_LS_split 0 = .ok (.aload_n 0, 1) := by decide +kernel
theorem d_LS_split_1 : decode b_LS_split 1 = .ok (.invokevirtual 189, 3) := by decide +kernel
theorem d_LS_split_4 : decode b_LS_split 4 = .ok (.ifCond .ne 5, 3) := by decide +kernel
theorem d_LS_split_7 : decode b_LS_split 7 = .ok (.iconst (-1), 1) := by decide +kernel
theorem d_LS_split_8 : decode b_LS_split 8 = .ok (.ireturn, 1) := by decide +kernel
theorem d_MO_split_0 : decode b_MO_split 0 = .ok (.aload_n 0, 1) := by decide +kernel
theorem d_MO_split_1 : decode b_MO_split 1 = .ok (.iconst 0, 1) := by decide +kernel
theorem d_MO_split_2 : decode b_MO_split 2 = .ok (.putfield 81, 3) := by decide +kernel
theorem d_MO_split_5 : decode b_MO_split 5 = .ok (.iconst 0, 1) := by decide +kernel
theorem d_MO_split_6 : decode b_MO_split 6 = .ok (.istore_n 1, 1) := by decide +kernel
theorem d_MO_split_7 : decode b_MO_split 7 = .ok (.iconst 0, 1) := by decide +kernel
theorem d_MO_split_8 : decode b_MO_split 8 = .ok (.istore_n 2, 1) := by decide +kernel
theorem d_MO_split_9 : decode b_MO_split 9 = .ok (.iload_n 2, 1) := by decide +kernel
theorem d_MO_split_10 : decode b_MO_split 10 = .ok (.aload_n 0, 1) := by decide +kernel
theorem d_MO_split_11 : decode b_MO_split 11 = .ok (.getfield 143, 3) := by decide +kernel
theorem d_MO_split_14 : decode b_MO_split 14 = .ok (.if_icmp .ge 18, 3) := by decide +kernel
theorem d_MO_split_32 : decode b_MO_split 32 = .ok (.aload_n 0, 1) := by decide +kernel
theorem d_MO_split_33 : decode b_MO_split 33 = .ok (.getfield 133, 3) := by decide +kernel
theorem d_MO_split_36 : decode b_MO_split 36 = .ok (.ifCond .eq 60, 3) := by decide +kernel
theorem d_MO_split_96 : decode b_MO_split 96 = .ok (.iconst (-1), 1) := by decide +kernel
theorem d_MO_split_97 : decode b_MO_split 97 = .ok (.ireturn, 1) := by decide +kernel
