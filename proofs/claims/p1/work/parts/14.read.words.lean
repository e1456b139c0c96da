theorem k_356 : (Jvm.Cond.methodLink "LeastSolutions" (99 : Nat) ({ cls := "LeastSolutions", name := "buildNext", desc := "()I" } : Jvm.MethodName)) ∈ wd := wd_t (List.mem_of_getElem? (i := 356) (by decide +kernel)) rfl
theorem k_358 : (Jvm.Cond.instanceMethod ({ cls := "LeastSolutions", name := "buildNext", desc := "()I" } : Jvm.MethodName)) ∈ wd := wd_t (List.mem_of_getElem? (i := 358) (by decide +kernel)) rfl
theorem k_359 : (Jvm.Cond.code ({ cls := "LeastSolutions", name := "buildNext", desc := "()I" } : Jvm.MethodName) prog_1_method_20_code (2 : Nat) (Option.some Jvm.ClassFile.FieldType.int)) ∈ wd := wd_t (List.mem_of_getElem? (i := 359) (by decide +kernel)) rfl
theorem k_360 : (Jvm.Cond.methodLink "LeastSolutions" (231 : Nat) ({ cls := "LeastSolutions$Words", name := "areSystem", desc := "(LLeastSolutions$Text;)Z" } : Jvm.MethodName)) ∈ wd := wd_t (List.mem_of_getElem? (i := 360) (by decide +kernel)) rfl
theorem k_361 : (Jvm.Cond.instanceMethod ({ cls := "LeastSolutions$Words", name := "areSystem", desc := "(LLeastSolutions$Text;)Z" } : Jvm.MethodName)) ∈ wd := wd_t (List.mem_of_getElem? (i := 361) (by decide +kernel)) rfl
theorem k_362 : (Jvm.Cond.selects "LeastSolutions$Words" ({ cls := "LeastSolutions$Words", name := "areSystem", desc := "(LLeastSolutions$Text;)Z" } : Jvm.MethodName) ({ cls := "LeastSolutions$Words", name := "areSystem", desc := "(LLeastSolutions$Text;)Z" } : Jvm.MethodName)) ∈ wd := wd_t (List.mem_of_getElem? (i := 362) (by decide +kernel)) rfl
theorem k_363 : (Jvm.Cond.code ({ cls := "LeastSolutions$Words", name := "areSystem", desc := "(LLeastSolutions$Text;)Z" } : Jvm.MethodName) prog_10_method_2_code (3 : Nat) (Option.some Jvm.ClassFile.FieldType.boolean)) ∈ wd := wd_t (List.mem_of_getElem? (i := 363) (by decide +kernel)) rfl
theorem k_385 : (Jvm.Cond.methodLink "LeastSolutions$Words" (58 : Nat) ({ cls := "LeastSolutions$Words", name := "isSumWhole", desc := "()Z" } : Jvm.MethodName)) ∈ wd := wd_t (List.mem_of_getElem? (i := 385) (by decide +kernel)) rfl
theorem k_387 : (Jvm.Cond.instanceMethod ({ cls := "LeastSolutions$Words", name := "isSumWhole", desc := "()Z" } : Jvm.MethodName)) ∈ wd := wd_t (List.mem_of_getElem? (i := 387) (by decide +kernel)) rfl
theorem k_388 : (Jvm.Cond.code ({ cls := "LeastSolutions$Words", name := "isSumWhole", desc := "()Z" } : Jvm.MethodName) prog_10_method_5_code (1 : Nat) (Option.some Jvm.ClassFile.FieldType.boolean)) ∈ wd := wd_t (List.mem_of_getElem? (i := 388) (by decide +kernel)) rfl
theorem k_888 : (Jvm.Cond.fieldLink "LeastSolutionsModel" (84 : Nat) "LeastSolutionsModel" "length" "I") ∈ wd := wd_t (List.mem_of_getElem? (i := 888) (by decide +kernel)) rfl
theorem k_893 : (Jvm.Cond.fieldLink "LeastSolutionsModel" (93 : Nat) "LeastSolutionsModel" "words" "I") ∈ wd := wd_t (List.mem_of_getElem? (i := 893) (by decide +kernel)) rfl
theorem k_1011 : (Jvm.Cond.methodLink "LeastSolutionsModel" (120 : Nat) ({ cls := "LeastSolutionsModel", name := "cut", desc := "()V" } : Jvm.MethodName)) ∈ wd := wd_t (List.mem_of_getElem? (i := 1011) (by decide +kernel)) rfl
theorem k_1013 : (Jvm.Cond.instanceMethod ({ cls := "LeastSolutionsModel", name := "cut", desc := "()V" } : Jvm.MethodName)) ∈ wd := wd_t (List.mem_of_getElem? (i := 1013) (by decide +kernel)) rfl
theorem k_1014 : (Jvm.Cond.code ({ cls := "LeastSolutionsModel", name := "cut", desc := "()V" } : Jvm.MethodName) prog_12_method_6_code (7 : Nat) (Option.none : Option Jvm.ClassFile.FieldType)) ∈ wd := wd_t (List.mem_of_getElem? (i := 1014) (by decide +kernel)) rfl
theorem k_1019 : (Jvm.Cond.methodLink "LeastSolutionsModel" (100 : Nat) ({ cls := "LeastSolutionsModel", name := "word", desc := "(III)V" } : Jvm.MethodName)) ∈ wd := wd_t (List.mem_of_getElem? (i := 1019) (by decide +kernel)) rfl
theorem k_1021 : (Jvm.Cond.instanceMethod ({ cls := "LeastSolutionsModel", name := "word", desc := "(III)V" } : Jvm.MethodName)) ∈ wd := wd_t (List.mem_of_getElem? (i := 1021) (by decide +kernel)) rfl
theorem k_1022 : (Jvm.Cond.code ({ cls := "LeastSolutionsModel", name := "word", desc := "(III)V" } : Jvm.MethodName) prog_12_method_4_code (4 : Nat) (Option.none : Option Jvm.ClassFile.FieldType)) ∈ wd := wd_t (List.mem_of_getElem? (i := 1022) (by decide +kernel)) rfl
theorem k_1023 : (Jvm.Cond.methodLink "LeastSolutionsModel" (123 : Nat) ({ cls := "LeastSolutionsModel", name := "bad", desc := "()I" } : Jvm.MethodName)) ∈ wd := wd_t (List.mem_of_getElem? (i := 1023) (by decide +kernel)) rfl
theorem k_1025 : (Jvm.Cond.instanceMethod ({ cls := "LeastSolutionsModel", name := "bad", desc := "()I" } : Jvm.MethodName)) ∈ wd := wd_t (List.mem_of_getElem? (i := 1025) (by decide +kernel)) rfl
theorem k_1026 : (Jvm.Cond.code ({ cls := "LeastSolutionsModel", name := "bad", desc := "()I" } : Jvm.MethodName) prog_12_method_7_code (6 : Nat) (Option.some Jvm.ClassFile.FieldType.int)) ∈ wd := wd_t (List.mem_of_getElem? (i := 1026) (by decide +kernel)) rfl
theorem k_1027 : (Jvm.Cond.methodLink "LeastSolutionsModel" (113 : Nat) ({ cls := "LeastSolutionsModel", name := "fault", desc := "(II)I" } : Jvm.MethodName)) ∈ wd := wd_t (List.mem_of_getElem? (i := 1027) (by decide +kernel)) rfl
theorem k_1029 : (Jvm.Cond.instanceMethod ({ cls := "LeastSolutionsModel", name := "fault", desc := "(II)I" } : Jvm.MethodName)) ∈ wd := wd_t (List.mem_of_getElem? (i := 1029) (by decide +kernel)) rfl
theorem k_1030 : (Jvm.Cond.code ({ cls := "LeastSolutionsModel", name := "fault", desc := "(II)I" } : Jvm.MethodName) prog_12_method_8_code (3 : Nat) (Option.some Jvm.ClassFile.FieldType.int)) ∈ wd := wd_t (List.mem_of_getElem? (i := 1030) (by decide +kernel)) rfl
abbrev y_LS_buildNext : MethodName := ⟨"LeastSolutions", "buildNext", "()I"⟩
abbrev b_LS_buildNext : ByteArray := prog_1_method_20_code
abbrev y_LS_read : MethodName := ⟨"LeastSolutions", "read", "()I"⟩
abbrev b_LS_read : ByteArray := prog_1_method_3_code
abbrev y_MO_bad : MethodName := ⟨"LeastSolutionsModel", "bad", "()I"⟩
abbrev b_MO_bad : ByteArray := prog_12_method_7_code
abbrev y_MO_cut : MethodName := ⟨"LeastSolutionsModel", "cut", "()V"⟩
abbrev b_MO_cut : ByteArray := prog_12_method_6_code
abbrev y_MO_fault : MethodName := ⟨"LeastSolutionsModel", "fault", "(II)I"⟩
abbrev b_MO_fault : ByteArray := prog_12_method_8_code
abbrev y_MO_read : MethodName := ⟨"LeastSolutionsModel", "read", "()I"⟩
abbrev b_MO_read : ByteArray := prog_12_method_11_code
abbrev y_MO_word : MethodName := ⟨"LeastSolutionsModel", "word", "(III)V"⟩
abbrev b_MO_word : ByteArray := prog_12_method_4_code
abbrev y_WO_areSystem : MethodName := ⟨"LeastSolutions$Words", "areSystem", "(LLeastSolutions$Text;)Z"⟩
abbrev b_WO_areSystem : ByteArray := prog_10_method_2_code
abbrev y_WO_isSumWhole : MethodName := ⟨"LeastSolutions$Words", "isSumWhole", "()Z"⟩
abbrev b_WO_isSumWhole : ByteArray := prog_10_method_5_code
theorem ks_LS_buildNext : Cond.selects "LeastSolutions" ({ cls := "LeastSolutions", name := "buildNext", desc := "()I" } : Jvm.MethodName) ({ cls := "LeastSolutions", name := "buildNext", desc := "()I" } : Jvm.MethodName) ∈ wd := wd_p (q := (⟨"LeastSolutions", "buildNext", "()I"⟩, 16)) (List.mem_of_getElem? (i := 0) (by decide +kernel))
theorem ks_WO_isSumWhole : Cond.selects "LeastSolutions$Words" ({ cls := "LeastSolutions$Words", name := "isSumWhole", desc := "()Z" } : Jvm.MethodName) ({ cls := "LeastSolutions$Words", name := "isSumWhole", desc := "()Z" } : Jvm.MethodName) ∈ wd := wd_p (q := (⟨"LeastSolutions$Words", "isSumWhole", "()Z"⟩, 7)) (List.mem_of_getElem? (i := 3) (by decide +kernel))
theorem ks_MO_bad : Cond.selects "LeastSolutionsModel" ({ cls := "LeastSolutionsModel", name := "bad", desc := "()I" } : Jvm.MethodName) ({ cls := "LeastSolutionsModel", name := "bad", desc := "()I" } : Jvm.MethodName) ∈ wd := wd_p (q := (⟨"LeastSolutionsModel", "bad", "()I"⟩, 36)) (List.mem_of_getElem? (i := 38) (by decide +kernel))
theorem ks_MO_cut : Cond.selects "LeastSolutionsModel" ({ cls := "LeastSolutionsModel", name := "cut", desc := "()V" } : Jvm.MethodName) ({ cls := "LeastSolutionsModel", name := "cut", desc := "()V" } : Jvm.MethodName) ∈ wd := wd_p (q := (⟨"LeastSolutionsModel", "cut", "()V"⟩, 36)) (List.mem_of_getElem? (i := 35) (by decide +kernel))
theorem ks_MO_fault : Cond.selects "LeastSolutionsModel" ({ cls := "LeastSolutionsModel", name := "fault", desc := "(II)I" } : Jvm.MethodName) ({ cls := "LeastSolutionsModel", name := "fault", desc := "(II)I" } : Jvm.MethodName) ∈ wd := wd_p (q := (⟨"LeastSolutionsModel", "fault", "(II)I"⟩, 36)) (List.mem_of_getElem? (i := 39) (by decide +kernel))
theorem ks_MO_word : Cond.selects "LeastSolutionsModel" ({ cls := "LeastSolutionsModel", name := "word", desc := "(III)V" } : Jvm.MethodName) ({ cls := "LeastSolutionsModel", name := "word", desc := "(III)V" } : Jvm.MethodName) ∈ wd := wd_p (q := (⟨"LeastSolutionsModel", "word", "(III)V"⟩, 36)) (List.mem_of_getElem? (i := 37) (by decide +kernel))
theorem d_LS_buildNext_0 : decode b_LS_buildNext 0 = .ok (.aload_n 0, 1) := by decide +kernel
theorem d_LS_buildNext_1 : decode b_LS_buildNext 1 = .ok (.getfield 19, 3) := by decide +kernel
theorem d_LS_buildNext_4 : decode b_LS_buildNext 4 = .ok (.aload_n 0, 1) := by decide +kernel
theorem d_LS_buildNext_5 : decode b_LS_buildNext 5 = .ok (.getfield 10, 3) := by decide +kernel
theorem d_LS_buildNext_8 : decode b_LS_buildNext 8 = .ok (.invokevirtual 231, 3) := by decide +kernel
theorem d_LS_buildNext_11 : decode b_LS_buildNext 11 = .ok (.ifCond .ne 16, 3) := by decide +kernel
theorem d_LS_buildNext_14 : decode b_LS_buildNext 14 = .ok (.aload_n 0, 1) := by decide +kernel
theorem d_LS_buildNext_15 : decode b_LS_buildNext 15 = .ok (.aload_n 0, 1) := by decide +kernel
theorem d_LS_buildNext_16 : decode b_LS_buildNext 16 = .ok (.getfield 19, 3) := by decide +kernel
theorem d_LS_buildNext_19 : decode b_LS_buildNext 19 = .ok (.getfield 235, 3) := by decide +kernel
theorem d_LS_buildNext_22 : decode b_LS_buildNext 22 = .ok (.putfield 87, 3) := by decide +kernel
theorem d_LS_buildNext_25 : decode b_LS_buildNext 25 = .ok (.iconst 1, 1) := by decide +kernel
theorem d_LS_buildNext_26 : decode b_LS_buildNext 26 = .ok (.ireturn, 1) := by decide +kernel
theorem d_LS_read_0 : decode b_LS_read 0 = .ok (.aload_n 0, 1) := by decide +kernel
theorem d_LS_read_1 : decode b_LS_read 1 = .ok (.invokevirtual 99, 3) := by decide +kernel
theorem d_LS_read_4 : decode b_LS_read 4 = .ok (.istore_n 1, 1) := by decide +kernel
theorem d_LS_read_5 : decode b_LS_read 5 = .ok (.aload_n 0, 1) := by decide +kernel
theorem d_LS_read_6 : decode b_LS_read 6 = .ok (.getfield 10, 3) := by decide +kernel
theorem d_LS_read_9 : decode b_LS_read 9 = .ok (.iconst 0, 1) := by decide +kernel
theorem d_LS_read_10 : decode b_LS_read 10 = .ok (.putfield 96, 3) := by decide +kernel
theorem d_LS_read_13 : decode b_LS_read 13 = .ok (.iload_n 1, 1) := by decide +kernel
theorem d_LS_read_14 : decode b_LS_read 14 = .ok (.ifCond .ne 7, 3) := by decide +kernel
theorem d_LS_read_21 : decode b_LS_read 21 = .ok (.iload_n 1, 1) := by decide +kernel
theorem d_LS_read_22 : decode b_LS_read 22 = .ok (.ireturn, 1) := by decide +kernel
theorem d_MO_bad_0 : decode b_MO_bad 0 = .ok (.iconst 0, 1) := by decide +kernel
theorem d_MO_bad_1 : decode b_MO_bad 1 = .ok (.istore_n 1, 1) := by decide +kernel
theorem d_MO_bad_2 : decode b_MO_bad 2 = .ok (.iconst 0, 1) := by decide +kernel
theorem d_MO_bad_3 : decode b_MO_bad 3 = .ok (.istore_n 2, 1) := by decide +kernel
theorem d_MO_bad_4 : decode b_MO_bad 4 = .ok (.iconst 0, 1) := by decide +kernel
theorem d_MO_bad_5 : decode b_MO_bad 5 = .ok (.istore_n 3, 1) := by decide +kernel
theorem d_MO_bad_6 : decode b_MO_bad 6 = .ok (.iload_n 3, 1) := by decide +kernel
theorem d_MO_bad_7 : decode b_MO_bad 7 = .ok (.aload_n 0, 1) := by decide +kernel
theorem d_MO_bad_8 : decode b_MO_bad 8 = .ok (.getfield 93, 3) := by decide +kernel
theorem d_MO_bad_11 : decode b_MO_bad 11 = .ok (.if_icmp .ge 198, 3) := by decide +kernel
theorem d_MO_bad_14 : decode b_MO_bad 14 = .ok (.aload_n 0, 1) := by decide +kernel
theorem d_MO_bad_15 : decode b_MO_bad 15 = .ok (.getfield 17, 3) := by decide +kernel
theorem d_MO_bad_18 : decode b_MO_bad 18 = .ok (.iload_n 3, 1) := by decide +kernel
theorem d_MO_bad_19 : decode b_MO_bad 19 = .ok (.iaload, 1) := by decide +kernel
theorem d_MO_bad_20 : decode b_MO_bad 20 = .ok (.istore 4, 2) := by decide +kernel
theorem d_MO_bad_22 : decode b_MO_bad 22 = .ok (.iload_n 1, 1) := by decide +kernel
theorem d_MO_bad_23 : decode b_MO_bad 23 = .ok (.iconst 2, 1) := by decide +kernel
theorem d_MO_bad_24 : decode b_MO_bad 24 = .ok (.if_icmp .eq 8, 3) := by decide +kernel
theorem d_MO_bad_27 : decode b_MO_bad 27 = .ok (.iload_n 1, 1) := by decide +kernel
theorem d_MO_bad_28 : decode b_MO_bad 28 = .ok (.iconst 4, 1) := by decide +kernel
theorem d_MO_bad_29 : decode b_MO_bad 29 = .ok (.if_icmp .ne 7, 3) := by decide +kernel
theorem d_MO_bad_36 : decode b_MO_bad 36 = .ok (.iconst 0, 1) := by decide +kernel
theorem d_MO_bad_37 : decode b_MO_bad 37 = .ok (.istore 5, 2) := by decide +kernel
theorem d_MO_bad_39 : decode b_MO_bad 39 = .ok (.iload_n 1, 1) := by decide +kernel
theorem d_MO_bad_40 : decode b_MO_bad 40 = .ok (.iconst 2, 1) := by decide +kernel
theorem d_MO_bad_41 : decode b_MO_bad 41 = .ok (.if_icmp .ge 14, 3) := by decide +kernel
theorem d_MO_bad_44 : decode b_MO_bad 44 = .ok (.iload 4, 2) := by decide +kernel
theorem d_MO_bad_46 : decode b_MO_bad 46 = .ok (.iconst 1, 1) := by decide +kernel
theorem d_MO_bad_47 : decode b_MO_bad 47 = .ok (.if_icmp .ne 8, 3) := by decide +kernel
theorem d_MO_bad_55 : decode b_MO_bad 55 = .ok (.iload_n 1, 1) := by decide +kernel
theorem d_MO_bad_56 : decode b_MO_bad 56 = .ok (.iconst 2, 1) := by decide +kernel
theorem d_MO_bad_57 : decode b_MO_bad 57 = .ok (.if_icmp .lt 13, 3) := by decide +kernel
theorem d_MO_bad_70 : decode b_MO_bad 70 = .ok (.iload 4, 2) := by decide +kernel
theorem d_MO_bad_72 : decode b_MO_bad 72 = .ok (.iconst 2, 1) := by decide +kernel
theorem d_MO_bad_73 : decode b_MO_bad 73 = .ok (.if_icmp .ne 8, 3) := by decide +kernel
theorem d_MO_bad_81 : decode b_MO_bad 81 = .ok (.iload_n 1, 1) := by decide +kernel
theorem d_MO_bad_82 : decode b_MO_bad 82 = .ok (.ifCond .ne 14, 3) := by decide +kernel
theorem d_MO_bad_85 : decode b_MO_bad 85 = .ok (.iload 4, 2) := by decide +kernel
theorem d_MO_bad_87 : decode b_MO_bad 87 = .ok (.iconst 4, 1) := by decide +kernel
theorem d_MO_bad_88 : decode b_MO_bad 88 = .ok (.if_icmp .ne 8, 3) := by decide +kernel
theorem d_MO_bad_96 : decode b_MO_bad 96 = .ok (.iload_n 1, 1) := by decide +kernel
theorem d_MO_bad_97 : decode b_MO_bad 97 = .ok (.iconst 2, 1) := by decide +kernel
theorem d_MO_bad_98 : decode b_MO_bad 98 = .ok (.if_icmp .ne 14, 3) := by decide +kernel
theorem d_MO_bad_112 : decode b_MO_bad 112 = .ok (.iload 5, 2) := by decide +kernel
theorem d_MO_bad_114 : decode b_MO_bad 114 = .ok (.ifCond .eq 20, 3) := by decide +kernel
theorem d_MO_bad_134 : decode b_MO_bad 134 = .ok (.iload 5, 2) := by decide +kernel
theorem d_MO_bad_136 : decode b_MO_bad 136 = .ok (.ifCond .eq 28, 3) := by decide +kernel
theorem d_MO_bad_164 : decode b_MO_bad 164 = .ok (.iload 5, 2) := by decide +kernel
theorem d_MO_bad_166 : decode b_MO_bad 166 = .ok (.ifCond .eq 21, 3) := by decide +kernel
theorem d_MO_bad_187 : decode b_MO_bad 187 = .ok (.iload 5, 2) := by decide +kernel
theorem d_MO_bad_189 : decode b_MO_bad 189 = .ok (.ifCond .eq 12, 3) := by decide +kernel
theorem d_MO_bad_201 : decode b_MO_bad 201 = .ok (.iload_n 3, 1) := by decide +kernel
theorem d_MO_bad_202 : decode b_MO_bad 202 = .ok (.ireturn, 1) := by decide +kernel
theorem d_MO_cut_0 : decode b_MO_cut 0 = .ok (.aload_n 0, 1) := by decide +kernel
theorem d_MO_cut_1 : decode b_MO_cut 1 = .ok (.iconst 0, 1) := by decide +kernel
theorem d_MO_cut_2 : decode b_MO_cut 2 = .ok (.putfield 93, 3) := by decide +kernel
theorem d_MO_cut_5 : decode b_MO_cut 5 = .ok (.iconst 0, 1) := by decide +kernel
theorem d_MO_cut_6 : decode b_MO_cut 6 = .ok (.istore_n 1, 1) := by decide +kernel
theorem d_MO_cut_7 : decode b_MO_cut 7 = .ok (.iconst 1, 1) := by decide +kernel
theorem d_MO_cut_8 : decode b_MO_cut 8 = .ok (.istore_n 2, 1) := by decide +kernel
theorem d_MO_cut_9 : decode b_MO_cut 9 = .ok (.iload_n 2, 1) := by decide +kernel
theorem d_MO_cut_10 : decode b_MO_cut 10 = .ok (.ifCond .eq 285, 3) := by decide +kernel
theorem d_MO_cut_13 : decode b_MO_cut 13 = .ok (.iload_n 1, 1) := by decide +kernel
theorem d_MO_cut_14 : decode b_MO_cut 14 = .ok (.aload_n 0, 1) := by decide +kernel
theorem d_MO_cut_15 : decode b_MO_cut 15 = .ok (.getfield 84, 3) := by decide +kernel
theorem d_MO_cut_18 : decode b_MO_cut 18 = .ok (.if_icmp .ge 277, 3) := by decide +kernel
theorem d_MO_cut_295 : decode b_MO_cut 295 = .ok (.iload_n 2, 1) := by decide +kernel
theorem d_MO_cut_296 : decode b_MO_cut 296 = .ok (.ifCond .eq 13, 3) := by decide +kernel
theorem d_MO_cut_299 : decode b_MO_cut 299 = .ok (.aload_n 0, 1) := by decide +kernel
theorem d_MO_cut_300 : decode b_MO_cut 300 = .ok (.iconst 0, 1) := by decide +kernel
theorem d_MO_cut_301 : decode b_MO_cut 301 = .ok (.aload_n 0, 1) := by decide +kernel
theorem d_MO_cut_302 : decode b_MO_cut 302 = .ok (.getfield 84, 3) := by decide +kernel
theorem d_MO_cut_305 : decode b_MO_cut 305 = .ok (.iconst 0, 1) := by decide +kernel
theorem d_MO_cut_306 : decode b_MO_cut 306 = .ok (.invokevirtual 100, 3) := by decide +kernel
theorem d_MO_cut_309 : decode b_MO_cut 309 = .ok (.return_, 1) := by decide +kernel
theorem d_MO_fault_0 : decode b_MO_fault 0 = .ok (.aload_n 0, 1) := by decide +kernel
theorem d_MO_fault_1 : decode b_MO_fault 1 = .ok (.iload_n 2, 1) := by decide +kernel
theorem d_MO_fault_2 : decode b_MO_fault 2 = .ok (.putfield 13, 3) := by decide +kernel
theorem d_MO_fault_5 : decode b_MO_fault 5 = .ok (.iload_n 1, 1) := by decide +kernel
theorem d_MO_fault_6 : decode b_MO_fault 6 = .ok (.ireturn, 1) := by decide +kernel
theorem d_MO_read_0 : decode b_MO_read 0 = .ok (.aload_n 0, 1) := by decide +kernel
theorem d_MO_read_1 : decode b_MO_read 1 = .ok (.iconst 0, 1) := by decide +kernel
theorem d_MO_read_2 : decode b_MO_read 2 = .ok (.putfield 81, 3) := by decide +kernel
theorem d_MO_read_5 : decode b_MO_read 5 = .ok (.aload_n 0, 1) := by decide +kernel
theorem d_MO_read_6 : decode b_MO_read 6 = .ok (.invokevirtual 120, 3) := by decide +kernel
theorem d_MO_read_9 : decode b_MO_read 9 = .ok (.aload_n 0, 1) := by decide +kernel
theorem d_MO_read_10 : decode b_MO_read 10 = .ok (.iconst 0, 1) := by decide +kernel
theorem d_MO_read_11 : decode b_MO_read 11 = .ok (.putfield 84, 3) := by decide +kernel
theorem d_MO_read_14 : decode b_MO_read 14 = .ok (.aload_n 0, 1) := by decide +kernel
theorem d_MO_read_15 : decode b_MO_read 15 = .ok (.invokevirtual 123, 3) := by decide +kernel
theorem d_MO_read_18 : decode b_MO_read 18 = .ok (.istore_n 1, 1) := by decide +kernel
theorem d_MO_read_19 : decode b_MO_read 19 = .ok (.iload_n 1, 1) := by decide +kernel
theorem d_MO_read_20 : decode b_MO_read 20 = .ok (.ifCond .lt 15, 3) := by decide +kernel
theorem d_MO_read_23 : decode b_MO_read 23 = .ok (.aload_n 0, 1) := by decide +kernel
theorem d_MO_read_24 : decode b_MO_read 24 = .ok (.iconst 1, 1) := by decide +kernel
theorem d_MO_read_25 : decode b_MO_read 25 = .ok (.aload_n 0, 1) := by decide +kernel
theorem d_MO_read_26 : decode b_MO_read 26 = .ok (.getfield 20, 3) := by decide +kernel
theorem d_MO_read_29 : decode b_MO_read 29 = .ok (.iload_n 1, 1) := by decide +kernel
theorem d_MO_read_30 : decode b_MO_read 30 = .ok (.iaload, 1) := by decide +kernel
theorem d_MO_read_31 : decode b_MO_read 31 = .ok (.invokevirtual 113, 3) := by decide +kernel
theorem d_MO_read_34 : decode b_MO_read 34 = .ok (.ireturn, 1) := by decide +kernel
theorem d_MO_word_0 : decode b_MO_word 0 = .ok (.aload_n 0, 1) := by decide +kernel
theorem d_MO_word_1 : decode b_MO_word 1 = .ok (.getfield 17, 3) := by decide +kernel
theorem d_MO_word_4 : decode b_MO_word 4 = .ok (.aload_n 0, 1) := by decide +kernel
theorem d_MO_word_5 : decode b_MO_word 5 = .ok (.getfield 93, 3) := by decide +kernel
theorem d_MO_word_8 : decode b_MO_word 8 = .ok (.iload_n 1, 1) := by decide +kernel
theorem d_MO_word_9 : decode b_MO_word 9 = .ok (.iastore, 1) := by decide +kernel
theorem d_MO_word_10 : decode b_MO_word 10 = .ok (.aload_n 0, 1) := by decide +kernel
theorem d_MO_word_11 : decode b_MO_word 11 = .ok (.getfield 20, 3) := by decide +kernel
theorem d_MO_word_14 : decode b_MO_word 14 = .ok (.aload_n 0, 1) := by decide +kernel
theorem d_MO_word_15 : decode b_MO_word 15 = .ok (.getfield 93, 3) := by decide +kernel
theorem d_MO_word_18 : decode b_MO_word 18 = .ok (.iload_n 2, 1) := by decide +kernel
theorem d_MO_word_19 : decode b_MO_word 19 = .ok (.iastore, 1) := by decide +kernel
theorem d_MO_word_20 : decode b_MO_word 20 = .ok (.aload_n 0, 1) := by decide +kernel
theorem d_MO_word_21 : decode b_MO_word 21 = .ok (.getfield 23, 3) := by decide +kernel
theorem d_MO_word_24 : decode b_MO_word 24 = .ok (.aload_n 0, 1) := by decide +kernel
theorem d_MO_word_25 : decode b_MO_word 25 = .ok (.getfield 93, 3) := by decide +kernel
theorem d_MO_word_28 : decode b_MO_word 28 = .ok (.iload_n 3, 1) := by decide +kernel
theorem d_MO_word_29 : decode b_MO_word 29 = .ok (.iastore, 1) := by decide +kernel
theorem d_MO_word_30 : decode b_MO_word 30 = .ok (.aload_n 0, 1) := by decide +kernel
theorem d_MO_word_31 : decode b_MO_word 31 = .ok (.dup, 1) := by decide +kernel
theorem d_MO_word_32 : decode b_MO_word 32 = .ok (.getfield 93, 3) := by decide +kernel
theorem d_MO_word_35 : decode b_MO_word 35 = .ok (.iconst 1, 1) := by decide +kernel
theorem d_MO_word_36 : decode b_MO_word 36 = .ok (.iadd, 1) := by decide +kernel
theorem d_MO_word_37 : decode b_MO_word 37 = .ok (.putfield 93, 3) := by decide +kernel
theorem d_MO_word_40 : decode b_MO_word 40 = .ok (.return_, 1) := by decide +kernel
theorem d_WO_areSystem_0 : decode b_WO_areSystem 0 = .ok (.aload_n 0, 1) := by decide +kernel
theorem d_WO_areSystem_1 : decode b_WO_areSystem 1 = .ok (.iconst 0, 1) := by decide +kernel
theorem d_WO_areSystem_2 : decode b_WO_areSystem 2 = .ok (.putfield 21, 3) := by decide +kernel
theorem d_WO_areSystem_5 : decode b_WO_areSystem 5 = .ok (.aload_n 0, 1) := by decide +kernel
theorem d_WO_areSystem_6 : decode b_WO_areSystem 6 = .ok (.iconst 0, 1) := by decide +kernel
theorem d_WO_areSystem_7 : decode b_WO_areSystem 7 = .ok (.putfield 25, 3) := by decide +kernel
theorem d_WO_areSystem_10 : decode b_WO_areSystem 10 = .ok (.aload_n 0, 1) := by decide +kernel
theorem d_WO_areSystem_11 : decode b_WO_areSystem 11 = .ok (.iconst 0, 1) := by decide +kernel
theorem d_WO_areSystem_12 : decode b_WO_areSystem 12 = .ok (.putfield 28, 3) := by decide +kernel
theorem d_WO_areSystem_15 : decode b_WO_areSystem 15 = .ok (.iconst 0, 1) := by decide +kernel
theorem d_WO_areSystem_16 : decode b_WO_areSystem 16 = .ok (.istore_n 2, 1) := by decide +kernel
theorem d_WO_areSystem_17 : decode b_WO_areSystem 17 = .ok (.iload_n 2, 1) := by decide +kernel
theorem d_WO_areSystem_18 : decode b_WO_areSystem 18 = .ok (.aload_n 1, 1) := by decide +kernel
theorem d_WO_areSystem_19 : decode b_WO_areSystem 19 = .ok (.getfield 35, 3) := by decide +kernel
theorem d_WO_areSystem_22 : decode b_WO_areSystem 22 = .ok (.if_icmp .ge 44, 3) := by decide +kernel
theorem d_WO_areSystem_66 : decode b_WO_areSystem 66 = .ok (.aload_n 0, 1) := by decide +kernel
theorem d_WO_areSystem_67 : decode b_WO_areSystem 67 = .ok (.aload_n 1, 1) := by decide +kernel
theorem d_WO_areSystem_68 : decode b_WO_areSystem 68 = .ok (.getfield 35, 3) := by decide +kernel
theorem d_WO_areSystem_71 : decode b_WO_areSystem 71 = .ok (.putfield 32, 3) := by decide +kernel
theorem d_WO_areSystem_74 : decode b_WO_areSystem 74 = .ok (.aload_n 0, 1) := by decide +kernel
theorem d_WO_areSystem_75 : decode b_WO_areSystem 75 = .ok (.invokevirtual 58, 3) := by decide +kernel
theorem d_WO_areSystem_78 : decode b_WO_areSystem 78 = .ok (.ifCond .eq 14, 3) := by decide +kernel
theorem d_WO_areSystem_92 : decode b_WO_areSystem 92 = .ok (.iconst 0, 1) := by decide +kernel
theorem d_WO_areSystem_93 : decode b_WO_areSystem 93 = .ok (.ireturn, 1) := by decide +kernel
theorem d_WO_isSumWhole_0 : decode b_WO_isSumWhole 0 = .ok (.aload_n 0, 1) := by decide +kernel
theorem d_WO_isSumWhole_1 : decode b_WO_isSumWhole 1 = .ok (.getfield 25, 3) := by decide +kernel
theorem d_WO_isSumWhole_4 : decode b_WO_isSumWhole 4 = .ok (.iconst 2, 1) := by decide +kernel
theorem d_WO_isSumWhole_5 : decode b_WO_isSumWhole 5 = .ok (.if_icmp .eq 11, 3) := by decide +kernel
theorem d_WO_isSumWhole_8 : decode b_WO_isSumWhole 8 = .ok (.aload_n 0, 1) := by decide +kernel
theorem d_WO_isSumWhole_9 : decode b_WO_isSumWhole 9 = .ok (.getfield 25, 3) := by decide +kernel
theorem d_WO_isSumWhole_12 : decode b_WO_isSumWhole 12 = .ok (.iconst 4, 1) := by decide +kernel
theorem d_WO_isSumWhole_13 : decode b_WO_isSumWhole 13 = .ok (.if_icmp .ne 7, 3) := by decide +kernel
theorem d_WO_isSumWhole_20 : decode b_WO_isSumWhole 20 = .ok (.iconst 0, 1) := by decide +kernel
theorem d_WO_isSumWhole_21 : decode b_WO_isSumWhole 21 = .ok (.ireturn, 1) := by decide +kernel
