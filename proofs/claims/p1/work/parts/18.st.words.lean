theorem k_22 : (Jvm.Cond.classLink "LeastSolutionsLaw" (8 : Nat) "LeastSolutions") ∈ wd := wd_t (List.mem_of_getElem? (i := 22) (by decide +kernel)) rfl
theorem k_23 : (Jvm.Cond.instantiable "LeastSolutions" (16 : Nat)) ∈ wd := wd_t (List.mem_of_getElem? (i := 23) (by decide +kernel)) rfl
theorem k_24 : (Jvm.Cond.methodLink "LeastSolutionsLaw" (53 : Nat) ({ cls := "LeastSolutions", name := "<init>", desc := "()V" } : Jvm.MethodName)) ∈ wd := wd_t (List.mem_of_getElem? (i := 24) (by decide +kernel)) rfl
theorem k_25 : (Jvm.Cond.instanceMethod ({ cls := "LeastSolutions", name := "<init>", desc := "()V" } : Jvm.MethodName)) ∈ wd := wd_t (List.mem_of_getElem? (i := 25) (by decide +kernel)) rfl
theorem k_26 : (Jvm.Cond.code ({ cls := "LeastSolutions", name := "<init>", desc := "()V" } : Jvm.MethodName) prog_1_method_1_code (2 : Nat) (Option.none : Option Jvm.ClassFile.FieldType)) ∈ wd := wd_t (List.mem_of_getElem? (i := 26) (by decide +kernel)) rfl
theorem k_879 : (Jvm.Cond.classLink "LeastSolutionsLaw" (54 : Nat) "LeastSolutionsModel") ∈ wd := wd_t (List.mem_of_getElem? (i := 879) (by decide +kernel)) rfl
theorem k_880 : (Jvm.Cond.instantiable "LeastSolutionsModel" (36 : Nat)) ∈ wd := wd_t (List.mem_of_getElem? (i := 880) (by decide +kernel)) rfl
theorem k_881 : (Jvm.Cond.methodLink "LeastSolutionsLaw" (56 : Nat) ({ cls := "LeastSolutionsModel", name := "<init>", desc := "()V" } : Jvm.MethodName)) ∈ wd := wd_t (List.mem_of_getElem? (i := 881) (by decide +kernel)) rfl
theorem k_882 : (Jvm.Cond.instanceMethod ({ cls := "LeastSolutionsModel", name := "<init>", desc := "()V" } : Jvm.MethodName)) ∈ wd := wd_t (List.mem_of_getElem? (i := 882) (by decide +kernel)) rfl
theorem k_883 : (Jvm.Cond.code ({ cls := "LeastSolutionsModel", name := "<init>", desc := "()V" } : Jvm.MethodName) prog_12_method_1_code (1 : Nat) (Option.none : Option Jvm.ClassFile.FieldType)) ∈ wd := wd_t (List.mem_of_getElem? (i := 883) (by decide +kernel)) rfl
theorem d_LW_law_0 : decode b_LW_law 0 = .ok (.new 8, 3) := by decide +kernel
theorem d_LW_law_3 : decode b_LW_law 3 = .ok (.dup, 1) := by decide +kernel
theorem d_LW_law_4 : decode b_LW_law 4 = .ok (.invokespecial 53, 3) := by decide +kernel
theorem d_LW_law_7 : decode b_LW_law 7 = .ok (.astore_n 1, 1) := by decide +kernel
theorem d_LW_law_8 : decode b_LW_law 8 = .ok (.new 54, 3) := by decide +kernel
theorem d_LW_law_11 : decode b_LW_law 11 = .ok (.dup, 1) := by decide +kernel
theorem d_LW_law_12 : decode b_LW_law 12 = .ok (.invokespecial 56, 3) := by decide +kernel
theorem d_LW_law_15 : decode b_LW_law 15 = .ok (.astore_n 2, 1) := by decide +kernel
theorem d_LW_law_16 : decode b_LW_law 16 = .ok (.iconst 1, 1) := by decide +kernel
theorem d_LW_law_17 : decode b_LW_law 17 = .ok (.newarray .long, 2) := by decide +kernel
theorem d_LW_law_19 : decode b_LW_law 19 = .ok (.astore_n 3, 1) := by decide +kernel
theorem d_LW_law_20 : decode b_LW_law 20 = .ok (.iconst 0, 1) := by decide +kernel
theorem d_LW_law_21 : decode b_LW_law 21 = .ok (.istore 4, 2) := by decide +kernel
theorem d_LW_law_32 : decode b_LW_law 32 = .ok (.aload_n 0, 1) := by decide +kernel
theorem d_LW_law_33 : decode b_LW_law 33 = .ok (.iload 4, 2) := by decide +kernel
theorem d_LW_law_35 : decode b_LW_law 35 = .ok (.iaload, 1) := by decide +kernel
theorem d_LW_law_36 : decode b_LW_law 36 = .ok (.bipush 31, 2) := by decide +kernel
theorem d_LW_law_38 : decode b_LW_law 38 = .ok (.iand, 1) := by decide +kernel
