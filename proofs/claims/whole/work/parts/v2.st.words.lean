theorem k_22 : (Jvm.Cond.classLink "LeastSolutionsLaw" (8 : Nat) "LeastSolutions") ∈ wd := wd_t (List.mem_of_getElem? (i := 22) (by decide +kernel)) rfl
theorem k_23 : (Jvm.Cond.instantiable "LeastSolutions" (16 : Nat)) ∈ wd := wd_t (List.mem_of_getElem? (i := 23) (by decide +kernel)) rfl
theorem k_24 : (Jvm.Cond.methodLink "LeastSolutionsLaw" (53 : Nat) ({ cls := "LeastSolutions", name := "<init>", desc := "()V" } : Jvm.MethodName)) ∈ wd := wd_t (List.mem_of_getElem? (i := 24) (by decide +kernel)) rfl
theorem k_25 : (Jvm.Cond.instanceMethod ({ cls := "LeastSolutions", name := "<init>", desc := "()V" } : Jvm.MethodName)) ∈ wd := wd_t (List.mem_of_getElem? (i := 25) (by decide +kernel)) rfl
theorem k_26 : (Jvm.Cond.code ({ cls := "LeastSolutions", name := "<init>", desc := "()V" } : Jvm.MethodName) prog_1_method_1_code (2 : Nat) (Option.none : Option Jvm.ClassFile.FieldType)) ∈ wd := wd_t (List.mem_of_getElem? (i := 26) (by decide +kernel)) rfl
theorem k_879 : (Jvm.Cond.classLink "LeastSolutionsLaw" (54 : Nat) "LeastSolutionsModel") ∈ wd := wd_t (List.mem_of_getElem? (i := 879) (by decide +kernel)) rfl
theorem k_880 : (Jvm.Cond.instantiable "LeastSolutionsModel" (36 : Nat)) ∈ wd := wd_t (List.mem_of_getElem? (i := 880) (by decide +kernel)) rfl
theorem k_881 : (Jvm.Cond.methodLink "LeastSolutionsLaw" (56 : Nat) ({ cls := "LeastSolutionsModel", name := "<init>", desc := "()V" } : Jvm.MethodName)) ∈ wd := wd_t (List.mem_of_getElem? (i := 881) (by decide +kernel)) rfl
theorem k_882 : (Jvm.Cond.instanceMethod ({ cls := "LeastSolutionsModel", name := "<init>", desc := "()V" } : Jvm.MethodName)) ∈ wd := wd_t (List.mem_of_getElem? (i := 882) (by decide +kernel)) rfl
theorem k_883 : (Jvm.Cond.code ({ cls := "LeastSolutionsModel", name := "<init>", desc := "()V" } : Jvm.MethodName) prog_12_method_1_code (1 : Nat) (Option.none : Option Jvm.ClassFile.FieldType)) ∈ wd := wd_t (List.mem_of_getElem? (i := 883) (by decide +kernel)) rfl
