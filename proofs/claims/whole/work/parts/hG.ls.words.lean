theorem k_860 : (Jvm.Cond.methodLink "LeastSolutions" (214 : Nat) ({ cls := "LeastSolutions$Cheapest", name := "begin", desc := "(I)V" } : Jvm.MethodName)) ∈ wd := wd_t (List.mem_of_getElem? (i := 860) (by decide +kernel)) rfl
theorem k_861 : (Jvm.Cond.instanceMethod ({ cls := "LeastSolutions$Cheapest", name := "begin", desc := "(I)V" } : Jvm.MethodName)) ∈ wd := wd_t (List.mem_of_getElem? (i := 861) (by decide +kernel)) rfl
theorem k_862 : (Jvm.Cond.selects "LeastSolutions$Cheapest" ({ cls := "LeastSolutions$Cheapest", name := "begin", desc := "(I)V" } : Jvm.MethodName) ({ cls := "LeastSolutions$Cheapest", name := "begin", desc := "(I)V" } : Jvm.MethodName)) ∈ wd := wd_t (List.mem_of_getElem? (i := 862) (by decide +kernel)) rfl
theorem k_863 : (Jvm.Cond.code ({ cls := "LeastSolutions$Cheapest", name := "begin", desc := "(I)V" } : Jvm.MethodName) prog_3_method_2_code (2 : Nat) (Option.none : Option Jvm.ClassFile.FieldType)) ∈ wd := wd_t (List.mem_of_getElem? (i := 863) (by decide +kernel)) rfl
abbrev y_LS_best : MethodName := ⟨"LeastSolutions", "best", "(I)I"⟩
abbrev b_LS_best : ByteArray := prog_1_method_18_code
