theorem k_779 : (Jvm.Cond.selects "LeastSolutions$Cheapest" ({ cls := "LeastSolutions$Taker", name := "beginSize", desc := "()V" } : Jvm.MethodName) ({ cls := "LeastSolutions$Cheapest", name := "beginSize", desc := "()V" } : Jvm.MethodName)) ∈ wd := wd_t (List.mem_of_getElem? (i := 779) (by decide +kernel)) rfl
theorem k_780 : (Jvm.Cond.instanceMethod ({ cls := "LeastSolutions$Cheapest", name := "beginSize", desc := "()V" } : Jvm.MethodName)) ∈ wd := wd_t (List.mem_of_getElem? (i := 780) (by decide +kernel)) rfl
theorem k_781 : (Jvm.Cond.code ({ cls := "LeastSolutions$Cheapest", name := "beginSize", desc := "()V" } : Jvm.MethodName) prog_3_method_3_code (1 : Nat) (Option.none : Option Jvm.ClassFile.FieldType)) ∈ wd := wd_t (List.mem_of_getElem? (i := 781) (by decide +kernel)) rfl

