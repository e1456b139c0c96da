theorem k_796 : (Jvm.Cond.selects "LeastSolutions$Cheapest" ({ cls := "LeastSolutions$Taker", name := "take", desc := "([I)Z" } : Jvm.MethodName) ({ cls := "LeastSolutions$Cheapest", name := "take", desc := "([I)Z" } : Jvm.MethodName)) ∈ wd := wd_t (List.mem_of_getElem? (i := 796) (by decide +kernel)) rfl
theorem k_797 : (Jvm.Cond.instanceMethod ({ cls := "LeastSolutions$Cheapest", name := "take", desc := "([I)Z" } : Jvm.MethodName)) ∈ wd := wd_t (List.mem_of_getElem? (i := 797) (by decide +kernel)) rfl
theorem k_798 : (Jvm.Cond.code ({ cls := "LeastSolutions$Cheapest", name := "take", desc := "([I)Z" } : Jvm.MethodName) prog_3_method_4_code (3 : Nat) (Option.some Jvm.ClassFile.FieldType.boolean)) ∈ wd := wd_t (List.mem_of_getElem? (i := 798) (by decide +kernel)) rfl

