theorem k_776 : (Jvm.Cond.methodLink "LeastSolutions$Search" (73 : Nat) ({ cls := "LeastSolutions$Taker", name := "beginSize", desc := "()V" } : Jvm.MethodName)) ∈ wd := wd_t (List.mem_of_getElem? (i := 776) (by decide +kernel)) rfl
theorem k_778 : (Jvm.Cond.sameMethod "LeastSolutions$Taker" "LeastSolutions$Taker" "beginSize" "()V") ∈ wd := wd_t (List.mem_of_getElem? (i := 778) (by decide +kernel)) rfl
theorem k_782 : (Jvm.Cond.selects "LeastSolutions$VectorList" ({ cls := "LeastSolutions$Taker", name := "beginSize", desc := "()V" } : Jvm.MethodName) ({ cls := "LeastSolutions$VectorList", name := "beginSize", desc := "()V" } : Jvm.MethodName)) ∈ wd := wd_t (List.mem_of_getElem? (i := 782) (by decide +kernel)) rfl
theorem k_783 : (Jvm.Cond.instanceMethod ({ cls := "LeastSolutions$VectorList", name := "beginSize", desc := "()V" } : Jvm.MethodName)) ∈ wd := wd_t (List.mem_of_getElem? (i := 783) (by decide +kernel)) rfl
theorem k_784 : (Jvm.Cond.code ({ cls := "LeastSolutions$VectorList", name := "beginSize", desc := "()V" } : Jvm.MethodName) prog_9_method_6_code (1 : Nat) (Option.none : Option Jvm.ClassFile.FieldType)) ∈ wd := wd_t (List.mem_of_getElem? (i := 784) (by decide +kernel)) rfl
abbrev y_SE_run : MethodName := ⟨"LeastSolutions$Search", "run", "(IILLeastSolutions$Taker;)V"⟩
abbrev b_SE_run : ByteArray := prog_6_method_4_code
