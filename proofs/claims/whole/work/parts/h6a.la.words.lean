theorem k_171 : (Jvm.Cond.fieldLink "LeastSolutions$Lattice" (27 : Nat) "LeastSolutions$Lattice" "fresh" "[J") ∈ wd := wd_t (List.mem_of_getElem? (i := 171) (by decide +kernel)) rfl
theorem k_176 : (Jvm.Cond.fieldLink "LeastSolutions$Lattice" (40 : Nat) "LeastSolutions$Lattice" "used" "I") ∈ wd := wd_t (List.mem_of_getElem? (i := 176) (by decide +kernel)) rfl
theorem k_490 : (Jvm.Cond.methodLink "LeastSolutions$Lattice" (89 : Nat) ({ cls := "LeastSolutions$Lattice", name := "swapFresh", desc := "(I)V" } : Jvm.MethodName)) ∈ wd := wd_t (List.mem_of_getElem? (i := 490) (by decide +kernel)) rfl
theorem k_492 : (Jvm.Cond.instanceMethod ({ cls := "LeastSolutions$Lattice", name := "swapFresh", desc := "(I)V" } : Jvm.MethodName)) ∈ wd := wd_t (List.mem_of_getElem? (i := 492) (by decide +kernel)) rfl
theorem k_493 : (Jvm.Cond.code ({ cls := "LeastSolutions$Lattice", name := "swapFresh", desc := "(I)V" } : Jvm.MethodName) prog_5_method_6_code (5 : Nat) (Option.none : Option Jvm.ClassFile.FieldType)) ∈ wd := wd_t (List.mem_of_getElem? (i := 493) (by decide +kernel)) rfl
theorem k_494 : (Jvm.Cond.methodLink "LeastSolutions$Lattice" (82 : Nat) ({ cls := "LeastSolutions$Lattice", name := "makeLeadPositive", desc := "(II)V" } : Jvm.MethodName)) ∈ wd := wd_t (List.mem_of_getElem? (i := 494) (by decide +kernel)) rfl
theorem k_496 : (Jvm.Cond.instanceMethod ({ cls := "LeastSolutions$Lattice", name := "makeLeadPositive", desc := "(II)V" } : Jvm.MethodName)) ∈ wd := wd_t (List.mem_of_getElem? (i := 496) (by decide +kernel)) rfl
theorem k_497 : (Jvm.Cond.code ({ cls := "LeastSolutions$Lattice", name := "makeLeadPositive", desc := "(II)V" } : Jvm.MethodName) prog_5_method_7_code (4 : Nat) (Option.none : Option Jvm.ClassFile.FieldType)) ∈ wd := wd_t (List.mem_of_getElem? (i := 497) (by decide +kernel)) rfl
theorem k_506 : (Jvm.Cond.methodLink "LeastSolutions$Lattice" (85 : Nat) ({ cls := "LeastSolutions$Lattice", name := "reduce", desc := "([JI)V" } : Jvm.MethodName)) ∈ wd := wd_t (List.mem_of_getElem? (i := 506) (by decide +kernel)) rfl
theorem k_508 : (Jvm.Cond.instanceMethod ({ cls := "LeastSolutions$Lattice", name := "reduce", desc := "([JI)V" } : Jvm.MethodName)) ∈ wd := wd_t (List.mem_of_getElem? (i := 508) (by decide +kernel)) rfl
theorem k_509 : (Jvm.Cond.code ({ cls := "LeastSolutions$Lattice", name := "reduce", desc := "([JI)V" } : Jvm.MethodName) prog_5_method_9_code (5 : Nat) (Option.none : Option Jvm.ClassFile.FieldType)) ∈ wd := wd_t (List.mem_of_getElem? (i := 509) (by decide +kernel)) rfl
abbrev y_LA_joinFresh : MethodName := ⟨"LeastSolutions$Lattice", "joinFresh", "(II)V"⟩
abbrev b_LA_joinFresh : ByteArray := prog_5_method_5_code
abbrev y_LA_makeLeadPositive : MethodName := ⟨"LeastSolutions$Lattice", "makeLeadPositive", "(II)V"⟩
abbrev b_LA_makeLeadPositive : ByteArray := prog_5_method_7_code
abbrev y_LA_placeFresh : MethodName := ⟨"LeastSolutions$Lattice", "placeFresh", "(I)V"⟩
abbrev b_LA_placeFresh : ByteArray := prog_5_method_4_code
abbrev y_LA_reduceAll : MethodName := ⟨"LeastSolutions$Lattice", "reduceAll", "()V"⟩
abbrev b_LA_reduceAll : ByteArray := prog_5_method_8_code
abbrev y_LA_swapFresh : MethodName := ⟨"LeastSolutions$Lattice", "swapFresh", "(I)V"⟩
abbrev b_LA_swapFresh : ByteArray := prog_5_method_6_code
theorem ks_LA_makeLeadPositive : Cond.selects "LeastSolutions$Lattice" ({ cls := "LeastSolutions$Lattice", name := "makeLeadPositive", desc := "(II)V" } : Jvm.MethodName) ({ cls := "LeastSolutions$Lattice", name := "makeLeadPositive", desc := "(II)V" } : Jvm.MethodName) ∈ wd := wd_p (q := (⟨"LeastSolutions$Lattice", "makeLeadPositive", "(II)V"⟩, 9)) (List.mem_of_getElem? (i := 15) (by decide +kernel))
theorem ks_LA_reduce : Cond.selects "LeastSolutions$Lattice" ({ cls := "LeastSolutions$Lattice", name := "reduce", desc := "([JI)V" } : Jvm.MethodName) ({ cls := "LeastSolutions$Lattice", name := "reduce", desc := "([JI)V" } : Jvm.MethodName) ∈ wd := wd_p (q := (⟨"LeastSolutions$Lattice", "reduce", "([JI)V"⟩, 9)) (List.mem_of_getElem? (i := 18) (by decide +kernel))
theorem ks_LA_swapFresh : Cond.selects "LeastSolutions$Lattice" ({ cls := "LeastSolutions$Lattice", name := "swapFresh", desc := "(I)V" } : Jvm.MethodName) ({ cls := "LeastSolutions$Lattice", name := "swapFresh", desc := "(I)V" } : Jvm.MethodName) ∈ wd := wd_p (q := (⟨"LeastSolutions$Lattice", "swapFresh", "(I)V"⟩, 9)) (List.mem_of_getElem? (i := 14) (by decide +kernel))
