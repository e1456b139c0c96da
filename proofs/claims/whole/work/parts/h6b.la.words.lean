theorem k_169 : (Jvm.Cond.fieldLink "LeastSolutions$Lattice" (20 : Nat) "LeastSolutions$Lattice" "kernelRows" "[I") ∈ wd := wd_t (List.mem_of_getElem? (i := 169) (by decide +kernel)) rfl
theorem k_170 : (Jvm.Cond.fieldLink "LeastSolutions$Lattice" (23 : Nat) "LeastSolutions$Lattice" "target" "[J") ∈ wd := wd_t (List.mem_of_getElem? (i := 170) (by decide +kernel)) rfl
theorem k_172 : (Jvm.Cond.fieldLink "LeastSolutions$Lattice" (30 : Nat) "LeastSolutions$Lattice" "kernelVectors" "I") ∈ wd := wd_t (List.mem_of_getElem? (i := 172) (by decide +kernel)) rfl
theorem k_174 : (Jvm.Cond.fieldLink "LeastSolutions$Lattice" (34 : Nat) "LeastSolutions$Lattice" "height" "I") ∈ wd := wd_t (List.mem_of_getElem? (i := 174) (by decide +kernel)) rfl
theorem k_486 : (Jvm.Cond.methodLink "LeastSolutions$Lattice" (74 : Nat) ({ cls := "LeastSolutions$Lattice", name := "placeFresh", desc := "(I)V" } : Jvm.MethodName)) ∈ wd := wd_t (List.mem_of_getElem? (i := 486) (by decide +kernel)) rfl
theorem k_488 : (Jvm.Cond.instanceMethod ({ cls := "LeastSolutions$Lattice", name := "placeFresh", desc := "(I)V" } : Jvm.MethodName)) ∈ wd := wd_t (List.mem_of_getElem? (i := 488) (by decide +kernel)) rfl
theorem k_489 : (Jvm.Cond.code ({ cls := "LeastSolutions$Lattice", name := "placeFresh", desc := "(I)V" } : Jvm.MethodName) prog_5_method_4_code (2 : Nat) (Option.none : Option Jvm.ClassFile.FieldType)) ∈ wd := wd_t (List.mem_of_getElem? (i := 489) (by decide +kernel)) rfl
theorem k_498 : (Jvm.Cond.methodLink "LeastSolutions$Lattice" (78 : Nat) ({ cls := "LeastSolutions$Lattice", name := "joinFresh", desc := "(II)V" } : Jvm.MethodName)) ∈ wd := wd_t (List.mem_of_getElem? (i := 498) (by decide +kernel)) rfl
theorem k_500 : (Jvm.Cond.instanceMethod ({ cls := "LeastSolutions$Lattice", name := "joinFresh", desc := "(II)V" } : Jvm.MethodName)) ∈ wd := wd_t (List.mem_of_getElem? (i := 500) (by decide +kernel)) rfl
theorem k_501 : (Jvm.Cond.code ({ cls := "LeastSolutions$Lattice", name := "joinFresh", desc := "(II)V" } : Jvm.MethodName) prog_5_method_5_code (4 : Nat) (Option.none : Option Jvm.ClassFile.FieldType)) ∈ wd := wd_t (List.mem_of_getElem? (i := 501) (by decide +kernel)) rfl
theorem k_701 : (Jvm.Cond.methodLink "LeastSolutions$Lattice" (105 : Nat) ({ cls := "LeastSolutions$Lattice", name := "takeFromTarget", desc := "(I)Z" } : Jvm.MethodName)) ∈ wd := wd_t (List.mem_of_getElem? (i := 701) (by decide +kernel)) rfl
theorem k_703 : (Jvm.Cond.instanceMethod ({ cls := "LeastSolutions$Lattice", name := "takeFromTarget", desc := "(I)Z" } : Jvm.MethodName)) ∈ wd := wd_t (List.mem_of_getElem? (i := 703) (by decide +kernel)) rfl
theorem k_704 : (Jvm.Cond.code ({ cls := "LeastSolutions$Lattice", name := "takeFromTarget", desc := "(I)Z" } : Jvm.MethodName) prog_5_method_14_code (6 : Nat) (Option.some Jvm.ClassFile.FieldType.boolean)) ∈ wd := wd_t (List.mem_of_getElem? (i := 704) (by decide +kernel)) rfl
abbrev y_LA_findKernel : MethodName := ⟨"LeastSolutions$Lattice", "findKernel", "()V"⟩
abbrev b_LA_findKernel : ByteArray := prog_5_method_11_code
abbrev y_LA_insertFresh : MethodName := ⟨"LeastSolutions$Lattice", "insertFresh", "()V"⟩
abbrev b_LA_insertFresh : ByteArray := prog_5_method_3_code
abbrev y_LA_kernelNumber : MethodName := ⟨"LeastSolutions$Lattice", "kernelNumber", "(II)J"⟩
abbrev b_LA_kernelNumber : ByteArray := prog_5_method_12_code
abbrev y_LA_reaches : MethodName := ⟨"LeastSolutions$Lattice", "reaches", "(LLeastSolutions$Equations;)Z"⟩
abbrev b_LA_reaches : ByteArray := prog_5_method_13_code
abbrev y_LA_takeFromTarget : MethodName := ⟨"LeastSolutions$Lattice", "takeFromTarget", "(I)Z"⟩
abbrev b_LA_takeFromTarget : ByteArray := prog_5_method_14_code
theorem ks_LA_joinFresh : Cond.selects "LeastSolutions$Lattice" ({ cls := "LeastSolutions$Lattice", name := "joinFresh", desc := "(II)V" } : Jvm.MethodName) ({ cls := "LeastSolutions$Lattice", name := "joinFresh", desc := "(II)V" } : Jvm.MethodName) ∈ wd := wd_p (q := (⟨"LeastSolutions$Lattice", "joinFresh", "(II)V"⟩, 9)) (List.mem_of_getElem? (i := 16) (by decide +kernel))
theorem ks_LA_placeFresh : Cond.selects "LeastSolutions$Lattice" ({ cls := "LeastSolutions$Lattice", name := "placeFresh", desc := "(I)V" } : Jvm.MethodName) ({ cls := "LeastSolutions$Lattice", name := "placeFresh", desc := "(I)V" } : Jvm.MethodName) ∈ wd := wd_p (q := (⟨"LeastSolutions$Lattice", "placeFresh", "(I)V"⟩, 9)) (List.mem_of_getElem? (i := 13) (by decide +kernel))
theorem ks_LA_takeFromTarget : Cond.selects "LeastSolutions$Lattice" ({ cls := "LeastSolutions$Lattice", name := "takeFromTarget", desc := "(I)Z" } : Jvm.MethodName) ({ cls := "LeastSolutions$Lattice", name := "takeFromTarget", desc := "(I)Z" } : Jvm.MethodName) ∈ wd := wd_p (q := (⟨"LeastSolutions$Lattice", "takeFromTarget", "(I)Z"⟩, 9)) (List.mem_of_getElem? (i := 26) (by decide +kernel))
