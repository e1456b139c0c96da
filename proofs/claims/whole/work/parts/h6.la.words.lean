theorem k_6 : (Jvm.Cond.initialized "LeastSolutions$Lattice") ∈ wd := wd_t (List.mem_of_getElem? (i := 6) (by decide +kernel)) rfl
theorem k_167 : (Jvm.Cond.fieldLink "LeastSolutions$Lattice" (13 : Nat) "LeastSolutions$Lattice" "basis" "[[J") ∈ wd := wd_t (List.mem_of_getElem? (i := 167) (by decide +kernel)) rfl
theorem k_168 : (Jvm.Cond.fieldLink "LeastSolutions$Lattice" (16 : Nat) "LeastSolutions$Lattice" "rowLeadingAt" "[I") ∈ wd := wd_t (List.mem_of_getElem? (i := 168) (by decide +kernel)) rfl
theorem k_175 : (Jvm.Cond.fieldLink "LeastSolutions$Lattice" (37 : Nat) "LeastSolutions$Lattice" "width" "I") ∈ wd := wd_t (List.mem_of_getElem? (i := 175) (by decide +kernel)) rfl
theorem k_502 : (Jvm.Cond.methodLink "LeastSolutions$Lattice" (92 : Nat) ({ cls := "LeastSolutions$Lattice", name := "takeTimes", desc := "([J[JJ)V" } : Jvm.MethodName)) ∈ wd := wd_t (List.mem_of_getElem? (i := 502) (by decide +kernel)) rfl
theorem k_504 : (Jvm.Cond.instanceMethod ({ cls := "LeastSolutions$Lattice", name := "takeTimes", desc := "([J[JJ)V" } : Jvm.MethodName)) ∈ wd := wd_t (List.mem_of_getElem? (i := 504) (by decide +kernel)) rfl
theorem k_505 : (Jvm.Cond.code ({ cls := "LeastSolutions$Lattice", name := "takeTimes", desc := "([J[JJ)V" } : Jvm.MethodName) prog_5_method_10_code (6 : Nat) (Option.none : Option Jvm.ClassFile.FieldType)) ∈ wd := wd_t (List.mem_of_getElem? (i := 505) (by decide +kernel)) rfl
theorem k_510 : (Jvm.Cond.methodLink "LeastSolutions$Lattice" (96 : Nat) ({ cls := "java/lang/Math", name := "floorDiv", desc := "(JJ)J" } : Jvm.MethodName)) ∈ wd := wd_t (List.mem_of_getElem? (i := 510) (by decide +kernel)) rfl
theorem k_511 : (Jvm.Cond.static ({ cls := "java/lang/Math", name := "floorDiv", desc := "(JJ)J" } : Jvm.MethodName)) ∈ wd := wd_t (List.mem_of_getElem? (i := 511) (by decide +kernel)) rfl
theorem k_512 : (Jvm.Cond.code ({ cls := "java/lang/Math", name := "floorDiv", desc := "(JJ)J" } : Jvm.MethodName) prog_17_method_49_code (6 : Nat) (Option.some Jvm.ClassFile.FieldType.long)) ∈ wd := wd_t (List.mem_of_getElem? (i := 512) (by decide +kernel)) rfl
abbrev y_LA_reduce : MethodName := ⟨"LeastSolutions$Lattice", "reduce", "([JI)V"⟩
abbrev b_LA_reduce : ByteArray := prog_5_method_9_code
abbrev y_LA_takeTimes : MethodName := ⟨"LeastSolutions$Lattice", "takeTimes", "([J[JJ)V"⟩
abbrev b_LA_takeTimes : ByteArray := prog_5_method_10_code
theorem ks_LA_takeTimes : Cond.selects "LeastSolutions$Lattice" ({ cls := "LeastSolutions$Lattice", name := "takeTimes", desc := "([J[JJ)V" } : Jvm.MethodName) ({ cls := "LeastSolutions$Lattice", name := "takeTimes", desc := "([J[JJ)V" } : Jvm.MethodName) ∈ wd := wd_p (q := (⟨"LeastSolutions$Lattice", "takeTimes", "([J[JJ)V"⟩, 9)) (List.mem_of_getElem? (i := 17) (by decide +kernel))
