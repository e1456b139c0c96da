theorem k_292 : (Jvm.Cond.fieldLink "LeastSolutions" (33 : Nat) "LeastSolutions" "lattice" "LLeastSolutions$Lattice;") ∈ wd := wd_t (List.mem_of_getElem? (i := 292) (by decide +kernel)) rfl
theorem k_294 : (Jvm.Cond.fieldLink "LeastSolutions" (46 : Nat) "LeastSolutions" "lists" "[LLeastSolutions$VectorList;") ∈ wd := wd_t (List.mem_of_getElem? (i := 294) (by decide +kernel)) rfl
theorem k_295 : (Jvm.Cond.fieldLink "LeastSolutions" (53 : Nat) "LeastSolutions" "cheapest" "LLeastSolutions$Cheapest;") ∈ wd := wd_t (List.mem_of_getElem? (i := 295) (by decide +kernel)) rfl
theorem k_296 : (Jvm.Cond.fieldLink "LeastSolutions" (57 : Nat) "LeastSolutions" "told" "[I") ∈ wd := wd_t (List.mem_of_getElem? (i := 296) (by decide +kernel)) rfl
theorem k_298 : (Jvm.Cond.fieldLink "LeastSolutions" (64 : Nat) "LeastSolutions" "taken" "[I") ∈ wd := wd_t (List.mem_of_getElem? (i := 298) (by decide +kernel)) rfl
theorem k_299 : (Jvm.Cond.fieldLink "LeastSolutions" (67 : Nat) "LeastSolutions" "bestVector" "[I") ∈ wd := wd_t (List.mem_of_getElem? (i := 299) (by decide +kernel)) rfl
theorem k_302 : (Jvm.Cond.fieldLink "LeastSolutions" (81 : Nat) "LeastSolutions" "hasSplit" "Z") ∈ wd := wd_t (List.mem_of_getElem? (i := 302) (by decide +kernel)) rfl
theorem k_303 : (Jvm.Cond.fieldLink "LeastSolutions" (84 : Nat) "LeastSolutions" "hasBest" "Z") ∈ wd := wd_t (List.mem_of_getElem? (i := 303) (by decide +kernel)) rfl
theorem k_547 : (Jvm.Cond.methodLink "LeastSolutions" (185 : Nat) ({ cls := "LeastSolutions", name := "isBelowZero", desc := "([I)Z" } : Jvm.MethodName)) ∈ wd := wd_t (List.mem_of_getElem? (i := 547) (by decide +kernel)) rfl
theorem k_548 : (Jvm.Cond.static ({ cls := "LeastSolutions", name := "isBelowZero", desc := "([I)Z" } : Jvm.MethodName)) ∈ wd := wd_t (List.mem_of_getElem? (i := 548) (by decide +kernel)) rfl
theorem k_549 : (Jvm.Cond.code ({ cls := "LeastSolutions", name := "isBelowZero", desc := "([I)Z" } : Jvm.MethodName) prog_1_method_29_code (5 : Nat) (Option.some Jvm.ClassFile.FieldType.boolean)) ∈ wd := wd_t (List.mem_of_getElem? (i := 549) (by decide +kernel)) rfl
theorem k_550 : (Jvm.Cond.methodLink "LeastSolutions" (181 : Nat) ({ cls := "LeastSolutions$Equations", name := "solvedBy", desc := "([IZ)Z" } : Jvm.MethodName)) ∈ wd := wd_t (List.mem_of_getElem? (i := 550) (by decide +kernel)) rfl
theorem k_551 : (Jvm.Cond.instanceMethod ({ cls := "LeastSolutions$Equations", name := "solvedBy", desc := "([IZ)Z" } : Jvm.MethodName)) ∈ wd := wd_t (List.mem_of_getElem? (i := 551) (by decide +kernel)) rfl
theorem k_552 : (Jvm.Cond.selects "LeastSolutions$Equations" ({ cls := "LeastSolutions$Equations", name := "solvedBy", desc := "([IZ)Z" } : Jvm.MethodName) ({ cls := "LeastSolutions$Equations", name := "solvedBy", desc := "([IZ)Z" } : Jvm.MethodName)) ∈ wd := wd_t (List.mem_of_getElem? (i := 552) (by decide +kernel)) rfl
theorem k_553 : (Jvm.Cond.code ({ cls := "LeastSolutions$Equations", name := "solvedBy", desc := "([IZ)Z" } : Jvm.MethodName) prog_4_method_9_code (6 : Nat) (Option.some Jvm.ClassFile.FieldType.boolean)) ∈ wd := wd_t (List.mem_of_getElem? (i := 553) (by decide +kernel)) rfl
theorem k_586 : (Jvm.Cond.methodLink "LeastSolutions" (170 : Nat) ({ cls := "LeastSolutions$VectorList", name := "has", desc := "(I)Z" } : Jvm.MethodName)) ∈ wd := wd_t (List.mem_of_getElem? (i := 586) (by decide +kernel)) rfl
theorem k_587 : (Jvm.Cond.instanceMethod ({ cls := "LeastSolutions$VectorList", name := "has", desc := "(I)Z" } : Jvm.MethodName)) ∈ wd := wd_t (List.mem_of_getElem? (i := 587) (by decide +kernel)) rfl
theorem k_588 : (Jvm.Cond.selects "LeastSolutions$VectorList" ({ cls := "LeastSolutions$VectorList", name := "has", desc := "(I)Z" } : Jvm.MethodName) ({ cls := "LeastSolutions$VectorList", name := "has", desc := "(I)Z" } : Jvm.MethodName)) ∈ wd := wd_t (List.mem_of_getElem? (i := 588) (by decide +kernel)) rfl
theorem k_589 : (Jvm.Cond.code ({ cls := "LeastSolutions$VectorList", name := "has", desc := "(I)Z" } : Jvm.MethodName) prog_9_method_4_code (2 : Nat) (Option.some Jvm.ClassFile.FieldType.boolean)) ∈ wd := wd_t (List.mem_of_getElem? (i := 589) (by decide +kernel)) rfl
theorem k_678 : (Jvm.Cond.methodLink "LeastSolutions" (128 : Nat) ({ cls := "LeastSolutions", name := "needSystem", desc := "()V" } : Jvm.MethodName)) ∈ wd := wd_t (List.mem_of_getElem? (i := 678) (by decide +kernel)) rfl
theorem k_680 : (Jvm.Cond.instanceMethod ({ cls := "LeastSolutions", name := "needSystem", desc := "()V" } : Jvm.MethodName)) ∈ wd := wd_t (List.mem_of_getElem? (i := 680) (by decide +kernel)) rfl
theorem k_681 : (Jvm.Cond.code ({ cls := "LeastSolutions", name := "needSystem", desc := "()V" } : Jvm.MethodName) prog_1_method_26_code (1 : Nat) (Option.none : Option Jvm.ClassFile.FieldType)) ∈ wd := wd_t (List.mem_of_getElem? (i := 681) (by decide +kernel)) rfl
theorem k_697 : (Jvm.Cond.methodLink "LeastSolutions" (131 : Nat) ({ cls := "LeastSolutions$Lattice", name := "reaches", desc := "(LLeastSolutions$Equations;)Z" } : Jvm.MethodName)) ∈ wd := wd_t (List.mem_of_getElem? (i := 697) (by decide +kernel)) rfl
theorem k_698 : (Jvm.Cond.instanceMethod ({ cls := "LeastSolutions$Lattice", name := "reaches", desc := "(LLeastSolutions$Equations;)Z" } : Jvm.MethodName)) ∈ wd := wd_t (List.mem_of_getElem? (i := 698) (by decide +kernel)) rfl
theorem k_699 : (Jvm.Cond.selects "LeastSolutions$Lattice" ({ cls := "LeastSolutions$Lattice", name := "reaches", desc := "(LLeastSolutions$Equations;)Z" } : Jvm.MethodName) ({ cls := "LeastSolutions$Lattice", name := "reaches", desc := "(LLeastSolutions$Equations;)Z" } : Jvm.MethodName)) ∈ wd := wd_t (List.mem_of_getElem? (i := 699) (by decide +kernel)) rfl
theorem k_700 : (Jvm.Cond.code ({ cls := "LeastSolutions$Lattice", name := "reaches", desc := "(LLeastSolutions$Equations;)Z" } : Jvm.MethodName) prog_5_method_13_code (3 : Nat) (Option.some Jvm.ClassFile.FieldType.boolean)) ∈ wd := wd_t (List.mem_of_getElem? (i := 700) (by decide +kernel)) rfl
theorem k_719 : (Jvm.Cond.methodLink "LeastSolutions" (138 : Nat) ({ cls := "LeastSolutions", name := "needColumn", desc := "(I)V" } : Jvm.MethodName)) ∈ wd := wd_t (List.mem_of_getElem? (i := 719) (by decide +kernel)) rfl
theorem k_721 : (Jvm.Cond.instanceMethod ({ cls := "LeastSolutions", name := "needColumn", desc := "(I)V" } : Jvm.MethodName)) ∈ wd := wd_t (List.mem_of_getElem? (i := 721) (by decide +kernel)) rfl
theorem k_722 : (Jvm.Cond.code ({ cls := "LeastSolutions", name := "needColumn", desc := "(I)V" } : Jvm.MethodName) prog_1_method_25_code (2 : Nat) (Option.none : Option Jvm.ClassFile.FieldType)) ∈ wd := wd_t (List.mem_of_getElem? (i := 722) (by decide +kernel)) rfl
theorem k_723 : (Jvm.Cond.methodLink "LeastSolutions" (142 : Nat) ({ cls := "LeastSolutions$Lattice", name := "kernelNumber", desc := "(II)J" } : Jvm.MethodName)) ∈ wd := wd_t (List.mem_of_getElem? (i := 723) (by decide +kernel)) rfl
theorem k_724 : (Jvm.Cond.instanceMethod ({ cls := "LeastSolutions$Lattice", name := "kernelNumber", desc := "(II)J" } : Jvm.MethodName)) ∈ wd := wd_t (List.mem_of_getElem? (i := 724) (by decide +kernel)) rfl
theorem k_725 : (Jvm.Cond.selects "LeastSolutions$Lattice" ({ cls := "LeastSolutions$Lattice", name := "kernelNumber", desc := "(II)J" } : Jvm.MethodName) ({ cls := "LeastSolutions$Lattice", name := "kernelNumber", desc := "(II)J" } : Jvm.MethodName)) ∈ wd := wd_t (List.mem_of_getElem? (i := 725) (by decide +kernel)) rfl
theorem k_726 : (Jvm.Cond.code ({ cls := "LeastSolutions$Lattice", name := "kernelNumber", desc := "(II)J" } : Jvm.MethodName) prog_5_method_12_code (3 : Nat) (Option.some Jvm.ClassFile.FieldType.long)) ∈ wd := wd_t (List.mem_of_getElem? (i := 726) (by decide +kernel)) rfl
theorem k_827 : (Jvm.Cond.methodLink "LeastSolutions" (174 : Nat) ({ cls := "LeastSolutions$VectorList", name := "numberOf", desc := "(II)I" } : Jvm.MethodName)) ∈ wd := wd_t (List.mem_of_getElem? (i := 827) (by decide +kernel)) rfl
theorem k_835 : (Jvm.Cond.methodLink "LeastSolutions" (178 : Nat) ({ cls := "LeastSolutions", name := "needTellable", desc := "(I)V" } : Jvm.MethodName)) ∈ wd := wd_t (List.mem_of_getElem? (i := 835) (by decide +kernel)) rfl
theorem k_836 : (Jvm.Cond.static ({ cls := "LeastSolutions", name := "needTellable", desc := "(I)V" } : Jvm.MethodName)) ∈ wd := wd_t (List.mem_of_getElem? (i := 836) (by decide +kernel)) rfl
theorem k_837 : (Jvm.Cond.code ({ cls := "LeastSolutions", name := "needTellable", desc := "(I)V" } : Jvm.MethodName) prog_1_method_27_code (1 : Nat) (Option.none : Option Jvm.ClassFile.FieldType)) ∈ wd := wd_t (List.mem_of_getElem? (i := 837) (by decide +kernel)) rfl
abbrev y_LS_at : MethodName := ⟨"LeastSolutions", "at", "(III)I"⟩
abbrev b_LS_at : ByteArray := prog_1_method_12_code
abbrev y_LS_bestAt : MethodName := ⟨"LeastSolutions", "bestAt", "(I)I"⟩
abbrev b_LS_bestAt : ByteArray := prog_1_method_19_code
abbrev y_LS_cost : MethodName := ⟨"LeastSolutions", "cost", "(II)V"⟩
abbrev b_LS_cost : ByteArray := prog_1_method_17_code
abbrev y_LS_holds : MethodName := ⟨"LeastSolutions", "holds", "()I"⟩
abbrev b_LS_holds : ByteArray := prog_1_method_14_code
abbrev y_LS_kernel : MethodName := ⟨"LeastSolutions", "kernel", "()I"⟩
abbrev b_LS_kernel : ByteArray := prog_1_method_9_code
abbrev y_LS_kernelAt : MethodName := ⟨"LeastSolutions", "kernelAt", "(II)J"⟩
abbrev b_LS_kernelAt : ByteArray := prog_1_method_10_code
abbrev y_LS_number : MethodName := ⟨"LeastSolutions", "number", "(II)I"⟩
abbrev b_LS_number : ByteArray := prog_1_method_7_code
abbrev y_LS_solvable : MethodName := ⟨"LeastSolutions", "solvable", "()I"⟩
abbrev b_LS_solvable : ByteArray := prog_1_method_8_code
abbrev y_LS_tell : MethodName := ⟨"LeastSolutions", "tell", "(II)V"⟩
abbrev b_LS_tell : ByteArray := prog_1_method_13_code
abbrev y_LS_times : MethodName := ⟨"LeastSolutions", "times", "(I)I"⟩
abbrev b_LS_times : ByteArray := prog_1_method_16_code
theorem ks_LS_needColumn : Cond.selects "LeastSolutions" ({ cls := "LeastSolutions", name := "needColumn", desc := "(I)V" } : Jvm.MethodName) ({ cls := "LeastSolutions", name := "needColumn", desc := "(I)V" } : Jvm.MethodName) ∈ wd := wd_p (q := (⟨"LeastSolutions", "needColumn", "(I)V"⟩, 16)) (List.mem_of_getElem? (i := 27) (by decide +kernel))
theorem ks_LS_needSystem : Cond.selects "LeastSolutions" ({ cls := "LeastSolutions", name := "needSystem", desc := "()V" } : Jvm.MethodName) ({ cls := "LeastSolutions", name := "needSystem", desc := "()V" } : Jvm.MethodName) ∈ wd := wd_p (q := (⟨"LeastSolutions", "needSystem", "()V"⟩, 16)) (List.mem_of_getElem? (i := 25) (by decide +kernel))
