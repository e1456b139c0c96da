theorem k_10 : (Jvm.Cond.initialized "LeastSolutions$VectorList") ∈ wd := wd_t (List.mem_of_getElem? (i := 10) (by decide +kernel)) rfl
theorem k_267 : (Jvm.Cond.fieldLink "LeastSolutions$VectorList" (9 : Nat) "LeastSolutions$VectorList" "numbers" "[B") ∈ wd := wd_t (List.mem_of_getElem? (i := 267) (by decide +kernel)) rfl
theorem k_268 : (Jvm.Cond.fieldLink "LeastSolutions$VectorList" (15 : Nat) "LeastSolutions$VectorList" "isThere" "Z") ∈ wd := wd_t (List.mem_of_getElem? (i := 268) (by decide +kernel)) rfl
theorem k_270 : (Jvm.Cond.fieldLink "LeastSolutions$VectorList" (19 : Nat) "LeastSolutions$VectorList" "columns" "I") ∈ wd := wd_t (List.mem_of_getElem? (i := 270) (by decide +kernel)) rfl
theorem k_271 : (Jvm.Cond.fieldLink "LeastSolutions$VectorList" (23 : Nat) "LeastSolutions$VectorList" "bound" "I") ∈ wd := wd_t (List.mem_of_getElem? (i := 271) (by decide +kernel)) rfl
theorem k_273 : (Jvm.Cond.fieldLink "LeastSolutions$VectorList" (26 : Nat) "LeastSolutions$VectorList" "total" "I") ∈ wd := wd_t (List.mem_of_getElem? (i := 273) (by decide +kernel)) rfl
theorem k_275 : (Jvm.Cond.fieldLink "LeastSolutions$VectorList" (29 : Nat) "LeastSolutions$VectorList" "lesser" "I") ∈ wd := wd_t (List.mem_of_getElem? (i := 275) (by decide +kernel)) rfl
theorem k_522 : (Jvm.Cond.instanceMethod ({ cls := "LeastSolutions$VectorList", name := "drop", desc := "()V" } : Jvm.MethodName)) ∈ wd := wd_t (List.mem_of_getElem? (i := 522) (by decide +kernel)) rfl
theorem k_523 : (Jvm.Cond.selects "LeastSolutions$VectorList" ({ cls := "LeastSolutions$VectorList", name := "drop", desc := "()V" } : Jvm.MethodName) ({ cls := "LeastSolutions$VectorList", name := "drop", desc := "()V" } : Jvm.MethodName)) ∈ wd := wd_t (List.mem_of_getElem? (i := 523) (by decide +kernel)) rfl
theorem k_524 : (Jvm.Cond.code ({ cls := "LeastSolutions$VectorList", name := "drop", desc := "()V" } : Jvm.MethodName) prog_9_method_3_code (1 : Nat) (Option.none : Option Jvm.ClassFile.FieldType)) ∈ wd := wd_t (List.mem_of_getElem? (i := 524) (by decide +kernel)) rfl
theorem k_562 : (Jvm.Cond.methodLink "LeastSolutions$VectorList" (39 : Nat) ({ cls := "LeastSolutions$VectorList", name := "isWithin", desc := "(I[I)Z" } : Jvm.MethodName)) ∈ wd := wd_t (List.mem_of_getElem? (i := 562) (by decide +kernel)) rfl
theorem k_563 : (Jvm.Cond.instanceMethod ({ cls := "LeastSolutions$VectorList", name := "isWithin", desc := "(I[I)Z" } : Jvm.MethodName)) ∈ wd := wd_t (List.mem_of_getElem? (i := 563) (by decide +kernel)) rfl
theorem k_564 : (Jvm.Cond.selects "LeastSolutions$VectorList" ({ cls := "LeastSolutions$VectorList", name := "isWithin", desc := "(I[I)Z" } : Jvm.MethodName) ({ cls := "LeastSolutions$VectorList", name := "isWithin", desc := "(I[I)Z" } : Jvm.MethodName)) ∈ wd := wd_t (List.mem_of_getElem? (i := 564) (by decide +kernel)) rfl
theorem k_565 : (Jvm.Cond.code ({ cls := "LeastSolutions$VectorList", name := "isWithin", desc := "(I[I)Z" } : Jvm.MethodName) prog_9_method_9_code (7 : Nat) (Option.some Jvm.ClassFile.FieldType.boolean)) ∈ wd := wd_t (List.mem_of_getElem? (i := 565) (by decide +kernel)) rfl
theorem k_573 : (Jvm.Cond.methodLink "LeastSolutions$VectorList" (43 : Nat) ({ cls := "LeastSolutions$VectorList", name := "numberOf", desc := "(II)I" } : Jvm.MethodName)) ∈ wd := wd_t (List.mem_of_getElem? (i := 573) (by decide +kernel)) rfl
theorem k_574 : (Jvm.Cond.instanceMethod ({ cls := "LeastSolutions$VectorList", name := "numberOf", desc := "(II)I" } : Jvm.MethodName)) ∈ wd := wd_t (List.mem_of_getElem? (i := 574) (by decide +kernel)) rfl
theorem k_575 : (Jvm.Cond.selects "LeastSolutions$VectorList" ({ cls := "LeastSolutions$VectorList", name := "numberOf", desc := "(II)I" } : Jvm.MethodName) ({ cls := "LeastSolutions$VectorList", name := "numberOf", desc := "(II)I" } : Jvm.MethodName)) ∈ wd := wd_t (List.mem_of_getElem? (i := 575) (by decide +kernel)) rfl
theorem k_576 : (Jvm.Cond.code ({ cls := "LeastSolutions$VectorList", name := "numberOf", desc := "(II)I" } : Jvm.MethodName) prog_9_method_5_code (3 : Nat) (Option.some Jvm.ClassFile.FieldType.int)) ∈ wd := wd_t (List.mem_of_getElem? (i := 576) (by decide +kernel)) rfl
theorem k_811 : (Jvm.Cond.methodLink "LeastSolutions$VectorList" (32 : Nat) ({ cls := "LeastSolutions$VectorList", name := "hasOneWithin", desc := "([I)Z" } : Jvm.MethodName)) ∈ wd := wd_t (List.mem_of_getElem? (i := 811) (by decide +kernel)) rfl
theorem k_813 : (Jvm.Cond.instanceMethod ({ cls := "LeastSolutions$VectorList", name := "hasOneWithin", desc := "([I)Z" } : Jvm.MethodName)) ∈ wd := wd_t (List.mem_of_getElem? (i := 813) (by decide +kernel)) rfl
theorem k_814 : (Jvm.Cond.code ({ cls := "LeastSolutions$VectorList", name := "hasOneWithin", desc := "([I)Z" } : Jvm.MethodName) prog_9_method_8_code (3 : Nat) (Option.some Jvm.ClassFile.FieldType.boolean)) ∈ wd := wd_t (List.mem_of_getElem? (i := 814) (by decide +kernel)) rfl
theorem k_815 : (Jvm.Cond.methodLink "LeastSolutions$VectorList" (36 : Nat) ({ cls := "LeastSolutions$VectorList", name := "drop", desc := "()V" } : Jvm.MethodName)) ∈ wd := wd_t (List.mem_of_getElem? (i := 815) (by decide +kernel)) rfl
abbrev y_VL_begin : MethodName := ⟨"LeastSolutions$VectorList", "begin", "(II)V"⟩
abbrev b_VL_begin : ByteArray := prog_9_method_2_code
abbrev y_VL_beginSize : MethodName := ⟨"LeastSolutions$VectorList", "beginSize", "()V"⟩
abbrev b_VL_beginSize : ByteArray := prog_9_method_6_code
abbrev y_VL_drop : MethodName := ⟨"LeastSolutions$VectorList", "drop", "()V"⟩
abbrev b_VL_drop : ByteArray := prog_9_method_3_code
abbrev y_VL_firstWithin : MethodName := ⟨"LeastSolutions$VectorList", "firstWithin", "([I)I"⟩
abbrev b_VL_firstWithin : ByteArray := prog_9_method_10_code
abbrev y_VL_has : MethodName := ⟨"LeastSolutions$VectorList", "has", "(I)Z"⟩
abbrev b_VL_has : ByteArray := prog_9_method_4_code
abbrev y_VL_hasOneWithin : MethodName := ⟨"LeastSolutions$VectorList", "hasOneWithin", "([I)Z"⟩
abbrev b_VL_hasOneWithin : ByteArray := prog_9_method_8_code
abbrev y_VL_isWithin : MethodName := ⟨"LeastSolutions$VectorList", "isWithin", "(I[I)Z"⟩
abbrev b_VL_isWithin : ByteArray := prog_9_method_9_code
abbrev y_VL_numberOf : MethodName := ⟨"LeastSolutions$VectorList", "numberOf", "(II)I"⟩
abbrev b_VL_numberOf : ByteArray := prog_9_method_5_code
abbrev y_VL_take : MethodName := ⟨"LeastSolutions$VectorList", "take", "([I)Z"⟩
abbrev b_VL_take : ByteArray := prog_9_method_7_code
abbrev y_VL_takeFrom : MethodName := ⟨"LeastSolutions$VectorList", "takeFrom", "([II)V"⟩
abbrev b_VL_takeFrom : ByteArray := prog_9_method_11_code
theorem ks_VL_hasOneWithin : Cond.selects "LeastSolutions$VectorList" ({ cls := "LeastSolutions$VectorList", name := "hasOneWithin", desc := "([I)Z" } : Jvm.MethodName) ({ cls := "LeastSolutions$VectorList", name := "hasOneWithin", desc := "([I)Z" } : Jvm.MethodName) ∈ wd := wd_p (q := (⟨"LeastSolutions$VectorList", "hasOneWithin", "([I)Z"⟩, 6)) (List.mem_of_getElem? (i := 33) (by decide +kernel))
