theorem k_9 : (Jvm.Cond.initialized "LeastSolutions$Cheapest") ∈ wd := wd_t (List.mem_of_getElem? (i := 9) (by decide +kernel)) rfl
theorem k_240 : (Jvm.Cond.fieldLink "LeastSolutions$Cheapest" (9 : Nat) "LeastSolutions$Cheapest" "vector" "[I") ∈ wd := wd_t (List.mem_of_getElem? (i := 240) (by decide +kernel)) rfl
theorem k_242 : (Jvm.Cond.fieldLink "LeastSolutions$Cheapest" (15 : Nat) "LeastSolutions$Cheapest" "costs" "[I") ∈ wd := wd_t (List.mem_of_getElem? (i := 242) (by decide +kernel)) rfl
theorem k_244 : (Jvm.Cond.fieldLink "LeastSolutions$Cheapest" (18 : Nat) "LeastSolutions$Cheapest" "columns" "I") ∈ wd := wd_t (List.mem_of_getElem? (i := 244) (by decide +kernel)) rfl
theorem k_245 : (Jvm.Cond.fieldLink "LeastSolutions$Cheapest" (22 : Nat) "LeastSolutions$Cheapest" "price" "I") ∈ wd := wd_t (List.mem_of_getElem? (i := 245) (by decide +kernel)) rfl
theorem k_247 : (Jvm.Cond.fieldLink "LeastSolutions$Cheapest" (25 : Nat) "LeastSolutions$Cheapest" "isFound" "Z") ∈ wd := wd_t (List.mem_of_getElem? (i := 247) (by decide +kernel)) rfl
theorem k_799 : (Jvm.Cond.methodLink "LeastSolutions$Cheapest" (29 : Nat) ({ cls := "LeastSolutions$Cheapest", name := "priceOf", desc := "([I)I" } : Jvm.MethodName)) ∈ wd := wd_t (List.mem_of_getElem? (i := 799) (by decide +kernel)) rfl
theorem k_801 : (Jvm.Cond.instanceMethod ({ cls := "LeastSolutions$Cheapest", name := "priceOf", desc := "([I)I" } : Jvm.MethodName)) ∈ wd := wd_t (List.mem_of_getElem? (i := 801) (by decide +kernel)) rfl
theorem k_802 : (Jvm.Cond.code ({ cls := "LeastSolutions$Cheapest", name := "priceOf", desc := "([I)I" } : Jvm.MethodName) prog_3_method_5_code (4 : Nat) (Option.some Jvm.ClassFile.FieldType.int)) ∈ wd := wd_t (List.mem_of_getElem? (i := 802) (by decide +kernel)) rfl
theorem k_803 : (Jvm.Cond.methodLink "LeastSolutions$Cheapest" (33 : Nat) ({ cls := "LeastSolutions$Cheapest", name := "isBefore", desc := "([I)Z" } : Jvm.MethodName)) ∈ wd := wd_t (List.mem_of_getElem? (i := 803) (by decide +kernel)) rfl
theorem k_805 : (Jvm.Cond.instanceMethod ({ cls := "LeastSolutions$Cheapest", name := "isBefore", desc := "([I)Z" } : Jvm.MethodName)) ∈ wd := wd_t (List.mem_of_getElem? (i := 805) (by decide +kernel)) rfl
theorem k_806 : (Jvm.Cond.code ({ cls := "LeastSolutions$Cheapest", name := "isBefore", desc := "([I)Z" } : Jvm.MethodName) prog_3_method_6_code (3 : Nat) (Option.some Jvm.ClassFile.FieldType.boolean)) ∈ wd := wd_t (List.mem_of_getElem? (i := 806) (by decide +kernel)) rfl
theorem k_807 : (Jvm.Cond.methodLink "LeastSolutions$Cheapest" (37 : Nat) ({ cls := "java/lang/System", name := "arraycopy", desc := "(Ljava/lang/Object;ILjava/lang/Object;II)V" } : Jvm.MethodName)) ∈ wd := wd_t (List.mem_of_getElem? (i := 807) (by decide +kernel)) rfl
abbrev y_CH_begin : MethodName := ⟨"LeastSolutions$Cheapest", "begin", "(I)V"⟩
abbrev b_CH_begin : ByteArray := prog_3_method_2_code
abbrev y_CH_beginSize : MethodName := ⟨"LeastSolutions$Cheapest", "beginSize", "()V"⟩
abbrev b_CH_beginSize : ByteArray := prog_3_method_3_code
abbrev y_CH_isBefore : MethodName := ⟨"LeastSolutions$Cheapest", "isBefore", "([I)Z"⟩
abbrev b_CH_isBefore : ByteArray := prog_3_method_6_code
abbrev y_CH_priceOf : MethodName := ⟨"LeastSolutions$Cheapest", "priceOf", "([I)I"⟩
abbrev b_CH_priceOf : ByteArray := prog_3_method_5_code
abbrev y_CH_take : MethodName := ⟨"LeastSolutions$Cheapest", "take", "([I)Z"⟩
abbrev b_CH_take : ByteArray := prog_3_method_4_code
theorem ks_CH_isBefore : Cond.selects "LeastSolutions$Cheapest" ({ cls := "LeastSolutions$Cheapest", name := "isBefore", desc := "([I)Z" } : Jvm.MethodName) ({ cls := "LeastSolutions$Cheapest", name := "isBefore", desc := "([I)Z" } : Jvm.MethodName) ∈ wd := wd_p (q := (⟨"LeastSolutions$Cheapest", "isBefore", "([I)Z"⟩, 5)) (List.mem_of_getElem? (i := 32) (by decide +kernel))
theorem ks_CH_priceOf : Cond.selects "LeastSolutions$Cheapest" ({ cls := "LeastSolutions$Cheapest", name := "priceOf", desc := "([I)I" } : Jvm.MethodName) ({ cls := "LeastSolutions$Cheapest", name := "priceOf", desc := "([I)I" } : Jvm.MethodName) ∈ wd := wd_p (q := (⟨"LeastSolutions$Cheapest", "priceOf", "([I)I"⟩, 5)) (List.mem_of_getElem? (i := 31) (by decide +kernel))
