theorem k_907 : (Jvm.Cond.fieldLink "LeastSolutionsModel" (45 : Nat) "LeastSolutionsModel" "bounds" "[I") ∈ wd := wd_t (List.mem_of_getElem? (i := 907) (by decide +kernel)) rfl
theorem k_921 : (Jvm.Cond.fieldLink "LeastSolutionsModel" (78 : Nat) "LeastSolutionsModel" "now" "[I") ∈ wd := wd_t (List.mem_of_getElem? (i := 921) (by decide +kernel)) rfl
theorem k_1118 : (Jvm.Cond.methodLink "LeastSolutionsModel" (210 : Nat) ({ cls := "LeastSolutionsModel", name := "most", desc := "(I)I" } : Jvm.MethodName)) ∈ wd := wd_t (List.mem_of_getElem? (i := 1118) (by decide +kernel)) rfl
theorem k_1120 : (Jvm.Cond.instanceMethod ({ cls := "LeastSolutionsModel", name := "most", desc := "(I)I" } : Jvm.MethodName)) ∈ wd := wd_t (List.mem_of_getElem? (i := 1120) (by decide +kernel)) rfl
theorem k_1121 : (Jvm.Cond.code ({ cls := "LeastSolutionsModel", name := "most", desc := "(I)I" } : Jvm.MethodName) prog_12_method_35_code (2 : Nat) (Option.some Jvm.ClassFile.FieldType.int)) ∈ wd := wd_t (List.mem_of_getElem? (i := 1121) (by decide +kernel)) rfl
theorem k_1122 : (Jvm.Cond.methodLink "LeastSolutionsModel" (213 : Nat) ({ cls := "LeastSolutionsModel", name := "begin", desc := "(IZ)V" } : Jvm.MethodName)) ∈ wd := wd_t (List.mem_of_getElem? (i := 1122) (by decide +kernel)) rfl
theorem k_1124 : (Jvm.Cond.instanceMethod ({ cls := "LeastSolutionsModel", name := "begin", desc := "(IZ)V" } : Jvm.MethodName)) ∈ wd := wd_t (List.mem_of_getElem? (i := 1124) (by decide +kernel)) rfl
theorem k_1125 : (Jvm.Cond.code ({ cls := "LeastSolutionsModel", name := "begin", desc := "(IZ)V" } : Jvm.MethodName) prog_12_method_34_code (4 : Nat) (Option.none : Option Jvm.ClassFile.FieldType)) ∈ wd := wd_t (List.mem_of_getElem? (i := 1125) (by decide +kernel)) rfl
theorem k_1126 : (Jvm.Cond.methodLink "LeastSolutionsModel" (217 : Nat) ({ cls := "LeastSolutionsModel", name := "belongs", desc := "(I)Z" } : Jvm.MethodName)) ∈ wd := wd_t (List.mem_of_getElem? (i := 1126) (by decide +kernel)) rfl
theorem k_1128 : (Jvm.Cond.instanceMethod ({ cls := "LeastSolutionsModel", name := "belongs", desc := "(I)Z" } : Jvm.MethodName)) ∈ wd := wd_t (List.mem_of_getElem? (i := 1128) (by decide +kernel)) rfl
theorem k_1129 : (Jvm.Cond.code ({ cls := "LeastSolutionsModel", name := "belongs", desc := "(I)Z" } : Jvm.MethodName) prog_12_method_33_code (6 : Nat) (Option.some Jvm.ClassFile.FieldType.boolean)) ∈ wd := wd_t (List.mem_of_getElem? (i := 1129) (by decide +kernel)) rfl
theorem k_1134 : (Jvm.Cond.methodLink "LeastSolutionsModel" (202 : Nat) ({ cls := "LeastSolutionsModel", name := "isBelow", desc := "(III)Z" } : Jvm.MethodName)) ∈ wd := wd_t (List.mem_of_getElem? (i := 1134) (by decide +kernel)) rfl
theorem k_1136 : (Jvm.Cond.instanceMethod ({ cls := "LeastSolutionsModel", name := "isBelow", desc := "(III)Z" } : Jvm.MethodName)) ∈ wd := wd_t (List.mem_of_getElem? (i := 1136) (by decide +kernel)) rfl
theorem k_1137 : (Jvm.Cond.code ({ cls := "LeastSolutionsModel", name := "isBelow", desc := "(III)Z" } : Jvm.MethodName) prog_12_method_32_code (7 : Nat) (Option.some Jvm.ClassFile.FieldType.boolean)) ∈ wd := wd_t (List.mem_of_getElem? (i := 1137) (by decide +kernel)) rfl
theorem k_1138 : (Jvm.Cond.methodLink "LeastSolutionsModel" (220 : Nat) ({ cls := "LeastSolutionsModel", name := "put", desc := "(I)V" } : Jvm.MethodName)) ∈ wd := wd_t (List.mem_of_getElem? (i := 1138) (by decide +kernel)) rfl
theorem k_1140 : (Jvm.Cond.instanceMethod ({ cls := "LeastSolutionsModel", name := "put", desc := "(I)V" } : Jvm.MethodName)) ∈ wd := wd_t (List.mem_of_getElem? (i := 1140) (by decide +kernel)) rfl
theorem k_1141 : (Jvm.Cond.code ({ cls := "LeastSolutionsModel", name := "put", desc := "(I)V" } : Jvm.MethodName) prog_12_method_39_code (3 : Nat) (Option.none : Option Jvm.ClassFile.FieldType)) ∈ wd := wd_t (List.mem_of_getElem? (i := 1141) (by decide +kernel)) rfl
theorem k_1142 : (Jvm.Cond.methodLink "LeastSolutionsModel" (223 : Nat) ({ cls := "LeastSolutionsModel", name := "next", desc := "(Z)Z" } : Jvm.MethodName)) ∈ wd := wd_t (List.mem_of_getElem? (i := 1142) (by decide +kernel)) rfl
theorem k_1144 : (Jvm.Cond.instanceMethod ({ cls := "LeastSolutionsModel", name := "next", desc := "(Z)Z" } : Jvm.MethodName)) ∈ wd := wd_t (List.mem_of_getElem? (i := 1144) (by decide +kernel)) rfl
theorem k_1145 : (Jvm.Cond.code ({ cls := "LeastSolutionsModel", name := "next", desc := "(Z)Z" } : Jvm.MethodName) prog_12_method_36_code (9 : Nat) (Option.some Jvm.ClassFile.FieldType.boolean)) ∈ wd := wd_t (List.mem_of_getElem? (i := 1145) (by decide +kernel)) rfl
theorem k_1146 : (Jvm.Cond.methodLink "LeastSolutionsModel" (206 : Nat) ({ cls := "LeastSolutionsModel", name := "spread", desc := "(IIZ)V" } : Jvm.MethodName)) ∈ wd := wd_t (List.mem_of_getElem? (i := 1146) (by decide +kernel)) rfl
theorem k_1148 : (Jvm.Cond.instanceMethod ({ cls := "LeastSolutionsModel", name := "spread", desc := "(IIZ)V" } : Jvm.MethodName)) ∈ wd := wd_t (List.mem_of_getElem? (i := 1148) (by decide +kernel)) rfl
theorem k_1149 : (Jvm.Cond.code ({ cls := "LeastSolutionsModel", name := "spread", desc := "(IIZ)V" } : Jvm.MethodName) prog_12_method_37_code (5 : Nat) (Option.none : Option Jvm.ClassFile.FieldType)) ∈ wd := wd_t (List.mem_of_getElem? (i := 1149) (by decide +kernel)) rfl
theorem k_1182 : (Jvm.Cond.methodLink "LeastSolutionsModel" (231 : Nat) ({ cls := "LeastSolutionsModel", name := "isBefore", desc := "()Z" } : Jvm.MethodName)) ∈ wd := wd_t (List.mem_of_getElem? (i := 1182) (by decide +kernel)) rfl
theorem k_1184 : (Jvm.Cond.instanceMethod ({ cls := "LeastSolutionsModel", name := "isBefore", desc := "()Z" } : Jvm.MethodName)) ∈ wd := wd_t (List.mem_of_getElem? (i := 1184) (by decide +kernel)) rfl
theorem k_1185 : (Jvm.Cond.code ({ cls := "LeastSolutionsModel", name := "isBefore", desc := "()Z" } : Jvm.MethodName) prog_12_method_47_code (2 : Nat) (Option.some Jvm.ClassFile.FieldType.boolean)) ∈ wd := wd_t (List.mem_of_getElem? (i := 1185) (by decide +kernel)) rfl
abbrev y_MO_begin : MethodName := ⟨"LeastSolutionsModel", "begin", "(IZ)V"⟩
abbrev b_MO_begin : ByteArray := prog_12_method_34_code
abbrev y_MO_belongs : MethodName := ⟨"LeastSolutionsModel", "belongs", "(I)Z"⟩
abbrev b_MO_belongs : ByteArray := prog_12_method_33_code
abbrev y_MO_best : MethodName := ⟨"LeastSolutionsModel", "best", "(I)I"⟩
abbrev b_MO_best : ByteArray := prog_12_method_48_code
abbrev y_MO_isBefore : MethodName := ⟨"LeastSolutionsModel", "isBefore", "()Z"⟩
abbrev b_MO_isBefore : ByteArray := prog_12_method_47_code
abbrev y_MO_isBelow : MethodName := ⟨"LeastSolutionsModel", "isBelow", "(III)Z"⟩
abbrev b_MO_isBelow : ByteArray := prog_12_method_32_code
abbrev y_MO_most : MethodName := ⟨"LeastSolutionsModel", "most", "(I)I"⟩
abbrev b_MO_most : ByteArray := prog_12_method_35_code
abbrev y_MO_next : MethodName := ⟨"LeastSolutionsModel", "next", "(Z)Z"⟩
abbrev b_MO_next : ByteArray := prog_12_method_36_code
abbrev y_MO_put : MethodName := ⟨"LeastSolutionsModel", "put", "(I)V"⟩
abbrev b_MO_put : ByteArray := prog_12_method_39_code
abbrev y_MO_split : MethodName := ⟨"LeastSolutionsModel", "split", "()I"⟩
abbrev b_MO_split : ByteArray := prog_12_method_44_code
abbrev y_MO_spread : MethodName := ⟨"LeastSolutionsModel", "spread", "(IIZ)V"⟩
abbrev b_MO_spread : ByteArray := prog_12_method_37_code
abbrev y_MO_work : MethodName := ⟨"LeastSolutionsModel", "work", "(II)I"⟩
abbrev b_MO_work : ByteArray := prog_12_method_38_code
theorem ks_MO_begin : Cond.selects "LeastSolutionsModel" ({ cls := "LeastSolutionsModel", name := "begin", desc := "(IZ)V" } : Jvm.MethodName) ({ cls := "LeastSolutionsModel", name := "begin", desc := "(IZ)V" } : Jvm.MethodName) ∈ wd := wd_p (q := (⟨"LeastSolutionsModel", "begin", "(IZ)V"⟩, 36)) (List.mem_of_getElem? (i := 54) (by decide +kernel))
theorem ks_MO_belongs : Cond.selects "LeastSolutionsModel" ({ cls := "LeastSolutionsModel", name := "belongs", desc := "(I)Z" } : Jvm.MethodName) ({ cls := "LeastSolutionsModel", name := "belongs", desc := "(I)Z" } : Jvm.MethodName) ∈ wd := wd_p (q := (⟨"LeastSolutionsModel", "belongs", "(I)Z"⟩, 36)) (List.mem_of_getElem? (i := 55) (by decide +kernel))
theorem ks_MO_isBefore : Cond.selects "LeastSolutionsModel" ({ cls := "LeastSolutionsModel", name := "isBefore", desc := "()Z" } : Jvm.MethodName) ({ cls := "LeastSolutionsModel", name := "isBefore", desc := "()Z" } : Jvm.MethodName) ∈ wd := wd_p (q := (⟨"LeastSolutionsModel", "isBefore", "()Z"⟩, 36)) (List.mem_of_getElem? (i := 62) (by decide +kernel))
theorem ks_MO_isBelow : Cond.selects "LeastSolutionsModel" ({ cls := "LeastSolutionsModel", name := "isBelow", desc := "(III)Z" } : Jvm.MethodName) ({ cls := "LeastSolutionsModel", name := "isBelow", desc := "(III)Z" } : Jvm.MethodName) ∈ wd := wd_p (q := (⟨"LeastSolutionsModel", "isBelow", "(III)Z"⟩, 36)) (List.mem_of_getElem? (i := 57) (by decide +kernel))
theorem ks_MO_most : Cond.selects "LeastSolutionsModel" ({ cls := "LeastSolutionsModel", name := "most", desc := "(I)I" } : Jvm.MethodName) ({ cls := "LeastSolutionsModel", name := "most", desc := "(I)I" } : Jvm.MethodName) ∈ wd := wd_p (q := (⟨"LeastSolutionsModel", "most", "(I)I"⟩, 36)) (List.mem_of_getElem? (i := 53) (by decide +kernel))
theorem ks_MO_next : Cond.selects "LeastSolutionsModel" ({ cls := "LeastSolutionsModel", name := "next", desc := "(Z)Z" } : Jvm.MethodName) ({ cls := "LeastSolutionsModel", name := "next", desc := "(Z)Z" } : Jvm.MethodName) ∈ wd := wd_p (q := (⟨"LeastSolutionsModel", "next", "(Z)Z"⟩, 36)) (List.mem_of_getElem? (i := 59) (by decide +kernel))
theorem ks_MO_put : Cond.selects "LeastSolutionsModel" ({ cls := "LeastSolutionsModel", name := "put", desc := "(I)V" } : Jvm.MethodName) ({ cls := "LeastSolutionsModel", name := "put", desc := "(I)V" } : Jvm.MethodName) ∈ wd := wd_p (q := (⟨"LeastSolutionsModel", "put", "(I)V"⟩, 36)) (List.mem_of_getElem? (i := 58) (by decide +kernel))
theorem ks_MO_spread : Cond.selects "LeastSolutionsModel" ({ cls := "LeastSolutionsModel", name := "spread", desc := "(IIZ)V" } : Jvm.MethodName) ({ cls := "LeastSolutionsModel", name := "spread", desc := "(IIZ)V" } : Jvm.MethodName) ∈ wd := wd_p (q := (⟨"LeastSolutionsModel", "spread", "(IIZ)V"⟩, 36)) (List.mem_of_getElem? (i := 60) (by decide +kernel))
