theorem k_907 : (Jvm.Cond.fieldLink "LeastSolutionsModel" (45 : Nat) "LeastSolutionsModel" "bounds" "[I") ∈ wd := wd_t (List.mem_of_getElem? (i := 907) (by decide +kernel)) rfl
theorem k_921 : (Jvm.Cond.fieldLink "LeastSolutionsModel" (78 : Nat) "LeastSolutionsModel" "now" "[I") ∈ wd := wd_t (List.mem_of_getElem? (i := 921) (by decide +kernel)) rfl
theorem k_1118 : (Jvm.Cond.methodLink "LeastSolutionsModel" (210 : Nat) ({ cls := "LeastSolutionsModel", name := "most", desc := "(I)I" } : Jvm.MethodName)) ∈ wd := wd_t (List.mem_of_getElem? (i := 1118) (by decide +kernel)) rfl
theorem k_1120 : (Jvm.Cond.instanceMethod ({ cls := "LeastSolutionsModel", name := "most", desc := "(I)I" } : Jvm.MethodName)) ∈ wd := wd_t (List.mem_of_getElem? (i := 1120) (by decide +kernel)) rfl
theorem k_1121 : (Jvm.Cond.code ({ cls := "LeastSolutionsModel", name := "most", desc := "(I)I" } : Jvm.MethodName) prog_12_method_35_code (2 : Nat) (Option.some Jvm.ClassFile.FieldType.int)) ∈ wd := wd_t (List.mem_of_getElem? (i := 1121) (by decide +kernel)) rfl
theorem k_1122 : (Jvm.Cond.methodLink "LeastSolutionsModel" (213 : Nat) ({ cls := "LeastSolutionsModel", name := "begin", desc := "(IZ)V" } : Jvm.MethodName)) ∈ wd := wd_t (List.mem_of_getElem? (i := 1122) (by decide +kernel)) rfl
theorem k_1124 : (Jvm.Cond.instanceMethod ({ cls := "LeastSolutionsModel", name := "begin", desc := "(IZ)V" } : Jvm.MethodName)) ∈ wd := wd_t (List.mem_of_getElem? (i := 1124) (by decide +kernel)) rfl
theorem k_1125 : (Jvm.Cond.code ({ cls := "LeastSolutionsModel", name := "begin", desc := "(IZ)V" } : Jvm.MethodName) prog_12_method_34_code (4 : Nat) (Option.none : Option Jvm.ClassFile.FieldType)) ∈ wd := wd_t (List.mem_of_getElem? (i := 1125) (by decide +kernel)) rfl
theorem k_1126 : (Jvm.Cond.methodLink "LeastSolutionsModel" (217 : Nat) ({ cls := "LeastSolutionsModel", name := "belongs", desc := "(I)Z" } : Jvm.MethodName)) ∈ wd := wd_t (List.mem_of_getElem? (i := 1126) (by decide +kernel)) rfl
theorem k_1128 : (Jvm.Cond.instanceMethod ({ cls := "LeastSolutionsModel", name := "belongs", desc := "(I)Z" } : Jvm.MethodName)) ∈ wd := wd_t (List.mem_of_getElem? (i := 1128) (by decide +kernel)) rfl
theorem k_1129 : (Jvm.Cond.code ({ cls := "LeastSolutionsModel", name := "belongs", desc := "(I)Z" } : Jvm.MethodName) prog_12_method_33_code (6 : Nat) (Option.some Jvm.ClassFile.FieldType.boolean)) ∈ wd := wd_t (List.mem_of_getElem? (i := 1129) (by decide +kernel)) rfl
theorem k_1134 : (Jvm.Cond.methodLink "LeastSolutionsModel" (202 : Nat) ({ cls := "LeastSolutionsModel", name := "isBelow", desc := "(III)Z" } : Jvm.MethodName)) ∈ wd := wd_t (List.mem_of_getElem? (i := 1134) (by decide +kernel)) rfl
theorem k_1136 : (Jvm.Cond.instanceMethod ({ cls := "LeastSolutionsModel", name := "isBelow", desc := "(III)Z" } : Jvm.MethodName)) ∈ wd := wd_t (List.mem_of_getElem? (i := 1136) (by decide +kernel)) rfl
theorem k_1137 : (Jvm.Cond.code ({ cls := "LeastSolutionsModel", name := "isBelow", desc := "(III)Z" } : Jvm.MethodName) prog_12_method_32_code (7 : Nat) (Option.some Jvm.ClassFile.FieldType.boolean)) ∈ wd := wd_t (List.mem_of_getElem? (i := 1137) (by decide +kernel)) rfl
theorem k_1138 : (Jvm.Cond.methodLink "LeastSolutionsModel" (220 : Nat) ({ cls := "LeastSolutionsModel", name := "put", desc := "(I)V" } : Jvm.MethodName)) ∈ wd := wd_t (List.mem_of_getElem? (i := 1138) (by decide +kernel)) rfl
theorem k_1140 : (Jvm.Cond.instanceMethod ({ cls := "LeastSolutionsModel", name := "put", desc := "(I)V" } : Jvm.MethodName)) ∈ wd := wd_t (List.mem_of_getElem? (i := 1140) (by decide +kernel)) rfl
theorem k_1141 : (Jvm.Cond.code ({ cls := "LeastSolutionsModel", name := "put", desc := "(I)V" } : Jvm.MethodName) prog_12_method_39_code (3 : Nat) (Option.none : Option Jvm.ClassFile.FieldType)) ∈ wd := wd_t (List.mem_of_getElem? (i := 1141) (by decide +kernel)) rfl
theorem k_1142 : (Jvm.Cond.methodLink "LeastSolutionsModel" (223 : Nat) ({ cls := "LeastSolutionsModel", name := "next", desc := "(Z)Z" } : Jvm.MethodName)) ∈ wd := wd_t (List.mem_of_getElem? (i := 1142) (by decide +kernel)) rfl
theorem k_1144 : (Jvm.Cond.instanceMethod ({ cls := "LeastSolutionsModel", name := "next", desc := "(Z)Z" } : Jvm.MethodName)) ∈ wd := wd_t (List.mem_of_getElem? (i := 1144) (by decide +kernel)) rfl
theorem k_1145 : (Jvm.Cond.code ({ cls := "LeastSolutionsModel", name := "next", desc := "(Z)Z" } : Jvm.MethodName) prog_12_method_36_code (9 : Nat) (Option.some Jvm.ClassFile.FieldType.boolean)) ∈ wd := wd_t (List.mem_of_getElem? (i := 1145) (by decide +kernel)) rfl
theorem k_1146 : (Jvm.Cond.methodLink "LeastSolutionsModel" (206 : Nat) ({ cls := "LeastSolutionsModel", name := "spread", desc := "(IIZ)V" } : Jvm.MethodName)) ∈ wd := wd_t (List.mem_of_getElem? (i := 1146) (by decide +kernel)) rfl
theorem k_1148 : (Jvm.Cond.instanceMethod ({ cls := "LeastSolutionsModel", name := "spread", desc := "(IIZ)V" } : Jvm.MethodName)) ∈ wd := wd_t (List.mem_of_getElem? (i := 1148) (by decide +kernel)) rfl
theorem k_1149 : (Jvm.Cond.code ({ cls := "LeastSolutionsModel", name := "spread", desc := "(IIZ)V" } : Jvm.MethodName) prog_12_method_37_code (5 : Nat) (Option.none : Option Jvm.ClassFile.FieldType)) ∈ wd := wd_t (List.mem_of_getElem? (i := 1149) (by decide +kernel)) rfl
theorem k_1182 : (Jvm.Cond.methodLink "LeastSolutionsModel" (231 : Nat) ({ cls := "LeastSolutionsModel", name := "isBefore", desc := "()Z" } : Jvm.MethodName)) ∈ wd := wd_t (List.mem_of_getElem? (i := 1182) (by decide +kernel)) rfl
theorem k_1184 : (Jvm.Cond.instanceMethod ({ cls := "LeastSolutionsModel", name := "isBefore", desc := "()Z" } : Jvm.MethodName)) ∈ wd := wd_t (List.mem_of_getElem? (i := 1184) (by decide +kernel)) rfl
theorem k_1185 : (Jvm.Cond.code ({ cls := "LeastSolutionsModel", name := "isBefore", desc := "()Z" } : Jvm.MethodName) prog_12_method_47_code (2 : Nat) (Option.some Jvm.ClassFile.FieldType.boolean)) ∈ wd := wd_t (List.mem_of_getElem? (i := 1185) (by decide +kernel)) rfl
abbrev y_MO_begin : MethodName := ⟨"LeastSolutionsModel", "begin", "(IZ)V"⟩
abbrev b_MO_begin : ByteArray := prog_12_method_34_code
abbrev y_MO_belongs : MethodName := ⟨"LeastSolutionsModel", "belongs", "(I)Z"⟩
abbrev b_MO_belongs : ByteArray := prog_12_method_33_code
abbrev y_MO_best : MethodName := ⟨"LeastSolutionsModel", "best", "(I)I"⟩
abbrev b_MO_best : ByteArray := prog_12_method_48_code
abbrev y_MO_isBefore : MethodName := ⟨"LeastSolutionsModel", "isBefore", "()Z"⟩
abbrev b_MO_isBefore : ByteArray := prog_12_method_47_code
abbrev y_MO_isBelow : MethodName := ⟨"LeastSolutionsModel", "isBelow", "(III)Z"⟩
abbrev b_MO_isBelow : ByteArray := prog_12_method_32_code
abbrev y_MO_most : MethodName := ⟨"LeastSolutionsModel", "most", "(I)I"⟩
abbrev b_MO_most : ByteArray := prog_12_method_35_code
abbrev y_MO_next : MethodName := ⟨"LeastSolutionsModel", "next", "(Z)Z"⟩
abbrev b_MO_next : ByteArray := prog_12_method_36_code
abbrev y_MO_put : MethodName := ⟨"LeastSolutionsModel", "put", "(I)V"⟩
abbrev b_MO_put : ByteArray := prog_12_method_39_code
abbrev y_MO_split : MethodName := ⟨"LeastSolutionsModel", "split", "()I"⟩
abbrev b_MO_split : ByteArray := prog_12_method_44_code
abbrev y_MO_spread : MethodName := ⟨"LeastSolutionsModel", "spread", "(IIZ)V"⟩
abbrev b_MO_spread : ByteArray := prog_12_method_37_code
abbrev y_MO_work : MethodName := ⟨"LeastSolutionsModel", "work", "(II)I"⟩
abbrev b_MO_work : ByteArray := prog_12_method_38_code
theorem ks_MO_begin : Cond.selects "LeastSolutionsModel" ({ cls := "LeastSolutionsModel", name := "begin", desc := "(IZ)V" } : Jvm.MethodName) ({ cls := "LeastSolutionsModel", name := "begin", desc := "(IZ)V" } : Jvm.MethodName) ∈ wd := wd_p (q := (⟨"LeastSolutionsModel", "begin", "(IZ)V"⟩, 36)) (List.mem_of_getElem? (i := 54) (by decide +kernel))
theorem ks_MO_belongs : Cond.selects "LeastSolutionsModel" ({ cls := "LeastSolutionsModel", name := "belongs", desc := "(I)Z" } : Jvm.MethodName) ({ cls := "LeastSolutionsModel", name := "belongs", desc := "(I)Z" } : Jvm.MethodName) ∈ wd := wd_p (q := (⟨"LeastSolutionsModel", "belongs", "(I)Z"⟩, 36)) (List.mem_of_getElem? (i := 55) (by decide +kernel))
theorem ks_MO_isBefore : Cond.selects "LeastSolutionsModel" ({ cls := "LeastSolutionsModel", name := "isBefore", desc := "()Z" } : Jvm.MethodName) ({ cls := "LeastSolutionsModel", name := "isBefore", desc := "()Z" } : Jvm.MethodName) ∈ wd := wd_p (q := (⟨"LeastSolutionsModel", "isBefore", "()Z"⟩, 36)) (List.mem_of_getElem? (i := 62) (by decide +kernel))
theorem ks_MO_isBelow : Cond.selects "LeastSolutionsModel" ({ cls := "LeastSolutionsModel", name := "isBelow", desc := "(III)Z" } : Jvm.MethodName) ({ cls := "LeastSolutionsModel", name := "isBelow", desc := "(III)Z" } : Jvm.MethodName) ∈ wd := wd_p (q := (⟨"LeastSolutionsModel", "isBelow", "(III)Z"⟩, 36)) (List.mem_of_getElem? (i := 57) (by decide +kernel))
theorem ks_MO_most : Cond.selects "LeastSolutionsModel" ({ cls := "LeastSolutionsModel", name := "most", desc := "(I)I" } : Jvm.MethodName) ({ cls := "LeastSolutionsModel", name := "most", desc := "(I)I" } : Jvm.MethodName) ∈ wd := wd_p (q := (⟨"LeastSolutionsModel", "most", "(I)I"⟩, 36)) (List.mem_of_getElem? (i := 53) (by decide +kernel))
theorem ks_MO_next : Cond.selects "LeastSolutionsModel" ({ cls := "LeastSolutionsModel", name := "next", desc := "(Z)Z" } : Jvm.MethodName) ({ cls := "LeastSolutionsModel", name := "next", desc := "(Z)Z" } : Jvm.MethodName) ∈ wd := wd_p (q := (⟨"LeastSolutionsModel", "next", "(Z)Z"⟩, 36)) (List.mem_of_getElem? (i := 59) (by decide +kernel))
theorem ks_MO_put : Cond.selects "LeastSolutionsModel" ({ cls := "LeastSolutionsModel", name := "put", desc := "(I)V" } : Jvm.MethodName) ({ cls := "LeastSolutionsModel", name := "put", desc := "(I)V" } : Jvm.MethodName) ∈ wd := wd_p (q := (⟨"LeastSolutionsModel", "put", "(I)V"⟩, 36)) (List.mem_of_getElem? (i := 58) (by decide +kernel))
theorem ks_MO_spread : Cond.selects "LeastSolutionsModel" ({ cls := "LeastSolutionsModel", name := "spread", desc := "(IIZ)V" } : Jvm.MethodName) ({ cls := "LeastSolutionsModel", name := "spread", desc := "(IIZ)V" } : Jvm.MethodName) ∈ wd := wd_p (q := (⟨"LeastSolutionsModel", "spread", "(IIZ)V"⟩, 36)) (List.mem_of_getElem? (i := 60) (by decide +kernel))
theorem d_MO_begin_0 : decode b_MO_begin 0 = .ok (.iconst 0, 1) := by decide +kernel
theorem d_MO_begin_1 : decode b_MO_begin 1 = .ok (.istore_n 3, 1) := by decide +kernel
theorem d_MO_begin_2 : decode b_MO_begin 2 = .ok (.iload_n 3, 1) := by decide +kernel
theorem d_MO_begin_3 : decode b_MO_begin 3 = .ok (.bipush 6, 2) := by decide +kernel
theorem d_MO_begin_5 : decode b_MO_begin 5 = .ok (.if_icmp .ge 16, 3) := by decide +kernel
theorem d_MO_begin_8 : decode b_MO_begin 8 = .ok (.aload_n 0, 1) := by decide +kernel
theorem d_MO_begin_9 : decode b_MO_begin 9 = .ok (.getfield 78, 3) := by decide +kernel
theorem d_MO_begin_12 : decode b_MO_begin 12 = .ok (.iload_n 3, 1) := by decide +kernel
theorem d_MO_begin_13 : decode b_MO_begin 13 = .ok (.iconst 0, 1) := by decide +kernel
theorem d_MO_begin_14 : decode b_MO_begin 14 = .ok (.iastore, 1) := by decide +kernel
theorem d_MO_begin_15 : decode b_MO_begin 15 = .ok (.iinc 3 1, 3) := by decide +kernel
theorem d_MO_begin_18 : decode b_MO_begin 18 = .ok (.goto (-16), 3) := by decide +kernel
theorem d_MO_begin_21 : decode b_MO_begin 21 = .ok (.iload_n 2, 1) := by decide +kernel
theorem d_MO_begin_22 : decode b_MO_begin 22 = .ok (.ifCond .eq 14, 3) := by decide +kernel
theorem d_MO_begin_25 : decode b_MO_begin 25 = .ok (.aload_n 0, 1) := by decide +kernel
theorem d_MO_begin_26 : decode b_MO_begin 26 = .ok (.getfield 78, 3) := by decide +kernel
theorem d_MO_begin_29 : decode b_MO_begin 29 = .ok (.iconst 0, 1) := by decide +kernel
theorem d_MO_begin_30 : decode b_MO_begin 30 = .ok (.iload_n 1, 1) := by decide +kernel
theorem d_MO_begin_31 : decode b_MO_begin 31 = .ok (.ineg, 1) := by decide +kernel
theorem d_MO_begin_32 : decode b_MO_begin 32 = .ok (.iastore, 1) := by decide +kernel
theorem d_MO_begin_33 : decode b_MO_begin 33 = .ok (.goto 22, 3) := by decide +kernel
theorem d_MO_begin_36 : decode b_MO_begin 36 = .ok (.aload_n 0, 1) := by decide +kernel
theorem d_MO_begin_37 : decode b_MO_begin 37 = .ok (.getfield 143, 3) := by decide +kernel
theorem d_MO_begin_40 : decode b_MO_begin 40 = .ok (.ifCond .le 15, 3) := by decide +kernel
theorem d_MO_begin_43 : decode b_MO_begin 43 = .ok (.aload_n 0, 1) := by decide +kernel
theorem d_MO_begin_44 : decode b_MO_begin 44 = .ok (.getfield 78, 3) := by decide +kernel
theorem d_MO_begin_47 : decode b_MO_begin 47 = .ok (.aload_n 0, 1) := by decide +kernel
theorem d_MO_begin_48 : decode b_MO_begin 48 = .ok (.getfield 143, 3) := by decide +kernel
theorem d_MO_begin_51 : decode b_MO_begin 51 = .ok (.iconst 1, 1) := by decide +kernel
theorem d_MO_begin_52 : decode b_MO_begin 52 = .ok (.isub, 1) := by decide +kernel
theorem d_MO_begin_53 : decode b_MO_begin 53 = .ok (.iload_n 1, 1) := by decide +kernel
theorem d_MO_begin_54 : decode b_MO_begin 54 = .ok (.iastore, 1) := by decide +kernel
theorem d_MO_begin_55 : decode b_MO_begin 55 = .ok (.return_, 1) := by decide +kernel
theorem d_MO_belongs_0 : decode b_MO_belongs 0 = .ok (.iconst 1, 1) := by decide +kernel
theorem d_MO_belongs_1 : decode b_MO_belongs 1 = .ok (.istore_n 2, 1) := by decide +kernel
theorem d_MO_belongs_2 : decode b_MO_belongs 2 = .ok (.iconst 0, 1) := by decide +kernel
theorem d_MO_belongs_3 : decode b_MO_belongs 3 = .ok (.istore_n 3, 1) := by decide +kernel
theorem d_MO_belongs_4 : decode b_MO_belongs 4 = .ok (.aload_n 0, 1) := by decide +kernel
theorem d_MO_belongs_5 : decode b_MO_belongs 5 = .ok (.getfield 143, 3) := by decide +kernel
theorem d_MO_belongs_8 : decode b_MO_belongs 8 = .ok (.iconst 1, 1) := by decide +kernel
theorem d_MO_belongs_9 : decode b_MO_belongs 9 = .ok (.isub, 1) := by decide +kernel
theorem d_MO_belongs_10 : decode b_MO_belongs 10 = .ok (.istore 4, 2) := by decide +kernel
theorem d_MO_belongs_12 : decode b_MO_belongs 12 = .ok (.iload 4, 2) := by decide +kernel
theorem d_MO_belongs_14 : decode b_MO_belongs 14 = .ok (.ifCond .lt 51, 3) := by decide +kernel
theorem d_MO_belongs_17 : decode b_MO_belongs 17 = .ok (.iload_n 2, 1) := by decide +kernel
theorem d_MO_belongs_18 : decode b_MO_belongs 18 = .ok (.ifCond .eq 17, 3) := by decide +kernel
theorem d_MO_belongs_21 : decode b_MO_belongs 21 = .ok (.aload_n 0, 1) := by decide +kernel
theorem d_MO_belongs_22 : decode b_MO_belongs 22 = .ok (.getfield 78, 3) := by decide +kernel
theorem d_MO_belongs_25 : decode b_MO_belongs 25 = .ok (.iload 4, 2) := by decide +kernel
theorem d_MO_belongs_27 : decode b_MO_belongs 27 = .ok (.iaload, 1) := by decide +kernel
theorem d_MO_belongs_28 : decode b_MO_belongs 28 = .ok (.ifCond .ne 7, 3) := by decide +kernel
theorem d_MO_belongs_31 : decode b_MO_belongs 31 = .ok (.iconst 1, 1) := by decide +kernel
theorem d_MO_belongs_32 : decode b_MO_belongs 32 = .ok (.goto 4, 3) := by decide +kernel
theorem d_MO_belongs_35 : decode b_MO_belongs 35 = .ok (.iconst 0, 1) := by decide +kernel
theorem d_MO_belongs_36 : decode b_MO_belongs 36 = .ok (.istore_n 2, 1) := by decide +kernel
theorem d_MO_belongs_37 : decode b_MO_belongs 37 = .ok (.aload_n 0, 1) := by decide +kernel
theorem d_MO_belongs_38 : decode b_MO_belongs 38 = .ok (.getfield 78, 3) := by decide +kernel
theorem d_MO_belongs_41 : decode b_MO_belongs 41 = .ok (.iload 4, 2) := by decide +kernel
theorem d_MO_belongs_43 : decode b_MO_belongs 43 = .ok (.iaload, 1) := by decide +kernel
theorem d_MO_belongs_44 : decode b_MO_belongs 44 = .ok (.ifCond .eq 13, 3) := by decide +kernel
theorem d_MO_belongs_47 : decode b_MO_belongs 47 = .ok (.aload_n 0, 1) := by decide +kernel
theorem d_MO_belongs_48 : decode b_MO_belongs 48 = .ok (.getfield 78, 3) := by decide +kernel
theorem d_MO_belongs_51 : decode b_MO_belongs 51 = .ok (.iload 4, 2) := by decide +kernel
theorem d_MO_belongs_53 : decode b_MO_belongs 53 = .ok (.iaload, 1) := by decide +kernel
theorem d_MO_belongs_54 : decode b_MO_belongs 54 = .ok (.goto 4, 3) := by decide +kernel
theorem d_MO_belongs_57 : decode b_MO_belongs 57 = .ok (.iload_n 3, 1) := by decide +kernel
theorem d_MO_belongs_58 : decode b_MO_belongs 58 = .ok (.istore_n 3, 1) := by decide +kernel
theorem d_MO_belongs_59 : decode b_MO_belongs 59 = .ok (.iinc 4 (-1), 3) := by decide +kernel
theorem d_MO_belongs_62 : decode b_MO_belongs 62 = .ok (.goto (-50), 3) := by decide +kernel
theorem d_MO_belongs_65 : decode b_MO_belongs 65 = .ok (.iload_n 1, 1) := by decide +kernel
theorem d_MO_belongs_66 : decode b_MO_belongs 66 = .ok (.iconst 1, 1) := by decide +kernel
theorem d_MO_belongs_67 : decode b_MO_belongs 67 = .ok (.if_icmp .eq 7, 3) := by decide +kernel
theorem d_MO_belongs_70 : decode b_MO_belongs 70 = .ok (.iload_n 2, 1) := by decide +kernel
theorem d_MO_belongs_71 : decode b_MO_belongs 71 = .ok (.ifCond .ne 33, 3) := by decide +kernel
theorem d_MO_belongs_74 : decode b_MO_belongs 74 = .ok (.iload_n 1, 1) := by decide +kernel
theorem d_MO_belongs_75 : decode b_MO_belongs 75 = .ok (.iconst 2, 1) := by decide +kernel
theorem d_MO_belongs_76 : decode b_MO_belongs 76 = .ok (.if_icmp .ne 7, 3) := by decide +kernel
theorem d_MO_belongs_79 : decode b_MO_belongs 79 = .ok (.iload_n 3, 1) := by decide +kernel
theorem d_MO_belongs_80 : decode b_MO_belongs 80 = .ok (.ifCond .lt 24, 3) := by decide +kernel
theorem d_MO_belongs_83 : decode b_MO_belongs 83 = .ok (.aload_n 0, 1) := by decide +kernel
theorem d_MO_belongs_84 : decode b_MO_belongs 84 = .ok (.aload_n 0, 1) := by decide +kernel
theorem d_MO_belongs_85 : decode b_MO_belongs 85 = .ok (.getfield 78, 3) := by decide +kernel
theorem d_MO_belongs_88 : decode b_MO_belongs 88 = .ok (.iload_n 1, 1) := by decide +kernel
theorem d_MO_belongs_89 : decode b_MO_belongs 89 = .ok (.iconst 1, 1) := by decide +kernel
theorem d_MO_belongs_90 : decode b_MO_belongs 90 = .ok (.if_icmp .ne 7, 3) := by decide +kernel
theorem d_MO_belongs_93 : decode b_MO_belongs 93 = .ok (.iconst 1, 1) := by decide +kernel
theorem d_MO_belongs_94 : decode b_MO_belongs 94 = .ok (.goto 4, 3) := by decide +kernel
theorem d_MO_belongs_97 : decode b_MO_belongs 97 = .ok (.iconst 0, 1) := by decide +kernel
theorem d_MO_belongs_98 : decode b_MO_belongs 98 = .ok (.invokevirtual 198, 3) := by decide +kernel
theorem d_MO_belongs_101 : decode b_MO_belongs 101 = .ok (.ifCond .ne 5, 3) := by decide +kernel
theorem d_MO_belongs_104 : decode b_MO_belongs 104 = .ok (.iconst 0, 1) := by decide +kernel
theorem d_MO_belongs_105 : decode b_MO_belongs 105 = .ok (.ireturn, 1) := by decide +kernel
theorem d_MO_belongs_106 : decode b_MO_belongs 106 = .ok (.iconst 1, 1) := by decide +kernel
theorem d_MO_belongs_107 : decode b_MO_belongs 107 = .ok (.istore 4, 2) := by decide +kernel
theorem d_MO_belongs_109 : decode b_MO_belongs 109 = .ok (.iconst 0, 1) := by decide +kernel
theorem d_MO_belongs_110 : decode b_MO_belongs 110 = .ok (.istore 5, 2) := by decide +kernel
theorem d_MO_belongs_112 : decode b_MO_belongs 112 = .ok (.iload 5, 2) := by decide +kernel
theorem d_MO_belongs_114 : decode b_MO_belongs 114 = .ok (.aload_n 0, 1) := by decide +kernel
theorem d_MO_belongs_115 : decode b_MO_belongs 115 = .ok (.getfield 48, 3) := by decide +kernel
theorem d_MO_belongs_118 : decode b_MO_belongs 118 = .ok (.iload_n 1, 1) := by decide +kernel
theorem d_MO_belongs_119 : decode b_MO_belongs 119 = .ok (.iaload, 1) := by decide +kernel
theorem d_MO_belongs_120 : decode b_MO_belongs 120 = .ok (.if_icmp .ge 48, 3) := by decide +kernel
theorem d_MO_belongs_123 : decode b_MO_belongs 123 = .ok (.iload 4, 2) := by decide +kernel
theorem d_MO_belongs_125 : decode b_MO_belongs 125 = .ok (.ifCond .eq 43, 3) := by decide +kernel
theorem d_MO_belongs_128 : decode b_MO_belongs 128 = .ok (.aload_n 0, 1) := by decide +kernel
theorem d_MO_belongs_129 : decode b_MO_belongs 129 = .ok (.iload_n 1, 1) := by decide +kernel
theorem d_MO_belongs_130 : decode b_MO_belongs 130 = .ok (.iload 5, 2) := by decide +kernel
theorem d_MO_belongs_132 : decode b_MO_belongs 132 = .ok (.iconst 1, 1) := by decide +kernel
theorem d_MO_belongs_133 : decode b_MO_belongs 133 = .ok (.invokevirtual 202, 3) := by decide +kernel
theorem d_MO_belongs_136 : decode b_MO_belongs 136 = .ok (.ifCond .ne 23, 3) := by decide +kernel
theorem d_MO_belongs_139 : decode b_MO_belongs 139 = .ok (.iload_n 1, 1) := by decide +kernel
theorem d_MO_belongs_140 : decode b_MO_belongs 140 = .ok (.iconst 2, 1) := by decide +kernel
theorem d_MO_belongs_141 : decode b_MO_belongs 141 = .ok (.if_icmp .lt 14, 3) := by decide +kernel
theorem d_MO_belongs_144 : decode b_MO_belongs 144 = .ok (.aload_n 0, 1) := by decide +kernel
theorem d_MO_belongs_145 : decode b_MO_belongs 145 = .ok (.iload_n 1, 1) := by decide +kernel
theorem d_MO_belongs_146 : decode b_MO_belongs 146 = .ok (.iload 5, 2) := by decide +kernel
theorem d_MO_belongs_148 : decode b_MO_belongs 148 = .ok (.iconst (-1), 1) := by decide +kernel
theorem d_MO_belongs_149 : decode b_MO_belongs 149 = .ok (.invokevirtual 202, 3) := by decide +kernel
theorem d_MO_belongs_152 : decode b_MO_belongs 152 = .ok (.ifCond .ne 7, 3) := by decide +kernel
theorem d_MO_belongs_155 : decode b_MO_belongs 155 = .ok (.iconst 1, 1) := by decide +kernel
theorem d_MO_belongs_156 : decode b_MO_belongs 156 = .ok (.goto 4, 3) := by decide +kernel
theorem d_MO_belongs_159 : decode b_MO_belongs 159 = .ok (.iconst 0, 1) := by decide +kernel
theorem d_MO_belongs_160 : decode b_MO_belongs 160 = .ok (.istore 4, 2) := by decide +kernel
theorem d_MO_belongs_162 : decode b_MO_belongs 162 = .ok (.iinc 5 1, 3) := by decide +kernel
theorem d_MO_belongs_165 : decode b_MO_belongs 165 = .ok (.goto (-53), 3) := by decide +kernel
theorem d_MO_belongs_168 : decode b_MO_belongs 168 = .ok (.iload 4, 2) := by decide +kernel
theorem d_MO_belongs_170 : decode b_MO_belongs 170 = .ok (.ireturn, 1) := by decide +kernel
theorem d_MO_best_0 : decode b_MO_best 0 = .ok (.aload_n 0, 1) := by decide +kernel
theorem d_MO_best_1 : decode b_MO_best 1 = .ok (.iload_n 1, 1) := by decide +kernel
theorem d_MO_best_2 : decode b_MO_best 2 = .ok (.ifCond .lt 9, 3) := by decide +kernel
theorem d_MO_best_5 : decode b_MO_best 5 = .ok (.iload_n 1, 1) := by decide +kernel
theorem d_MO_best_6 : decode b_MO_best 6 = .ok (.bipush 16, 2) := by decide +kernel
theorem d_MO_best_8 : decode b_MO_best 8 = .ok (.if_icmp .le 7, 3) := by decide +kernel
theorem d_MO_best_11 : decode b_MO_best 11 = .ok (.iconst 1, 1) := by decide +kernel
theorem d_MO_best_12 : decode b_MO_best 12 = .ok (.goto 15, 3) := by decide +kernel
theorem d_MO_best_15 : decode b_MO_best 15 = .ok (.aload_n 0, 1) := by decide +kernel
theorem d_MO_best_16 : decode b_MO_best 16 = .ok (.getfield 133, 3) := by decide +kernel
theorem d_MO_best_19 : decode b_MO_best 19 = .ok (.ifCond .ne 7, 3) := by decide +kernel
theorem d_MO_best_22 : decode b_MO_best 22 = .ok (.iconst 2, 1) := by decide +kernel
theorem d_MO_best_23 : decode b_MO_best 23 = .ok (.goto 4, 3) := by decide +kernel
theorem d_MO_best_26 : decode b_MO_best 26 = .ok (.iconst 0, 1) := by decide +kernel
theorem d_MO_best_27 : decode b_MO_best 27 = .ok (.putfield 81, 3) := by decide +kernel
theorem d_MO_best_30 : decode b_MO_best 30 = .ok (.aload_n 0, 1) := by decide +kernel
theorem d_MO_best_31 : decode b_MO_best 31 = .ok (.getfield 81, 3) := by decide +kernel
theorem d_MO_best_34 : decode b_MO_best 34 = .ok (.ifCond .le 5, 3) := by decide +kernel
theorem d_MO_best_37 : decode b_MO_best 37 = .ok (.iconst 0, 1) := by decide +kernel
theorem d_MO_best_38 : decode b_MO_best 38 = .ok (.ireturn, 1) := by decide +kernel
theorem d_MO_best_39 : decode b_MO_best 39 = .ok (.iconst 0, 1) := by decide +kernel
theorem d_MO_best_40 : decode b_MO_best 40 = .ok (.istore_n 2, 1) := by decide +kernel
theorem d_MO_best_41 : decode b_MO_best 41 = .ok (.iconst 0, 1) := by decide +kernel
theorem d_MO_best_42 : decode b_MO_best 42 = .ok (.istore_n 3, 1) := by decide +kernel
theorem d_MO_best_43 : decode b_MO_best 43 = .ok (.iconst 0, 1) := by decide +kernel
theorem d_MO_best_44 : decode b_MO_best 44 = .ok (.istore 4, 2) := by decide +kernel
theorem d_MO_best_46 : decode b_MO_best 46 = .ok (.iload 4, 2) := by decide +kernel
theorem d_MO_best_48 : decode b_MO_best 48 = .ok (.aload_n 0, 1) := by decide +kernel
theorem d_MO_best_49 : decode b_MO_best 49 = .ok (.iload_n 1, 1) := by decide +kernel
theorem d_MO_best_50 : decode b_MO_best 50 = .ok (.invokevirtual 210, 3) := by decide +kernel
theorem d_MO_best_53 : decode b_MO_best 53 = .ok (.if_icmp .gt 160, 3) := by decide +kernel
theorem d_MO_best_56 : decode b_MO_best 56 = .ok (.aload_n 0, 1) := by decide +kernel
theorem d_MO_best_57 : decode b_MO_best 57 = .ok (.iload 4, 2) := by decide +kernel
theorem d_MO_best_59 : decode b_MO_best 59 = .ok (.iconst 0, 1) := by decide +kernel
theorem d_MO_best_60 : decode b_MO_best 60 = .ok (.invokevirtual 213, 3) := by decide +kernel
theorem d_MO_best_63 : decode b_MO_best 63 = .ok (.iconst 1, 1) := by decide +kernel
theorem d_MO_best_64 : decode b_MO_best 64 = .ok (.istore 5, 2) := by decide +kernel
theorem d_MO_best_66 : decode b_MO_best 66 = .ok (.iload 5, 2) := by decide +kernel
theorem d_MO_best_68 : decode b_MO_best 68 = .ok (.ifCond .eq 139, 3) := by decide +kernel
theorem d_MO_best_71 : decode b_MO_best 71 = .ok (.aload_n 0, 1) := by decide +kernel
theorem d_MO_best_72 : decode b_MO_best 72 = .ok (.aload_n 0, 1) := by decide +kernel
theorem d_MO_best_73 : decode b_MO_best 73 = .ok (.getfield 78, 3) := by decide +kernel
theorem d_MO_best_76 : decode b_MO_best 76 = .ok (.iconst 1, 1) := by decide +kernel
theorem d_MO_best_77 : decode b_MO_best 77 = .ok (.invokevirtual 198, 3) := by decide +kernel
theorem d_MO_best_80 : decode b_MO_best 80 = .ok (.ifCond .eq 104, 3) := by decide +kernel
theorem d_MO_best_83 : decode b_MO_best 83 = .ok (.iconst 0, 1) := by decide +kernel
theorem d_MO_best_84 : decode b_MO_best 84 = .ok (.istore 6, 2) := by decide +kernel
theorem d_MO_best_86 : decode b_MO_best 86 = .ok (.iconst 0, 1) := by decide +kernel
theorem d_MO_best_87 : decode b_MO_best 87 = .ok (.istore 7, 2) := by decide +kernel
theorem d_MO_best_89 : decode b_MO_best 89 = .ok (.iload 7, 2) := by decide +kernel
theorem d_MO_best_91 : decode b_MO_best 91 = .ok (.aload_n 0, 1) := by decide +kernel
theorem d_MO_best_92 : decode b_MO_best 92 = .ok (.getfield 143, 3) := by decide +kernel
theorem d_MO_best_95 : decode b_MO_best 95 = .ok (.if_icmp .ge 29, 3) := by decide +kernel
theorem d_MO_best_98 : decode b_MO_best 98 = .ok (.iload 6, 2) := by decide +kernel
theorem d_MO_best_100 : decode b_MO_best 100 = .ok (.aload_n 0, 1) := by decide +kernel
theorem d_MO_best_101 : decode b_MO_best 101 = .ok (.getfield 59, 3) := by decide +kernel
theorem d_MO_best_104 : decode b_MO_best 104 = .ok (.iload 7, 2) := by decide +kernel
theorem d_MO_best_106 : decode b_MO_best 106 = .ok (.iaload, 1) := by decide +kernel
theorem d_MO_best_107 : decode b_MO_best 107 = .ok (.aload_n 0, 1) := by decide +kernel
theorem d_MO_best_108 : decode b_MO_best 108 = .ok (.getfield 78, 3) := by decide +kernel
theorem d_MO_best_111 : decode b_MO_best 111 = .ok (.iload 7, 2) := by decide +kernel
theorem d_MO_best_113 : decode b_MO_best 113 = .ok (.iaload, 1) := by decide +kernel
theorem d_MO_best_114 : decode b_MO_best 114 = .ok (.imul, 1) := by decide +kernel
theorem d_MO_best_115 : decode b_MO_best 115 = .ok (.iadd, 1) := by decide +kernel
theorem d_MO_best_116 : decode b_MO_best 116 = .ok (.istore 6, 2) := by decide +kernel
theorem d_MO_best_118 : decode b_MO_best 118 = .ok (.iinc 7 1, 3) := by decide +kernel
theorem d_MO_best_121 : decode b_MO_best 121 = .ok (.goto (-32), 3) := by decide +kernel
theorem d_MO_best_124 : decode b_MO_best 124 = .ok (.iload_n 2, 1) := by decide +kernel
theorem d_MO_best_125 : decode b_MO_best 125 = .ok (.ifCond .eq 22, 3) := by decide +kernel
theorem d_MO_best_128 : decode b_MO_best 128 = .ok (.iload 6, 2) := by decide +kernel
theorem d_MO_best_130 : decode b_MO_best 130 = .ok (.iload_n 3, 1) := by decide +kernel
theorem d_MO_best_131 : decode b_MO_best 131 = .ok (.if_icmp .lt 16, 3) := by decide +kernel
theorem d_MO_best_134 : decode b_MO_best 134 = .ok (.iload 6, 2) := by decide +kernel
theorem d_MO_best_136 : decode b_MO_best 136 = .ok (.iload_n 3, 1) := by decide +kernel
theorem d_MO_best_137 : decode b_MO_best 137 = .ok (.if_icmp .ne 47, 3) := by decide +kernel
theorem d_MO_best_140 : decode b_MO_best 140 = .ok (.aload_n 0, 1) := by decide +kernel
theorem d_MO_best_141 : decode b_MO_best 141 = .ok (.invokevirtual 231, 3) := by decide +kernel
theorem d_MO_best_144 : decode b_MO_best 144 = .ok (.ifCond .eq 40, 3) := by decide +kernel
theorem d_MO_best_147 : decode b_MO_best 147 = .ok (.iconst 0, 1) := by decide +kernel
theorem d_MO_best_148 : decode b_MO_best 148 = .ok (.istore 7, 2) := by decide +kernel
theorem d_MO_best_150 : decode b_MO_best 150 = .ok (.iload 7, 2) := by decide +kernel
theorem d_MO_best_152 : decode b_MO_best 152 = .ok (.aload_n 0, 1) := by decide +kernel
theorem d_MO_best_153 : decode b_MO_best 153 = .ok (.getfield 143, 3) := by decide +kernel
theorem d_MO_best_156 : decode b_MO_best 156 = .ok (.if_icmp .ge 23, 3) := by decide +kernel
theorem d_MO_best_159 : decode b_MO_best 159 = .ok (.aload_n 0, 1) := by decide +kernel
theorem d_MO_best_160 : decode b_MO_best 160 = .ok (.getfield 65, 3) := by decide +kernel
theorem d_MO_best_163 : decode b_MO_best 163 = .ok (.iload 7, 2) := by decide +kernel
theorem d_MO_best_165 : decode b_MO_best 165 = .ok (.aload_n 0, 1) := by decide +kernel
theorem d_MO_best_166 : decode b_MO_best 166 = .ok (.getfield 78, 3) := by decide +kernel
theorem d_MO_best_169 : decode b_MO_best 169 = .ok (.iload 7, 2) := by decide +kernel
theorem d_MO_best_171 : decode b_MO_best 171 = .ok (.iaload, 1) := by decide +kernel
theorem d_MO_best_172 : decode b_MO_best 172 = .ok (.iastore, 1) := by decide +kernel
theorem d_MO_best_173 : decode b_MO_best 173 = .ok (.iinc 7 1, 3) := by decide +kernel
theorem d_MO_best_176 : decode b_MO_best 176 = .ok (.goto (-26), 3) := by decide +kernel
theorem d_MO_best_179 : decode b_MO_best 179 = .ok (.iload 6, 2) := by decide +kernel
theorem d_MO_best_181 : decode b_MO_best 181 = .ok (.istore_n 3, 1) := by decide +kernel
theorem d_MO_best_182 : decode b_MO_best 182 = .ok (.iconst 1, 1) := by decide +kernel
theorem d_MO_best_183 : decode b_MO_best 183 = .ok (.istore_n 2, 1) := by decide +kernel
theorem d_MO_best_184 : decode b_MO_best 184 = .ok (.iload 4, 2) := by decide +kernel
theorem d_MO_best_186 : decode b_MO_best 186 = .ok (.ifCond .le 15, 3) := by decide +kernel
theorem d_MO_best_189 : decode b_MO_best 189 = .ok (.aload_n 0, 1) := by decide +kernel
theorem d_MO_best_190 : decode b_MO_best 190 = .ok (.iconst 0, 1) := by decide +kernel
theorem d_MO_best_191 : decode b_MO_best 191 = .ok (.invokevirtual 223, 3) := by decide +kernel
theorem d_MO_best_194 : decode b_MO_best 194 = .ok (.ifCond .eq 7, 3) := by decide +kernel
theorem d_MO_best_197 : decode b_MO_best 197 = .ok (.iconst 1, 1) := by decide +kernel
theorem d_MO_best_198 : decode b_MO_best 198 = .ok (.goto 4, 3) := by decide +kernel
theorem d_MO_best_201 : decode b_MO_best 201 = .ok (.iconst 0, 1) := by decide +kernel
theorem d_MO_best_202 : decode b_MO_best 202 = .ok (.istore 5, 2) := by decide +kernel
theorem d_MO_best_204 : decode b_MO_best 204 = .ok (.goto (-138), 3) := by decide +kernel
theorem d_MO_best_207 : decode b_MO_best 207 = .ok (.iinc 4 1, 3) := by decide +kernel
theorem d_MO_best_210 : decode b_MO_best 210 = .ok (.goto (-164), 3) := by decide +kernel
theorem d_MO_best_213 : decode b_MO_best 213 = .ok (.aload_n 0, 1) := by decide +kernel
theorem d_MO_best_214 : decode b_MO_best 214 = .ok (.iload_n 2, 1) := by decide +kernel
theorem d_MO_best_215 : decode b_MO_best 215 = .ok (.ifCond .eq 7, 3) := by decide +kernel
theorem d_MO_best_218 : decode b_MO_best 218 = .ok (.iconst 0, 1) := by decide +kernel
theorem d_MO_best_219 : decode b_MO_best 219 = .ok (.goto 4, 3) := by decide +kernel
theorem d_MO_best_222 : decode b_MO_best 222 = .ok (.iconst 3, 1) := by decide +kernel
theorem d_MO_best_223 : decode b_MO_best 223 = .ok (.putfield 81, 3) := by decide +kernel
theorem d_MO_best_226 : decode b_MO_best 226 = .ok (.aload_n 0, 1) := by decide +kernel
theorem d_MO_best_227 : decode b_MO_best 227 = .ok (.aload_n 0, 1) := by decide +kernel
theorem d_MO_best_228 : decode b_MO_best 228 = .ok (.getfield 149, 3) := by decide +kernel
theorem d_MO_best_231 : decode b_MO_best 231 = .ok (.ifCond .ne 7, 3) := by decide +kernel
theorem d_MO_best_234 : decode b_MO_best 234 = .ok (.iload_n 2, 1) := by decide +kernel
theorem d_MO_best_235 : decode b_MO_best 235 = .ok (.ifCond .eq 7, 3) := by decide +kernel
theorem d_MO_best_238 : decode b_MO_best 238 = .ok (.iconst 1, 1) := by decide +kernel
theorem d_MO_best_239 : decode b_MO_best 239 = .ok (.goto 4, 3) := by decide +kernel
theorem d_MO_best_242 : decode b_MO_best 242 = .ok (.iconst 0, 1) := by decide +kernel
theorem d_MO_best_243 : decode b_MO_best 243 = .ok (.putfield 149, 3) := by decide +kernel
theorem d_MO_best_246 : decode b_MO_best 246 = .ok (.iload_n 3, 1) := by decide +kernel
theorem d_MO_best_247 : decode b_MO_best 247 = .ok (.ireturn, 1) := by decide +kernel
theorem d_MO_isBefore_0 : decode b_MO_isBefore 0 = .ok (.iconst 0, 1) := by decide +kernel
theorem d_MO_isBefore_1 : decode b_MO_isBefore 1 = .ok (.istore_n 1, 1) := by decide +kernel
theorem d_MO_isBefore_2 : decode b_MO_isBefore 2 = .ok (.iload_n 1, 1) := by decide +kernel
theorem d_MO_isBefore_3 : decode b_MO_isBefore 3 = .ok (.aload_n 0, 1) := by decide +kernel
theorem d_MO_isBefore_4 : decode b_MO_isBefore 4 = .ok (.getfield 143, 3) := by decide +kernel
theorem d_MO_isBefore_7 : decode b_MO_isBefore 7 = .ok (.if_icmp .ge 24, 3) := by decide +kernel
theorem d_MO_isBefore_10 : decode b_MO_isBefore 10 = .ok (.aload_n 0, 1) := by decide +kernel
theorem d_MO_isBefore_11 : decode b_MO_isBefore 11 = .ok (.getfield 78, 3) := by decide +kernel
theorem d_MO_isBefore_14 : decode b_MO_isBefore 14 = .ok (.iload_n 1, 1) := by decide +kernel
theorem d_MO_isBefore_15 : decode b_MO_isBefore 15 = .ok (.iaload, 1) := by decide +kernel
theorem d_MO_isBefore_16 : decode b_MO_isBefore 16 = .ok (.aload_n 0, 1) := by decide +kernel
theorem d_MO_isBefore_17 : decode b_MO_isBefore 17 = .ok (.getfield 65, 3) := by decide +kernel
theorem d_MO_isBefore_20 : decode b_MO_isBefore 20 = .ok (.iload_n 1, 1) := by decide +kernel
theorem d_MO_isBefore_21 : decode b_MO_isBefore 21 = .ok (.iaload, 1) := by decide +kernel
theorem d_MO_isBefore_22 : decode b_MO_isBefore 22 = .ok (.if_icmp .ne 9, 3) := by decide +kernel
theorem d_MO_isBefore_25 : decode b_MO_isBefore 25 = .ok (.iinc 1 1, 3) := by decide +kernel
theorem d_MO_isBefore_28 : decode b_MO_isBefore 28 = .ok (.goto (-26), 3) := by decide +kernel
theorem d_MO_isBefore_31 : decode b_MO_isBefore 31 = .ok (.iload_n 1, 1) := by decide +kernel
theorem d_MO_isBefore_32 : decode b_MO_isBefore 32 = .ok (.aload_n 0, 1) := by decide +kernel
theorem d_MO_isBefore_33 : decode b_MO_isBefore 33 = .ok (.getfield 143, 3) := by decide +kernel
theorem d_MO_isBefore_36 : decode b_MO_isBefore 36 = .ok (.if_icmp .ge 22, 3) := by decide +kernel
theorem d_MO_isBefore_39 : decode b_MO_isBefore 39 = .ok (.aload_n 0, 1) := by decide +kernel
theorem d_MO_isBefore_40 : decode b_MO_isBefore 40 = .ok (.getfield 78, 3) := by decide +kernel
theorem d_MO_isBefore_43 : decode b_MO_isBefore 43 = .ok (.iload_n 1, 1) := by decide +kernel
theorem d_MO_isBefore_44 : decode b_MO_isBefore 44 = .ok (.iaload, 1) := by decide +kernel
theorem d_MO_isBefore_45 : decode b_MO_isBefore 45 = .ok (.aload_n 0, 1) := by decide +kernel
theorem d_MO_isBefore_46 : decode b_MO_isBefore 46 = .ok (.getfield 65, 3) := by decide +kernel
theorem d_MO_isBefore_49 : decode b_MO_isBefore 49 = .ok (.iload_n 1, 1) := by decide +kernel
theorem d_MO_isBefore_50 : decode b_MO_isBefore 50 = .ok (.iaload, 1) := by decide +kernel
theorem d_MO_isBefore_51 : decode b_MO_isBefore 51 = .ok (.if_icmp .ge 7, 3) := by decide +kernel
theorem d_MO_isBefore_54 : decode b_MO_isBefore 54 = .ok (.iconst 1, 1) := by decide +kernel
theorem d_MO_isBefore_55 : decode b_MO_isBefore 55 = .ok (.goto 4, 3) := by decide +kernel
theorem d_MO_isBefore_58 : decode b_MO_isBefore 58 = .ok (.iconst 0, 1) := by decide +kernel
theorem d_MO_isBefore_59 : decode b_MO_isBefore 59 = .ok (.ireturn, 1) := by decide +kernel
theorem d_MO_isBelow_0 : decode b_MO_isBelow 0 = .ok (.iconst 1, 1) := by decide +kernel
theorem d_MO_isBelow_1 : decode b_MO_isBelow 1 = .ok (.istore 4, 2) := by decide +kernel
theorem d_MO_isBelow_3 : decode b_MO_isBelow 3 = .ok (.iconst 0, 1) := by decide +kernel
theorem d_MO_isBelow_4 : decode b_MO_isBelow 4 = .ok (.istore 5, 2) := by decide +kernel
theorem d_MO_isBelow_6 : decode b_MO_isBelow 6 = .ok (.iload 5, 2) := by decide +kernel
theorem d_MO_isBelow_8 : decode b_MO_isBelow 8 = .ok (.aload_n 0, 1) := by decide +kernel
theorem d_MO_isBelow_9 : decode b_MO_isBelow 9 = .ok (.getfield 143, 3) := by decide +kernel
theorem d_MO_isBelow_12 : decode b_MO_isBelow 12 = .ok (.if_icmp .ge 95, 3) := by decide +kernel
theorem d_MO_isBelow_15 : decode b_MO_isBelow 15 = .ok (.iload 4, 2) := by decide +kernel
theorem d_MO_isBelow_17 : decode b_MO_isBelow 17 = .ok (.ifCond .eq 90, 3) := by decide +kernel
theorem d_MO_isBelow_20 : decode b_MO_isBelow 20 = .ok (.iload_n 3, 1) := by decide +kernel
theorem d_MO_isBelow_21 : decode b_MO_isBelow 21 = .ok (.aload_n 0, 1) := by decide +kernel
theorem d_MO_isBelow_22 : decode b_MO_isBelow 22 = .ok (.getfield 52, 3) := by decide +kernel
theorem d_MO_isBelow_25 : decode b_MO_isBelow 25 = .ok (.sipush 12000, 3) := by decide +kernel
theorem d_MO_isBelow_28 : decode b_MO_isBelow 28 = .ok (.iload_n 1, 1) := by decide +kernel
theorem d_MO_isBelow_29 : decode b_MO_isBelow 29 = .ok (.imul, 1) := by decide +kernel
theorem d_MO_isBelow_30 : decode b_MO_isBelow 30 = .ok (.bipush 6, 2) := by decide +kernel
theorem d_MO_isBelow_32 : decode b_MO_isBelow 32 = .ok (.iload_n 2, 1) := by decide +kernel
theorem d_MO_isBelow_33 : decode b_MO_isBelow 33 = .ok (.imul, 1) := by decide +kernel
theorem d_MO_isBelow_34 : decode b_MO_isBelow 34 = .ok (.iadd, 1) := by decide +kernel
theorem d_MO_isBelow_35 : decode b_MO_isBelow 35 = .ok (.iload 5, 2) := by decide +kernel
theorem d_MO_isBelow_37 : decode b_MO_isBelow 37 = .ok (.iadd, 1) := by decide +kernel
theorem d_MO_isBelow_38 : decode b_MO_isBelow 38 = .ok (.baload, 1) := by decide +kernel
theorem d_MO_isBelow_39 : decode b_MO_isBelow 39 = .ok (.imul, 1) := by decide +kernel
theorem d_MO_isBelow_40 : decode b_MO_isBelow 40 = .ok (.istore 6, 2) := by decide +kernel
theorem d_MO_isBelow_42 : decode b_MO_isBelow 42 = .ok (.aload_n 0, 1) := by decide +kernel
theorem d_MO_isBelow_43 : decode b_MO_isBelow 43 = .ok (.getfield 78, 3) := by decide +kernel
theorem d_MO_isBelow_46 : decode b_MO_isBelow 46 = .ok (.iload 5, 2) := by decide +kernel
theorem d_MO_isBelow_48 : decode b_MO_isBelow 48 = .ok (.iaload, 1) := by decide +kernel
theorem d_MO_isBelow_49 : decode b_MO_isBelow 49 = .ok (.ifCond .lt 28, 3) := by decide +kernel
theorem d_MO_isBelow_52 : decode b_MO_isBelow 52 = .ok (.iload 6, 2) := by decide +kernel
theorem d_MO_isBelow_54 : decode b_MO_isBelow 54 = .ok (.ifCond .lt 19, 3) := by decide +kernel
theorem d_MO_isBelow_57 : decode b_MO_isBelow 57 = .ok (.iload 6, 2) := by decide +kernel
theorem d_MO_isBelow_59 : decode b_MO_isBelow 59 = .ok (.aload_n 0, 1) := by decide +kernel
theorem d_MO_isBelow_60 : decode b_MO_isBelow 60 = .ok (.getfield 78, 3) := by decide +kernel
theorem d_MO_isBelow_63 : decode b_MO_isBelow 63 = .ok (.iload 5, 2) := by decide +kernel
theorem d_MO_isBelow_65 : decode b_MO_isBelow 65 = .ok (.iaload, 1) := by decide +kernel
theorem d_MO_isBelow_66 : decode b_MO_isBelow 66 = .ok (.if_icmp .gt 7, 3) := by decide +kernel
theorem d_MO_isBelow_69 : decode b_MO_isBelow 69 = .ok (.iconst 1, 1) := by decide +kernel
theorem d_MO_isBelow_70 : decode b_MO_isBelow 70 = .ok (.goto 29, 3) := by decide +kernel
theorem d_MO_isBelow_73 : decode b_MO_isBelow 73 = .ok (.iconst 0, 1) := by decide +kernel
theorem d_MO_isBelow_74 : decode b_MO_isBelow 74 = .ok (.goto 25, 3) := by decide +kernel
theorem d_MO_isBelow_77 : decode b_MO_isBelow 77 = .ok (.iload 6, 2) := by decide +kernel
theorem d_MO_isBelow_79 : decode b_MO_isBelow 79 = .ok (.ifCond .gt 19, 3) := by decide +kernel
theorem d_MO_isBelow_82 : decode b_MO_isBelow 82 = .ok (.iload 6, 2) := by decide +kernel
theorem d_MO_isBelow_84 : decode b_MO_isBelow 84 = .ok (.aload_n 0, 1) := by decide +kernel
theorem d_MO_isBelow_85 : decode b_MO_isBelow 85 = .ok (.getfield 78, 3) := by decide +kernel
theorem d_MO_isBelow_88 : decode b_MO_isBelow 88 = .ok (.iload 5, 2) := by decide +kernel
theorem d_MO_isBelow_90 : decode b_MO_isBelow 90 = .ok (.iaload, 1) := by decide +kernel
theorem d_MO_isBelow_91 : decode b_MO_isBelow 91 = .ok (.if_icmp .lt 7, 3) := by decide +kernel
theorem d_MO_isBelow_94 : decode b_MO_isBelow 94 = .ok (.iconst 1, 1) := by decide +kernel
theorem d_MO_isBelow_95 : decode b_MO_isBelow 95 = .ok (.goto 4, 3) := by decide +kernel
theorem d_MO_isBelow_98 : decode b_MO_isBelow 98 = .ok (.iconst 0, 1) := by decide +kernel
theorem d_MO_isBelow_99 : decode b_MO_isBelow 99 = .ok (.istore 4, 2) := by decide +kernel
theorem d_MO_isBelow_101 : decode b_MO_isBelow 101 = .ok (.iinc 5 1, 3) := by decide +kernel
theorem d_MO_isBelow_104 : decode b_MO_isBelow 104 = .ok (.goto (-98), 3) := by decide +kernel
theorem d_MO_isBelow_107 : decode b_MO_isBelow 107 = .ok (.iload 4, 2) := by decide +kernel
theorem d_MO_isBelow_109 : decode b_MO_isBelow 109 = .ok (.ireturn, 1) := by decide +kernel
theorem d_MO_most_0 : decode b_MO_most 0 = .ok (.aload_n 0, 1) := by decide +kernel
theorem d_MO_most_1 : decode b_MO_most 1 = .ok (.getfield 143, 3) := by decide +kernel
theorem d_MO_most_4 : decode b_MO_most 4 = .ok (.ifCond .ne 7, 3) := by decide +kernel
theorem d_MO_most_7 : decode b_MO_most 7 = .ok (.iconst 0, 1) := by decide +kernel
theorem d_MO_most_8 : decode b_MO_most 8 = .ok (.goto 4, 3) := by decide +kernel
theorem d_MO_most_11 : decode b_MO_most 11 = .ok (.iload_n 1, 1) := by decide +kernel
theorem d_MO_most_12 : decode b_MO_most 12 = .ok (.ireturn, 1) := by decide +kernel
theorem d_MO_next_0 : decode b_MO_next 0 = .ok (.iconst 0, 1) := by decide +kernel
theorem d_MO_next_1 : decode b_MO_next 1 = .ok (.istore_n 2, 1) := by decide +kernel
theorem d_MO_next_2 : decode b_MO_next 2 = .ok (.aload_n 0, 1) := by decide +kernel
theorem d_MO_next_3 : decode b_MO_next 3 = .ok (.getfield 143, 3) := by decide +kernel
theorem d_MO_next_6 : decode b_MO_next 6 = .ok (.iconst 1, 1) := by decide +kernel
theorem d_MO_next_7 : decode b_MO_next 7 = .ok (.isub, 1) := by decide +kernel
theorem d_MO_next_8 : decode b_MO_next 8 = .ok (.istore_n 3, 1) := by decide +kernel
theorem d_MO_next_9 : decode b_MO_next 9 = .ok (.iload_n 3, 1) := by decide +kernel
theorem d_MO_next_10 : decode b_MO_next 10 = .ok (.ifCond .lt 135, 3) := by decide +kernel
theorem d_MO_next_13 : decode b_MO_next 13 = .ok (.aload_n 0, 1) := by decide +kernel
theorem d_MO_next_14 : decode b_MO_next 14 = .ok (.getfield 78, 3) := by decide +kernel
theorem d_MO_next_17 : decode b_MO_next 17 = .ok (.iload_n 3, 1) := by decide +kernel
theorem d_MO_next_18 : decode b_MO_next 18 = .ok (.iaload, 1) := by decide +kernel
theorem d_MO_next_19 : decode b_MO_next 19 = .ok (.istore 4, 2) := by decide +kernel
theorem d_MO_next_21 : decode b_MO_next 21 = .ok (.iload_n 2, 1) := by decide +kernel
theorem d_MO_next_22 : decode b_MO_next 22 = .ok (.iload 4, 2) := by decide +kernel
theorem d_MO_next_24 : decode b_MO_next 24 = .ok (.ifCond .ge 9, 3) := by decide +kernel
theorem d_MO_next_27 : decode b_MO_next 27 = .ok (.iload 4, 2) := by decide +kernel
theorem d_MO_next_29 : decode b_MO_next 29 = .ok (.ineg, 1) := by decide +kernel
theorem d_MO_next_30 : decode b_MO_next 30 = .ok (.goto 5, 3) := by decide +kernel
theorem d_MO_next_33 : decode b_MO_next 33 = .ok (.iload 4, 2) := by decide +kernel
theorem d_MO_next_35 : decode b_MO_next 35 = .ok (.iadd, 1) := by decide +kernel
theorem d_MO_next_36 : decode b_MO_next 36 = .ok (.istore 5, 2) := by decide +kernel
theorem d_MO_next_38 : decode b_MO_next 38 = .ok (.iload 4, 2) := by decide +kernel
theorem d_MO_next_40 : decode b_MO_next 40 = .ok (.iconst 1, 1) := by decide +kernel
theorem d_MO_next_41 : decode b_MO_next 41 = .ok (.iadd, 1) := by decide +kernel
theorem d_MO_next_42 : decode b_MO_next 42 = .ok (.istore 6, 2) := by decide +kernel
theorem d_MO_next_44 : decode b_MO_next 44 = .ok (.iload 6, 2) := by decide +kernel
theorem d_MO_next_46 : decode b_MO_next 46 = .ok (.ifCond .ge 9, 3) := by decide +kernel
theorem d_MO_next_49 : decode b_MO_next 49 = .ok (.iload 6, 2) := by decide +kernel
theorem d_MO_next_51 : decode b_MO_next 51 = .ok (.ineg, 1) := by decide +kernel
theorem d_MO_next_52 : decode b_MO_next 52 = .ok (.goto 5, 3) := by decide +kernel
theorem d_MO_next_55 : decode b_MO_next 55 = .ok (.iload 6, 2) := by decide +kernel
theorem d_MO_next_57 : decode b_MO_next 57 = .ok (.istore 7, 2) := by decide +kernel
theorem d_MO_next_59 : decode b_MO_next 59 = .ok (.iload_n 3, 1) := by decide +kernel
theorem d_MO_next_60 : decode b_MO_next 60 = .ok (.aload_n 0, 1) := by decide +kernel
theorem d_MO_next_61 : decode b_MO_next 61 = .ok (.getfield 143, 3) := by decide +kernel
theorem d_MO_next_64 : decode b_MO_next 64 = .ok (.iconst 1, 1) := by decide +kernel
theorem d_MO_next_65 : decode b_MO_next 65 = .ok (.isub, 1) := by decide +kernel
theorem d_MO_next_66 : decode b_MO_next 66 = .ok (.if_icmp .ne 7, 3) := by decide +kernel
theorem d_MO_next_69 : decode b_MO_next 69 = .ok (.iconst 1, 1) := by decide +kernel
theorem d_MO_next_70 : decode b_MO_next 70 = .ok (.goto 4, 3) := by decide +kernel
theorem d_MO_next_73 : decode b_MO_next 73 = .ok (.iconst 0, 1) := by decide +kernel
theorem d_MO_next_74 : decode b_MO_next 74 = .ok (.istore 8, 2) := by decide +kernel
theorem d_MO_next_76 : decode b_MO_next 76 = .ok (.iload 8, 2) := by decide +kernel
theorem d_MO_next_78 : decode b_MO_next 78 = .ok (.ifCond .eq 23, 3) := by decide +kernel
theorem d_MO_next_81 : decode b_MO_next 81 = .ok (.iload_n 1, 1) := by decide +kernel
theorem d_MO_next_82 : decode b_MO_next 82 = .ok (.ifCond .eq 19, 3) := by decide +kernel
theorem d_MO_next_85 : decode b_MO_next 85 = .ok (.iload 4, 2) := by decide +kernel
theorem d_MO_next_87 : decode b_MO_next 87 = .ok (.ifCond .ge 14, 3) := by decide +kernel
theorem d_MO_next_90 : decode b_MO_next 90 = .ok (.aload_n 0, 1) := by decide +kernel
theorem d_MO_next_91 : decode b_MO_next 91 = .ok (.getfield 78, 3) := by decide +kernel
theorem d_MO_next_94 : decode b_MO_next 94 = .ok (.iload_n 3, 1) := by decide +kernel
theorem d_MO_next_95 : decode b_MO_next 95 = .ok (.iload 4, 2) := by decide +kernel
theorem d_MO_next_97 : decode b_MO_next 97 = .ok (.ineg, 1) := by decide +kernel
theorem d_MO_next_98 : decode b_MO_next 98 = .ok (.iastore, 1) := by decide +kernel
theorem d_MO_next_99 : decode b_MO_next 99 = .ok (.iconst 1, 1) := by decide +kernel
theorem d_MO_next_100 : decode b_MO_next 100 = .ok (.ireturn, 1) := by decide +kernel
theorem d_MO_next_101 : decode b_MO_next 101 = .ok (.iload 8, 2) := by decide +kernel
theorem d_MO_next_103 : decode b_MO_next 103 = .ok (.ifCond .ne 33, 3) := by decide +kernel
theorem d_MO_next_106 : decode b_MO_next 106 = .ok (.iload 7, 2) := by decide +kernel
theorem d_MO_next_108 : decode b_MO_next 108 = .ok (.iload 5, 2) := by decide +kernel
theorem d_MO_next_110 : decode b_MO_next 110 = .ok (.if_icmp .gt 26, 3) := by decide +kernel
theorem d_MO_next_113 : decode b_MO_next 113 = .ok (.aload_n 0, 1) := by decide +kernel
theorem d_MO_next_114 : decode b_MO_next 114 = .ok (.getfield 78, 3) := by decide +kernel
theorem d_MO_next_117 : decode b_MO_next 117 = .ok (.iload_n 3, 1) := by decide +kernel
theorem d_MO_next_118 : decode b_MO_next 118 = .ok (.iload 6, 2) := by decide +kernel
theorem d_MO_next_120 : decode b_MO_next 120 = .ok (.iastore, 1) := by decide +kernel
theorem d_MO_next_121 : decode b_MO_next 121 = .ok (.aload_n 0, 1) := by decide +kernel
theorem d_MO_next_122 : decode b_MO_next 122 = .ok (.iload_n 3, 1) := by decide +kernel
theorem d_MO_next_123 : decode b_MO_next 123 = .ok (.iconst 1, 1) := by decide +kernel
theorem d_MO_next_124 : decode b_MO_next 124 = .ok (.iadd, 1) := by decide +kernel
theorem d_MO_next_125 : decode b_MO_next 125 = .ok (.iload 5, 2) := by decide +kernel
theorem d_MO_next_127 : decode b_MO_next 127 = .ok (.iload 7, 2) := by decide +kernel
theorem d_MO_next_129 : decode b_MO_next 129 = .ok (.isub, 1) := by decide +kernel
theorem d_MO_next_130 : decode b_MO_next 130 = .ok (.iload_n 1, 1) := by decide +kernel
theorem d_MO_next_131 : decode b_MO_next 131 = .ok (.invokevirtual 206, 3) := by decide +kernel
theorem d_MO_next_134 : decode b_MO_next 134 = .ok (.iconst 1, 1) := by decide +kernel
theorem d_MO_next_135 : decode b_MO_next 135 = .ok (.ireturn, 1) := by decide +kernel
theorem d_MO_next_136 : decode b_MO_next 136 = .ok (.iload 5, 2) := by decide +kernel
theorem d_MO_next_138 : decode b_MO_next 138 = .ok (.istore_n 2, 1) := by decide +kernel
theorem d_MO_next_139 : decode b_MO_next 139 = .ok (.iinc 3 (-1), 3) := by decide +kernel
theorem d_MO_next_142 : decode b_MO_next 142 = .ok (.goto (-133), 3) := by decide +kernel
theorem d_MO_next_145 : decode b_MO_next 145 = .ok (.iconst 0, 1) := by decide +kernel
theorem d_MO_next_146 : decode b_MO_next 146 = .ok (.ireturn, 1) := by decide +kernel
theorem d_MO_put_0 : decode b_MO_put 0 = .ok (.iconst 0, 1) := by decide +kernel
theorem d_MO_put_1 : decode b_MO_put 1 = .ok (.istore_n 2, 1) := by decide +kernel
theorem d_MO_put_2 : decode b_MO_put 2 = .ok (.iload_n 2, 1) := by decide +kernel
theorem d_MO_put_3 : decode b_MO_put 3 = .ok (.aload_n 0, 1) := by decide +kernel
theorem d_MO_put_4 : decode b_MO_put 4 = .ok (.getfield 143, 3) := by decide +kernel
theorem d_MO_put_7 : decode b_MO_put 7 = .ok (.if_icmp .ge 38, 3) := by decide +kernel
theorem d_MO_put_10 : decode b_MO_put 10 = .ok (.aload_n 0, 1) := by decide +kernel
theorem d_MO_put_11 : decode b_MO_put 11 = .ok (.getfield 52, 3) := by decide +kernel
theorem d_MO_put_14 : decode b_MO_put 14 = .ok (.sipush 12000, 3) := by decide +kernel
theorem d_MO_put_17 : decode b_MO_put 17 = .ok (.iload_n 1, 1) := by decide +kernel
theorem d_MO_put_18 : decode b_MO_put 18 = .ok (.imul, 1) := by decide +kernel
theorem d_MO_put_19 : decode b_MO_put 19 = .ok (.bipush 6, 2) := by decide +kernel
theorem d_MO_put_21 : decode b_MO_put 21 = .ok (.aload_n 0, 1) := by decide +kernel
theorem d_MO_put_22 : decode b_MO_put 22 = .ok (.getfield 48, 3) := by decide +kernel
theorem d_MO_put_25 : decode b_MO_put 25 = .ok (.iload_n 1, 1) := by decide +kernel
theorem d_MO_put_26 : decode b_MO_put 26 = .ok (.iaload, 1) := by decide +kernel
theorem d_MO_put_27 : decode b_MO_put 27 = .ok (.imul, 1) := by decide +kernel
theorem d_MO_put_28 : decode b_MO_put 28 = .ok (.iadd, 1) := by decide +kernel
theorem d_MO_put_29 : decode b_MO_put 29 = .ok (.iload_n 2, 1) := by decide +kernel
theorem d_MO_put_30 : decode b_MO_put 30 = .ok (.iadd, 1) := by decide +kernel
theorem d_MO_put_31 : decode b_MO_put 31 = .ok (.aload_n 0, 1) := by decide +kernel
theorem d_MO_put_32 : decode b_MO_put 32 = .ok (.getfield 78, 3) := by decide +kernel
theorem d_MO_put_35 : decode b_MO_put 35 = .ok (.iload_n 2, 1) := by decide +kernel
theorem d_MO_put_36 : decode b_MO_put 36 = .ok (.iaload, 1) := by decide +kernel
theorem d_MO_put_37 : decode b_MO_put 37 = .ok (.i2b, 1) := by decide +kernel
theorem d_MO_put_38 : decode b_MO_put 38 = .ok (.bastore, 1) := by decide +kernel
theorem d_MO_put_39 : decode b_MO_put 39 = .ok (.iinc 2 1, 3) := by decide +kernel
theorem d_MO_put_42 : decode b_MO_put 42 = .ok (.goto (-40), 3) := by decide +kernel
theorem d_MO_put_45 : decode b_MO_put 45 = .ok (.aload_n 0, 1) := by decide +kernel
theorem d_MO_put_46 : decode b_MO_put 46 = .ok (.getfield 48, 3) := by decide +kernel
theorem d_MO_put_49 : decode b_MO_put 49 = .ok (.iload_n 1, 1) := by decide +kernel
theorem d_MO_put_50 : decode b_MO_put 50 = .ok (.aload_n 0, 1) := by decide +kernel
theorem d_MO_put_51 : decode b_MO_put 51 = .ok (.getfield 48, 3) := by decide +kernel
theorem d_MO_put_54 : decode b_MO_put 54 = .ok (.iload_n 1, 1) := by decide +kernel
theorem d_MO_put_55 : decode b_MO_put 55 = .ok (.iaload, 1) := by decide +kernel
theorem d_MO_put_56 : decode b_MO_put 56 = .ok (.iconst 1, 1) := by decide +kernel
theorem d_MO_put_57 : decode b_MO_put 57 = .ok (.iadd, 1) := by decide +kernel
theorem d_MO_put_58 : decode b_MO_put 58 = .ok (.iastore, 1) := by decide +kernel
theorem d_MO_put_59 : decode b_MO_put 59 = .ok (.return_, 1) := by decide +kernel
theorem d_MO_split_0 : decode b_MO_split 0 = .ok (.aload_n 0, 1) := by decide +kernel
theorem d_MO_split_1 : decode b_MO_split 1 = .ok (.iconst 0, 1) := by decide +kernel
theorem d_MO_split_2 : decode b_MO_split 2 = .ok (.putfield 81, 3) := by decide +kernel
theorem d_MO_split_5 : decode b_MO_split 5 = .ok (.iconst 0, 1) := by decide +kernel
theorem d_MO_split_6 : decode b_MO_split 6 = .ok (.istore_n 1, 1) := by decide +kernel
theorem d_MO_split_7 : decode b_MO_split 7 = .ok (.iconst 0, 1) := by decide +kernel
theorem d_MO_split_8 : decode b_MO_split 8 = .ok (.istore_n 2, 1) := by decide +kernel
theorem d_MO_split_9 : decode b_MO_split 9 = .ok (.iload_n 2, 1) := by decide +kernel
theorem d_MO_split_10 : decode b_MO_split 10 = .ok (.aload_n 0, 1) := by decide +kernel
theorem d_MO_split_11 : decode b_MO_split 11 = .ok (.getfield 143, 3) := by decide +kernel
theorem d_MO_split_14 : decode b_MO_split 14 = .ok (.if_icmp .ge 18, 3) := by decide +kernel
theorem d_MO_split_17 : decode b_MO_split 17 = .ok (.iload_n 1, 1) := by decide +kernel
theorem d_MO_split_18 : decode b_MO_split 18 = .ok (.aload_n 0, 1) := by decide +kernel
theorem d_MO_split_19 : decode b_MO_split 19 = .ok (.getfield 56, 3) := by decide +kernel
theorem d_MO_split_22 : decode b_MO_split 22 = .ok (.iload_n 2, 1) := by decide +kernel
theorem d_MO_split_23 : decode b_MO_split 23 = .ok (.iaload, 1) := by decide +kernel
theorem d_MO_split_24 : decode b_MO_split 24 = .ok (.iadd, 1) := by decide +kernel
theorem d_MO_split_25 : decode b_MO_split 25 = .ok (.istore_n 1, 1) := by decide +kernel
theorem d_MO_split_26 : decode b_MO_split 26 = .ok (.iinc 2 1, 3) := by decide +kernel
theorem d_MO_split_29 : decode b_MO_split 29 = .ok (.goto (-20), 3) := by decide +kernel
theorem d_MO_split_32 : decode b_MO_split 32 = .ok (.aload_n 0, 1) := by decide +kernel
theorem d_MO_split_33 : decode b_MO_split 33 = .ok (.getfield 133, 3) := by decide +kernel
theorem d_MO_split_36 : decode b_MO_split 36 = .ok (.ifCond .eq 60, 3) := by decide +kernel
theorem d_MO_split_39 : decode b_MO_split 39 = .ok (.aload_n 0, 1) := by decide +kernel
theorem d_MO_split_40 : decode b_MO_split 40 = .ok (.invokevirtual 227, 3) := by decide +kernel
theorem d_MO_split_43 : decode b_MO_split 43 = .ok (.ifCond .eq 53, 3) := by decide +kernel
theorem d_MO_split_46 : decode b_MO_split 46 = .ok (.aload_n 0, 1) := by decide +kernel
theorem d_MO_split_47 : decode b_MO_split 47 = .ok (.aload_n 0, 1) := by decide +kernel
theorem d_MO_split_48 : decode b_MO_split 48 = .ok (.getfield 56, 3) := by decide +kernel
theorem d_MO_split_51 : decode b_MO_split 51 = .ok (.iconst 1, 1) := by decide +kernel
theorem d_MO_split_52 : decode b_MO_split 52 = .ok (.invokevirtual 198, 3) := by decide +kernel
theorem d_MO_split_55 : decode b_MO_split 55 = .ok (.ifCond .eq 41, 3) := by decide +kernel
theorem d_MO_split_58 : decode b_MO_split 58 = .ok (.aload_n 0, 1) := by decide +kernel
theorem d_MO_split_59 : decode b_MO_split 59 = .ok (.getfield 41, 3) := by decide +kernel
theorem d_MO_split_62 : decode b_MO_split 62 = .ok (.iconst 0, 1) := by decide +kernel
theorem d_MO_split_63 : decode b_MO_split 63 = .ok (.baload, 1) := by decide +kernel
theorem d_MO_split_64 : decode b_MO_split 64 = .ok (.ifCond .eq 32, 3) := by decide +kernel
theorem d_MO_split_67 : decode b_MO_split 67 = .ok (.aload_n 0, 1) := by decide +kernel
theorem d_MO_split_68 : decode b_MO_split 68 = .ok (.getfield 41, 3) := by decide +kernel
theorem d_MO_split_71 : decode b_MO_split 71 = .ok (.iconst 1, 1) := by decide +kernel
theorem d_MO_split_72 : decode b_MO_split 72 = .ok (.baload, 1) := by decide +kernel
theorem d_MO_split_73 : decode b_MO_split 73 = .ok (.ifCond .eq 23, 3) := by decide +kernel
theorem d_MO_split_76 : decode b_MO_split 76 = .ok (.iload_n 1, 1) := by decide +kernel
theorem d_MO_split_77 : decode b_MO_split 77 = .ok (.aload_n 0, 1) := by decide +kernel
theorem d_MO_split_78 : decode b_MO_split 78 = .ok (.getfield 45, 3) := by decide +kernel
theorem d_MO_split_81 : decode b_MO_split 81 = .ok (.iconst 0, 1) := by decide +kernel
theorem d_MO_split_82 : decode b_MO_split 82 = .ok (.iaload, 1) := by decide +kernel
theorem d_MO_split_83 : decode b_MO_split 83 = .ok (.if_icmp .gt 13, 3) := by decide +kernel
theorem d_MO_split_86 : decode b_MO_split 86 = .ok (.iload_n 1, 1) := by decide +kernel
theorem d_MO_split_87 : decode b_MO_split 87 = .ok (.aload_n 0, 1) := by decide +kernel
theorem d_MO_split_88 : decode b_MO_split 88 = .ok (.getfield 45, 3) := by decide +kernel
theorem d_MO_split_91 : decode b_MO_split 91 = .ok (.iconst 1, 1) := by decide +kernel
theorem d_MO_split_92 : decode b_MO_split 92 = .ok (.iaload, 1) := by decide +kernel
theorem d_MO_split_93 : decode b_MO_split 93 = .ok (.if_icmp .le 5, 3) := by decide +kernel
theorem d_MO_split_96 : decode b_MO_split 96 = .ok (.iconst (-1), 1) := by decide +kernel
theorem d_MO_split_97 : decode b_MO_split 97 = .ok (.ireturn, 1) := by decide +kernel
theorem d_MO_split_98 : decode b_MO_split 98 = .ok (.iconst 0, 1) := by decide +kernel
theorem d_MO_split_99 : decode b_MO_split 99 = .ok (.istore_n 2, 1) := by decide +kernel
theorem d_MO_split_100 : decode b_MO_split 100 = .ok (.iload_n 2, 1) := by decide +kernel
theorem d_MO_split_101 : decode b_MO_split 101 = .ok (.aload_n 0, 1) := by decide +kernel
theorem d_MO_split_102 : decode b_MO_split 102 = .ok (.getfield 143, 3) := by decide +kernel
theorem d_MO_split_105 : decode b_MO_split 105 = .ok (.if_icmp .ge 21, 3) := by decide +kernel
theorem d_MO_split_108 : decode b_MO_split 108 = .ok (.aload_n 0, 1) := by decide +kernel
theorem d_MO_split_109 : decode b_MO_split 109 = .ok (.getfield 78, 3) := by decide +kernel
theorem d_MO_split_112 : decode b_MO_split 112 = .ok (.iload_n 2, 1) := by decide +kernel
theorem d_MO_split_113 : decode b_MO_split 113 = .ok (.aload_n 0, 1) := by decide +kernel
theorem d_MO_split_114 : decode b_MO_split 114 = .ok (.getfield 56, 3) := by decide +kernel
theorem d_MO_split_117 : decode b_MO_split 117 = .ok (.iload_n 2, 1) := by decide +kernel
theorem d_MO_split_118 : decode b_MO_split 118 = .ok (.iaload, 1) := by decide +kernel
theorem d_MO_split_119 : decode b_MO_split 119 = .ok (.iastore, 1) := by decide +kernel
theorem d_MO_split_120 : decode b_MO_split 120 = .ok (.iinc 2 1, 3) := by decide +kernel
theorem d_MO_split_123 : decode b_MO_split 123 = .ok (.goto (-23), 3) := by decide +kernel
theorem d_MO_split_126 : decode b_MO_split 126 = .ok (.iconst 0, 1) := by decide +kernel
theorem d_MO_split_127 : decode b_MO_split 127 = .ok (.istore_n 2, 1) := by decide +kernel
theorem d_MO_split_128 : decode b_MO_split 128 = .ok (.aload_n 0, 1) := by decide +kernel
theorem d_MO_split_129 : decode b_MO_split 129 = .ok (.iconst 1, 1) := by decide +kernel
theorem d_MO_split_130 : decode b_MO_split 130 = .ok (.iload_n 2, 1) := by decide +kernel
theorem d_MO_split_131 : decode b_MO_split 131 = .ok (.iconst 1, 1) := by decide +kernel
theorem d_MO_split_132 : decode b_MO_split 132 = .ok (.invokevirtual 202, 3) := by decide +kernel
theorem d_MO_split_135 : decode b_MO_split 135 = .ok (.ifCond .ne 9, 3) := by decide +kernel
theorem d_MO_split_138 : decode b_MO_split 138 = .ok (.iinc 2 1, 3) := by decide +kernel
theorem d_MO_split_141 : decode b_MO_split 141 = .ok (.goto (-13), 3) := by decide +kernel
theorem d_MO_split_144 : decode b_MO_split 144 = .ok (.iconst 0, 1) := by decide +kernel
theorem d_MO_split_145 : decode b_MO_split 145 = .ok (.istore_n 3, 1) := by decide +kernel
theorem d_MO_split_146 : decode b_MO_split 146 = .ok (.iload_n 3, 1) := by decide +kernel
theorem d_MO_split_147 : decode b_MO_split 147 = .ok (.aload_n 0, 1) := by decide +kernel
theorem d_MO_split_148 : decode b_MO_split 148 = .ok (.getfield 143, 3) := by decide +kernel
theorem d_MO_split_151 : decode b_MO_split 151 = .ok (.if_icmp .ge 37, 3) := by decide +kernel
theorem d_MO_split_154 : decode b_MO_split 154 = .ok (.aload_n 0, 1) := by decide +kernel
theorem d_MO_split_155 : decode b_MO_split 155 = .ok (.getfield 78, 3) := by decide +kernel
theorem d_MO_split_158 : decode b_MO_split 158 = .ok (.iload_n 3, 1) := by decide +kernel
theorem d_MO_split_159 : decode b_MO_split 159 = .ok (.aload_n 0, 1) := by decide +kernel
theorem d_MO_split_160 : decode b_MO_split 160 = .ok (.getfield 78, 3) := by decide +kernel
theorem d_MO_split_163 : decode b_MO_split 163 = .ok (.iload_n 3, 1) := by decide +kernel
theorem d_MO_split_164 : decode b_MO_split 164 = .ok (.iaload, 1) := by decide +kernel
theorem d_MO_split_165 : decode b_MO_split 165 = .ok (.aload_n 0, 1) := by decide +kernel
theorem d_MO_split_166 : decode b_MO_split 166 = .ok (.getfield 52, 3) := by decide +kernel
theorem d_MO_split_169 : decode b_MO_split 169 = .ok (.sipush 12000, 3) := by decide +kernel
theorem d_MO_split_172 : decode b_MO_split 172 = .ok (.bipush 6, 2) := by decide +kernel
theorem d_MO_split_174 : decode b_MO_split 174 = .ok (.iload_n 2, 1) := by decide +kernel
theorem d_MO_split_175 : decode b_MO_split 175 = .ok (.imul, 1) := by decide +kernel
theorem d_MO_split_176 : decode b_MO_split 176 = .ok (.iadd, 1) := by decide +kernel
theorem d_MO_split_177 : decode b_MO_split 177 = .ok (.iload_n 3, 1) := by decide +kernel
theorem d_MO_split_178 : decode b_MO_split 178 = .ok (.iadd, 1) := by decide +kernel
theorem d_MO_split_179 : decode b_MO_split 179 = .ok (.baload, 1) := by decide +kernel
theorem d_MO_split_180 : decode b_MO_split 180 = .ok (.isub, 1) := by decide +kernel
theorem d_MO_split_181 : decode b_MO_split 181 = .ok (.iastore, 1) := by decide +kernel
theorem d_MO_split_182 : decode b_MO_split 182 = .ok (.iinc 3 1, 3) := by decide +kernel
theorem d_MO_split_185 : decode b_MO_split 185 = .ok (.goto (-39), 3) := by decide +kernel
theorem d_MO_split_188 : decode b_MO_split 188 = .ok (.iconst 0, 1) := by decide +kernel
theorem d_MO_split_189 : decode b_MO_split 189 = .ok (.istore_n 3, 1) := by decide +kernel
theorem d_MO_split_190 : decode b_MO_split 190 = .ok (.iload_n 3, 1) := by decide +kernel
theorem d_MO_split_191 : decode b_MO_split 191 = .ok (.aload_n 0, 1) := by decide +kernel
theorem d_MO_split_192 : decode b_MO_split 192 = .ok (.getfield 48, 3) := by decide +kernel
theorem d_MO_split_195 : decode b_MO_split 195 = .ok (.iconst 0, 1) := by decide +kernel
theorem d_MO_split_196 : decode b_MO_split 196 = .ok (.iaload, 1) := by decide +kernel
theorem d_MO_split_197 : decode b_MO_split 197 = .ok (.if_icmp .ge 88, 3) := by decide +kernel
theorem d_MO_split_200 : decode b_MO_split 200 = .ok (.aload_n 0, 1) := by decide +kernel
theorem d_MO_split_201 : decode b_MO_split 201 = .ok (.getfield 62, 3) := by decide +kernel
theorem d_MO_split_204 : decode b_MO_split 204 = .ok (.iload_n 3, 1) := by decide +kernel
theorem d_MO_split_205 : decode b_MO_split 205 = .ok (.iconst 0, 1) := by decide +kernel
theorem d_MO_split_206 : decode b_MO_split 206 = .ok (.iastore, 1) := by decide +kernel
theorem d_MO_split_207 : decode b_MO_split 207 = .ok (.aload_n 0, 1) := by decide +kernel
theorem d_MO_split_208 : decode b_MO_split 208 = .ok (.iconst 0, 1) := by decide +kernel
theorem d_MO_split_209 : decode b_MO_split 209 = .ok (.iload_n 3, 1) := by decide +kernel
theorem d_MO_split_210 : decode b_MO_split 210 = .ok (.iconst 1, 1) := by decide +kernel
theorem d_MO_split_211 : decode b_MO_split 211 = .ok (.invokevirtual 202, 3) := by decide +kernel
theorem d_MO_split_214 : decode b_MO_split 214 = .ok (.ifCond .eq 65, 3) := by decide +kernel
theorem d_MO_split_217 : decode b_MO_split 217 = .ok (.iconst 0, 1) := by decide +kernel
theorem d_MO_split_218 : decode b_MO_split 218 = .ok (.istore 4, 2) := by decide +kernel
theorem d_MO_split_220 : decode b_MO_split 220 = .ok (.iload 4, 2) := by decide +kernel
theorem d_MO_split_222 : decode b_MO_split 222 = .ok (.aload_n 0, 1) := by decide +kernel
theorem d_MO_split_223 : decode b_MO_split 223 = .ok (.getfield 143, 3) := by decide +kernel
theorem d_MO_split_226 : decode b_MO_split 226 = .ok (.if_icmp .ge 36, 3) := by decide +kernel
theorem d_MO_split_229 : decode b_MO_split 229 = .ok (.aload_n 0, 1) := by decide +kernel
theorem d_MO_split_230 : decode b_MO_split 230 = .ok (.getfield 78, 3) := by decide +kernel
theorem d_MO_split_233 : decode b_MO_split 233 = .ok (.iload 4, 2) := by decide +kernel
theorem d_MO_split_235 : decode b_MO_split 235 = .ok (.aload_n 0, 1) := by decide +kernel
theorem d_MO_split_236 : decode b_MO_split 236 = .ok (.getfield 78, 3) := by decide +kernel
theorem d_MO_split_239 : decode b_MO_split 239 = .ok (.iload 4, 2) := by decide +kernel
theorem d_MO_split_241 : decode b_MO_split 241 = .ok (.iaload, 1) := by decide +kernel
theorem d_MO_split_242 : decode b_MO_split 242 = .ok (.aload_n 0, 1) := by decide +kernel
theorem d_MO_split_243 : decode b_MO_split 243 = .ok (.getfield 52, 3) := by decide +kernel
theorem d_MO_split_246 : decode b_MO_split 246 = .ok (.bipush 6, 2) := by decide +kernel
theorem d_MO_split_248 : decode b_MO_split 248 = .ok (.iload_n 3, 1) := by decide +kernel
theorem d_MO_split_249 : decode b_MO_split 249 = .ok (.imul, 1) := by decide +kernel
theorem d_MO_split_250 : decode b_MO_split 250 = .ok (.iload 4, 2) := by decide +kernel
theorem d_MO_split_252 : decode b_MO_split 252 = .ok (.iadd, 1) := by decide +kernel
theorem d_MO_split_253 : decode b_MO_split 253 = .ok (.baload, 1) := by decide +kernel
theorem d_MO_split_254 : decode b_MO_split 254 = .ok (.isub, 1) := by decide +kernel
theorem d_MO_split_255 : decode b_MO_split 255 = .ok (.iastore, 1) := by decide +kernel
theorem d_MO_split_256 : decode b_MO_split 256 = .ok (.iinc 4 1, 3) := by decide +kernel
theorem d_MO_split_259 : decode b_MO_split 259 = .ok (.goto (-39), 3) := by decide +kernel
theorem d_MO_split_262 : decode b_MO_split 262 = .ok (.aload_n 0, 1) := by decide +kernel
theorem d_MO_split_263 : decode b_MO_split 263 = .ok (.getfield 62, 3) := by decide +kernel
theorem d_MO_split_266 : decode b_MO_split 266 = .ok (.iload_n 3, 1) := by decide +kernel
theorem d_MO_split_267 : decode b_MO_split 267 = .ok (.aload_n 0, 1) := by decide +kernel
theorem d_MO_split_268 : decode b_MO_split 268 = .ok (.getfield 62, 3) := by decide +kernel
theorem d_MO_split_271 : decode b_MO_split 271 = .ok (.iload_n 3, 1) := by decide +kernel
theorem d_MO_split_272 : decode b_MO_split 272 = .ok (.iaload, 1) := by decide +kernel
theorem d_MO_split_273 : decode b_MO_split 273 = .ok (.iconst 1, 1) := by decide +kernel
theorem d_MO_split_274 : decode b_MO_split 274 = .ok (.iadd, 1) := by decide +kernel
theorem d_MO_split_275 : decode b_MO_split 275 = .ok (.iastore, 1) := by decide +kernel
theorem d_MO_split_276 : decode b_MO_split 276 = .ok (.goto (-69), 3) := by decide +kernel
theorem d_MO_split_279 : decode b_MO_split 279 = .ok (.iinc 3 1, 3) := by decide +kernel
theorem d_MO_split_282 : decode b_MO_split 282 = .ok (.goto (-92), 3) := by decide +kernel
theorem d_MO_split_285 : decode b_MO_split 285 = .ok (.aload_n 0, 1) := by decide +kernel
theorem d_MO_split_286 : decode b_MO_split 286 = .ok (.iconst 1, 1) := by decide +kernel
theorem d_MO_split_287 : decode b_MO_split 287 = .ok (.putfield 146, 3) := by decide +kernel
theorem d_MO_split_290 : decode b_MO_split 290 = .ok (.iload_n 2, 1) := by decide +kernel
theorem d_MO_split_291 : decode b_MO_split 291 = .ok (.ireturn, 1) := by decide +kernel
theorem d_MO_spread_0 : decode b_MO_spread 0 = .ok (.iload_n 1, 1) := by decide +kernel
theorem d_MO_spread_1 : decode b_MO_spread 1 = .ok (.istore 4, 2) := by decide +kernel
theorem d_MO_spread_3 : decode b_MO_spread 3 = .ok (.iload 4, 2) := by decide +kernel
theorem d_MO_spread_5 : decode b_MO_spread 5 = .ok (.aload_n 0, 1) := by decide +kernel
theorem d_MO_spread_6 : decode b_MO_spread 6 = .ok (.getfield 143, 3) := by decide +kernel
theorem d_MO_spread_9 : decode b_MO_spread 9 = .ok (.if_icmp .ge 17, 3) := by decide +kernel
theorem d_MO_spread_12 : decode b_MO_spread 12 = .ok (.aload_n 0, 1) := by decide +kernel
theorem d_MO_spread_13 : decode b_MO_spread 13 = .ok (.getfield 78, 3) := by decide +kernel
theorem d_MO_spread_16 : decode b_MO_spread 16 = .ok (.iload 4, 2) := by decide +kernel
theorem d_MO_spread_18 : decode b_MO_spread 18 = .ok (.iconst 0, 1) := by decide +kernel
theorem d_MO_spread_19 : decode b_MO_spread 19 = .ok (.iastore, 1) := by decide +kernel
theorem d_MO_spread_20 : decode b_MO_spread 20 = .ok (.iinc 4 1, 3) := by decide +kernel
theorem d_MO_spread_23 : decode b_MO_spread 23 = .ok (.goto (-20), 3) := by decide +kernel
theorem d_MO_spread_26 : decode b_MO_spread 26 = .ok (.iload_n 3, 1) := by decide +kernel
theorem d_MO_spread_27 : decode b_MO_spread 27 = .ok (.ifCond .eq 14, 3) := by decide +kernel
theorem d_MO_spread_30 : decode b_MO_spread 30 = .ok (.aload_n 0, 1) := by decide +kernel
theorem d_MO_spread_31 : decode b_MO_spread 31 = .ok (.getfield 78, 3) := by decide +kernel
theorem d_MO_spread_34 : decode b_MO_spread 34 = .ok (.iload_n 1, 1) := by decide +kernel
theorem d_MO_spread_35 : decode b_MO_spread 35 = .ok (.iload_n 2, 1) := by decide +kernel
theorem d_MO_spread_36 : decode b_MO_spread 36 = .ok (.ineg, 1) := by decide +kernel
theorem d_MO_spread_37 : decode b_MO_spread 37 = .ok (.iastore, 1) := by decide +kernel
theorem d_MO_spread_38 : decode b_MO_spread 38 = .ok (.goto 15, 3) := by decide +kernel
theorem d_MO_spread_41 : decode b_MO_spread 41 = .ok (.aload_n 0, 1) := by decide +kernel
theorem d_MO_spread_42 : decode b_MO_spread 42 = .ok (.getfield 78, 3) := by decide +kernel
theorem d_MO_spread_45 : decode b_MO_spread 45 = .ok (.aload_n 0, 1) := by decide +kernel
theorem d_MO_spread_46 : decode b_MO_spread 46 = .ok (.getfield 143, 3) := by decide +kernel
theorem d_MO_spread_49 : decode b_MO_spread 49 = .ok (.iconst 1, 1) := by decide +kernel
theorem d_MO_spread_50 : decode b_MO_spread 50 = .ok (.isub, 1) := by decide +kernel
theorem d_MO_spread_51 : decode b_MO_spread 51 = .ok (.iload_n 2, 1) := by decide +kernel
theorem d_MO_spread_52 : decode b_MO_spread 52 = .ok (.iastore, 1) := by decide +kernel
theorem d_MO_spread_53 : decode b_MO_spread 53 = .ok (.return_, 1) := by decide +kernel
theorem d_MO_work_0 : decode b_MO_work 0 = .ok (.aload_n 0, 1) := by decide +kernel
theorem d_MO_work_1 : decode b_MO_work 1 = .ok (.iload_n 1, 1) := by decide +kernel
theorem d_MO_work_2 : decode b_MO_work 2 = .ok (.ifCond .lt 28, 3) := by decide +kernel
theorem d_MO_work_5 : decode b_MO_work 5 = .ok (.iload_n 1, 1) := by decide +kernel
theorem d_MO_work_6 : decode b_MO_work 6 = .ok (.iconst 2, 1) := by decide +kernel
theorem d_MO_work_7 : decode b_MO_work 7 = .ok (.if_icmp .gt 23, 3) := by decide +kernel
theorem d_MO_work_10 : decode b_MO_work 10 = .ok (.iload_n 2, 1) := by decide +kernel
theorem d_MO_work_11 : decode b_MO_work 11 = .ok (.ifCond .lt 19, 3) := by decide +kernel
theorem d_MO_work_14 : decode b_MO_work 14 = .ok (.iload_n 2, 1) := by decide +kernel
theorem d_MO_work_15 : decode b_MO_work 15 = .ok (.iload_n 1, 1) := by decide +kernel
theorem d_MO_work_16 : decode b_MO_work 16 = .ok (.iconst 2, 1) := by decide +kernel
theorem d_MO_work_17 : decode b_MO_work 17 = .ok (.if_icmp .ne 8, 3) := by decide +kernel
theorem d_MO_work_20 : decode b_MO_work 20 = .ok (.bipush 10, 2) := by decide +kernel
theorem d_MO_work_22 : decode b_MO_work 22 = .ok (.goto 5, 3) := by decide +kernel
theorem d_MO_work_25 : decode b_MO_work 25 = .ok (.bipush 16, 2) := by decide +kernel
theorem d_MO_work_27 : decode b_MO_work 27 = .ok (.if_icmp .le 7, 3) := by decide +kernel
theorem d_MO_work_30 : decode b_MO_work 30 = .ok (.iconst 1, 1) := by decide +kernel
theorem d_MO_work_31 : decode b_MO_work 31 = .ok (.goto 15, 3) := by decide +kernel
theorem d_MO_work_34 : decode b_MO_work 34 = .ok (.aload_n 0, 1) := by decide +kernel
theorem d_MO_work_35 : decode b_MO_work 35 = .ok (.getfield 133, 3) := by decide +kernel
theorem d_MO_work_38 : decode b_MO_work 38 = .ok (.ifCond .eq 7, 3) := by decide +kernel
theorem d_MO_work_41 : decode b_MO_work 41 = .ok (.iconst 0, 1) := by decide +kernel
theorem d_MO_work_42 : decode b_MO_work 42 = .ok (.goto 4, 3) := by decide +kernel
theorem d_MO_work_45 : decode b_MO_work 45 = .ok (.iconst 2, 1) := by decide +kernel
theorem d_MO_work_46 : decode b_MO_work 46 = .ok (.putfield 81, 3) := by decide +kernel
theorem d_MO_work_49 : decode b_MO_work 49 = .ok (.aload_n 0, 1) := by decide +kernel
theorem d_MO_work_50 : decode b_MO_work 50 = .ok (.getfield 81, 3) := by decide +kernel
theorem d_MO_work_53 : decode b_MO_work 53 = .ok (.ifCond .le 5, 3) := by decide +kernel
theorem d_MO_work_56 : decode b_MO_work 56 = .ok (.iconst 0, 1) := by decide +kernel
theorem d_MO_work_57 : decode b_MO_work 57 = .ok (.ireturn, 1) := by decide +kernel
theorem d_MO_work_58 : decode b_MO_work 58 = .ok (.aload_n 0, 1) := by decide +kernel
theorem d_MO_work_59 : decode b_MO_work 59 = .ok (.getfield 41, 3) := by decide +kernel
theorem d_MO_work_62 : decode b_MO_work 62 = .ok (.iload_n 1, 1) := by decide +kernel
theorem d_MO_work_63 : decode b_MO_work 63 = .ok (.iconst 0, 1) := by decide +kernel
theorem d_MO_work_64 : decode b_MO_work 64 = .ok (.bastore, 1) := by decide +kernel
theorem d_MO_work_65 : decode b_MO_work 65 = .ok (.aload_n 0, 1) := by decide +kernel
theorem d_MO_work_66 : decode b_MO_work 66 = .ok (.getfield 48, 3) := by decide +kernel
theorem d_MO_work_69 : decode b_MO_work 69 = .ok (.iload_n 1, 1) := by decide +kernel
theorem d_MO_work_70 : decode b_MO_work 70 = .ok (.iconst 0, 1) := by decide +kernel
theorem d_MO_work_71 : decode b_MO_work 71 = .ok (.iastore, 1) := by decide +kernel
theorem d_MO_work_72 : decode b_MO_work 72 = .ok (.aload_n 0, 1) := by decide +kernel
theorem d_MO_work_73 : decode b_MO_work 73 = .ok (.aload_n 0, 1) := by decide +kernel
theorem d_MO_work_74 : decode b_MO_work 74 = .ok (.getfield 146, 3) := by decide +kernel
theorem d_MO_work_77 : decode b_MO_work 77 = .ok (.ifCond .eq 12, 3) := by decide +kernel
theorem d_MO_work_80 : decode b_MO_work 80 = .ok (.iload_n 1, 1) := by decide +kernel
theorem d_MO_work_81 : decode b_MO_work 81 = .ok (.iconst 2, 1) := by decide +kernel
theorem d_MO_work_82 : decode b_MO_work 82 = .ok (.if_icmp .ne 7, 3) := by decide +kernel
theorem d_MO_work_85 : decode b_MO_work 85 = .ok (.iconst 1, 1) := by decide +kernel
theorem d_MO_work_86 : decode b_MO_work 86 = .ok (.goto 4, 3) := by decide +kernel
theorem d_MO_work_89 : decode b_MO_work 89 = .ok (.iconst 0, 1) := by decide +kernel
theorem d_MO_work_90 : decode b_MO_work 90 = .ok (.putfield 146, 3) := by decide +kernel
theorem d_MO_work_93 : decode b_MO_work 93 = .ok (.iconst 1, 1) := by decide +kernel
theorem d_MO_work_94 : decode b_MO_work 94 = .ok (.istore_n 3, 1) := by decide +kernel
theorem d_MO_work_95 : decode b_MO_work 95 = .ok (.iconst 0, 1) := by decide +kernel
theorem d_MO_work_96 : decode b_MO_work 96 = .ok (.istore 4, 2) := by decide +kernel
theorem d_MO_work_98 : decode b_MO_work 98 = .ok (.iload 4, 2) := by decide +kernel
theorem d_MO_work_100 : decode b_MO_work 100 = .ok (.aload_n 0, 1) := by decide +kernel
theorem d_MO_work_101 : decode b_MO_work 101 = .ok (.iload_n 2, 1) := by decide +kernel
theorem d_MO_work_102 : decode b_MO_work 102 = .ok (.invokevirtual 210, 3) := by decide +kernel
theorem d_MO_work_105 : decode b_MO_work 105 = .ok (.if_icmp .gt 108, 3) := by decide +kernel
theorem d_MO_work_108 : decode b_MO_work 108 = .ok (.iload_n 3, 1) := by decide +kernel
theorem d_MO_work_109 : decode b_MO_work 109 = .ok (.ifCond .eq 104, 3) := by decide +kernel
theorem d_MO_work_112 : decode b_MO_work 112 = .ok (.aload_n 0, 1) := by decide +kernel
theorem d_MO_work_113 : decode b_MO_work 113 = .ok (.iload 4, 2) := by decide +kernel
theorem d_MO_work_115 : decode b_MO_work 115 = .ok (.iload_n 1, 1) := by decide +kernel
theorem d_MO_work_116 : decode b_MO_work 116 = .ok (.iconst 2, 1) := by decide +kernel
theorem d_MO_work_117 : decode b_MO_work 117 = .ok (.if_icmp .ne 7, 3) := by decide +kernel
theorem d_MO_work_120 : decode b_MO_work 120 = .ok (.iconst 1, 1) := by decide +kernel
theorem d_MO_work_121 : decode b_MO_work 121 = .ok (.goto 4, 3) := by decide +kernel
theorem d_MO_work_124 : decode b_MO_work 124 = .ok (.iconst 0, 1) := by decide +kernel
theorem d_MO_work_125 : decode b_MO_work 125 = .ok (.invokevirtual 213, 3) := by decide +kernel
theorem d_MO_work_128 : decode b_MO_work 128 = .ok (.iconst 1, 1) := by decide +kernel
theorem d_MO_work_129 : decode b_MO_work 129 = .ok (.istore 5, 2) := by decide +kernel
theorem d_MO_work_131 : decode b_MO_work 131 = .ok (.iload 5, 2) := by decide +kernel
theorem d_MO_work_133 : decode b_MO_work 133 = .ok (.ifCond .eq 74, 3) := by decide +kernel
theorem d_MO_work_136 : decode b_MO_work 136 = .ok (.iload_n 3, 1) := by decide +kernel
theorem d_MO_work_137 : decode b_MO_work 137 = .ok (.ifCond .eq 70, 3) := by decide +kernel
theorem d_MO_work_140 : decode b_MO_work 140 = .ok (.aload_n 0, 1) := by decide +kernel
theorem d_MO_work_141 : decode b_MO_work 141 = .ok (.iload_n 1, 1) := by decide +kernel
theorem d_MO_work_142 : decode b_MO_work 142 = .ok (.invokevirtual 217, 3) := by decide +kernel
theorem d_MO_work_145 : decode b_MO_work 145 = .ok (.ifCond .eq 30, 3) := by decide +kernel
theorem d_MO_work_148 : decode b_MO_work 148 = .ok (.aload_n 0, 1) := by decide +kernel
theorem d_MO_work_149 : decode b_MO_work 149 = .ok (.getfield 48, 3) := by decide +kernel
theorem d_MO_work_152 : decode b_MO_work 152 = .ok (.iload_n 1, 1) := by decide +kernel
theorem d_MO_work_153 : decode b_MO_work 153 = .ok (.iaload, 1) := by decide +kernel
theorem d_MO_work_154 : decode b_MO_work 154 = .ok (.sipush 2000, 3) := by decide +kernel
theorem d_MO_work_157 : decode b_MO_work 157 = .ok (.if_icmp .ge 7, 3) := by decide +kernel
theorem d_MO_work_160 : decode b_MO_work 160 = .ok (.iconst 1, 1) := by decide +kernel
theorem d_MO_work_161 : decode b_MO_work 161 = .ok (.goto 4, 3) := by decide +kernel
theorem d_MO_work_164 : decode b_MO_work 164 = .ok (.iconst 0, 1) := by decide +kernel
theorem d_MO_work_165 : decode b_MO_work 165 = .ok (.istore_n 3, 1) := by decide +kernel
theorem d_MO_work_166 : decode b_MO_work 166 = .ok (.iload_n 3, 1) := by decide +kernel
theorem d_MO_work_167 : decode b_MO_work 167 = .ok (.ifCond .eq 8, 3) := by decide +kernel
theorem d_MO_work_170 : decode b_MO_work 170 = .ok (.aload_n 0, 1) := by decide +kernel
theorem d_MO_work_171 : decode b_MO_work 171 = .ok (.iload_n 1, 1) := by decide +kernel
theorem d_MO_work_172 : decode b_MO_work 172 = .ok (.invokevirtual 220, 3) := by decide +kernel
theorem d_MO_work_175 : decode b_MO_work 175 = .ok (.iload 4, 2) := by decide +kernel
theorem d_MO_work_177 : decode b_MO_work 177 = .ok (.ifCond .le 24, 3) := by decide +kernel
theorem d_MO_work_180 : decode b_MO_work 180 = .ok (.aload_n 0, 1) := by decide +kernel
theorem d_MO_work_181 : decode b_MO_work 181 = .ok (.iload_n 1, 1) := by decide +kernel
theorem d_MO_work_182 : decode b_MO_work 182 = .ok (.iconst 2, 1) := by decide +kernel
theorem d_MO_work_183 : decode b_MO_work 183 = .ok (.if_icmp .ne 7, 3) := by decide +kernel
theorem d_MO_work_186 : decode b_MO_work 186 = .ok (.iconst 1, 1) := by decide +kernel
theorem d_MO_work_187 : decode b_MO_work 187 = .ok (.goto 4, 3) := by decide +kernel
theorem d_MO_work_190 : decode b_MO_work 190 = .ok (.iconst 0, 1) := by decide +kernel
theorem d_MO_work_191 : decode b_MO_work 191 = .ok (.invokevirtual 223, 3) := by decide +kernel
theorem d_MO_work_194 : decode b_MO_work 194 = .ok (.ifCond .eq 7, 3) := by decide +kernel
theorem d_MO_work_197 : decode b_MO_work 197 = .ok (.iconst 1, 1) := by decide +kernel
theorem d_MO_work_198 : decode b_MO_work 198 = .ok (.goto 4, 3) := by decide +kernel
theorem d_MO_work_201 : decode b_MO_work 201 = .ok (.iconst 0, 1) := by decide +kernel
theorem d_MO_work_202 : decode b_MO_work 202 = .ok (.istore 5, 2) := by decide +kernel
theorem d_MO_work_204 : decode b_MO_work 204 = .ok (.goto (-73), 3) := by decide +kernel
theorem d_MO_work_207 : decode b_MO_work 207 = .ok (.iinc 4 1, 3) := by decide +kernel
theorem d_MO_work_210 : decode b_MO_work 210 = .ok (.goto (-112), 3) := by decide +kernel
theorem d_MO_work_213 : decode b_MO_work 213 = .ok (.iload_n 3, 1) := by decide +kernel
theorem d_MO_work_214 : decode b_MO_work 214 = .ok (.ifCond .ne 12, 3) := by decide +kernel
theorem d_MO_work_217 : decode b_MO_work 217 = .ok (.aload_n 0, 1) := by decide +kernel
theorem d_MO_work_218 : decode b_MO_work 218 = .ok (.getfield 48, 3) := by decide +kernel
theorem d_MO_work_221 : decode b_MO_work 221 = .ok (.iload_n 1, 1) := by decide +kernel
theorem d_MO_work_222 : decode b_MO_work 222 = .ok (.iconst 0, 1) := by decide +kernel
theorem d_MO_work_223 : decode b_MO_work 223 = .ok (.iastore, 1) := by decide +kernel
theorem d_MO_work_224 : decode b_MO_work 224 = .ok (.iconst (-1), 1) := by decide +kernel
theorem d_MO_work_225 : decode b_MO_work 225 = .ok (.ireturn, 1) := by decide +kernel
theorem d_MO_work_226 : decode b_MO_work 226 = .ok (.aload_n 0, 1) := by decide +kernel
theorem d_MO_work_227 : decode b_MO_work 227 = .ok (.getfield 41, 3) := by decide +kernel
theorem d_MO_work_230 : decode b_MO_work 230 = .ok (.iload_n 1, 1) := by decide +kernel
theorem d_MO_work_231 : decode b_MO_work 231 = .ok (.iconst 1, 1) := by decide +kernel
theorem d_MO_work_232 : decode b_MO_work 232 = .ok (.bastore, 1) := by decide +kernel
theorem d_MO_work_233 : decode b_MO_work 233 = .ok (.aload_n 0, 1) := by decide +kernel
theorem d_MO_work_234 : decode b_MO_work 234 = .ok (.getfield 45, 3) := by decide +kernel
theorem d_MO_work_237 : decode b_MO_work 237 = .ok (.iload_n 1, 1) := by decide +kernel
theorem d_MO_work_238 : decode b_MO_work 238 = .ok (.iload_n 2, 1) := by decide +kernel
theorem d_MO_work_239 : decode b_MO_work 239 = .ok (.iastore, 1) := by decide +kernel
theorem d_MO_work_240 : decode b_MO_work 240 = .ok (.aload_n 0, 1) := by decide +kernel
theorem d_MO_work_241 : decode b_MO_work 241 = .ok (.getfield 48, 3) := by decide +kernel
theorem d_MO_work_244 : decode b_MO_work 244 = .ok (.iload_n 1, 1) := by decide +kernel
theorem d_MO_work_245 : decode b_MO_work 245 = .ok (.iaload, 1) := by decide +kernel
theorem d_MO_work_246 : decode b_MO_work 246 = .ok (.ireturn, 1) := by decide +kernel
